theorem dX0_cheapest_63 : decode cX0_cheapest 63 = .ok (.iload 5, 2) := by decide +kernel
theorem dX0_cheapest_65 : decode cX0_cheapest 65 = .ok (.iload_n 2, 1) := by decide +kernel
theorem dX0_cheapest_66 : decode cX0_cheapest 66 = .ok (.if_icmp .ge 44, 3) := by decide +kernel
theorem dX0_cheapest_69 : decode cX0_cheapest 69 = .ok (.aload_n 0, 1) := by decide +kernel
theorem dX0_cheapest_70 : decode cX0_cheapest 70 = .ok (.invokevirtual 56, 3) := by decide +kernel
theorem dX0_cheapest_73 : decode cX0_cheapest 73 = .ok (.istore 6, 2) := by decide +kernel
theorem dX0_cheapest_75 : decode cX0_cheapest 75 = .ok (.iload 6, 2) := by decide +kernel
theorem dX0_cheapest_77 : decode cX0_cheapest 77 = .ok (.iconst (-1), 1) := by decide +kernel
theorem dX0_cheapest_78 : decode cX0_cheapest 78 = .ok (.if_icmp .ne 5, 3) := by decide +kernel
theorem dX0_cheapest_81 : decode cX0_cheapest 81 = .ok (.iconst (-1), 1) := by decide +kernel
theorem dX0_cheapest_82 : decode cX0_cheapest 82 = .ok (.ireturn, 1) := by decide +kernel
theorem dX0_cheapest_83 : decode cX0_cheapest 83 = .ok (.iload 4, 2) := by decide +kernel
theorem dX0_cheapest_85 : decode cX0_cheapest 85 = .ok (.aload_n 0, 1) := by decide +kernel
theorem dX0_cheapest_86 : decode cX0_cheapest 86 = .ok (.getfield 9, 3) := by decide +kernel
theorem dX0_cheapest_89 : decode cX0_cheapest 89 = .ok (.iload 6, 2) := by decide +kernel
theorem dX0_cheapest_91 : decode cX0_cheapest 91 = .ok (.iaload, 1) := by decide +kernel
theorem dX0_cheapest_92 : decode cX0_cheapest 92 = .ok (.iadd, 1) := by decide +kernel
theorem dX0_cheapest_93 : decode cX0_cheapest 93 = .ok (.istore 4, 2) := by decide +kernel
theorem dX0_cheapest_95 : decode cX0_cheapest 95 = .ok (.aload_n 0, 1) := by decide +kernel
theorem dX0_cheapest_96 : decode cX0_cheapest 96 = .ok (.getfield 9, 3) := by decide +kernel
theorem dX0_cheapest_99 : decode cX0_cheapest 99 = .ok (.iload 6, 2) := by decide +kernel
theorem dX0_cheapest_101 : decode cX0_cheapest 101 = .ok (.bipush (-2), 2) := by decide +kernel
theorem dX0_cheapest_103 : decode cX0_cheapest 103 = .ok (.iastore, 1) := by decide +kernel
theorem dX0_cheapest_104 : decode cX0_cheapest 104 = .ok (.iinc 5 1, 3) := by decide +kernel
theorem dX0_cheapest_107 : decode cX0_cheapest 107 = .ok (.goto (-44), 3) := by decide +kernel
theorem dX0_cheapest_110 : decode cX0_cheapest 110 = .ok (.iload_n 3, 1) := by decide +kernel
theorem dX0_cheapest_111 : decode cX0_cheapest 111 = .ok (.iconst (-1), 1) := by decide +kernel
theorem dX0_cheapest_112 : decode cX0_cheapest 112 = .ok (.if_icmp .ne 8, 3) := by decide +kernel
theorem dX0_cheapest_115 : decode cX0_cheapest 115 = .ok (.iload 4, 2) := by decide +kernel
theorem dX0_cheapest_117 : decode cX0_cheapest 117 = .ok (.goto 8, 3) := by decide +kernel
theorem dX0_cheapest_120 : decode cX0_cheapest 120 = .ok (.aload_n 0, 1) := by decide +kernel
theorem dX0_cheapest_121 : decode cX0_cheapest 121 = .ok (.iload_n 3, 1) := by decide +kernel
theorem dX0_cheapest_122 : decode cX0_cheapest 122 = .ok (.invokevirtual 60, 3) := by decide +kernel
theorem dX0_cheapest_125 : decode cX0_cheapest 125 = .ok (.ireturn, 1) := by decide +kernel
theorem dX0_cheapestLeft_0 : decode cX0_cheapestLeft 0 = .ok (.iconst (-1), 1) := by decide +kernel
theorem dX0_cheapestLeft_1 : decode cX0_cheapestLeft 1 = .ok (.istore_n 1, 1) := by decide +kernel
theorem dX0_cheapestLeft_2 : decode cX0_cheapestLeft 2 = .ok (.iconst 0, 1) := by decide +kernel
theorem dX0_cheapestLeft_3 : decode cX0_cheapestLeft 3 = .ok (.istore_n 2, 1) := by decide +kernel
theorem dX0_cheapestLeft_4 : decode cX0_cheapestLeft 4 = .ok (.iload_n 2, 1) := by decide +kernel
theorem dX0_cheapestLeft_5 : decode cX0_cheapestLeft 5 = .ok (.sipush 168, 3) := by decide +kernel
theorem dX0_cheapestLeft_8 : decode cX0_cheapestLeft 8 = .ok (.if_icmp .ge 40, 3) := by decide +kernel
theorem dX0_cheapestLeft_11 : decode cX0_cheapestLeft 11 = .ok (.aload_n 0, 1) := by decide +kernel
theorem dX0_cheapestLeft_12 : decode cX0_cheapestLeft 12 = .ok (.getfield 9, 3) := by decide +kernel
theorem dX0_cheapestLeft_15 : decode cX0_cheapestLeft 15 = .ok (.iload_n 2, 1) := by decide +kernel
theorem dX0_cheapestLeft_16 : decode cX0_cheapestLeft 16 = .ok (.iaload, 1) := by decide +kernel
theorem dX0_cheapestLeft_17 : decode cX0_cheapestLeft 17 = .ok (.ifCond .lt 25, 3) := by decide +kernel
theorem dX0_cheapestLeft_20 : decode cX0_cheapestLeft 20 = .ok (.iload_n 1, 1) := by decide +kernel
theorem dX0_cheapestLeft_21 : decode cX0_cheapestLeft 21 = .ok (.iconst (-1), 1) := by decide +kernel
theorem dX0_cheapestLeft_22 : decode cX0_cheapestLeft 22 = .ok (.if_icmp .eq 18, 3) := by decide +kernel
theorem dX0_cheapestLeft_25 : decode cX0_cheapestLeft 25 = .ok (.aload_n 0, 1) := by decide +kernel
theorem dX0_cheapestLeft_26 : decode cX0_cheapestLeft 26 = .ok (.getfield 9, 3) := by decide +kernel
theorem dX0_cheapestLeft_29 : decode cX0_cheapestLeft 29 = .ok (.iload_n 2, 1) := by decide +kernel
theorem dX0_cheapestLeft_30 : decode cX0_cheapestLeft 30 = .ok (.iaload, 1) := by decide +kernel
theorem dX0_cheapestLeft_31 : decode cX0_cheapestLeft 31 = .ok (.aload_n 0, 1) := by decide +kernel
theorem dX0_cheapestLeft_32 : decode cX0_cheapestLeft 32 = .ok (.getfield 9, 3) := by decide +kernel
theorem dX0_cheapestLeft_35 : decode cX0_cheapestLeft 35 = .ok (.iload_n 1, 1) := by decide +kernel
theorem dX0_cheapestLeft_36 : decode cX0_cheapestLeft 36 = .ok (.iaload, 1) := by decide +kernel
theorem dX0_cheapestLeft_37 : decode cX0_cheapestLeft 37 = .ok (.if_icmp .ge 5, 3) := by decide +kernel
theorem dX0_cheapestLeft_40 : decode cX0_cheapestLeft 40 = .ok (.iload_n 2, 1) := by decide +kernel
theorem dX0_cheapestLeft_41 : decode cX0_cheapestLeft 41 = .ok (.istore_n 1, 1) := by decide +kernel
theorem dX0_cheapestLeft_42 : decode cX0_cheapestLeft 42 = .ok (.iinc 2 1, 3) := by decide +kernel
theorem dX0_cheapestLeft_45 : decode cX0_cheapestLeft 45 = .ok (.goto (-41), 3) := by decide +kernel
theorem dX0_cheapestLeft_48 : decode cX0_cheapestLeft 48 = .ok (.iload_n 1, 1) := by decide +kernel
theorem dX0_cheapestLeft_49 : decode cX0_cheapestLeft 49 = .ok (.ireturn, 1) := by decide +kernel
theorem dX0_chosen_0 : decode cX0_chosen 0 = .ok (.iload_n 1, 1) := by decide +kernel
theorem dX0_chosen_1 : decode cX0_chosen 1 = .ok (.istore_n 2, 1) := by decide +kernel
theorem dX0_chosen_2 : decode cX0_chosen 2 = .ok (.iconst 0, 1) := by decide +kernel
theorem dX0_chosen_3 : decode cX0_chosen 3 = .ok (.istore_n 3, 1) := by decide +kernel
theorem dX0_chosen_4 : decode cX0_chosen 4 = .ok (.iload_n 3, 1) := by decide +kernel
theorem dX0_chosen_5 : decode cX0_chosen 5 = .ok (.sipush 168, 3) := by decide +kernel
theorem dX0_chosen_8 : decode cX0_chosen 8 = .ok (.if_icmp .ge 28, 3) := by decide +kernel
theorem dX0_chosen_11 : decode cX0_chosen 11 = .ok (.aload_n 0, 1) := by decide +kernel
theorem dX0_chosen_12 : decode cX0_chosen 12 = .ok (.getfield 9, 3) := by decide +kernel
theorem dX0_chosen_15 : decode cX0_chosen 15 = .ok (.iload_n 3, 1) := by decide +kernel
theorem dX0_chosen_16 : decode cX0_chosen 16 = .ok (.iaload, 1) := by decide +kernel
theorem dX0_chosen_17 : decode cX0_chosen 17 = .ok (.iconst (-1), 1) := by decide +kernel
theorem dX0_chosen_18 : decode cX0_chosen 18 = .ok (.if_icmp .ge 12, 3) := by decide +kernel
theorem dX0_chosen_21 : decode cX0_chosen 21 = .ok (.iload_n 2, 1) := by decide +kernel
theorem dX0_chosen_22 : decode cX0_chosen 22 = .ok (.ifCond .ne 5, 3) := by decide +kernel
theorem dX0_chosen_25 : decode cX0_chosen 25 = .ok (.iload_n 3, 1) := by decide +kernel
theorem dX0_chosen_26 : decode cX0_chosen 26 = .ok (.ireturn, 1) := by decide +kernel
theorem dX0_chosen_27 : decode cX0_chosen 27 = .ok (.iinc 2 (-1), 3) := by decide +kernel
theorem dX0_chosen_30 : decode cX0_chosen 30 = .ok (.iinc 3 1, 3) := by decide +kernel
theorem dX0_chosen_33 : decode cX0_chosen 33 = .ok (.goto (-29), 3) := by decide +kernel
theorem dX0_chosen_36 : decode cX0_chosen 36 = .ok (.iconst (-1), 1) := by decide +kernel
theorem dX0_chosen_37 : decode cX0_chosen 37 = .ok (.ireturn, 1) := by decide +kernel
theorem dX0_enviedBy_0 : decode cX0_enviedBy 0 = .ok (.aload_n 0, 1) := by decide +kernel
theorem dX0_enviedBy_1 : decode cX0_enviedBy 1 = .ok (.getfield 36, 3) := by decide +kernel
theorem dX0_enviedBy_4 : decode cX0_enviedBy 4 = .ok (.iload_n 1, 1) := by decide +kernel
theorem dX0_enviedBy_5 : decode cX0_enviedBy 5 = .ok (.invokevirtual 64, 3) := by decide +kernel
theorem dX0_enviedBy_8 : decode cX0_enviedBy 8 = .ok (.ifCond .eq 5, 3) := by decide +kernel
theorem dX0_enviedBy_11 : decode cX0_enviedBy 11 = .ok (.iconst 0, 1) := by decide +kernel
theorem dX0_enviedBy_12 : decode cX0_enviedBy 12 = .ok (.ireturn, 1) := by decide +kernel
theorem dX0_enviedBy_13 : decode cX0_enviedBy 13 = .ok (.aload_n 0, 1) := by decide +kernel
theorem dX0_enviedBy_14 : decode cX0_enviedBy 14 = .ok (.getfield 15, 3) := by decide +kernel
theorem dX0_enviedBy_17 : decode cX0_enviedBy 17 = .ok (.iconst 0, 1) := by decide +kernel
theorem dX0_enviedBy_18 : decode cX0_enviedBy 18 = .ok (.invokestatic 68, 3) := by decide +kernel
theorem dX0_enviedBy_21 : decode cX0_enviedBy 21 = .ok (.iconst 0, 1) := by decide +kernel
theorem dX0_enviedBy_22 : decode cX0_enviedBy 22 = .ok (.istore_n 2, 1) := by decide +kernel
theorem dX0_enviedBy_23 : decode cX0_enviedBy 23 = .ok (.iload_n 2, 1) := by decide +kernel
theorem dX0_enviedBy_24 : decode cX0_enviedBy 24 = .ok (.sipush 168, 3) := by decide +kernel
theorem dX0_enviedBy_27 : decode cX0_enviedBy 27 = .ok (.if_icmp .ge 41, 3) := by decide +kernel
theorem dX0_enviedBy_30 : decode cX0_enviedBy 30 = .ok (.aload_n 0, 1) := by decide +kernel
theorem dX0_enviedBy_31 : decode cX0_enviedBy 31 = .ok (.getfield 46, 3) := by decide +kernel
theorem dX0_enviedBy_34 : decode cX0_enviedBy 34 = .ok (.iload_n 2, 1) := by decide +kernel
theorem dX0_enviedBy_35 : decode cX0_enviedBy 35 = .ok (.invokevirtual 74, 3) := by decide +kernel
theorem dX0_enviedBy_38 : decode cX0_enviedBy 38 = .ok (.istore_n 3, 1) := by decide +kernel
theorem dX0_enviedBy_39 : decode cX0_enviedBy 39 = .ok (.iload_n 3, 1) := by decide +kernel
theorem dX0_enviedBy_40 : decode cX0_enviedBy 40 = .ok (.iconst (-1), 1) := by decide +kernel
theorem dX0_enviedBy_41 : decode cX0_enviedBy 41 = .ok (.if_icmp .eq 21, 3) := by decide +kernel
theorem dX0_enviedBy_44 : decode cX0_enviedBy 44 = .ok (.aload_n 0, 1) := by decide +kernel
theorem dX0_enviedBy_45 : decode cX0_enviedBy 45 = .ok (.getfield 15, 3) := by decide +kernel
theorem dX0_enviedBy_48 : decode cX0_enviedBy 48 = .ok (.iload_n 3, 1) := by decide +kernel
theorem dX0_enviedBy_49 : decode cX0_enviedBy 49 = .ok (.dup2, 1) := by decide +kernel
theorem dX0_enviedBy_50 : decode cX0_enviedBy 50 = .ok (.iaload, 1) := by decide +kernel
theorem dX0_enviedBy_51 : decode cX0_enviedBy 51 = .ok (.aload_n 0, 1) := by decide +kernel
theorem dX0_enviedBy_52 : decode cX0_enviedBy 52 = .ok (.getfield 36, 3) := by decide +kernel
theorem dX0_enviedBy_55 : decode cX0_enviedBy 55 = .ok (.iload_n 1, 1) := by decide +kernel
theorem dX0_enviedBy_56 : decode cX0_enviedBy 56 = .ok (.iload_n 2, 1) := by decide +kernel
theorem dX0_enviedBy_57 : decode cX0_enviedBy 57 = .ok (.invokevirtual 79, 3) := by decide +kernel
theorem dX0_enviedBy_60 : decode cX0_enviedBy 60 = .ok (.iadd, 1) := by decide +kernel
theorem dX0_enviedBy_61 : decode cX0_enviedBy 61 = .ok (.iastore, 1) := by decide +kernel
theorem dX0_enviedBy_62 : decode cX0_enviedBy 62 = .ok (.iinc 2 1, 3) := by decide +kernel
theorem dX0_enviedBy_65 : decode cX0_enviedBy 65 = .ok (.goto (-42), 3) := by decide +kernel
theorem dX0_enviedBy_68 : decode cX0_enviedBy 68 = .ok (.iconst 0, 1) := by decide +kernel
theorem dX0_enviedBy_69 : decode cX0_enviedBy 69 = .ok (.istore_n 2, 1) := by decide +kernel
theorem dX0_enviedBy_70 : decode cX0_enviedBy 70 = .ok (.iconst 0, 1) := by decide +kernel
theorem dX0_enviedBy_71 : decode cX0_enviedBy 71 = .ok (.istore_n 3, 1) := by decide +kernel
theorem dX0_enviedBy_72 : decode cX0_enviedBy 72 = .ok (.iload_n 3, 1) := by decide +kernel
theorem dX0_enviedBy_73 : decode cX0_enviedBy 73 = .ok (.bipush 10, 2) := by decide +kernel
theorem dX0_enviedBy_75 : decode cX0_enviedBy 75 = .ok (.if_icmp .ge 30, 3) := by decide +kernel
theorem dX0_enviedBy_78 : decode cX0_enviedBy 78 = .ok (.aload_n 0, 1) := by decide +kernel
theorem dX0_enviedBy_79 : decode cX0_enviedBy 79 = .ok (.getfield 15, 3) := by decide +kernel
theorem dX0_enviedBy_82 : decode cX0_enviedBy 82 = .ok (.iload_n 3, 1) := by decide +kernel
theorem dX0_enviedBy_83 : decode cX0_enviedBy 83 = .ok (.iaload, 1) := by decide +kernel
theorem dX0_enviedBy_84 : decode cX0_enviedBy 84 = .ok (.aload_n 0, 1) := by decide +kernel
theorem dX0_enviedBy_85 : decode cX0_enviedBy 85 = .ok (.getfield 15, 3) := by decide +kernel
theorem dX0_enviedBy_88 : decode cX0_enviedBy 88 = .ok (.iload_n 1, 1) := by decide +kernel
theorem dX0_enviedBy_89 : decode cX0_enviedBy 89 = .ok (.iaload, 1) := by decide +kernel
theorem dX0_enviedBy_90 : decode cX0_enviedBy 90 = .ok (.if_icmp .le 9, 3) := by decide +kernel
theorem dX0_enviedBy_93 : decode cX0_enviedBy 93 = .ok (.iload_n 2, 1) := by decide +kernel
theorem dX0_enviedBy_94 : decode cX0_enviedBy 94 = .ok (.iconst 1, 1) := by decide +kernel
theorem dX0_enviedBy_95 : decode cX0_enviedBy 95 = .ok (.iload_n 3, 1) := by decide +kernel
theorem dX0_enviedBy_96 : decode cX0_enviedBy 96 = .ok (.ishl, 1) := by decide +kernel
theorem dX0_enviedBy_97 : decode cX0_enviedBy 97 = .ok (.ior, 1) := by decide +kernel
theorem dX0_enviedBy_98 : decode cX0_enviedBy 98 = .ok (.istore_n 2, 1) := by decide +kernel
theorem dX0_enviedBy_99 : decode cX0_enviedBy 99 = .ok (.iinc 3 1, 3) := by decide +kernel
theorem dX0_enviedBy_102 : decode cX0_enviedBy 102 = .ok (.goto (-30), 3) := by decide +kernel
theorem dX0_enviedBy_105 : decode cX0_enviedBy 105 = .ok (.iload_n 2, 1) := by decide +kernel
theorem dX0_enviedBy_106 : decode cX0_enviedBy 106 = .ok (.ireturn, 1) := by decide +kernel
theorem dX0_seat_0 : decode cX0_seat 0 = .ok (.iload_n 1, 1) := by decide +kernel
theorem dX0_seat_1 : decode cX0_seat 1 = .ok (.invokestatic 82, 3) := by decide +kernel
theorem dX0_seat_4 : decode cX0_seat 4 = .ok (.istore_n 2, 1) := by decide +kernel
theorem dX0_seat_5 : decode cX0_seat 5 = .ok (.iload_n 2, 1) := by decide +kernel
theorem dX0_seat_6 : decode cX0_seat 6 = .ok (.iconst 2, 1) := by decide +kernel
theorem dX0_seat_7 : decode cX0_seat 7 = .ok (.if_icmp .eq 10, 3) := by decide +kernel
theorem dX0_seat_10 : decode cX0_seat 10 = .ok (.iload_n 2, 1) := by decide +kernel
theorem dX0_seat_11 : decode cX0_seat 11 = .ok (.iconst 3, 1) := by decide +kernel
theorem dX0_seat_12 : decode cX0_seat 12 = .ok (.if_icmp .eq 5, 3) := by decide +kernel
theorem dX0_seat_15 : decode cX0_seat 15 = .ok (.iconst 0, 1) := by decide +kernel
theorem dX0_seat_16 : decode cX0_seat 16 = .ok (.ireturn, 1) := by decide +kernel
theorem dX0_seat_17 : decode cX0_seat 17 = .ok (.aload_n 0, 1) := by decide +kernel
theorem dX0_seat_18 : decode cX0_seat 18 = .ok (.iconst 0, 1) := by decide +kernel
theorem dX0_seat_19 : decode cX0_seat 19 = .ok (.putfield 87, 3) := by decide +kernel
theorem dX0_seat_22 : decode cX0_seat 22 = .ok (.iconst 0, 1) := by decide +kernel
theorem dX0_seat_23 : decode cX0_seat 23 = .ok (.istore_n 3, 1) := by decide +kernel
theorem dX0_seat_24 : decode cX0_seat 24 = .ok (.iload_n 3, 1) := by decide +kernel
theorem dX0_seat_25 : decode cX0_seat 25 = .ok (.bipush 10, 2) := by decide +kernel
theorem dX0_seat_27 : decode cX0_seat 27 = .ok (.if_icmp .ge 45, 3) := by decide +kernel
theorem dX0_seat_30 : decode cX0_seat 30 = .ok (.iload_n 1, 1) := by decide +kernel
theorem dX0_seat_31 : decode cX0_seat 31 = .ok (.iload_n 3, 1) := by decide +kernel
theorem dX0_seat_32 : decode cX0_seat 32 = .ok (.iushr, 1) := by decide +kernel
theorem dX0_seat_33 : decode cX0_seat 33 = .ok (.iconst 1, 1) := by decide +kernel
theorem dX0_seat_34 : decode cX0_seat 34 = .ok (.iand, 1) := by decide +kernel
theorem dX0_seat_35 : decode cX0_seat 35 = .ok (.ifCond .eq 31, 3) := by decide +kernel
theorem dX0_seat_38 : decode cX0_seat 38 = .ok (.aload_n 0, 1) := by decide +kernel
theorem dX0_seat_39 : decode cX0_seat 39 = .ok (.getfield 87, 3) := by decide +kernel
theorem dX0_seat_42 : decode cX0_seat 42 = .ok (.iconst 3, 1) := by decide +kernel
theorem dX0_seat_43 : decode cX0_seat 43 = .ok (.if_icmp .ge 23, 3) := by decide +kernel
theorem dX0_seat_46 : decode cX0_seat 46 = .ok (.aload_n 0, 1) := by decide +kernel
theorem dX0_seat_47 : decode cX0_seat 47 = .ok (.getfield 18, 3) := by decide +kernel
theorem dX0_seat_50 : decode cX0_seat 50 = .ok (.aload_n 0, 1) := by decide +kernel
theorem dX0_seat_51 : decode cX0_seat 51 = .ok (.getfield 87, 3) := by decide +kernel
theorem dX0_seat_54 : decode cX0_seat 54 = .ok (.iload_n 3, 1) := by decide +kernel
theorem dX0_seat_55 : decode cX0_seat 55 = .ok (.iastore, 1) := by decide +kernel
theorem dX0_seat_56 : decode cX0_seat 56 = .ok (.aload_n 0, 1) := by decide +kernel
theorem dX0_seat_57 : decode cX0_seat 57 = .ok (.dup, 1) := by decide +kernel
theorem dX0_seat_58 : decode cX0_seat 58 = .ok (.getfield 87, 3) := by decide +kernel
theorem dX0_seat_61 : decode cX0_seat 61 = .ok (.iconst 1, 1) := by decide +kernel
theorem dX0_seat_62 : decode cX0_seat 62 = .ok (.iadd, 1) := by decide +kernel
theorem dX0_seat_63 : decode cX0_seat 63 = .ok (.putfield 87, 3) := by decide +kernel
theorem dX0_seat_66 : decode cX0_seat 66 = .ok (.iinc 3 1, 3) := by decide +kernel
theorem dX0_seat_69 : decode cX0_seat 69 = .ok (.goto (-45), 3) := by decide +kernel
theorem dX0_seat_72 : decode cX0_seat 72 = .ok (.iconst 1, 1) := by decide +kernel
theorem dX0_seat_73 : decode cX0_seat 73 = .ok (.ireturn, 1) := by decide +kernel
theorem dX0_dealFairly_0 : decode cX0_dealFairly 0 = .ok (.iconst 1, 1) := by decide +kernel
theorem dX0_dealFairly_1 : decode cX0_dealFairly 1 = .ok (.istore_n 2, 1) := by decide +kernel
theorem dX0_dealFairly_2 : decode cX0_dealFairly 2 = .ok (.iconst 0, 1) := by decide +kernel
theorem dX0_dealFairly_3 : decode cX0_dealFairly 3 = .ok (.istore_n 3, 1) := by decide +kernel
theorem dX0_dealFairly_4 : decode cX0_dealFairly 4 = .ok (.iload_n 3, 1) := by decide +kernel
theorem dX0_dealFairly_5 : decode cX0_dealFairly 5 = .ok (.bipush 6, 2) := by decide +kernel
theorem dX0_dealFairly_7 : decode cX0_dealFairly 7 = .ok (.if_icmp .ge 73, 3) := by decide +kernel
theorem dX0_dealFairly_10 : decode cX0_dealFairly 10 = .ok (.iload_n 2, 1) := by decide +kernel
theorem dX0_dealFairly_11 : decode cX0_dealFairly 11 = .ok (.aload_n 0, 1) := by decide +kernel
theorem dX0_dealFairly_12 : decode cX0_dealFairly 12 = .ok (.getfield 87, 3) := by decide +kernel
theorem dX0_dealFairly_15 : decode cX0_dealFairly 15 = .ok (.imul, 1) := by decide +kernel
theorem dX0_dealFairly_16 : decode cX0_dealFairly 16 = .ok (.istore_n 2, 1) := by decide +kernel
theorem dX0_dealFairly_17 : decode cX0_dealFairly 17 = .ok (.iconst 0, 1) := by decide +kernel
theorem dX0_dealFairly_18 : decode cX0_dealFairly 18 = .ok (.istore 4, 2) := by decide +kernel
theorem dX0_dealFairly_20 : decode cX0_dealFairly 20 = .ok (.iload 4, 2) := by decide +kernel
theorem dX0_dealFairly_22 : decode cX0_dealFairly 22 = .ok (.aload_n 0, 1) := by decide +kernel
theorem dX0_dealFairly_23 : decode cX0_dealFairly 23 = .ok (.getfield 87, 3) := by decide +kernel
theorem dX0_dealFairly_26 : decode cX0_dealFairly 26 = .ok (.if_icmp .ge 48, 3) := by decide +kernel
theorem dX0_dealFairly_29 : decode cX0_dealFairly 29 = .ok (.iload_n 1, 1) := by decide +kernel
theorem dX0_dealFairly_30 : decode cX0_dealFairly 30 = .ok (.bipush 24, 2) := by decide +kernel
theorem dX0_dealFairly_32 : decode cX0_dealFairly 32 = .ok (.imul, 1) := by decide +kernel
theorem dX0_dealFairly_33 : decode cX0_dealFairly 33 = .ok (.bipush 12, 2) := by decide +kernel
theorem dX0_dealFairly_35 : decode cX0_dealFairly 35 = .ok (.iadd, 1) := by decide +kernel
theorem dX0_dealFairly_36 : decode cX0_dealFairly 36 = .ok (.iload_n 3, 1) := by decide +kernel
theorem dX0_dealFairly_37 : decode cX0_dealFairly 37 = .ok (.iadd, 1) := by decide +kernel
theorem dX0_dealFairly_38 : decode cX0_dealFairly 38 = .ok (.istore 5, 2) := by decide +kernel
theorem dX0_dealFairly_40 : decode cX0_dealFairly 40 = .ok (.aload_n 0, 1) := by decide +kernel
theorem dX0_dealFairly_41 : decode cX0_dealFairly 41 = .ok (.getfield 21, 3) := by decide +kernel
theorem dX0_dealFairly_44 : decode cX0_dealFairly 44 = .ok (.iload 4, 2) := by decide +kernel
theorem dX0_dealFairly_46 : decode cX0_dealFairly 46 = .ok (.bipush 6, 2) := by decide +kernel
theorem dX0_dealFairly_48 : decode cX0_dealFairly 48 = .ok (.imul, 1) := by decide +kernel
theorem dX0_dealFairly_49 : decode cX0_dealFairly 49 = .ok (.iload_n 3, 1) := by decide +kernel
theorem dX0_dealFairly_50 : decode cX0_dealFairly 50 = .ok (.iadd, 1) := by decide +kernel
theorem dX0_dealFairly_51 : decode cX0_dealFairly 51 = .ok (.aload_n 0, 1) := by decide +kernel
theorem dX0_dealFairly_52 : decode cX0_dealFairly 52 = .ok (.getfield 36, 3) := by decide +kernel
theorem dX0_dealFairly_55 : decode cX0_dealFairly 55 = .ok (.aload_n 0, 1) := by decide +kernel
theorem dX0_dealFairly_56 : decode cX0_dealFairly 56 = .ok (.getfield 18, 3) := by decide +kernel
theorem dX0_dealFairly_59 : decode cX0_dealFairly 59 = .ok (.iload 4, 2) := by decide +kernel
theorem dX0_dealFairly_61 : decode cX0_dealFairly 61 = .ok (.iaload, 1) := by decide +kernel
theorem dX0_dealFairly_62 : decode cX0_dealFairly 62 = .ok (.iload 5, 2) := by decide +kernel
theorem dX0_dealFairly_64 : decode cX0_dealFairly 64 = .ok (.invokevirtual 79, 3) := by decide +kernel
theorem dX0_dealFairly_67 : decode cX0_dealFairly 67 = .ok (.iastore, 1) := by decide +kernel
theorem dX0_dealFairly_68 : decode cX0_dealFairly 68 = .ok (.iinc 4 1, 3) := by decide +kernel
theorem dX0_dealFairly_71 : decode cX0_dealFairly 71 = .ok (.goto (-51), 3) := by decide +kernel
theorem dX0_dealFairly_74 : decode cX0_dealFairly 74 = .ok (.iinc 3 1, 3) := by decide +kernel
theorem dX0_dealFairly_77 : decode cX0_dealFairly 77 = .ok (.goto (-73), 3) := by decide +kernel
theorem dX0_dealFairly_80 : decode cX0_dealFairly 80 = .ok (.iconst 0, 1) := by decide +kernel
theorem dX0_dealFairly_81 : decode cX0_dealFairly 81 = .ok (.istore_n 3, 1) := by decide +kernel
theorem dX0_dealFairly_82 : decode cX0_dealFairly 82 = .ok (.aload_n 0, 1) := by decide +kernel
theorem dX0_dealFairly_83 : decode cX0_dealFairly 83 = .ok (.getfield 24, 3) := by decide +kernel
theorem dX0_dealFairly_86 : decode cX0_dealFairly 86 = .ok (.iconst 0, 1) := by decide +kernel
theorem dX0_dealFairly_87 : decode cX0_dealFairly 87 = .ok (.invokestatic 68, 3) := by decide +kernel
theorem dX0_dealFairly_90 : decode cX0_dealFairly 90 = .ok (.iconst 0, 1) := by decide +kernel
theorem dX0_dealFairly_91 : decode cX0_dealFairly 91 = .ok (.istore 4, 2) := by decide +kernel
theorem dX0_dealFairly_93 : decode cX0_dealFairly 93 = .ok (.iload 4, 2) := by decide +kernel
theorem dX0_dealFairly_95 : decode cX0_dealFairly 95 = .ok (.iload_n 2, 1) := by decide +kernel
theorem dX0_dealFairly_96 : decode cX0_dealFairly 96 = .ok (.if_icmp .ge 42, 3) := by decide +kernel
theorem dX0_dealFairly_99 : decode cX0_dealFairly 99 = .ok (.aload_n 0, 1) := by decide +kernel
theorem dX0_dealFairly_100 : decode cX0_dealFairly 100 = .ok (.invokevirtual 91, 3) := by decide +kernel
theorem dX0_dealFairly_103 : decode cX0_dealFairly 103 = .ok (.ifCond .eq 25, 3) := by decide +kernel
theorem dX0_dealFairly_106 : decode cX0_dealFairly 106 = .ok (.iload_n 3, 1) := by decide +kernel
theorem dX0_dealFairly_107 : decode cX0_dealFairly 107 = .ok (.ifCond .ne 18, 3) := by decide +kernel
theorem dX0_dealFairly_110 : decode cX0_dealFairly 110 = .ok (.aload_n 0, 1) := by decide +kernel
theorem dX0_dealFairly_111 : decode cX0_dealFairly 111 = .ok (.getfield 24, 3) := by decide +kernel
theorem dX0_dealFairly_114 : decode cX0_dealFairly 114 = .ok (.iconst 0, 1) := by decide +kernel
theorem dX0_dealFairly_115 : decode cX0_dealFairly 115 = .ok (.aload_n 0, 1) := by decide +kernel
theorem dX0_dealFairly_116 : decode cX0_dealFairly 116 = .ok (.getfield 27, 3) := by decide +kernel
theorem dX0_dealFairly_119 : decode cX0_dealFairly 119 = .ok (.iconst 0, 1) := by decide +kernel
theorem dX0_dealFairly_120 : decode cX0_dealFairly 120 = .ok (.bipush 6, 2) := by decide +kernel
theorem dX0_dealFairly_122 : decode cX0_dealFairly 122 = .ok (.invokestatic 95, 3) := by decide +kernel
theorem dX0_dealFairly_125 : decode cX0_dealFairly 125 = .ok (.iinc 3 1, 3) := by decide +kernel
theorem dX0_dealFairly_128 : decode cX0_dealFairly 128 = .ok (.aload_n 0, 1) := by decide +kernel
theorem dX0_dealFairly_129 : decode cX0_dealFairly 129 = .ok (.invokevirtual 101, 3) := by decide +kernel
theorem dX0_dealFairly_132 : decode cX0_dealFairly 132 = .ok (.iinc 4 1, 3) := by decide +kernel
theorem dX0_dealFairly_135 : decode cX0_dealFairly 135 = .ok (.goto (-42), 3) := by decide +kernel
theorem dX0_dealFairly_138 : decode cX0_dealFairly 138 = .ok (.iload_n 3, 1) := by decide +kernel
theorem dX0_dealFairly_139 : decode cX0_dealFairly 139 = .ok (.ireturn, 1) := by decide +kernel
theorem dX0_dealNext_0 : decode cX0_dealNext 0 = .ok (.iconst 5, 1) := by decide +kernel
theorem dX0_dealNext_1 : decode cX0_dealNext 1 = .ok (.istore_n 1, 1) := by decide +kernel
theorem dX0_dealNext_2 : decode cX0_dealNext 2 = .ok (.iload_n 1, 1) := by decide +kernel
theorem dX0_dealNext_3 : decode cX0_dealNext 3 = .ok (.ifCond .lt 40, 3) := by decide +kernel
theorem dX0_dealNext_6 : decode cX0_dealNext 6 = .ok (.aload_n 0, 1) := by decide +kernel
theorem dX0_dealNext_7 : decode cX0_dealNext 7 = .ok (.getfield 24, 3) := by decide +kernel
theorem dX0_dealNext_10 : decode cX0_dealNext 10 = .ok (.iload_n 1, 1) := by decide +kernel
theorem dX0_dealNext_11 : decode cX0_dealNext 11 = .ok (.dup2, 1) := by decide +kernel
theorem dX0_dealNext_12 : decode cX0_dealNext 12 = .ok (.iaload, 1) := by decide +kernel
theorem dX0_dealNext_13 : decode cX0_dealNext 13 = .ok (.iconst 1, 1) := by decide +kernel
theorem dX0_dealNext_14 : decode cX0_dealNext 14 = .ok (.iadd, 1) := by decide +kernel
theorem dX0_dealNext_15 : decode cX0_dealNext 15 = .ok (.iastore, 1) := by decide +kernel
theorem dX0_dealNext_16 : decode cX0_dealNext 16 = .ok (.aload_n 0, 1) := by decide +kernel
theorem dX0_dealNext_17 : decode cX0_dealNext 17 = .ok (.getfield 24, 3) := by decide +kernel
theorem dX0_dealNext_20 : decode cX0_dealNext 20 = .ok (.iload_n 1, 1) := by decide +kernel
theorem dX0_dealNext_21 : decode cX0_dealNext 21 = .ok (.iaload, 1) := by decide +kernel
theorem dX0_dealNext_22 : decode cX0_dealNext 22 = .ok (.aload_n 0, 1) := by decide +kernel
theorem dX0_dealNext_23 : decode cX0_dealNext 23 = .ok (.getfield 87, 3) := by decide +kernel
theorem dX0_dealNext_26 : decode cX0_dealNext 26 = .ok (.if_icmp .ge 4, 3) := by decide +kernel
theorem dX0_dealNext_29 : decode cX0_dealNext 29 = .ok (.return_, 1) := by decide +kernel
theorem dX0_dealNext_30 : decode cX0_dealNext 30 = .ok (.aload_n 0, 1) := by decide +kernel
theorem dX0_dealNext_31 : decode cX0_dealNext 31 = .ok (.getfield 24, 3) := by decide +kernel
theorem dX0_dealNext_34 : decode cX0_dealNext 34 = .ok (.iload_n 1, 1) := by decide +kernel
theorem dX0_dealNext_35 : decode cX0_dealNext 35 = .ok (.iconst 0, 1) := by decide +kernel
theorem dX0_dealNext_36 : decode cX0_dealNext 36 = .ok (.iastore, 1) := by decide +kernel
theorem dX0_dealNext_37 : decode cX0_dealNext 37 = .ok (.iinc 1 (-1), 3) := by decide +kernel
theorem dX0_dealNext_40 : decode cX0_dealNext 40 = .ok (.goto (-38), 3) := by decide +kernel
theorem dX0_dealNext_43 : decode cX0_dealNext 43 = .ok (.return_, 1) := by decide +kernel
theorem dX0_isFair_0 : decode cX0_isFair 0 = .ok (.iconst 0, 1) := by decide +kernel
theorem dX0_isFair_1 : decode cX0_isFair 1 = .ok (.istore_n 1, 1) := by decide +kernel
theorem dX0_isFair_2 : decode cX0_isFair 2 = .ok (.iload_n 1, 1) := by decide +kernel
theorem dX0_isFair_3 : decode cX0_isFair 3 = .ok (.aload_n 0, 1) := by decide +kernel
theorem dX0_isFair_4 : decode cX0_isFair 4 = .ok (.getfield 87, 3) := by decide +kernel
theorem dX0_isFair_7 : decode cX0_isFair 7 = .ok (.if_icmp .ge 44, 3) := by decide +kernel
theorem dX0_isFair_10 : decode cX0_isFair 10 = .ok (.aload_n 0, 1) := by decide +kernel
theorem dX0_isFair_11 : decode cX0_isFair 11 = .ok (.iload_n 1, 1) := by decide +kernel
theorem dX0_isFair_12 : decode cX0_isFair 12 = .ok (.iload_n 1, 1) := by decide +kernel
theorem dX0_isFair_13 : decode cX0_isFair 13 = .ok (.invokevirtual 104, 3) := by decide +kernel
theorem dX0_isFair_16 : decode cX0_isFair 16 = .ok (.istore_n 2, 1) := by decide +kernel
theorem dX0_isFair_17 : decode cX0_isFair 17 = .ok (.iconst 0, 1) := by decide +kernel
theorem dX0_isFair_18 : decode cX0_isFair 18 = .ok (.istore_n 3, 1) := by decide +kernel
theorem dX0_isFair_19 : decode cX0_isFair 19 = .ok (.iload_n 3, 1) := by decide +kernel
theorem dX0_isFair_20 : decode cX0_isFair 20 = .ok (.aload_n 0, 1) := by decide +kernel
theorem dX0_isFair_21 : decode cX0_isFair 21 = .ok (.getfield 87, 3) := by decide +kernel
theorem dX0_isFair_24 : decode cX0_isFair 24 = .ok (.if_icmp .ge 21, 3) := by decide +kernel
theorem dX0_isFair_27 : decode cX0_isFair 27 = .ok (.aload_n 0, 1) := by decide +kernel
theorem dX0_isFair_28 : decode cX0_isFair 28 = .ok (.iload_n 1, 1) := by decide +kernel
theorem dX0_isFair_29 : decode cX0_isFair 29 = .ok (.iload_n 3, 1) := by decide +kernel
theorem dX0_isFair_30 : decode cX0_isFair 30 = .ok (.invokevirtual 104, 3) := by decide +kernel
theorem dX0_isFair_33 : decode cX0_isFair 33 = .ok (.iload_n 2, 1) := by decide +kernel
theorem dX0_isFair_34 : decode cX0_isFair 34 = .ok (.if_icmp .le 5, 3) := by decide +kernel
theorem dX0_isFair_37 : decode cX0_isFair 37 = .ok (.iconst 0, 1) := by decide +kernel
theorem dX0_isFair_38 : decode cX0_isFair 38 = .ok (.ireturn, 1) := by decide +kernel
theorem dX0_isFair_39 : decode cX0_isFair 39 = .ok (.iinc 3 1, 3) := by decide +kernel
theorem dX0_isFair_42 : decode cX0_isFair 42 = .ok (.goto (-23), 3) := by decide +kernel
theorem dX0_isFair_45 : decode cX0_isFair 45 = .ok (.iinc 1 1, 3) := by decide +kernel
theorem dX0_isFair_48 : decode cX0_isFair 48 = .ok (.goto (-46), 3) := by decide +kernel
theorem dX0_isFair_51 : decode cX0_isFair 51 = .ok (.iconst 1, 1) := by decide +kernel
theorem dX0_isFair_52 : decode cX0_isFair 52 = .ok (.ireturn, 1) := by decide +kernel
theorem dX0_worthOfSeat_0 : decode cX0_worthOfSeat 0 = .ok (.iconst 0, 1) := by decide +kernel
theorem dX0_worthOfSeat_1 : decode cX0_worthOfSeat 1 = .ok (.istore_n 3, 1) := by decide +kernel
theorem dX0_worthOfSeat_2 : decode cX0_worthOfSeat 2 = .ok (.iconst 0, 1) := by decide +kernel
theorem dX0_worthOfSeat_3 : decode cX0_worthOfSeat 3 = .ok (.istore 4, 2) := by decide +kernel
theorem dX0_worthOfSeat_5 : decode cX0_worthOfSeat 5 = .ok (.iload 4, 2) := by decide +kernel
theorem dX0_worthOfSeat_7 : decode cX0_worthOfSeat 7 = .ok (.bipush 6, 2) := by decide +kernel
theorem dX0_worthOfSeat_9 : decode cX0_worthOfSeat 9 = .ok (.if_icmp .ge 35, 3) := by decide +kernel
theorem dX0_worthOfSeat_12 : decode cX0_worthOfSeat 12 = .ok (.aload_n 0, 1) := by decide +kernel
theorem dX0_worthOfSeat_13 : decode cX0_worthOfSeat 13 = .ok (.getfield 24, 3) := by decide +kernel
theorem dX0_worthOfSeat_16 : decode cX0_worthOfSeat 16 = .ok (.iload 4, 2) := by decide +kernel
theorem dX0_worthOfSeat_18 : decode cX0_worthOfSeat 18 = .ok (.iaload, 1) := by decide +kernel
theorem dX0_worthOfSeat_19 : decode cX0_worthOfSeat 19 = .ok (.iload_n 2, 1) := by decide +kernel
theorem dX0_worthOfSeat_20 : decode cX0_worthOfSeat 20 = .ok (.if_icmp .ne 18, 3) := by decide +kernel
theorem dX0_worthOfSeat_23 : decode cX0_worthOfSeat 23 = .ok (.iload_n 3, 1) := by decide +kernel
theorem dX0_worthOfSeat_24 : decode cX0_worthOfSeat 24 = .ok (.aload_n 0, 1) := by decide +kernel
theorem dX0_worthOfSeat_25 : decode cX0_worthOfSeat 25 = .ok (.getfield 21, 3) := by decide +kernel
theorem dX0_worthOfSeat_28 : decode cX0_worthOfSeat 28 = .ok (.iload_n 1, 1) := by decide +kernel
theorem dX0_worthOfSeat_29 : decode cX0_worthOfSeat 29 = .ok (.bipush 6, 2) := by decide +kernel
theorem dX0_worthOfSeat_31 : decode cX0_worthOfSeat 31 = .ok (.imul, 1) := by decide +kernel
theorem dX0_worthOfSeat_32 : decode cX0_worthOfSeat 32 = .ok (.iload 4, 2) := by decide +kernel
theorem dX0_worthOfSeat_34 : decode cX0_worthOfSeat 34 = .ok (.iadd, 1) := by decide +kernel
theorem dX0_worthOfSeat_35 : decode cX0_worthOfSeat 35 = .ok (.iaload, 1) := by decide +kernel
theorem dX0_worthOfSeat_36 : decode cX0_worthOfSeat 36 = .ok (.iadd, 1) := by decide +kernel
theorem dX0_worthOfSeat_37 : decode cX0_worthOfSeat 37 = .ok (.istore_n 3, 1) := by decide +kernel
theorem dX0_worthOfSeat_38 : decode cX0_worthOfSeat 38 = .ok (.iinc 4 1, 3) := by decide +kernel
theorem dX0_worthOfSeat_41 : decode cX0_worthOfSeat 41 = .ok (.goto (-36), 3) := by decide +kernel
theorem dX0_worthOfSeat_44 : decode cX0_worthOfSeat 44 = .ok (.iload_n 3, 1) := by decide +kernel
theorem dX0_worthOfSeat_45 : decode cX0_worthOfSeat 45 = .ok (.ireturn, 1) := by decide +kernel
theorem dX0_dealtTo_0 : decode cX0_dealtTo 0 = .ok (.aload_n 0, 1) := by decide +kernel
theorem dX0_dealtTo_1 : decode cX0_dealtTo 1 = .ok (.getfield 18, 3) := by decide +kernel
theorem dX0_dealtTo_4 : decode cX0_dealtTo 4 = .ok (.aload_n 0, 1) := by decide +kernel
theorem dX0_dealtTo_5 : decode cX0_dealtTo 5 = .ok (.getfield 27, 3) := by decide +kernel
theorem dX0_dealtTo_8 : decode cX0_dealtTo 8 = .ok (.iload_n 1, 1) := by decide +kernel
theorem dX0_dealtTo_9 : decode cX0_dealtTo 9 = .ok (.iaload, 1) := by decide +kernel
theorem dX0_dealtTo_10 : decode cX0_dealtTo 10 = .ok (.iaload, 1) := by decide +kernel
theorem dX0_dealtTo_11 : decode cX0_dealtTo 11 = .ok (.ireturn, 1) := by decide +kernel
theorem dX0_findRing_0 : decode cX0_findRing 0 = .ok (.iload_n 1, 1) := by decide +kernel
theorem dX0_findRing_1 : decode cX0_findRing 1 = .ok (.istore_n 2, 1) := by decide +kernel
theorem dX0_findRing_2 : decode cX0_findRing 2 = .ok (.iconst 0, 1) := by decide +kernel
theorem dX0_findRing_3 : decode cX0_findRing 3 = .ok (.istore_n 3, 1) := by decide +kernel
theorem dX0_findRing_4 : decode cX0_findRing 4 = .ok (.iload_n 3, 1) := by decide +kernel
theorem dX0_findRing_5 : decode cX0_findRing 5 = .ok (.bipush 10, 2) := by decide +kernel
theorem dX0_findRing_7 : decode cX0_findRing 7 = .ok (.if_icmp .ge 59, 3) := by decide +kernel
theorem dX0_findRing_10 : decode cX0_findRing 10 = .ok (.aload_n 0, 1) := by decide +kernel
theorem dX0_findRing_11 : decode cX0_findRing 11 = .ok (.iload_n 2, 1) := by decide +kernel
theorem dX0_findRing_12 : decode cX0_findRing 12 = .ok (.invokevirtual 107, 3) := by decide +kernel
theorem dX0_findRing_15 : decode cX0_findRing 15 = .ok (.istore 4, 2) := by decide +kernel
theorem dX0_findRing_17 : decode cX0_findRing 17 = .ok (.iload 4, 2) := by decide +kernel
theorem dX0_findRing_19 : decode cX0_findRing 19 = .ok (.iconst (-1), 1) := by decide +kernel
theorem dX0_findRing_20 : decode cX0_findRing 20 = .ok (.if_icmp .ne 5, 3) := by decide +kernel
theorem dX0_findRing_23 : decode cX0_findRing 23 = .ok (.iconst 0, 1) := by decide +kernel
theorem dX0_findRing_24 : decode cX0_findRing 24 = .ok (.ireturn, 1) := by decide +kernel
theorem dX0_findRing_25 : decode cX0_findRing 25 = .ok (.aload_n 0, 1) := by decide +kernel
theorem dX0_findRing_26 : decode cX0_findRing 26 = .ok (.getfield 30, 3) := by decide +kernel
theorem dX0_findRing_29 : decode cX0_findRing 29 = .ok (.iload_n 3, 1) := by decide +kernel
theorem dX0_findRing_30 : decode cX0_findRing 30 = .ok (.iload_n 2, 1) := by decide +kernel
theorem dX0_findRing_31 : decode cX0_findRing 31 = .ok (.iastore, 1) := by decide +kernel
theorem dX0_findRing_32 : decode cX0_findRing 32 = .ok (.aload_n 0, 1) := by decide +kernel
theorem dX0_findRing_33 : decode cX0_findRing 33 = .ok (.getfield 33, 3) := by decide +kernel
theorem dX0_findRing_36 : decode cX0_findRing 36 = .ok (.iload_n 3, 1) := by decide +kernel
theorem dX0_findRing_37 : decode cX0_findRing 37 = .ok (.iload 4, 2) := by decide +kernel
theorem dX0_findRing_39 : decode cX0_findRing 39 = .ok (.iastore, 1) := by decide +kernel
theorem dX0_findRing_40 : decode cX0_findRing 40 = .ok (.aload_n 0, 1) := by decide +kernel
theorem dX0_findRing_41 : decode cX0_findRing 41 = .ok (.getfield 46, 3) := by decide +kernel
theorem dX0_findRing_44 : decode cX0_findRing 44 = .ok (.getfield 110, 3) := by decide +kernel
theorem dX0_findRing_47 : decode cX0_findRing 47 = .ok (.iload 4, 2) := by decide +kernel
theorem dX0_findRing_49 : decode cX0_findRing 49 = .ok (.iaload, 1) := by decide +kernel
theorem dX0_findRing_50 : decode cX0_findRing 50 = .ok (.istore_n 2, 1) := by decide +kernel
theorem dX0_findRing_51 : decode cX0_findRing 51 = .ok (.iload_n 2, 1) := by decide +kernel
theorem dX0_findRing_52 : decode cX0_findRing 52 = .ok (.iload_n 1, 1) := by decide +kernel
theorem dX0_findRing_53 : decode cX0_findRing 53 = .ok (.if_icmp .ne 7, 3) := by decide +kernel
theorem dX0_findRing_56 : decode cX0_findRing 56 = .ok (.iload_n 3, 1) := by decide +kernel
theorem dX0_findRing_57 : decode cX0_findRing 57 = .ok (.iconst 1, 1) := by decide +kernel
theorem dX0_findRing_58 : decode cX0_findRing 58 = .ok (.iadd, 1) := by decide +kernel
theorem dX0_findRing_59 : decode cX0_findRing 59 = .ok (.ireturn, 1) := by decide +kernel
theorem dX0_findRing_60 : decode cX0_findRing 60 = .ok (.iinc 3 1, 3) := by decide +kernel
theorem dX0_findRing_63 : decode cX0_findRing 63 = .ok (.goto (-59), 3) := by decide +kernel
theorem dX0_findRing_66 : decode cX0_findRing 66 = .ok (.iconst 0, 1) := by decide +kernel
theorem dX0_findRing_67 : decode cX0_findRing 67 = .ok (.ireturn, 1) := by decide +kernel
theorem dX0_pointsTo_0 : decode cX0_pointsTo 0 = .ok (.aload_n 0, 1) := by decide +kernel
theorem dX0_pointsTo_1 : decode cX0_pointsTo 1 = .ok (.getfield 46, 3) := by decide +kernel
theorem dX0_pointsTo_4 : decode cX0_pointsTo 4 = .ok (.getfield 113, 3) := by decide +kernel
theorem dX0_pointsTo_7 : decode cX0_pointsTo 7 = .ok (.iload_n 1, 1) := by decide +kernel
theorem dX0_pointsTo_8 : decode cX0_pointsTo 8 = .ok (.iaload, 1) := by decide +kernel
theorem dX0_pointsTo_9 : decode cX0_pointsTo 9 = .ok (.ifCond .ne 5, 3) := by decide +kernel
theorem dX0_pointsTo_12 : decode cX0_pointsTo 12 = .ok (.iconst (-1), 1) := by decide +kernel
theorem dX0_pointsTo_13 : decode cX0_pointsTo 13 = .ok (.ireturn, 1) := by decide +kernel
theorem dX0_pointsTo_14 : decode cX0_pointsTo 14 = .ok (.iconst 0, 1) := by decide +kernel
theorem dX0_pointsTo_15 : decode cX0_pointsTo 15 = .ok (.istore_n 2, 1) := by decide +kernel
theorem dX0_pointsTo_16 : decode cX0_pointsTo 16 = .ok (.iconst 0, 1) := by decide +kernel
theorem dX0_pointsTo_17 : decode cX0_pointsTo 17 = .ok (.istore_n 3, 1) := by decide +kernel
theorem dX0_pointsTo_18 : decode cX0_pointsTo 18 = .ok (.iload_n 3, 1) := by decide +kernel
theorem dX0_pointsTo_19 : decode cX0_pointsTo 19 = .ok (.sipush 168, 3) := by decide +kernel
theorem dX0_pointsTo_22 : decode cX0_pointsTo 22 = .ok (.if_icmp .ge 36, 3) := by decide +kernel
theorem dX0_pointsTo_25 : decode cX0_pointsTo 25 = .ok (.aload_n 0, 1) := by decide +kernel
theorem dX0_pointsTo_26 : decode cX0_pointsTo 26 = .ok (.getfield 46, 3) := by decide +kernel
theorem dX0_pointsTo_29 : decode cX0_pointsTo 29 = .ok (.getfield 110, 3) := by decide +kernel
theorem dX0_pointsTo_32 : decode cX0_pointsTo 32 = .ok (.iload_n 3, 1) := by decide +kernel
theorem dX0_pointsTo_33 : decode cX0_pointsTo 33 = .ok (.iaload, 1) := by decide +kernel
theorem dX0_pointsTo_34 : decode cX0_pointsTo 34 = .ok (.iload_n 1, 1) := by decide +kernel
theorem dX0_pointsTo_35 : decode cX0_pointsTo 35 = .ok (.if_icmp .ne 17, 3) := by decide +kernel
theorem dX0_pointsTo_38 : decode cX0_pointsTo 38 = .ok (.iload_n 2, 1) := by decide +kernel
theorem dX0_pointsTo_39 : decode cX0_pointsTo 39 = .ok (.aload_n 0, 1) := by decide +kernel
theorem dX0_pointsTo_40 : decode cX0_pointsTo 40 = .ok (.getfield 36, 3) := by decide +kernel
theorem dX0_pointsTo_43 : decode cX0_pointsTo 43 = .ok (.iload_n 1, 1) := by decide +kernel
theorem dX0_pointsTo_44 : decode cX0_pointsTo 44 = .ok (.iload_n 3, 1) := by decide +kernel
theorem dX0_pointsTo_45 : decode cX0_pointsTo 45 = .ok (.invokevirtual 79, 3) := by decide +kernel
theorem dX0_pointsTo_48 : decode cX0_pointsTo 48 = .ok (.invokestatic 116, 3) := by decide +kernel
theorem dX0_pointsTo_51 : decode cX0_pointsTo 51 = .ok (.istore_n 2, 1) := by decide +kernel
theorem dX0_pointsTo_52 : decode cX0_pointsTo 52 = .ok (.iinc 3 1, 3) := by decide +kernel
theorem dX0_pointsTo_55 : decode cX0_pointsTo 55 = .ok (.goto (-37), 3) := by decide +kernel
theorem dX0_pointsTo_58 : decode cX0_pointsTo 58 = .ok (.iconst (-1), 1) := by decide +kernel
theorem dX0_pointsTo_59 : decode cX0_pointsTo 59 = .ok (.istore_n 3, 1) := by decide +kernel
theorem dX0_pointsTo_60 : decode cX0_pointsTo 60 = .ok (.iconst 0, 1) := by decide +kernel
theorem dX0_pointsTo_61 : decode cX0_pointsTo 61 = .ok (.istore 4, 2) := by decide +kernel
theorem dX0_pointsTo_63 : decode cX0_pointsTo 63 = .ok (.iload 4, 2) := by decide +kernel
theorem dX0_pointsTo_65 : decode cX0_pointsTo 65 = .ok (.sipush 168, 3) := by decide +kernel
theorem dX0_pointsTo_68 : decode cX0_pointsTo 68 = .ok (.if_icmp .ge 43, 3) := by decide +kernel
theorem dX0_pointsTo_71 : decode cX0_pointsTo 71 = .ok (.aload_n 0, 1) := by decide +kernel
theorem dX0_pointsTo_72 : decode cX0_pointsTo 72 = .ok (.iload_n 1, 1) := by decide +kernel
theorem dX0_pointsTo_73 : decode cX0_pointsTo 73 = .ok (.iload 4, 2) := by decide +kernel
theorem dX0_pointsTo_75 : decode cX0_pointsTo 75 = .ok (.invokevirtual 121, 3) := by decide +kernel
theorem dX0_pointsTo_78 : decode cX0_pointsTo 78 = .ok (.ifCond .eq 27, 3) := by decide +kernel
theorem dX0_pointsTo_81 : decode cX0_pointsTo 81 = .ok (.aload_n 0, 1) := by decide +kernel
theorem dX0_pointsTo_82 : decode cX0_pointsTo 82 = .ok (.getfield 36, 3) := by decide +kernel
theorem dX0_pointsTo_85 : decode cX0_pointsTo 85 = .ok (.iload_n 1, 1) := by decide +kernel
theorem dX0_pointsTo_86 : decode cX0_pointsTo 86 = .ok (.iload 4, 2) := by decide +kernel
theorem dX0_pointsTo_88 : decode cX0_pointsTo 88 = .ok (.invokevirtual 79, 3) := by decide +kernel
theorem dX0_pointsTo_91 : decode cX0_pointsTo 91 = .ok (.istore 5, 2) := by decide +kernel
theorem dX0_pointsTo_93 : decode cX0_pointsTo 93 = .ok (.iload 5, 2) := by decide +kernel
theorem dX0_pointsTo_95 : decode cX0_pointsTo 95 = .ok (.iload_n 2, 1) := by decide +kernel
theorem dX0_pointsTo_96 : decode cX0_pointsTo 96 = .ok (.if_icmp .le 9, 3) := by decide +kernel
theorem dX0_pointsTo_99 : decode cX0_pointsTo 99 = .ok (.iload 5, 2) := by decide +kernel
theorem dX0_pointsTo_101 : decode cX0_pointsTo 101 = .ok (.istore_n 2, 1) := by decide +kernel
theorem dX0_pointsTo_102 : decode cX0_pointsTo 102 = .ok (.iload 4, 2) := by decide +kernel
theorem dX0_pointsTo_104 : decode cX0_pointsTo 104 = .ok (.istore_n 3, 1) := by decide +kernel
theorem dX0_pointsTo_105 : decode cX0_pointsTo 105 = .ok (.iinc 4 1, 3) := by decide +kernel
theorem dX0_pointsTo_108 : decode cX0_pointsTo 108 = .ok (.goto (-45), 3) := by decide +kernel
theorem dX0_pointsTo_111 : decode cX0_pointsTo 111 = .ok (.iload_n 3, 1) := by decide +kernel
theorem dX0_pointsTo_112 : decode cX0_pointsTo 112 = .ok (.ireturn, 1) := by decide +kernel
theorem dX0_mayPointTo_0 : decode cX0_mayPointTo 0 = .ok (.aload_n 0, 1) := by decide +kernel
theorem dX0_mayPointTo_1 : decode cX0_mayPointTo 1 = .ok (.getfield 46, 3) := by decide +kernel
theorem dX0_mayPointTo_4 : decode cX0_mayPointTo 4 = .ok (.getfield 110, 3) := by decide +kernel
theorem dX0_mayPointTo_7 : decode cX0_mayPointTo 7 = .ok (.iload_n 2, 1) := by decide +kernel
theorem dX0_mayPointTo_8 : decode cX0_mayPointTo 8 = .ok (.iaload, 1) := by decide +kernel
theorem dX0_mayPointTo_9 : decode cX0_mayPointTo 9 = .ok (.istore_n 3, 1) := by decide +kernel
theorem dX0_mayPointTo_10 : decode cX0_mayPointTo 10 = .ok (.iload_n 3, 1) := by decide +kernel
theorem dX0_mayPointTo_11 : decode cX0_mayPointTo 11 = .ok (.iconst (-1), 1) := by decide +kernel
theorem dX0_mayPointTo_12 : decode cX0_mayPointTo 12 = .ok (.if_icmp .eq 37, 3) := by decide +kernel
theorem dX0_mayPointTo_15 : decode cX0_mayPointTo 15 = .ok (.iload_n 3, 1) := by decide +kernel
theorem dX0_mayPointTo_16 : decode cX0_mayPointTo 16 = .ok (.iload_n 1, 1) := by decide +kernel
theorem dX0_mayPointTo_17 : decode cX0_mayPointTo 17 = .ok (.if_icmp .eq 32, 3) := by decide +kernel
theorem dX0_mayPointTo_20 : decode cX0_mayPointTo 20 = .ok (.aload_n 0, 1) := by decide +kernel
theorem dX0_mayPointTo_21 : decode cX0_mayPointTo 21 = .ok (.getfield 46, 3) := by decide +kernel
theorem dX0_mayPointTo_24 : decode cX0_mayPointTo 24 = .ok (.getfield 125, 3) := by decide +kernel
theorem dX0_mayPointTo_27 : decode cX0_mayPointTo 27 = .ok (.iload_n 2, 1) := by decide +kernel
theorem dX0_mayPointTo_28 : decode cX0_mayPointTo 28 = .ok (.iaload, 1) := by decide +kernel
theorem dX0_mayPointTo_29 : decode cX0_mayPointTo 29 = .ok (.iconst (-1), 1) := by decide +kernel
theorem dX0_mayPointTo_30 : decode cX0_mayPointTo 30 = .ok (.if_icmp .ne 19, 3) := by decide +kernel
theorem dX0_mayPointTo_33 : decode cX0_mayPointTo 33 = .ok (.aload_n 0, 1) := by decide +kernel
theorem dX0_mayPointTo_34 : decode cX0_mayPointTo 34 = .ok (.getfield 36, 3) := by decide +kernel
theorem dX0_mayPointTo_37 : decode cX0_mayPointTo 37 = .ok (.iload_n 1, 1) := by decide +kernel
theorem dX0_mayPointTo_38 : decode cX0_mayPointTo 38 = .ok (.iload_n 2, 1) := by decide +kernel
theorem dX0_mayPointTo_39 : decode cX0_mayPointTo 39 = .ok (.invokevirtual 128, 3) := by decide +kernel
theorem dX0_mayPointTo_42 : decode cX0_mayPointTo 42 = .ok (.ifCond .ne 7, 3) := by decide +kernel
theorem dX0_mayPointTo_45 : decode cX0_mayPointTo 45 = .ok (.iconst 1, 1) := by decide +kernel
theorem dX0_mayPointTo_46 : decode cX0_mayPointTo 46 = .ok (.goto 4, 3) := by decide +kernel
theorem dX0_mayPointTo_49 : decode cX0_mayPointTo 49 = .ok (.iconst 0, 1) := by decide +kernel
theorem dX0_mayPointTo_50 : decode cX0_mayPointTo 50 = .ok (.ireturn, 1) := by decide +kernel
theorem dX0_pointedBy_0 : decode cX0_pointedBy 0 = .ok (.aload_n 0, 1) := by decide +kernel
theorem dX0_pointedBy_1 : decode cX0_pointedBy 1 = .ok (.getfield 33, 3) := by decide +kernel
theorem dX0_pointedBy_4 : decode cX0_pointedBy 4 = .ok (.iload_n 1, 1) := by decide +kernel
theorem dX0_pointedBy_5 : decode cX0_pointedBy 5 = .ok (.iaload, 1) := by decide +kernel
theorem dX0_pointedBy_6 : decode cX0_pointedBy 6 = .ok (.ireturn, 1) := by decide +kernel
theorem dX0_turnRing_0 : decode cX0_turnRing 0 = .ok (.iconst 0, 1) := by decide +kernel
theorem dX0_turnRing_1 : decode cX0_turnRing 1 = .ok (.istore_n 2, 1) := by decide +kernel
theorem dX0_turnRing_2 : decode cX0_turnRing 2 = .ok (.iload_n 2, 1) := by decide +kernel
theorem dX0_turnRing_3 : decode cX0_turnRing 3 = .ok (.iload_n 1, 1) := by decide +kernel
theorem dX0_turnRing_4 : decode cX0_turnRing 4 = .ok (.if_icmp .ge 29, 3) := by decide +kernel
theorem dX0_turnRing_7 : decode cX0_turnRing 7 = .ok (.aload_n 0, 1) := by decide +kernel
theorem dX0_turnRing_8 : decode cX0_turnRing 8 = .ok (.getfield 46, 3) := by decide +kernel
theorem dX0_turnRing_11 : decode cX0_turnRing 11 = .ok (.aload_n 0, 1) := by decide +kernel
theorem dX0_turnRing_12 : decode cX0_turnRing 12 = .ok (.getfield 33, 3) := by decide +kernel
theorem dX0_turnRing_15 : decode cX0_turnRing 15 = .ok (.iload_n 2, 1) := by decide +kernel
theorem dX0_turnRing_16 : decode cX0_turnRing 16 = .ok (.iaload, 1) := by decide +kernel
theorem dX0_turnRing_17 : decode cX0_turnRing 17 = .ok (.aload_n 0, 1) := by decide +kernel
theorem dX0_turnRing_18 : decode cX0_turnRing 18 = .ok (.getfield 30, 3) := by decide +kernel
theorem dX0_turnRing_21 : decode cX0_turnRing 21 = .ok (.iload_n 2, 1) := by decide +kernel
theorem dX0_turnRing_22 : decode cX0_turnRing 22 = .ok (.iaload, 1) := by decide +kernel
theorem dX0_turnRing_23 : decode cX0_turnRing 23 = .ok (.iconst 4, 1) := by decide +kernel
theorem dX0_turnRing_24 : decode cX0_turnRing 24 = .ok (.invokevirtual 131, 3) := by decide +kernel
theorem dX0_turnRing_27 : decode cX0_turnRing 27 = .ok (.iinc 2 1, 3) := by decide +kernel
theorem dX0_turnRing_30 : decode cX0_turnRing 30 = .ok (.goto (-28), 3) := by decide +kernel
theorem dX0_turnRing_33 : decode cX0_turnRing 33 = .ok (.return_, 1) := by decide +kernel
theorem dX9_init_0 : decode cX9_init 0 = .ok (.aload_n 0, 1) := by decide +kernel
theorem dX9_init_1 : decode cX9_init 1 = .ok (.invokespecial 3, 3) := by decide +kernel
theorem dX9_init_4 : decode cX9_init 4 = .ok (.aload_n 0, 1) := by decide +kernel
theorem dX9_init_5 : decode cX9_init 5 = .ok (.new 9, 3) := by decide +kernel
theorem dX9_init_8 : decode cX9_init 8 = .ok (.dup, 1) := by decide +kernel
theorem dX9_init_9 : decode cX9_init 9 = .ok (.invokespecial 11, 3) := by decide +kernel
theorem dX9_init_12 : decode cX9_init 12 = .ok (.putfield 12, 3) := by decide +kernel
theorem dX9_init_15 : decode cX9_init 15 = .ok (.aload_n 0, 1) := by decide +kernel
theorem dX9_init_16 : decode cX9_init 16 = .ok (.new 18, 3) := by decide +kernel
theorem dX9_init_19 : decode cX9_init 19 = .ok (.dup, 1) := by decide +kernel
theorem dX9_init_20 : decode cX9_init 20 = .ok (.invokespecial 20, 3) := by decide +kernel
theorem dX9_init_23 : decode cX9_init 23 = .ok (.putfield 21, 3) := by decide +kernel
theorem dX9_init_26 : decode cX9_init 26 = .ok (.aload_n 0, 1) := by decide +kernel
theorem dX9_init_27 : decode cX9_init 27 = .ok (.new 25, 3) := by decide +kernel
theorem dX9_init_30 : decode cX9_init 30 = .ok (.dup, 1) := by decide +kernel
theorem dX9_init_31 : decode cX9_init 31 = .ok (.invokespecial 27, 3) := by decide +kernel
theorem dX9_init_34 : decode cX9_init 34 = .ok (.putfield 28, 3) := by decide +kernel
theorem dX9_init_37 : decode cX9_init 37 = .ok (.aload_n 0, 1) := by decide +kernel
theorem dX9_init_38 : decode cX9_init 38 = .ok (.bipush 8, 2) := by decide +kernel
theorem dX9_init_40 : decode cX9_init 40 = .ok (.newarray .int, 2) := by decide +kernel
theorem dX9_init_42 : decode cX9_init 42 = .ok (.putfield 32, 3) := by decide +kernel
theorem dX9_init_45 : decode cX9_init 45 = .ok (.return_, 1) := by decide +kernel
theorem dX9_copyFrom_0 : decode cX9_copyFrom 0 = .ok (.aload_n 0, 1) := by decide +kernel
theorem dX9_copyFrom_1 : decode cX9_copyFrom 1 = .ok (.getfield 12, 3) := by decide +kernel
theorem dX9_copyFrom_4 : decode cX9_copyFrom 4 = .ok (.aload_n 1, 1) := by decide +kernel
theorem dX9_copyFrom_5 : decode cX9_copyFrom 5 = .ok (.getfield 12, 3) := by decide +kernel
theorem dX9_copyFrom_8 : decode cX9_copyFrom 8 = .ok (.invokevirtual 36, 3) := by decide +kernel
theorem dX9_copyFrom_11 : decode cX9_copyFrom 11 = .ok (.aload_n 0, 1) := by decide +kernel
theorem dX9_copyFrom_12 : decode cX9_copyFrom 12 = .ok (.getfield 21, 3) := by decide +kernel
theorem dX9_copyFrom_15 : decode cX9_copyFrom 15 = .ok (.aload_n 1, 1) := by decide +kernel
theorem dX9_copyFrom_16 : decode cX9_copyFrom 16 = .ok (.getfield 21, 3) := by decide +kernel
theorem dX9_copyFrom_19 : decode cX9_copyFrom 19 = .ok (.invokevirtual 40, 3) := by decide +kernel
theorem dX9_copyFrom_22 : decode cX9_copyFrom 22 = .ok (.aload_n 0, 1) := by decide +kernel
theorem dX9_copyFrom_23 : decode cX9_copyFrom 23 = .ok (.getfield 28, 3) := by decide +kernel
theorem dX9_copyFrom_26 : decode cX9_copyFrom 26 = .ok (.aload_n 1, 1) := by decide +kernel
theorem dX9_copyFrom_27 : decode cX9_copyFrom 27 = .ok (.getfield 28, 3) := by decide +kernel
theorem dX9_copyFrom_30 : decode cX9_copyFrom 30 = .ok (.invokevirtual 43, 3) := by decide +kernel
theorem dX9_copyFrom_33 : decode cX9_copyFrom 33 = .ok (.return_, 1) := by decide +kernel
theorem dX9_isChild_0 : decode cX9_isChild 0 = .ok (.aload_n 0, 1) := by decide +kernel
theorem dX9_isChild_1 : decode cX9_isChild 1 = .ok (.getfield 21, 3) := by decide +kernel
theorem dX9_isChild_4 : decode cX9_isChild 4 = .ok (.getfield 46, 3) := by decide +kernel
theorem dX9_isChild_7 : decode cX9_isChild 7 = .ok (.iload_n 1, 1) := by decide +kernel
theorem dX9_isChild_8 : decode cX9_isChild 8 = .ok (.iaload, 1) := by decide +kernel
theorem dX9_isChild_9 : decode cX9_isChild 9 = .ok (.iconst (-1), 1) := by decide +kernel
theorem dX9_isChild_10 : decode cX9_isChild 10 = .ok (.if_icmp .eq 7, 3) := by decide +kernel
theorem dX9_isChild_13 : decode cX9_isChild 13 = .ok (.iconst 1, 1) := by decide +kernel
theorem dX9_isChild_14 : decode cX9_isChild 14 = .ok (.goto 4, 3) := by decide +kernel
theorem dX9_isChild_17 : decode cX9_isChild 17 = .ok (.iconst 0, 1) := by decide +kernel
theorem dX9_isChild_18 : decode cX9_isChild 18 = .ok (.ireturn, 1) := by decide +kernel
theorem dX9_homeOf_0 : decode cX9_homeOf 0 = .ok (.aload_n 0, 1) := by decide +kernel
theorem dX9_homeOf_1 : decode cX9_homeOf 1 = .ok (.iload_n 1, 1) := by decide +kernel
theorem dX9_homeOf_2 : decode cX9_homeOf 2 = .ok (.invokevirtual 49, 3) := by decide +kernel
theorem dX9_homeOf_5 : decode cX9_homeOf 5 = .ok (.ifCond .eq 15, 3) := by decide +kernel
theorem dX9_homeOf_8 : decode cX9_homeOf 8 = .ok (.aload_n 0, 1) := by decide +kernel
theorem dX9_homeOf_9 : decode cX9_homeOf 9 = .ok (.getfield 21, 3) := by decide +kernel
theorem dX9_homeOf_12 : decode cX9_homeOf 12 = .ok (.getfield 46, 3) := by decide +kernel
theorem dX9_homeOf_15 : decode cX9_homeOf 15 = .ok (.iload_n 1, 1) := by decide +kernel
theorem dX9_homeOf_16 : decode cX9_homeOf 16 = .ok (.iaload, 1) := by decide +kernel
theorem dX9_homeOf_17 : decode cX9_homeOf 17 = .ok (.goto 4, 3) := by decide +kernel
theorem dX9_homeOf_20 : decode cX9_homeOf 20 = .ok (.iload_n 1, 1) := by decide +kernel
theorem dX9_homeOf_21 : decode cX9_homeOf 21 = .ok (.ireturn, 1) := by decide +kernel
theorem dX9_grownUps_0 : decode cX9_grownUps 0 = .ok (.iconst 0, 1) := by decide +kernel
theorem dX9_grownUps_1 : decode cX9_grownUps 1 = .ok (.istore_n 2, 1) := by decide +kernel
theorem dX9_grownUps_2 : decode cX9_grownUps 2 = .ok (.iconst 0, 1) := by decide +kernel
theorem dX9_grownUps_3 : decode cX9_grownUps 3 = .ok (.istore_n 3, 1) := by decide +kernel
theorem dX9_grownUps_4 : decode cX9_grownUps 4 = .ok (.iload_n 3, 1) := by decide +kernel
theorem dX9_grownUps_5 : decode cX9_grownUps 5 = .ok (.aload_n 0, 1) := by decide +kernel
theorem dX9_grownUps_6 : decode cX9_grownUps 6 = .ok (.getfield 21, 3) := by decide +kernel
theorem dX9_grownUps_9 : decode cX9_grownUps 9 = .ok (.getfield 53, 3) := by decide +kernel
theorem dX9_grownUps_12 : decode cX9_grownUps 12 = .ok (.if_icmp .ge 31, 3) := by decide +kernel
theorem dX9_grownUps_15 : decode cX9_grownUps 15 = .ok (.iload_n 1, 1) := by decide +kernel
theorem dX9_grownUps_16 : decode cX9_grownUps 16 = .ok (.iload_n 3, 1) := by decide +kernel
theorem dX9_grownUps_17 : decode cX9_grownUps 17 = .ok (.iushr, 1) := by decide +kernel
theorem dX9_grownUps_18 : decode cX9_grownUps 18 = .ok (.iconst 1, 1) := by decide +kernel
theorem dX9_grownUps_19 : decode cX9_grownUps 19 = .ok (.iand, 1) := by decide +kernel
theorem dX9_grownUps_20 : decode cX9_grownUps 20 = .ok (.ifCond .eq 17, 3) := by decide +kernel
theorem dX9_grownUps_23 : decode cX9_grownUps 23 = .ok (.aload_n 0, 1) := by decide +kernel
theorem dX9_grownUps_24 : decode cX9_grownUps 24 = .ok (.iload_n 3, 1) := by decide +kernel
theorem dX9_grownUps_25 : decode cX9_grownUps 25 = .ok (.invokevirtual 49, 3) := by decide +kernel
theorem dX9_grownUps_28 : decode cX9_grownUps 28 = .ok (.ifCond .ne 9, 3) := by decide +kernel
theorem dX9_grownUps_31 : decode cX9_grownUps 31 = .ok (.iload_n 2, 1) := by decide +kernel
theorem dX9_grownUps_32 : decode cX9_grownUps 32 = .ok (.iconst 1, 1) := by decide +kernel
theorem dX9_grownUps_33 : decode cX9_grownUps 33 = .ok (.iload_n 3, 1) := by decide +kernel
theorem dX9_grownUps_34 : decode cX9_grownUps 34 = .ok (.ishl, 1) := by decide +kernel
theorem dX9_grownUps_35 : decode cX9_grownUps 35 = .ok (.ior, 1) := by decide +kernel
theorem dX9_grownUps_36 : decode cX9_grownUps 36 = .ok (.istore_n 2, 1) := by decide +kernel
theorem dX9_grownUps_37 : decode cX9_grownUps 37 = .ok (.iinc 3 1, 3) := by decide +kernel
theorem dX9_grownUps_40 : decode cX9_grownUps 40 = .ok (.goto (-36), 3) := by decide +kernel
theorem dX9_grownUps_43 : decode cX9_grownUps 43 = .ok (.iload_n 2, 1) := by decide +kernel
theorem dX9_grownUps_44 : decode cX9_grownUps 44 = .ok (.ireturn, 1) := by decide +kernel
theorem dX9_livedIn_0 : decode cX9_livedIn 0 = .ok (.iconst 0, 1) := by decide +kernel
theorem dX9_livedIn_1 : decode cX9_livedIn 1 = .ok (.istore_n 2, 1) := by decide +kernel
theorem dX9_livedIn_2 : decode cX9_livedIn 2 = .ok (.iconst 0, 1) := by decide +kernel
theorem dX9_livedIn_3 : decode cX9_livedIn 3 = .ok (.istore_n 3, 1) := by decide +kernel
theorem dX9_livedIn_4 : decode cX9_livedIn 4 = .ok (.iload_n 3, 1) := by decide +kernel
theorem dX9_livedIn_5 : decode cX9_livedIn 5 = .ok (.sipush 168, 3) := by decide +kernel
theorem dX9_livedIn_8 : decode cX9_livedIn 8 = .ok (.if_icmp .ge 24, 3) := by decide +kernel
theorem dX9_livedIn_11 : decode cX9_livedIn 11 = .ok (.aload_n 0, 1) := by decide +kernel
theorem dX9_livedIn_12 : decode cX9_livedIn 12 = .ok (.getfield 12, 3) := by decide +kernel
theorem dX9_livedIn_15 : decode cX9_livedIn 15 = .ok (.iload_n 3, 1) := by decide +kernel
theorem dX9_livedIn_16 : decode cX9_livedIn 16 = .ok (.invokevirtual 57, 3) := by decide +kernel
theorem dX9_livedIn_19 : decode cX9_livedIn 19 = .ok (.iload_n 1, 1) := by decide +kernel
theorem dX9_livedIn_20 : decode cX9_livedIn 20 = .ok (.if_icmp .ne 6, 3) := by decide +kernel
theorem dX9_livedIn_23 : decode cX9_livedIn 23 = .ok (.iinc 2 1, 3) := by decide +kernel
theorem dX9_livedIn_26 : decode cX9_livedIn 26 = .ok (.iinc 3 1, 3) := by decide +kernel
theorem dX9_livedIn_29 : decode cX9_livedIn 29 = .ok (.goto (-25), 3) := by decide +kernel
theorem dX9_livedIn_32 : decode cX9_livedIn 32 = .ok (.iload_n 2, 1) := by decide +kernel
theorem dX9_livedIn_33 : decode cX9_livedIn 33 = .ok (.ireturn, 1) := by decide +kernel
theorem dX9_subletRooms_0 : decode cX9_subletRooms 0 = .ok (.iconst 0, 1) := by decide +kernel
theorem dX9_subletRooms_1 : decode cX9_subletRooms 1 = .ok (.istore_n 1, 1) := by decide +kernel
theorem dX9_subletRooms_2 : decode cX9_subletRooms 2 = .ok (.iconst 0, 1) := by decide +kernel
theorem dX9_subletRooms_3 : decode cX9_subletRooms 3 = .ok (.istore_n 2, 1) := by decide +kernel
theorem dX9_subletRooms_4 : decode cX9_subletRooms 4 = .ok (.iload_n 2, 1) := by decide +kernel
theorem dX9_subletRooms_5 : decode cX9_subletRooms 5 = .ok (.sipush 168, 3) := by decide +kernel
theorem dX9_subletRooms_8 : decode cX9_subletRooms 8 = .ok (.if_icmp .ge 25, 3) := by decide +kernel
theorem dX9_subletRooms_11 : decode cX9_subletRooms 11 = .ok (.aload_n 0, 1) := by decide +kernel
theorem dX9_subletRooms_12 : decode cX9_subletRooms 12 = .ok (.getfield 12, 3) := by decide +kernel
theorem dX9_subletRooms_15 : decode cX9_subletRooms 15 = .ok (.getfield 61, 3) := by decide +kernel
theorem dX9_subletRooms_18 : decode cX9_subletRooms 18 = .ok (.iload_n 2, 1) := by decide +kernel
theorem dX9_subletRooms_19 : decode cX9_subletRooms 19 = .ok (.iaload, 1) := by decide +kernel
theorem dX9_subletRooms_20 : decode cX9_subletRooms 20 = .ok (.iconst (-1), 1) := by decide +kernel
theorem dX9_subletRooms_21 : decode cX9_subletRooms 21 = .ok (.if_icmp .eq 6, 3) := by decide +kernel
theorem dX9_subletRooms_24 : decode cX9_subletRooms 24 = .ok (.iinc 1 1, 3) := by decide +kernel
theorem dX9_subletRooms_27 : decode cX9_subletRooms 27 = .ok (.iinc 2 1, 3) := by decide +kernel
theorem dX9_subletRooms_30 : decode cX9_subletRooms 30 = .ok (.goto (-26), 3) := by decide +kernel
theorem dX9_subletRooms_33 : decode cX9_subletRooms 33 = .ok (.iload_n 1, 1) := by decide +kernel
theorem dX9_subletRooms_34 : decode cX9_subletRooms 34 = .ok (.ireturn, 1) := by decide +kernel
theorem dX9_rentOfAll_0 : decode cX9_rentOfAll 0 = .ok (.iconst 0, 1) := by decide +kernel
theorem dX9_rentOfAll_1 : decode cX9_rentOfAll 1 = .ok (.istore_n 2, 1) := by decide +kernel
theorem dX9_rentOfAll_2 : decode cX9_rentOfAll 2 = .ok (.iconst 0, 1) := by decide +kernel
theorem dX9_rentOfAll_3 : decode cX9_rentOfAll 3 = .ok (.istore_n 3, 1) := by decide +kernel
theorem dX9_rentOfAll_4 : decode cX9_rentOfAll 4 = .ok (.iload_n 3, 1) := by decide +kernel
theorem dX9_rentOfAll_5 : decode cX9_rentOfAll 5 = .ok (.sipush 168, 3) := by decide +kernel
theorem dX9_rentOfAll_8 : decode cX9_rentOfAll 8 = .ok (.if_icmp .ge 31, 3) := by decide +kernel
theorem dX9_rentOfAll_11 : decode cX9_rentOfAll 11 = .ok (.aload_n 0, 1) := by decide +kernel
theorem dX9_rentOfAll_12 : decode cX9_rentOfAll 12 = .ok (.getfield 12, 3) := by decide +kernel
theorem dX9_rentOfAll_15 : decode cX9_rentOfAll 15 = .ok (.getfield 64, 3) := by decide +kernel
theorem dX9_rentOfAll_18 : decode cX9_rentOfAll 18 = .ok (.iload_n 3, 1) := by decide +kernel
theorem dX9_rentOfAll_19 : decode cX9_rentOfAll 19 = .ok (.iaload, 1) := by decide +kernel
theorem dX9_rentOfAll_20 : decode cX9_rentOfAll 20 = .ok (.iload_n 1, 1) := by decide +kernel
theorem dX9_rentOfAll_21 : decode cX9_rentOfAll 21 = .ok (.if_icmp .ne 12, 3) := by decide +kernel
theorem dX9_rentOfAll_24 : decode cX9_rentOfAll 24 = .ok (.iload_n 2, 1) := by decide +kernel
theorem dX9_rentOfAll_25 : decode cX9_rentOfAll 25 = .ok (.aload_n 0, 1) := by decide +kernel
theorem dX9_rentOfAll_26 : decode cX9_rentOfAll 26 = .ok (.iload_n 1, 1) := by decide +kernel
theorem dX9_rentOfAll_27 : decode cX9_rentOfAll 27 = .ok (.iload_n 3, 1) := by decide +kernel
theorem dX9_rentOfAll_28 : decode cX9_rentOfAll 28 = .ok (.invokevirtual 67, 3) := by decide +kernel
theorem dX9_rentOfAll_31 : decode cX9_rentOfAll 31 = .ok (.iadd, 1) := by decide +kernel
theorem dX9_rentOfAll_32 : decode cX9_rentOfAll 32 = .ok (.istore_n 2, 1) := by decide +kernel
theorem dX9_rentOfAll_33 : decode cX9_rentOfAll 33 = .ok (.iinc 3 1, 3) := by decide +kernel
theorem dX9_rentOfAll_36 : decode cX9_rentOfAll 36 = .ok (.goto (-32), 3) := by decide +kernel
theorem dX9_rentOfAll_39 : decode cX9_rentOfAll 39 = .ok (.iload_n 2, 1) := by decide +kernel
theorem dX9_rentOfAll_40 : decode cX9_rentOfAll 40 = .ok (.ireturn, 1) := by decide +kernel
theorem dX9_goodsOfAll_0 : decode cX9_goodsOfAll 0 = .ok (.iconst 0, 1) := by decide +kernel
theorem dX9_goodsOfAll_1 : decode cX9_goodsOfAll 1 = .ok (.istore_n 2, 1) := by decide +kernel
theorem dX9_goodsOfAll_2 : decode cX9_goodsOfAll 2 = .ok (.iconst 0, 1) := by decide +kernel
theorem dX9_goodsOfAll_3 : decode cX9_goodsOfAll 3 = .ok (.istore_n 3, 1) := by decide +kernel
theorem dX9_goodsOfAll_4 : decode cX9_goodsOfAll 4 = .ok (.iload_n 3, 1) := by decide +kernel
theorem dX9_goodsOfAll_5 : decode cX9_goodsOfAll 5 = .ok (.sipush 168, 3) := by decide +kernel
theorem dX9_goodsOfAll_8 : decode cX9_goodsOfAll 8 = .ok (.if_icmp .ge 33, 3) := by decide +kernel
theorem dX9_goodsOfAll_11 : decode cX9_goodsOfAll 11 = .ok (.aload_n 0, 1) := by decide +kernel
theorem dX9_goodsOfAll_12 : decode cX9_goodsOfAll 12 = .ok (.getfield 12, 3) := by decide +kernel
theorem dX9_goodsOfAll_15 : decode cX9_goodsOfAll 15 = .ok (.iload_n 3, 1) := by decide +kernel
theorem dX9_goodsOfAll_16 : decode cX9_goodsOfAll 16 = .ok (.invokevirtual 57, 3) := by decide +kernel
theorem dX9_goodsOfAll_19 : decode cX9_goodsOfAll 19 = .ok (.iload_n 1, 1) := by decide +kernel
theorem dX9_goodsOfAll_20 : decode cX9_goodsOfAll 20 = .ok (.if_icmp .ne 15, 3) := by decide +kernel
theorem dX9_goodsOfAll_23 : decode cX9_goodsOfAll 23 = .ok (.iload_n 2, 1) := by decide +kernel
theorem dX9_goodsOfAll_24 : decode cX9_goodsOfAll 24 = .ok (.aload_n 0, 1) := by decide +kernel
theorem dX9_goodsOfAll_25 : decode cX9_goodsOfAll 25 = .ok (.getfield 12, 3) := by decide +kernel
theorem dX9_goodsOfAll_28 : decode cX9_goodsOfAll 28 = .ok (.getfield 71, 3) := by decide +kernel
theorem dX9_goodsOfAll_31 : decode cX9_goodsOfAll 31 = .ok (.iload_n 3, 1) := by decide +kernel
theorem dX9_goodsOfAll_32 : decode cX9_goodsOfAll 32 = .ok (.iaload, 1) := by decide +kernel
theorem dX9_goodsOfAll_33 : decode cX9_goodsOfAll 33 = .ok (.iadd, 1) := by decide +kernel
theorem dX9_goodsOfAll_34 : decode cX9_goodsOfAll 34 = .ok (.istore_n 2, 1) := by decide +kernel
theorem dX9_goodsOfAll_35 : decode cX9_goodsOfAll 35 = .ok (.iinc 3 1, 3) := by decide +kernel
theorem dX9_goodsOfAll_38 : decode cX9_goodsOfAll 38 = .ok (.goto (-34), 3) := by decide +kernel
theorem dX9_goodsOfAll_41 : decode cX9_goodsOfAll 41 = .ok (.iload_n 2, 1) := by decide +kernel
theorem dX9_goodsOfAll_42 : decode cX9_goodsOfAll 42 = .ok (.ireturn, 1) := by decide +kernel
theorem dX9_lookAt_0 : decode cX9_lookAt 0 = .ok (.aload_n 0, 1) := by decide +kernel
theorem dX9_lookAt_1 : decode cX9_lookAt 1 = .ok (.getfield 32, 3) := by decide +kernel
theorem dX9_lookAt_4 : decode cX9_lookAt 4 = .ok (.iconst 0, 1) := by decide +kernel
theorem dX9_lookAt_5 : decode cX9_lookAt 5 = .ok (.iload_n 2, 1) := by decide +kernel
theorem dX9_lookAt_6 : decode cX9_lookAt 6 = .ok (.bipush 24, 2) := by decide +kernel
theorem dX9_lookAt_8 : decode cX9_lookAt 8 = .ok (.idiv, 1) := by decide +kernel
theorem dX9_lookAt_9 : decode cX9_lookAt 9 = .ok (.iastore, 1) := by decide +kernel
theorem dX9_lookAt_10 : decode cX9_lookAt 10 = .ok (.aload_n 0, 1) := by decide +kernel
theorem dX9_lookAt_11 : decode cX9_lookAt 11 = .ok (.getfield 32, 3) := by decide +kernel
theorem dX9_lookAt_14 : decode cX9_lookAt 14 = .ok (.iconst 1, 1) := by decide +kernel
theorem dX9_lookAt_15 : decode cX9_lookAt 15 = .ok (.iload_n 2, 1) := by decide +kernel
theorem dX9_lookAt_16 : decode cX9_lookAt 16 = .ok (.bipush 24, 2) := by decide +kernel
theorem dX9_lookAt_18 : decode cX9_lookAt 18 = .ok (.irem, 1) := by decide +kernel
theorem dX9_lookAt_19 : decode cX9_lookAt 19 = .ok (.iastore, 1) := by decide +kernel
theorem dX9_lookAt_20 : decode cX9_lookAt 20 = .ok (.aload_n 0, 1) := by decide +kernel
theorem dX9_lookAt_21 : decode cX9_lookAt 21 = .ok (.getfield 32, 3) := by decide +kernel
theorem dX9_lookAt_24 : decode cX9_lookAt 24 = .ok (.iconst 2, 1) := by decide +kernel
theorem dX9_lookAt_25 : decode cX9_lookAt 25 = .ok (.aload_n 0, 1) := by decide +kernel
theorem dX9_lookAt_26 : decode cX9_lookAt 26 = .ok (.getfield 12, 3) := by decide +kernel
theorem dX9_lookAt_29 : decode cX9_lookAt 29 = .ok (.getfield 74, 3) := by decide +kernel
theorem dX9_lookAt_32 : decode cX9_lookAt 32 = .ok (.iload_n 1, 1) := by decide +kernel
theorem dX9_lookAt_33 : decode cX9_lookAt 33 = .ok (.iaload, 1) := by decide +kernel
theorem dX9_lookAt_34 : decode cX9_lookAt 34 = .ok (.iastore, 1) := by decide +kernel
theorem dX9_lookAt_35 : decode cX9_lookAt 35 = .ok (.aload_n 0, 1) := by decide +kernel
theorem dX9_lookAt_36 : decode cX9_lookAt 36 = .ok (.getfield 32, 3) := by decide +kernel
theorem dX9_lookAt_39 : decode cX9_lookAt 39 = .ok (.iconst 3, 1) := by decide +kernel
theorem dX9_lookAt_40 : decode cX9_lookAt 40 = .ok (.aload_n 0, 1) := by decide +kernel
theorem dX9_lookAt_41 : decode cX9_lookAt 41 = .ok (.getfield 12, 3) := by decide +kernel
theorem dX9_lookAt_44 : decode cX9_lookAt 44 = .ok (.getfield 77, 3) := by decide +kernel
theorem dX9_lookAt_47 : decode cX9_lookAt 47 = .ok (.iload_n 1, 1) := by decide +kernel
theorem dX9_lookAt_48 : decode cX9_lookAt 48 = .ok (.iaload, 1) := by decide +kernel
theorem dX9_lookAt_49 : decode cX9_lookAt 49 = .ok (.iastore, 1) := by decide +kernel
theorem dX9_lookAt_50 : decode cX9_lookAt 50 = .ok (.aload_n 0, 1) := by decide +kernel
theorem dX9_lookAt_51 : decode cX9_lookAt 51 = .ok (.getfield 32, 3) := by decide +kernel
theorem dX9_lookAt_54 : decode cX9_lookAt 54 = .ok (.iconst 4, 1) := by decide +kernel
theorem dX9_lookAt_55 : decode cX9_lookAt 55 = .ok (.aload_n 0, 1) := by decide +kernel
theorem dX9_lookAt_56 : decode cX9_lookAt 56 = .ok (.getfield 12, 3) := by decide +kernel
theorem dX9_lookAt_59 : decode cX9_lookAt 59 = .ok (.getfield 71, 3) := by decide +kernel
theorem dX9_lookAt_62 : decode cX9_lookAt 62 = .ok (.iload_n 2, 1) := by decide +kernel
theorem dX9_lookAt_63 : decode cX9_lookAt 63 = .ok (.iaload, 1) := by decide +kernel
theorem dX9_lookAt_64 : decode cX9_lookAt 64 = .ok (.iastore, 1) := by decide +kernel
theorem dX9_lookAt_65 : decode cX9_lookAt 65 = .ok (.aload_n 0, 1) := by decide +kernel
theorem dX9_lookAt_66 : decode cX9_lookAt 66 = .ok (.getfield 32, 3) := by decide +kernel
theorem dX9_lookAt_69 : decode cX9_lookAt 69 = .ok (.iconst 5, 1) := by decide +kernel
theorem dX9_lookAt_70 : decode cX9_lookAt 70 = .ok (.aload_n 0, 1) := by decide +kernel
theorem dX9_lookAt_71 : decode cX9_lookAt 71 = .ok (.getfield 12, 3) := by decide +kernel
theorem dX9_lookAt_74 : decode cX9_lookAt 74 = .ok (.getfield 80, 3) := by decide +kernel
theorem dX9_lookAt_77 : decode cX9_lookAt 77 = .ok (.iastore, 1) := by decide +kernel
theorem dX9_lookAt_78 : decode cX9_lookAt 78 = .ok (.aload_n 0, 1) := by decide +kernel
theorem dX9_lookAt_79 : decode cX9_lookAt 79 = .ok (.getfield 32, 3) := by decide +kernel
theorem dX9_lookAt_82 : decode cX9_lookAt 82 = .ok (.bipush 6, 2) := by decide +kernel
theorem dX9_lookAt_84 : decode cX9_lookAt 84 = .ok (.aload_n 0, 1) := by decide +kernel
theorem dX9_lookAt_85 : decode cX9_lookAt 85 = .ok (.getfield 21, 3) := by decide +kernel
theorem dX9_lookAt_88 : decode cX9_lookAt 88 = .ok (.iload_n 1, 1) := by decide +kernel
theorem dX9_lookAt_89 : decode cX9_lookAt 89 = .ok (.iload_n 2, 1) := by decide +kernel
theorem dX9_lookAt_90 : decode cX9_lookAt 90 = .ok (.bipush 24, 2) := by decide +kernel
theorem dX9_lookAt_92 : decode cX9_lookAt 92 = .ok (.irem, 1) := by decide +kernel
theorem dX9_lookAt_93 : decode cX9_lookAt 93 = .ok (.invokevirtual 83, 3) := by decide +kernel
theorem dX9_lookAt_96 : decode cX9_lookAt 96 = .ok (.ifCond .eq 7, 3) := by decide +kernel
theorem dX9_lookAt_99 : decode cX9_lookAt 99 = .ok (.iconst 1, 1) := by decide +kernel
theorem dX9_lookAt_100 : decode cX9_lookAt 100 = .ok (.goto 4, 3) := by decide +kernel
theorem dX9_lookAt_103 : decode cX9_lookAt 103 = .ok (.iconst 0, 1) := by decide +kernel
theorem dX9_lookAt_104 : decode cX9_lookAt 104 = .ok (.iastore, 1) := by decide +kernel
theorem dX9_lookAt_105 : decode cX9_lookAt 105 = .ok (.aload_n 0, 1) := by decide +kernel
theorem dX9_lookAt_106 : decode cX9_lookAt 106 = .ok (.getfield 12, 3) := by decide +kernel
theorem dX9_lookAt_109 : decode cX9_lookAt 109 = .ok (.iload_n 2, 1) := by decide +kernel
theorem dX9_lookAt_110 : decode cX9_lookAt 110 = .ok (.invokestatic 87, 3) := by decide +kernel
theorem dX9_lookAt_113 : decode cX9_lookAt 113 = .ok (.invokevirtual 57, 3) := by decide +kernel
theorem dX9_lookAt_116 : decode cX9_lookAt 116 = .ok (.iload_n 1, 1) := by decide +kernel
theorem dX9_lookAt_117 : decode cX9_lookAt 117 = .ok (.if_icmp .eq 18, 3) := by decide +kernel
theorem dX9_lookAt_120 : decode cX9_lookAt 120 = .ok (.aload_n 0, 1) := by decide +kernel
theorem dX9_lookAt_121 : decode cX9_lookAt 121 = .ok (.getfield 12, 3) := by decide +kernel
theorem dX9_lookAt_124 : decode cX9_lookAt 124 = .ok (.iload_n 2, 1) := by decide +kernel
theorem dX9_lookAt_125 : decode cX9_lookAt 125 = .ok (.invokestatic 90, 3) := by decide +kernel
theorem dX9_lookAt_128 : decode cX9_lookAt 128 = .ok (.invokevirtual 57, 3) := by decide +kernel
theorem dX9_lookAt_131 : decode cX9_lookAt 131 = .ok (.iload_n 1, 1) := by decide +kernel
theorem dX9_lookAt_132 : decode cX9_lookAt 132 = .ok (.if_icmp .ne 7, 3) := by decide +kernel
theorem dX9_lookAt_135 : decode cX9_lookAt 135 = .ok (.iconst 1, 1) := by decide +kernel
theorem dX9_lookAt_136 : decode cX9_lookAt 136 = .ok (.goto 4, 3) := by decide +kernel
theorem dX9_lookAt_139 : decode cX9_lookAt 139 = .ok (.iconst 0, 1) := by decide +kernel
theorem dX9_lookAt_140 : decode cX9_lookAt 140 = .ok (.istore_n 3, 1) := by decide +kernel
theorem dX9_lookAt_141 : decode cX9_lookAt 141 = .ok (.aload_n 0, 1) := by decide +kernel
theorem dX9_lookAt_142 : decode cX9_lookAt 142 = .ok (.getfield 32, 3) := by decide +kernel
theorem dX9_lookAt_145 : decode cX9_lookAt 145 = .ok (.bipush 7, 2) := by decide +kernel
theorem dX9_lookAt_147 : decode cX9_lookAt 147 = .ok (.iload_n 3, 1) := by decide +kernel
theorem dX9_lookAt_148 : decode cX9_lookAt 148 = .ok (.ifCond .eq 7, 3) := by decide +kernel
theorem dX9_lookAt_151 : decode cX9_lookAt 151 = .ok (.iconst 1, 1) := by decide +kernel
theorem dX9_lookAt_152 : decode cX9_lookAt 152 = .ok (.goto 4, 3) := by decide +kernel
theorem dX9_lookAt_155 : decode cX9_lookAt 155 = .ok (.iconst 0, 1) := by decide +kernel
theorem dX9_lookAt_156 : decode cX9_lookAt 156 = .ok (.iastore, 1) := by decide +kernel
theorem dX9_lookAt_157 : decode cX9_lookAt 157 = .ok (.aload_n 0, 1) := by decide +kernel
theorem dX9_lookAt_158 : decode cX9_lookAt 158 = .ok (.getfield 32, 3) := by decide +kernel
theorem dX9_lookAt_161 : decode cX9_lookAt 161 = .ok (.areturn, 1) := by decide +kernel
theorem dX9_isBarred_0 : decode cX9_isBarred 0 = .ok (.aload_n 0, 1) := by decide +kernel
theorem dX9_isBarred_1 : decode cX9_isBarred 1 = .ok (.getfield 28, 3) := by decide +kernel
theorem dX9_isBarred_4 : decode cX9_isBarred 4 = .ok (.getfield 93, 3) := by decide +kernel
theorem dX9_isBarred_7 : decode cX9_isBarred 7 = .ok (.ifCond .le 23, 3) := by decide +kernel
theorem dX9_isBarred_10 : decode cX9_isBarred 10 = .ok (.aload_n 0, 1) := by decide +kernel
theorem dX9_isBarred_11 : decode cX9_isBarred 11 = .ok (.getfield 28, 3) := by decide +kernel
theorem dX9_isBarred_14 : decode cX9_isBarred 14 = .ok (.aload_n 0, 1) := by decide +kernel
theorem dX9_isBarred_15 : decode cX9_isBarred 15 = .ok (.iload_n 1, 1) := by decide +kernel
theorem dX9_isBarred_16 : decode cX9_isBarred 16 = .ok (.iload_n 2, 1) := by decide +kernel
theorem dX9_isBarred_17 : decode cX9_isBarred 17 = .ok (.invokevirtual 96, 3) := by decide +kernel
theorem dX9_isBarred_20 : decode cX9_isBarred 20 = .ok (.invokevirtual 100, 3) := by decide +kernel
theorem dX9_isBarred_23 : decode cX9_isBarred 23 = .ok (.ifCond .eq 7, 3) := by decide +kernel
theorem dX9_isBarred_26 : decode cX9_isBarred 26 = .ok (.iconst 1, 1) := by decide +kernel
theorem dX9_isBarred_27 : decode cX9_isBarred 27 = .ok (.goto 4, 3) := by decide +kernel
theorem dX9_isBarred_30 : decode cX9_isBarred 30 = .ok (.iconst 0, 1) := by decide +kernel
theorem dX9_isBarred_31 : decode cX9_isBarred 31 = .ok (.ireturn, 1) := by decide +kernel
theorem dX9_rentOf_0 : decode cX9_rentOf 0 = .ok (.aload_n 0, 1) := by decide +kernel
theorem dX9_rentOf_1 : decode cX9_rentOf 1 = .ok (.getfield 28, 3) := by decide +kernel
theorem dX9_rentOf_4 : decode cX9_rentOf 4 = .ok (.getfield 93, 3) := by decide +kernel
theorem dX9_rentOf_7 : decode cX9_rentOf 7 = .ok (.iconst (-1), 1) := by decide +kernel
theorem dX9_rentOf_8 : decode cX9_rentOf 8 = .ok (.if_icmp .ne 7, 3) := by decide +kernel
theorem dX9_rentOf_11 : decode cX9_rentOf 11 = .ok (.iconst 5, 1) := by decide +kernel
theorem dX9_rentOf_12 : decode cX9_rentOf 12 = .ok (.goto 17, 3) := by decide +kernel
theorem dX9_rentOf_15 : decode cX9_rentOf 15 = .ok (.aload_n 0, 1) := by decide +kernel
theorem dX9_rentOf_16 : decode cX9_rentOf 16 = .ok (.getfield 28, 3) := by decide +kernel
theorem dX9_rentOf_19 : decode cX9_rentOf 19 = .ok (.iconst 1, 1) := by decide +kernel
theorem dX9_rentOf_20 : decode cX9_rentOf 20 = .ok (.aload_n 0, 1) := by decide +kernel
theorem dX9_rentOf_21 : decode cX9_rentOf 21 = .ok (.iload_n 1, 1) := by decide +kernel
theorem dX9_rentOf_22 : decode cX9_rentOf 22 = .ok (.iload_n 2, 1) := by decide +kernel
theorem dX9_rentOf_23 : decode cX9_rentOf 23 = .ok (.invokevirtual 96, 3) := by decide +kernel
theorem dX9_rentOf_26 : decode cX9_rentOf 26 = .ok (.invokevirtual 104, 3) := by decide +kernel
theorem dX9_rentOf_29 : decode cX9_rentOf 29 = .ok (.ireturn, 1) := by decide +kernel
theorem dX9_valueOf_0 : decode cX9_valueOf 0 = .ok (.aload_n 0, 1) := by decide +kernel
theorem dX9_valueOf_1 : decode cX9_valueOf 1 = .ok (.getfield 28, 3) := by decide +kernel
theorem dX9_valueOf_4 : decode cX9_valueOf 4 = .ok (.getfield 93, 3) := by decide +kernel
theorem dX9_valueOf_7 : decode cX9_valueOf 7 = .ok (.iconst (-1), 1) := by decide +kernel
theorem dX9_valueOf_8 : decode cX9_valueOf 8 = .ok (.if_icmp .ne 24, 3) := by decide +kernel
theorem dX9_valueOf_11 : decode cX9_valueOf 11 = .ok (.aload_n 0, 1) := by decide +kernel
theorem dX9_valueOf_12 : decode cX9_valueOf 12 = .ok (.getfield 21, 3) := by decide +kernel
theorem dX9_valueOf_15 : decode cX9_valueOf 15 = .ok (.iload_n 1, 1) := by decide +kernel
theorem dX9_valueOf_16 : decode cX9_valueOf 16 = .ok (.iload_n 2, 1) := by decide +kernel
theorem dX9_valueOf_17 : decode cX9_valueOf 17 = .ok (.bipush 24, 2) := by decide +kernel
theorem dX9_valueOf_19 : decode cX9_valueOf 19 = .ok (.irem, 1) := by decide +kernel
theorem dX9_valueOf_20 : decode cX9_valueOf 20 = .ok (.invokevirtual 83, 3) := by decide +kernel
theorem dX9_valueOf_23 : decode cX9_valueOf 23 = .ok (.ifCond .eq 7, 3) := by decide +kernel
theorem dX9_valueOf_26 : decode cX9_valueOf 26 = .ok (.iconst 1, 1) := by decide +kernel
theorem dX9_valueOf_27 : decode cX9_valueOf 27 = .ok (.goto 4, 3) := by decide +kernel
theorem dX9_valueOf_30 : decode cX9_valueOf 30 = .ok (.iconst 0, 1) := by decide +kernel
theorem dX9_valueOf_31 : decode cX9_valueOf 31 = .ok (.ireturn, 1) := by decide +kernel
theorem dX9_valueOf_32 : decode cX9_valueOf 32 = .ok (.aload_n 0, 1) := by decide +kernel
theorem dX9_valueOf_33 : decode cX9_valueOf 33 = .ok (.getfield 28, 3) := by decide +kernel
theorem dX9_valueOf_36 : decode cX9_valueOf 36 = .ok (.iconst 2, 1) := by decide +kernel
theorem dX9_valueOf_37 : decode cX9_valueOf 37 = .ok (.aload_n 0, 1) := by decide +kernel
theorem dX9_valueOf_38 : decode cX9_valueOf 38 = .ok (.iload_n 1, 1) := by decide +kernel
theorem dX9_valueOf_39 : decode cX9_valueOf 39 = .ok (.iload_n 2, 1) := by decide +kernel
theorem dX9_valueOf_40 : decode cX9_valueOf 40 = .ok (.invokevirtual 96, 3) := by decide +kernel
theorem dX9_valueOf_43 : decode cX9_valueOf 43 = .ok (.invokevirtual 104, 3) := by decide +kernel
theorem dX9_valueOf_46 : decode cX9_valueOf 46 = .ok (.ireturn, 1) := by decide +kernel
theorem dX9_isFree_0 : decode cX9_isFree 0 = .ok (.aload_n 0, 1) := by decide +kernel
theorem dX9_isFree_1 : decode cX9_isFree 1 = .ok (.getfield 12, 3) := by decide +kernel
theorem dX9_isFree_4 : decode cX9_isFree 4 = .ok (.getfield 64, 3) := by decide +kernel
theorem dX9_isFree_7 : decode cX9_isFree 7 = .ok (.iload_n 1, 1) := by decide +kernel
theorem dX9_isFree_8 : decode cX9_isFree 8 = .ok (.iaload, 1) := by decide +kernel
theorem dX9_isFree_9 : decode cX9_isFree 9 = .ok (.iconst (-1), 1) := by decide +kernel
theorem dX9_isFree_10 : decode cX9_isFree 10 = .ok (.if_icmp .ne 19, 3) := by decide +kernel
theorem dX9_isFree_13 : decode cX9_isFree 13 = .ok (.aload_n 0, 1) := by decide +kernel
theorem dX9_isFree_14 : decode cX9_isFree 14 = .ok (.getfield 21, 3) := by decide +kernel
theorem dX9_isFree_17 : decode cX9_isFree 17 = .ok (.getfield 108, 3) := by decide +kernel
theorem dX9_isFree_20 : decode cX9_isFree 20 = .ok (.iload_n 1, 1) := by decide +kernel
theorem dX9_isFree_21 : decode cX9_isFree 21 = .ok (.iaload, 1) := by decide +kernel
theorem dX9_isFree_22 : decode cX9_isFree 22 = .ok (.ifCond .ne 7, 3) := by decide +kernel
theorem dX9_isFree_25 : decode cX9_isFree 25 = .ok (.iconst 1, 1) := by decide +kernel
theorem dX9_isFree_26 : decode cX9_isFree 26 = .ok (.goto 4, 3) := by decide +kernel
theorem dX9_isFree_29 : decode cX9_isFree 29 = .ok (.iconst 0, 1) := by decide +kernel
theorem dX9_isFree_30 : decode cX9_isFree 30 = .ok (.ireturn, 1) := by decide +kernel
theorem dX9_mayTake_0 : decode cX9_mayTake 0 = .ok (.aload_n 0, 1) := by decide +kernel
theorem dX9_mayTake_1 : decode cX9_mayTake 1 = .ok (.iload_n 1, 1) := by decide +kernel
theorem dX9_mayTake_2 : decode cX9_mayTake 2 = .ok (.invokevirtual 49, 3) := by decide +kernel
theorem dX9_mayTake_5 : decode cX9_mayTake 5 = .ok (.ifCond .ne 34, 3) := by decide +kernel
theorem dX9_mayTake_8 : decode cX9_mayTake 8 = .ok (.aload_n 0, 1) := by decide +kernel
theorem dX9_mayTake_9 : decode cX9_mayTake 9 = .ok (.iload_n 2, 1) := by decide +kernel
theorem dX9_mayTake_10 : decode cX9_mayTake 10 = .ok (.invokevirtual 111, 3) := by decide +kernel
theorem dX9_mayTake_13 : decode cX9_mayTake 13 = .ok (.ifCond .eq 26, 3) := by decide +kernel
theorem dX9_mayTake_16 : decode cX9_mayTake 16 = .ok (.aload_n 0, 1) := by decide +kernel
theorem dX9_mayTake_17 : decode cX9_mayTake 17 = .ok (.iload_n 1, 1) := by decide +kernel
theorem dX9_mayTake_18 : decode cX9_mayTake 18 = .ok (.iload_n 2, 1) := by decide +kernel
theorem dX9_mayTake_19 : decode cX9_mayTake 19 = .ok (.invokevirtual 114, 3) := by decide +kernel
theorem dX9_mayTake_22 : decode cX9_mayTake 22 = .ok (.ifCond .ne 17, 3) := by decide +kernel
theorem dX9_mayTake_25 : decode cX9_mayTake 25 = .ok (.iload_n 3, 1) := by decide +kernel
theorem dX9_mayTake_26 : decode cX9_mayTake 26 = .ok (.aload_n 0, 1) := by decide +kernel
theorem dX9_mayTake_27 : decode cX9_mayTake 27 = .ok (.iload_n 1, 1) := by decide +kernel
theorem dX9_mayTake_28 : decode cX9_mayTake 28 = .ok (.iload_n 2, 1) := by decide +kernel
theorem dX9_mayTake_29 : decode cX9_mayTake 29 = .ok (.invokevirtual 67, 3) := by decide +kernel
theorem dX9_mayTake_32 : decode cX9_mayTake 32 = .ok (.if_icmp .lt 7, 3) := by decide +kernel
theorem dX9_mayTake_35 : decode cX9_mayTake 35 = .ok (.iconst 1, 1) := by decide +kernel
theorem dX9_mayTake_36 : decode cX9_mayTake 36 = .ok (.goto 4, 3) := by decide +kernel
theorem dX9_mayTake_39 : decode cX9_mayTake 39 = .ok (.iconst 0, 1) := by decide +kernel
theorem dX9_mayTake_40 : decode cX9_mayTake 40 = .ok (.ireturn, 1) := by decide +kernel
theorem dX9_giveTo_0 : decode cX9_giveTo 0 = .ok (.aload_n 0, 1) := by decide +kernel
theorem dX9_giveTo_1 : decode cX9_giveTo 1 = .ok (.iload_n 1, 1) := by decide +kernel
theorem dX9_giveTo_2 : decode cX9_giveTo 2 = .ok (.iload_n 2, 1) := by decide +kernel
theorem dX9_giveTo_3 : decode cX9_giveTo 3 = .ok (.invokevirtual 67, 3) := by decide +kernel
theorem dX9_giveTo_6 : decode cX9_giveTo 6 = .ok (.istore 4, 2) := by decide +kernel
theorem dX9_giveTo_8 : decode cX9_giveTo 8 = .ok (.aload_n 0, 1) := by decide +kernel
theorem dX9_giveTo_9 : decode cX9_giveTo 9 = .ok (.iload_n 1, 1) := by decide +kernel
theorem dX9_giveTo_10 : decode cX9_giveTo 10 = .ok (.iload 4, 2) := by decide +kernel
theorem dX9_giveTo_12 : decode cX9_giveTo 12 = .ok (.invokevirtual 117, 3) := by decide +kernel
theorem dX9_giveTo_15 : decode cX9_giveTo 15 = .ok (.aload_n 0, 1) := by decide +kernel
theorem dX9_giveTo_16 : decode cX9_giveTo 16 = .ok (.getfield 12, 3) := by decide +kernel
theorem dX9_giveTo_19 : decode cX9_giveTo 19 = .ok (.iload_n 2, 1) := by decide +kernel
theorem dX9_giveTo_20 : decode cX9_giveTo 20 = .ok (.iload_n 1, 1) := by decide +kernel
theorem dX9_giveTo_21 : decode cX9_giveTo 21 = .ok (.iload_n 3, 1) := by decide +kernel
theorem dX9_giveTo_22 : decode cX9_giveTo 22 = .ok (.invokevirtual 121, 3) := by decide +kernel
theorem dX9_giveTo_25 : decode cX9_giveTo 25 = .ok (.iload 4, 2) := by decide +kernel
theorem dX9_giveTo_27 : decode cX9_giveTo 27 = .ok (.ireturn, 1) := by decide +kernel
theorem dX9_pay_0 : decode cX9_pay 0 = .ok (.aload_n 0, 1) := by decide +kernel
theorem dX9_pay_1 : decode cX9_pay 1 = .ok (.getfield 12, 3) := by decide +kernel
theorem dX9_pay_4 : decode cX9_pay 4 = .ok (.getfield 74, 3) := by decide +kernel
theorem dX9_pay_7 : decode cX9_pay 7 = .ok (.iload_n 1, 1) := by decide +kernel
theorem dX9_pay_8 : decode cX9_pay 8 = .ok (.dup2, 1) := by decide +kernel
theorem dX9_pay_9 : decode cX9_pay 9 = .ok (.iaload, 1) := by decide +kernel
theorem dX9_pay_10 : decode cX9_pay 10 = .ok (.iload_n 2, 1) := by decide +kernel
theorem dX9_pay_11 : decode cX9_pay 11 = .ok (.isub, 1) := by decide +kernel
theorem dX9_pay_12 : decode cX9_pay 12 = .ok (.iastore, 1) := by decide +kernel
theorem dX9_pay_13 : decode cX9_pay 13 = .ok (.aload_n 0, 1) := by decide +kernel
theorem dX9_pay_14 : decode cX9_pay 14 = .ok (.getfield 12, 3) := by decide +kernel
theorem dX9_pay_17 : decode cX9_pay 17 = .ok (.dup, 1) := by decide +kernel
theorem dX9_pay_18 : decode cX9_pay 18 = .ok (.getfield 125, 3) := by decide +kernel
theorem dX9_pay_21 : decode cX9_pay 21 = .ok (.iload_n 2, 1) := by decide +kernel
theorem dX9_pay_22 : decode cX9_pay 22 = .ok (.iadd, 1) := by decide +kernel
theorem dX9_pay_23 : decode cX9_pay 23 = .ok (.putfield 125, 3) := by decide +kernel
theorem dX9_pay_26 : decode cX9_pay 26 = .ok (.return_, 1) := by decide +kernel
theorem dX9_maySublet_0 : decode cX9_maySublet 0 = .ok (.aload_n 0, 1) := by decide +kernel
theorem dX9_maySublet_1 : decode cX9_maySublet 1 = .ok (.getfield 12, 3) := by decide +kernel
theorem dX9_maySublet_4 : decode cX9_maySublet 4 = .ok (.getfield 64, 3) := by decide +kernel
theorem dX9_maySublet_7 : decode cX9_maySublet 7 = .ok (.iload_n 1, 1) := by decide +kernel
theorem dX9_maySublet_8 : decode cX9_maySublet 8 = .ok (.iaload, 1) := by decide +kernel
theorem dX9_maySublet_9 : decode cX9_maySublet 9 = .ok (.istore 4, 2) := by decide +kernel
theorem dX9_maySublet_11 : decode cX9_maySublet 11 = .ok (.iload 4, 2) := by decide +kernel
theorem dX9_maySublet_13 : decode cX9_maySublet 13 = .ok (.iconst (-1), 1) := by decide +kernel
theorem dX9_maySublet_14 : decode cX9_maySublet 14 = .ok (.if_icmp .eq 56, 3) := by decide +kernel
theorem dX9_maySublet_17 : decode cX9_maySublet 17 = .ok (.aload_n 0, 1) := by decide +kernel
theorem dX9_maySublet_18 : decode cX9_maySublet 18 = .ok (.getfield 12, 3) := by decide +kernel
theorem dX9_maySublet_21 : decode cX9_maySublet 21 = .ok (.getfield 61, 3) := by decide +kernel
theorem dX9_maySublet_24 : decode cX9_maySublet 24 = .ok (.iload_n 1, 1) := by decide +kernel
theorem dX9_maySublet_25 : decode cX9_maySublet 25 = .ok (.iaload, 1) := by decide +kernel
theorem dX9_maySublet_26 : decode cX9_maySublet 26 = .ok (.iconst (-1), 1) := by decide +kernel
theorem dX9_maySublet_27 : decode cX9_maySublet 27 = .ok (.if_icmp .ne 43, 3) := by decide +kernel
theorem dX9_maySublet_30 : decode cX9_maySublet 30 = .ok (.iload 4, 2) := by decide +kernel
theorem dX9_maySublet_32 : decode cX9_maySublet 32 = .ok (.iload_n 2, 1) := by decide +kernel
theorem dX9_maySublet_33 : decode cX9_maySublet 33 = .ok (.if_icmp .eq 37, 3) := by decide +kernel
theorem dX9_maySublet_36 : decode cX9_maySublet 36 = .ok (.aload_n 0, 1) := by decide +kernel
theorem dX9_maySublet_37 : decode cX9_maySublet 37 = .ok (.iload_n 2, 1) := by decide +kernel
theorem dX9_maySublet_38 : decode cX9_maySublet 38 = .ok (.invokevirtual 49, 3) := by decide +kernel
theorem dX9_maySublet_41 : decode cX9_maySublet 41 = .ok (.ifCond .ne 29, 3) := by decide +kernel
theorem dX9_maySublet_44 : decode cX9_maySublet 44 = .ok (.aload_n 0, 1) := by decide +kernel
theorem dX9_maySublet_45 : decode cX9_maySublet 45 = .ok (.getfield 12, 3) := by decide +kernel
theorem dX9_maySublet_48 : decode cX9_maySublet 48 = .ok (.getfield 74, 3) := by decide +kernel
theorem dX9_maySublet_51 : decode cX9_maySublet 51 = .ok (.iload_n 2, 1) := by decide +kernel
theorem dX9_maySublet_52 : decode cX9_maySublet 52 = .ok (.iaload, 1) := by decide +kernel
theorem dX9_maySublet_53 : decode cX9_maySublet 53 = .ok (.iload_n 3, 1) := by decide +kernel
theorem dX9_maySublet_54 : decode cX9_maySublet 54 = .ok (.if_icmp .lt 16, 3) := by decide +kernel
theorem dX9_maySublet_57 : decode cX9_maySublet 57 = .ok (.aload_n 0, 1) := by decide +kernel
theorem dX9_maySublet_58 : decode cX9_maySublet 58 = .ok (.iload_n 2, 1) := by decide +kernel
theorem dX9_maySublet_59 : decode cX9_maySublet 59 = .ok (.iload_n 1, 1) := by decide +kernel
theorem dX9_maySublet_60 : decode cX9_maySublet 60 = .ok (.invokevirtual 114, 3) := by decide +kernel
theorem dX9_maySublet_63 : decode cX9_maySublet 63 = .ok (.ifCond .ne 7, 3) := by decide +kernel
theorem dX9_maySublet_66 : decode cX9_maySublet 66 = .ok (.iconst 1, 1) := by decide +kernel
theorem dX9_maySublet_67 : decode cX9_maySublet 67 = .ok (.goto 4, 3) := by decide +kernel
theorem dX9_maySublet_70 : decode cX9_maySublet 70 = .ok (.iconst 0, 1) := by decide +kernel
theorem dX9_maySublet_71 : decode cX9_maySublet 71 = .ok (.ireturn, 1) := by decide +kernel
theorem dX9_subletTo_0 : decode cX9_subletTo 0 = .ok (.aload_n 0, 1) := by decide +kernel
theorem dX9_subletTo_1 : decode cX9_subletTo 1 = .ok (.getfield 12, 3) := by decide +kernel
theorem dX9_subletTo_4 : decode cX9_subletTo 4 = .ok (.getfield 64, 3) := by decide +kernel
theorem dX9_subletTo_7 : decode cX9_subletTo 7 = .ok (.iload_n 1, 1) := by decide +kernel
theorem dX9_subletTo_8 : decode cX9_subletTo 8 = .ok (.iaload, 1) := by decide +kernel
theorem dX9_subletTo_9 : decode cX9_subletTo 9 = .ok (.istore 4, 2) := by decide +kernel
theorem dX9_subletTo_11 : decode cX9_subletTo 11 = .ok (.iload_n 3, 1) := by decide +kernel
theorem dX9_subletTo_12 : decode cX9_subletTo 12 = .ok (.sipush 9999, 3) := by decide +kernel
theorem dX9_subletTo_15 : decode cX9_subletTo 15 = .ok (.aload_n 0, 1) := by decide +kernel
theorem dX9_subletTo_16 : decode cX9_subletTo 16 = .ok (.getfield 12, 3) := by decide +kernel
theorem dX9_subletTo_19 : decode cX9_subletTo 19 = .ok (.getfield 74, 3) := by decide +kernel
theorem dX9_subletTo_22 : decode cX9_subletTo 22 = .ok (.iload 4, 2) := by decide +kernel
theorem dX9_subletTo_24 : decode cX9_subletTo 24 = .ok (.iaload, 1) := by decide +kernel
theorem dX9_subletTo_25 : decode cX9_subletTo 25 = .ok (.isub, 1) := by decide +kernel
theorem dX9_subletTo_26 : decode cX9_subletTo 26 = .ok (.invokestatic 128, 3) := by decide +kernel
theorem dX9_subletTo_29 : decode cX9_subletTo 29 = .ok (.istore 5, 2) := by decide +kernel
theorem dX9_subletTo_31 : decode cX9_subletTo 31 = .ok (.aload_n 0, 1) := by decide +kernel
theorem dX9_subletTo_32 : decode cX9_subletTo 32 = .ok (.getfield 12, 3) := by decide +kernel
theorem dX9_subletTo_35 : decode cX9_subletTo 35 = .ok (.getfield 74, 3) := by decide +kernel
theorem dX9_subletTo_38 : decode cX9_subletTo 38 = .ok (.iload_n 2, 1) := by decide +kernel
theorem dX9_subletTo_39 : decode cX9_subletTo 39 = .ok (.dup2, 1) := by decide +kernel
theorem dX9_subletTo_40 : decode cX9_subletTo 40 = .ok (.iaload, 1) := by decide +kernel
theorem dX9_subletTo_41 : decode cX9_subletTo 41 = .ok (.iload_n 3, 1) := by decide +kernel
theorem dX9_subletTo_42 : decode cX9_subletTo 42 = .ok (.isub, 1) := by decide +kernel
theorem dX9_subletTo_43 : decode cX9_subletTo 43 = .ok (.iastore, 1) := by decide +kernel
theorem dX9_subletTo_44 : decode cX9_subletTo 44 = .ok (.aload_n 0, 1) := by decide +kernel
theorem dX9_subletTo_45 : decode cX9_subletTo 45 = .ok (.getfield 12, 3) := by decide +kernel
theorem dX9_subletTo_48 : decode cX9_subletTo 48 = .ok (.getfield 74, 3) := by decide +kernel
theorem dX9_subletTo_51 : decode cX9_subletTo 51 = .ok (.iload 4, 2) := by decide +kernel
theorem dX9_subletTo_53 : decode cX9_subletTo 53 = .ok (.dup2, 1) := by decide +kernel
theorem dX9_subletTo_54 : decode cX9_subletTo 54 = .ok (.iaload, 1) := by decide +kernel
theorem dX9_subletTo_55 : decode cX9_subletTo 55 = .ok (.iload 5, 2) := by decide +kernel
theorem dX9_subletTo_57 : decode cX9_subletTo 57 = .ok (.iadd, 1) := by decide +kernel
theorem dX9_subletTo_58 : decode cX9_subletTo 58 = .ok (.iastore, 1) := by decide +kernel
theorem dX9_subletTo_59 : decode cX9_subletTo 59 = .ok (.aload_n 0, 1) := by decide +kernel
theorem dX9_subletTo_60 : decode cX9_subletTo 60 = .ok (.getfield 12, 3) := by decide +kernel
theorem dX9_subletTo_63 : decode cX9_subletTo 63 = .ok (.dup, 1) := by decide +kernel
theorem dX9_subletTo_64 : decode cX9_subletTo 64 = .ok (.getfield 125, 3) := by decide +kernel
theorem dX9_subletTo_67 : decode cX9_subletTo 67 = .ok (.iload_n 3, 1) := by decide +kernel
theorem dX9_subletTo_68 : decode cX9_subletTo 68 = .ok (.iload 5, 2) := by decide +kernel
theorem dX9_subletTo_70 : decode cX9_subletTo 70 = .ok (.isub, 1) := by decide +kernel
theorem dX9_subletTo_71 : decode cX9_subletTo 71 = .ok (.iadd, 1) := by decide +kernel
theorem dX9_subletTo_72 : decode cX9_subletTo 72 = .ok (.putfield 125, 3) := by decide +kernel
theorem dX9_subletTo_75 : decode cX9_subletTo 75 = .ok (.aload_n 0, 1) := by decide +kernel
theorem dX9_subletTo_76 : decode cX9_subletTo 76 = .ok (.getfield 12, 3) := by decide +kernel
theorem dX9_subletTo_79 : decode cX9_subletTo 79 = .ok (.getfield 61, 3) := by decide +kernel
theorem dX9_subletTo_82 : decode cX9_subletTo 82 = .ok (.iload_n 1, 1) := by decide +kernel
theorem dX9_subletTo_83 : decode cX9_subletTo 83 = .ok (.iload_n 2, 1) := by decide +kernel
theorem dX9_subletTo_84 : decode cX9_subletTo 84 = .ok (.iastore, 1) := by decide +kernel
theorem dX9_subletTo_85 : decode cX9_subletTo 85 = .ok (.aload_n 0, 1) := by decide +kernel
theorem dX9_subletTo_86 : decode cX9_subletTo 86 = .ok (.getfield 12, 3) := by decide +kernel
theorem dX9_subletTo_89 : decode cX9_subletTo 89 = .ok (.iload_n 1, 1) := by decide +kernel
theorem dX9_subletTo_90 : decode cX9_subletTo 90 = .ok (.iload_n 2, 1) := by decide +kernel
theorem dX9_subletTo_91 : decode cX9_subletTo 91 = .ok (.iconst 1, 1) := by decide +kernel
theorem dX9_subletTo_92 : decode cX9_subletTo 92 = .ok (.invokevirtual 133, 3) := by decide +kernel
theorem dX9_subletTo_95 : decode cX9_subletTo 95 = .ok (.return_, 1) := by decide +kernel
theorem dX9_putOut_0 : decode cX9_putOut 0 = .ok (.aload_n 0, 1) := by decide +kernel
theorem dX9_putOut_1 : decode cX9_putOut 1 = .ok (.getfield 12, 3) := by decide +kernel
theorem dX9_putOut_4 : decode cX9_putOut 4 = .ok (.getfield 64, 3) := by decide +kernel
theorem dX9_putOut_7 : decode cX9_putOut 7 = .ok (.iload_n 1, 1) := by decide +kernel
theorem dX9_putOut_8 : decode cX9_putOut 8 = .ok (.iaload, 1) := by decide +kernel
theorem dX9_putOut_9 : decode cX9_putOut 9 = .ok (.istore_n 2, 1) := by decide +kernel
theorem dX9_putOut_10 : decode cX9_putOut 10 = .ok (.iload_n 1, 1) := by decide +kernel
theorem dX9_putOut_11 : decode cX9_putOut 11 = .ok (.iload_n 1, 1) := by decide +kernel
theorem dX9_putOut_12 : decode cX9_putOut 12 = .ok (.bipush 24, 2) := by decide +kernel
theorem dX9_putOut_14 : decode cX9_putOut 14 = .ok (.irem, 1) := by decide +kernel
theorem dX9_putOut_15 : decode cX9_putOut 15 = .ok (.isub, 1) := by decide +kernel
theorem dX9_putOut_16 : decode cX9_putOut 16 = .ok (.iconst 3, 1) := by decide +kernel
theorem dX9_putOut_17 : decode cX9_putOut 17 = .ok (.iadd, 1) := by decide +kernel
theorem dX9_putOut_18 : decode cX9_putOut 18 = .ok (.istore_n 3, 1) := by decide +kernel
theorem dX9_putOut_19 : decode cX9_putOut 19 = .ok (.iload_n 3, 1) := by decide +kernel
theorem dX9_putOut_20 : decode cX9_putOut 20 = .ok (.iload_n 1, 1) := by decide +kernel
theorem dX9_putOut_21 : decode cX9_putOut 21 = .ok (.if_icmp .eq 15, 3) := by decide +kernel
theorem dX9_putOut_24 : decode cX9_putOut 24 = .ok (.aload_n 0, 1) := by decide +kernel
theorem dX9_putOut_25 : decode cX9_putOut 25 = .ok (.iload_n 3, 1) := by decide +kernel
theorem dX9_putOut_26 : decode cX9_putOut 26 = .ok (.invokevirtual 111, 3) := by decide +kernel
theorem dX9_putOut_29 : decode cX9_putOut 29 = .ok (.ifCond .eq 7, 3) := by decide +kernel
theorem dX9_putOut_32 : decode cX9_putOut 32 = .ok (.iconst 1, 1) := by decide +kernel
theorem dX9_putOut_33 : decode cX9_putOut 33 = .ok (.goto 4, 3) := by decide +kernel
theorem dX9_putOut_36 : decode cX9_putOut 36 = .ok (.iconst 0, 1) := by decide +kernel
theorem dX9_putOut_37 : decode cX9_putOut 37 = .ok (.istore 4, 2) := by decide +kernel
theorem dX9_putOut_39 : decode cX9_putOut 39 = .ok (.aload_n 0, 1) := by decide +kernel
theorem dX9_putOut_40 : decode cX9_putOut 40 = .ok (.getfield 12, 3) := by decide +kernel
theorem dX9_putOut_43 : decode cX9_putOut 43 = .ok (.iload_n 1, 1) := by decide +kernel
theorem dX9_putOut_44 : decode cX9_putOut 44 = .ok (.invokevirtual 136, 3) := by decide +kernel
theorem dX9_putOut_47 : decode cX9_putOut 47 = .ok (.iload 4, 2) := by decide +kernel
theorem dX9_putOut_49 : decode cX9_putOut 49 = .ok (.ifCond .ne 5, 3) := by decide +kernel
theorem dX9_putOut_52 : decode cX9_putOut 52 = .ok (.iconst (-1), 1) := by decide +kernel
theorem dX9_putOut_53 : decode cX9_putOut 53 = .ok (.ireturn, 1) := by decide +kernel
theorem dX9_putOut_54 : decode cX9_putOut 54 = .ok (.aload_n 0, 1) := by decide +kernel
theorem dX9_putOut_55 : decode cX9_putOut 55 = .ok (.getfield 12, 3) := by decide +kernel
theorem dX9_putOut_58 : decode cX9_putOut 58 = .ok (.iload_n 3, 1) := by decide +kernel
theorem dX9_putOut_59 : decode cX9_putOut 59 = .ok (.iload_n 2, 1) := by decide +kernel
theorem dX9_putOut_60 : decode cX9_putOut 60 = .ok (.iconst 2, 1) := by decide +kernel
theorem dX9_putOut_61 : decode cX9_putOut 61 = .ok (.invokevirtual 121, 3) := by decide +kernel
theorem dX9_putOut_64 : decode cX9_putOut 64 = .ok (.iload_n 3, 1) := by decide +kernel
theorem dX9_putOut_65 : decode cX9_putOut 65 = .ok (.ireturn, 1) := by decide +kernel
theorem dX9_maySwap_0 : decode cX9_maySwap 0 = .ok (.aload_n 0, 1) := by decide +kernel
theorem dX9_maySwap_1 : decode cX9_maySwap 1 = .ok (.getfield 12, 3) := by decide +kernel
theorem dX9_maySwap_4 : decode cX9_maySwap 4 = .ok (.getfield 64, 3) := by decide +kernel
theorem dX9_maySwap_7 : decode cX9_maySwap 7 = .ok (.iload_n 1, 1) := by decide +kernel
theorem dX9_maySwap_8 : decode cX9_maySwap 8 = .ok (.iaload, 1) := by decide +kernel
theorem dX9_maySwap_9 : decode cX9_maySwap 9 = .ok (.istore_n 3, 1) := by decide +kernel
theorem dX9_maySwap_10 : decode cX9_maySwap 10 = .ok (.aload_n 0, 1) := by decide +kernel
theorem dX9_maySwap_11 : decode cX9_maySwap 11 = .ok (.getfield 12, 3) := by decide +kernel
theorem dX9_maySwap_14 : decode cX9_maySwap 14 = .ok (.getfield 64, 3) := by decide +kernel
theorem dX9_maySwap_17 : decode cX9_maySwap 17 = .ok (.iload_n 2, 1) := by decide +kernel
theorem dX9_maySwap_18 : decode cX9_maySwap 18 = .ok (.iaload, 1) := by decide +kernel
theorem dX9_maySwap_19 : decode cX9_maySwap 19 = .ok (.istore 4, 2) := by decide +kernel
theorem dX9_maySwap_21 : decode cX9_maySwap 21 = .ok (.iload_n 3, 1) := by decide +kernel
theorem dX9_maySwap_22 : decode cX9_maySwap 22 = .ok (.iconst (-1), 1) := by decide +kernel
theorem dX9_maySwap_23 : decode cX9_maySwap 23 = .ok (.if_icmp .eq 64, 3) := by decide +kernel
theorem dX9_maySwap_26 : decode cX9_maySwap 26 = .ok (.iload 4, 2) := by decide +kernel
theorem dX9_maySwap_28 : decode cX9_maySwap 28 = .ok (.iconst (-1), 1) := by decide +kernel
theorem dX9_maySwap_29 : decode cX9_maySwap 29 = .ok (.if_icmp .eq 58, 3) := by decide +kernel
theorem dX9_maySwap_32 : decode cX9_maySwap 32 = .ok (.iload_n 3, 1) := by decide +kernel
theorem dX9_maySwap_33 : decode cX9_maySwap 33 = .ok (.iload 4, 2) := by decide +kernel
theorem dX9_maySwap_35 : decode cX9_maySwap 35 = .ok (.if_icmp .eq 52, 3) := by decide +kernel
theorem dX9_maySwap_38 : decode cX9_maySwap 38 = .ok (.aload_n 0, 1) := by decide +kernel
theorem dX9_maySwap_39 : decode cX9_maySwap 39 = .ok (.getfield 12, 3) := by decide +kernel
theorem dX9_maySwap_42 : decode cX9_maySwap 42 = .ok (.getfield 61, 3) := by decide +kernel
theorem dX9_maySwap_45 : decode cX9_maySwap 45 = .ok (.iload_n 1, 1) := by decide +kernel
theorem dX9_maySwap_46 : decode cX9_maySwap 46 = .ok (.iaload, 1) := by decide +kernel
theorem dX9_maySwap_47 : decode cX9_maySwap 47 = .ok (.iconst (-1), 1) := by decide +kernel
theorem dX9_maySwap_48 : decode cX9_maySwap 48 = .ok (.if_icmp .ne 39, 3) := by decide +kernel
theorem dX9_maySwap_51 : decode cX9_maySwap 51 = .ok (.aload_n 0, 1) := by decide +kernel
theorem dX9_maySwap_52 : decode cX9_maySwap 52 = .ok (.getfield 12, 3) := by decide +kernel
theorem dX9_maySwap_55 : decode cX9_maySwap 55 = .ok (.getfield 61, 3) := by decide +kernel
theorem dX9_maySwap_58 : decode cX9_maySwap 58 = .ok (.iload_n 2, 1) := by decide +kernel
theorem dX9_maySwap_59 : decode cX9_maySwap 59 = .ok (.iaload, 1) := by decide +kernel
theorem dX9_maySwap_60 : decode cX9_maySwap 60 = .ok (.iconst (-1), 1) := by decide +kernel
theorem dX9_maySwap_61 : decode cX9_maySwap 61 = .ok (.if_icmp .ne 26, 3) := by decide +kernel
theorem dX9_maySwap_64 : decode cX9_maySwap 64 = .ok (.aload_n 0, 1) := by decide +kernel
theorem dX9_maySwap_65 : decode cX9_maySwap 65 = .ok (.iload 4, 2) := by decide +kernel
theorem dX9_maySwap_67 : decode cX9_maySwap 67 = .ok (.iload_n 1, 1) := by decide +kernel
theorem dX9_maySwap_68 : decode cX9_maySwap 68 = .ok (.invokevirtual 114, 3) := by decide +kernel
theorem dX9_maySwap_71 : decode cX9_maySwap 71 = .ok (.ifCond .ne 16, 3) := by decide +kernel
theorem dX9_maySwap_74 : decode cX9_maySwap 74 = .ok (.aload_n 0, 1) := by decide +kernel
theorem dX9_maySwap_75 : decode cX9_maySwap 75 = .ok (.iload_n 3, 1) := by decide +kernel
theorem dX9_maySwap_76 : decode cX9_maySwap 76 = .ok (.iload_n 2, 1) := by decide +kernel
theorem dX9_maySwap_77 : decode cX9_maySwap 77 = .ok (.invokevirtual 114, 3) := by decide +kernel
theorem dX9_maySwap_80 : decode cX9_maySwap 80 = .ok (.ifCond .ne 7, 3) := by decide +kernel
theorem dX9_maySwap_83 : decode cX9_maySwap 83 = .ok (.iconst 1, 1) := by decide +kernel
theorem dX9_maySwap_84 : decode cX9_maySwap 84 = .ok (.goto 4, 3) := by decide +kernel
theorem dX9_maySwap_87 : decode cX9_maySwap 87 = .ok (.iconst 0, 1) := by decide +kernel
theorem dX9_maySwap_88 : decode cX9_maySwap 88 = .ok (.ireturn, 1) := by decide +kernel
theorem dX9_tickOn_0 : decode cX9_tickOn 0 = .ok (.aload_n 0, 1) := by decide +kernel
theorem dX9_tickOn_1 : decode cX9_tickOn 1 = .ok (.getfield 12, 3) := by decide +kernel
theorem dX9_tickOn_4 : decode cX9_tickOn 4 = .ok (.aload_n 0, 1) := by decide +kernel
theorem dX9_tickOn_5 : decode cX9_tickOn 5 = .ok (.getfield 12, 3) := by decide +kernel
theorem dX9_tickOn_8 : decode cX9_tickOn 8 = .ok (.getfield 140, 3) := by decide +kernel
theorem dX9_tickOn_11 : decode cX9_tickOn 11 = .ok (.invokestatic 90, 3) := by decide +kernel
theorem dX9_tickOn_14 : decode cX9_tickOn 14 = .ok (.putfield 140, 3) := by decide +kernel
theorem dX9_tickOn_17 : decode cX9_tickOn 17 = .ok (.aload_n 0, 1) := by decide +kernel
theorem dX9_tickOn_18 : decode cX9_tickOn 18 = .ok (.getfield 12, 3) := by decide +kernel
theorem dX9_tickOn_21 : decode cX9_tickOn 21 = .ok (.getfield 140, 3) := by decide +kernel
theorem dX9_tickOn_24 : decode cX9_tickOn 24 = .ok (.ifCond .eq 4, 3) := by decide +kernel
theorem dX9_tickOn_27 : decode cX9_tickOn 27 = .ok (.return_, 1) := by decide +kernel
theorem dX9_tickOn_28 : decode cX9_tickOn 28 = .ok (.aload_n 0, 1) := by decide +kernel
theorem dX9_tickOn_29 : decode cX9_tickOn 29 = .ok (.getfield 12, 3) := by decide +kernel
theorem dX9_tickOn_32 : decode cX9_tickOn 32 = .ok (.dup, 1) := by decide +kernel
theorem dX9_tickOn_33 : decode cX9_tickOn 33 = .ok (.getfield 80, 3) := by decide +kernel
theorem dX9_tickOn_36 : decode cX9_tickOn 36 = .ok (.iconst 1, 1) := by decide +kernel
theorem dX9_tickOn_37 : decode cX9_tickOn 37 = .ok (.iadd, 1) := by decide +kernel
theorem dX9_tickOn_38 : decode cX9_tickOn 38 = .ok (.putfield 80, 3) := by decide +kernel
theorem dX9_tickOn_41 : decode cX9_tickOn 41 = .ok (.iconst 0, 1) := by decide +kernel
theorem dX9_tickOn_42 : decode cX9_tickOn 42 = .ok (.istore_n 1, 1) := by decide +kernel
theorem dX9_tickOn_43 : decode cX9_tickOn 43 = .ok (.iload_n 1, 1) := by decide +kernel
theorem dX9_tickOn_44 : decode cX9_tickOn 44 = .ok (.aload_n 0, 1) := by decide +kernel
theorem dX9_tickOn_45 : decode cX9_tickOn 45 = .ok (.getfield 21, 3) := by decide +kernel
theorem dX9_tickOn_48 : decode cX9_tickOn 48 = .ok (.getfield 53, 3) := by decide +kernel
theorem dX9_tickOn_51 : decode cX9_tickOn 51 = .ok (.if_icmp .ge 14, 3) := by decide +kernel
theorem dX9_tickOn_54 : decode cX9_tickOn 54 = .ok (.aload_n 0, 1) := by decide +kernel
theorem dX9_tickOn_55 : decode cX9_tickOn 55 = .ok (.iload_n 1, 1) := by decide +kernel
theorem dX9_tickOn_56 : decode cX9_tickOn 56 = .ok (.invokevirtual 143, 3) := by decide +kernel
theorem dX9_tickOn_59 : decode cX9_tickOn 59 = .ok (.iinc 1 1, 3) := by decide +kernel
theorem dX9_tickOn_62 : decode cX9_tickOn 62 = .ok (.goto (-19), 3) := by decide +kernel
theorem dX9_tickOn_65 : decode cX9_tickOn 65 = .ok (.iconst 0, 1) := by decide +kernel
theorem dX9_tickOn_66 : decode cX9_tickOn 66 = .ok (.istore_n 1, 1) := by decide +kernel
theorem dX9_tickOn_67 : decode cX9_tickOn 67 = .ok (.iload_n 1, 1) := by decide +kernel
theorem dX9_tickOn_68 : decode cX9_tickOn 68 = .ok (.aload_n 0, 1) := by decide +kernel
theorem dX9_tickOn_69 : decode cX9_tickOn 69 = .ok (.getfield 21, 3) := by decide +kernel
theorem dX9_tickOn_72 : decode cX9_tickOn 72 = .ok (.getfield 53, 3) := by decide +kernel
theorem dX9_tickOn_75 : decode cX9_tickOn 75 = .ok (.if_icmp .ge 22, 3) := by decide +kernel
theorem dX9_tickOn_78 : decode cX9_tickOn 78 = .ok (.aload_n 0, 1) := by decide +kernel
theorem dX9_tickOn_79 : decode cX9_tickOn 79 = .ok (.iload_n 1, 1) := by decide +kernel
theorem dX9_tickOn_80 : decode cX9_tickOn 80 = .ok (.invokevirtual 49, 3) := by decide +kernel
theorem dX9_tickOn_83 : decode cX9_tickOn 83 = .ok (.ifCond .ne 8, 3) := by decide +kernel
theorem dX9_tickOn_86 : decode cX9_tickOn 86 = .ok (.aload_n 0, 1) := by decide +kernel
theorem dX9_tickOn_87 : decode cX9_tickOn 87 = .ok (.iload_n 1, 1) := by decide +kernel
theorem dX9_tickOn_88 : decode cX9_tickOn 88 = .ok (.invokevirtual 146, 3) := by decide +kernel
theorem dX9_tickOn_91 : decode cX9_tickOn 91 = .ok (.iinc 1 1, 3) := by decide +kernel
theorem dX9_tickOn_94 : decode cX9_tickOn 94 = .ok (.goto (-27), 3) := by decide +kernel
theorem dX9_tickOn_97 : decode cX9_tickOn 97 = .ok (.return_, 1) := by decide +kernel
theorem dX9_payRents_0 : decode cX9_payRents 0 = .ok (.iconst 0, 1) := by decide +kernel
theorem dX9_payRents_1 : decode cX9_payRents 1 = .ok (.istore_n 2, 1) := by decide +kernel
theorem dX9_payRents_2 : decode cX9_payRents 2 = .ok (.iload_n 2, 1) := by decide +kernel
theorem dX9_payRents_3 : decode cX9_payRents 3 = .ok (.sipush 168, 3) := by decide +kernel
theorem dX9_payRents_6 : decode cX9_payRents 6 = .ok (.if_icmp .ge 59, 3) := by decide +kernel
theorem dX9_payRents_9 : decode cX9_payRents 9 = .ok (.aload_n 0, 1) := by decide +kernel
theorem dX9_payRents_10 : decode cX9_payRents 10 = .ok (.getfield 12, 3) := by decide +kernel
theorem dX9_payRents_13 : decode cX9_payRents 13 = .ok (.getfield 64, 3) := by decide +kernel
theorem dX9_payRents_16 : decode cX9_payRents 16 = .ok (.iload_n 2, 1) := by decide +kernel
theorem dX9_payRents_17 : decode cX9_payRents 17 = .ok (.iaload, 1) := by decide +kernel
theorem dX9_payRents_18 : decode cX9_payRents 18 = .ok (.iload_n 1, 1) := by decide +kernel
theorem dX9_payRents_19 : decode cX9_payRents 19 = .ok (.if_icmp .ne 40, 3) := by decide +kernel
theorem dX9_payRents_22 : decode cX9_payRents 22 = .ok (.aload_n 0, 1) := by decide +kernel
theorem dX9_payRents_23 : decode cX9_payRents 23 = .ok (.iload_n 1, 1) := by decide +kernel
theorem dX9_payRents_24 : decode cX9_payRents 24 = .ok (.iload_n 2, 1) := by decide +kernel
theorem dX9_payRents_25 : decode cX9_payRents 25 = .ok (.invokevirtual 67, 3) := by decide +kernel
theorem dX9_payRents_28 : decode cX9_payRents 28 = .ok (.istore_n 3, 1) := by decide +kernel
theorem dX9_payRents_29 : decode cX9_payRents 29 = .ok (.aload_n 0, 1) := by decide +kernel
theorem dX9_payRents_30 : decode cX9_payRents 30 = .ok (.getfield 12, 3) := by decide +kernel
theorem dX9_payRents_33 : decode cX9_payRents 33 = .ok (.getfield 74, 3) := by decide +kernel
theorem dX9_payRents_36 : decode cX9_payRents 36 = .ok (.iload_n 1, 1) := by decide +kernel
theorem dX9_payRents_37 : decode cX9_payRents 37 = .ok (.iaload, 1) := by decide +kernel
theorem dX9_payRents_38 : decode cX9_payRents 38 = .ok (.iload_n 3, 1) := by decide +kernel
theorem dX9_payRents_39 : decode cX9_payRents 39 = .ok (.if_icmp .lt 12, 3) := by decide +kernel
theorem dX9_payRents_42 : decode cX9_payRents 42 = .ok (.aload_n 0, 1) := by decide +kernel
theorem dX9_payRents_43 : decode cX9_payRents 43 = .ok (.iload_n 1, 1) := by decide +kernel
theorem dX9_payRents_44 : decode cX9_payRents 44 = .ok (.iload_n 3, 1) := by decide +kernel
theorem dX9_payRents_45 : decode cX9_payRents 45 = .ok (.invokevirtual 117, 3) := by decide +kernel
theorem dX9_payRents_48 : decode cX9_payRents 48 = .ok (.goto 11, 3) := by decide +kernel
theorem dX9_payRents_51 : decode cX9_payRents 51 = .ok (.aload_n 0, 1) := by decide +kernel
theorem dX9_payRents_52 : decode cX9_payRents 52 = .ok (.getfield 12, 3) := by decide +kernel
theorem dX9_payRents_55 : decode cX9_payRents 55 = .ok (.iload_n 2, 1) := by decide +kernel
theorem dX9_payRents_56 : decode cX9_payRents 56 = .ok (.invokevirtual 136, 3) := by decide +kernel
theorem dX9_payRents_59 : decode cX9_payRents 59 = .ok (.iinc 2 1, 3) := by decide +kernel
theorem dX9_payRents_62 : decode cX9_payRents 62 = .ok (.goto (-60), 3) := by decide +kernel
theorem dX9_payRents_65 : decode cX9_payRents 65 = .ok (.return_, 1) := by decide +kernel
theorem dX9_drawRoom_0 : decode cX9_drawRoom 0 = .ok (.aload_n 0, 1) := by decide +kernel
theorem dX9_drawRoom_1 : decode cX9_drawRoom 1 = .ok (.getfield 12, 3) := by decide +kernel
theorem dX9_drawRoom_4 : decode cX9_drawRoom 4 = .ok (.invokevirtual 149, 3) := by decide +kernel
theorem dX9_drawRoom_7 : decode cX9_drawRoom 7 = .ok (.bipush 100, 2) := by decide +kernel
theorem dX9_drawRoom_9 : decode cX9_drawRoom 9 = .ok (.irem, 1) := by decide +kernel
theorem dX9_drawRoom_10 : decode cX9_drawRoom 10 = .ok (.aload_n 0, 1) := by decide +kernel
theorem dX9_drawRoom_11 : decode cX9_drawRoom 11 = .ok (.getfield 21, 3) := by decide +kernel
theorem dX9_drawRoom_14 : decode cX9_drawRoom 14 = .ok (.getfield 153, 3) := by decide +kernel
theorem dX9_drawRoom_17 : decode cX9_drawRoom 17 = .ok (.if_icmp .ge 41, 3) := by decide +kernel
theorem dX9_drawRoom_20 : decode cX9_drawRoom 20 = .ok (.aload_n 0, 1) := by decide +kernel
theorem dX9_drawRoom_21 : decode cX9_drawRoom 21 = .ok (.getfield 12, 3) := by decide +kernel
theorem dX9_drawRoom_24 : decode cX9_drawRoom 24 = .ok (.invokevirtual 149, 3) := by decide +kernel
theorem dX9_drawRoom_27 : decode cX9_drawRoom 27 = .ok (.sipush 168, 3) := by decide +kernel
theorem dX9_drawRoom_30 : decode cX9_drawRoom 30 = .ok (.irem, 1) := by decide +kernel
theorem dX9_drawRoom_31 : decode cX9_drawRoom 31 = .ok (.istore_n 2, 1) := by decide +kernel
theorem dX9_drawRoom_32 : decode cX9_drawRoom 32 = .ok (.aload_n 0, 1) := by decide +kernel
theorem dX9_drawRoom_33 : decode cX9_drawRoom 33 = .ok (.iload_n 1, 1) := by decide +kernel
theorem dX9_drawRoom_34 : decode cX9_drawRoom 34 = .ok (.iload_n 2, 1) := by decide +kernel
theorem dX9_drawRoom_35 : decode cX9_drawRoom 35 = .ok (.aload_n 0, 1) := by decide +kernel
theorem dX9_drawRoom_36 : decode cX9_drawRoom 36 = .ok (.getfield 12, 3) := by decide +kernel
theorem dX9_drawRoom_39 : decode cX9_drawRoom 39 = .ok (.getfield 74, 3) := by decide +kernel
theorem dX9_drawRoom_42 : decode cX9_drawRoom 42 = .ok (.iload_n 1, 1) := by decide +kernel
theorem dX9_drawRoom_43 : decode cX9_drawRoom 43 = .ok (.iaload, 1) := by decide +kernel
theorem dX9_drawRoom_44 : decode cX9_drawRoom 44 = .ok (.invokevirtual 156, 3) := by decide +kernel
theorem dX9_drawRoom_47 : decode cX9_drawRoom 47 = .ok (.ifCond .eq 11, 3) := by decide +kernel
theorem dX9_drawRoom_50 : decode cX9_drawRoom 50 = .ok (.aload_n 0, 1) := by decide +kernel
theorem dX9_drawRoom_51 : decode cX9_drawRoom 51 = .ok (.iload_n 1, 1) := by decide +kernel
theorem dX9_drawRoom_52 : decode cX9_drawRoom 52 = .ok (.iload_n 2, 1) := by decide +kernel
theorem dX9_drawRoom_53 : decode cX9_drawRoom 53 = .ok (.iconst 5, 1) := by decide +kernel
theorem dX9_drawRoom_54 : decode cX9_drawRoom 54 = .ok (.invokevirtual 160, 3) := by decide +kernel
theorem dX9_drawRoom_57 : decode cX9_drawRoom 57 = .ok (.pop, 1) := by decide +kernel
theorem dX9_drawRoom_58 : decode cX9_drawRoom 58 = .ok (.return_, 1) := by decide +kernel
theorem dX5_init_0 : decode cX5_init 0 = .ok (.aload_n 0, 1) := by decide +kernel
theorem dX5_init_1 : decode cX5_init 1 = .ok (.invokespecial 3, 3) := by decide +kernel
theorem dX5_init_4 : decode cX5_init 4 = .ok (.aload_n 0, 1) := by decide +kernel
theorem dX5_init_5 : decode cX5_init 5 = .ok (.sipush 168, 3) := by decide +kernel
theorem dX5_init_8 : decode cX5_init 8 = .ok (.newarray .int, 2) := by decide +kernel
theorem dX5_init_10 : decode cX5_init 10 = .ok (.putfield 9, 3) := by decide +kernel
theorem dX5_init_13 : decode cX5_init 13 = .ok (.aload_n 0, 1) := by decide +kernel
theorem dX5_init_14 : decode cX5_init 14 = .ok (.aload_n 1, 1) := by decide +kernel
theorem dX5_init_15 : decode cX5_init 15 = .ok (.putfield 15, 3) := by decide +kernel
theorem dX5_init_18 : decode cX5_init 18 = .ok (.aload_n 0, 1) := by decide +kernel
theorem dX5_init_19 : decode cX5_init 19 = .ok (.aload_n 1, 1) := by decide +kernel
theorem dX5_init_20 : decode cX5_init 20 = .ok (.getfield 19, 3) := by decide +kernel
theorem dX5_init_23 : decode cX5_init 23 = .ok (.putfield 25, 3) := by decide +kernel
theorem dX5_init_26 : decode cX5_init 26 = .ok (.return_, 1) := by decide +kernel
theorem dX5_sideBySide_0 : decode cX5_sideBySide 0 = .ok (.iconst 0, 1) := by decide +kernel
theorem dX5_sideBySide_1 : decode cX5_sideBySide 1 = .ok (.istore 4, 2) := by decide +kernel
theorem dX5_sideBySide_3 : decode cX5_sideBySide 3 = .ok (.iconst 0, 1) := by decide +kernel
theorem dX5_sideBySide_4 : decode cX5_sideBySide 4 = .ok (.istore 5, 2) := by decide +kernel
theorem dX5_sideBySide_6 : decode cX5_sideBySide 6 = .ok (.iload 5, 2) := by decide +kernel
theorem dX5_sideBySide_8 : decode cX5_sideBySide 8 = .ok (.sipush 168, 3) := by decide +kernel
theorem dX5_sideBySide_11 : decode cX5_sideBySide 11 = .ok (.if_icmp .ge 48, 3) := by decide +kernel
theorem dX5_sideBySide_14 : decode cX5_sideBySide 14 = .ok (.aload_n 0, 1) := by decide +kernel
theorem dX5_sideBySide_15 : decode cX5_sideBySide 15 = .ok (.getfield 25, 3) := by decide +kernel
theorem dX5_sideBySide_18 : decode cX5_sideBySide 18 = .ok (.iload 5, 2) := by decide +kernel
theorem dX5_sideBySide_20 : decode cX5_sideBySide 20 = .ok (.invokevirtual 26, 3) := by decide +kernel
theorem dX5_sideBySide_23 : decode cX5_sideBySide 23 = .ok (.iload_n 1, 1) := by decide +kernel
theorem dX5_sideBySide_24 : decode cX5_sideBySide 24 = .ok (.if_icmp .ne 29, 3) := by decide +kernel
theorem dX5_sideBySide_27 : decode cX5_sideBySide 27 = .ok (.aload_n 0, 1) := by decide +kernel
theorem dX5_sideBySide_28 : decode cX5_sideBySide 28 = .ok (.getfield 25, 3) := by decide +kernel
theorem dX5_sideBySide_31 : decode cX5_sideBySide 31 = .ok (.iload 5, 2) := by decide +kernel
theorem dX5_sideBySide_33 : decode cX5_sideBySide 33 = .ok (.invokestatic 32, 3) := by decide +kernel
theorem dX5_sideBySide_36 : decode cX5_sideBySide 36 = .ok (.invokevirtual 26, 3) := by decide +kernel
theorem dX5_sideBySide_39 : decode cX5_sideBySide 39 = .ok (.iload_n 2, 1) := by decide +kernel
theorem dX5_sideBySide_40 : decode cX5_sideBySide 40 = .ok (.if_icmp .ne 13, 3) := by decide +kernel
theorem dX5_sideBySide_43 : decode cX5_sideBySide 43 = .ok (.iload_n 3, 1) := by decide +kernel
theorem dX5_sideBySide_44 : decode cX5_sideBySide 44 = .ok (.ifCond .eq 6, 3) := by decide +kernel
theorem dX5_sideBySide_47 : decode cX5_sideBySide 47 = .ok (.iload 5, 2) := by decide +kernel
theorem dX5_sideBySide_49 : decode cX5_sideBySide 49 = .ok (.ireturn, 1) := by decide +kernel
theorem dX5_sideBySide_50 : decode cX5_sideBySide 50 = .ok (.iinc 4 1, 3) := by decide +kernel
theorem dX5_sideBySide_53 : decode cX5_sideBySide 53 = .ok (.iinc 5 1, 3) := by decide +kernel
theorem dX5_sideBySide_56 : decode cX5_sideBySide 56 = .ok (.goto (-50), 3) := by decide +kernel
theorem dX5_sideBySide_59 : decode cX5_sideBySide 59 = .ok (.iload_n 3, 1) := by decide +kernel
theorem dX5_sideBySide_60 : decode cX5_sideBySide 60 = .ok (.ifCond .eq 7, 3) := by decide +kernel
theorem dX5_sideBySide_63 : decode cX5_sideBySide 63 = .ok (.iconst (-1), 1) := by decide +kernel
theorem dX5_sideBySide_64 : decode cX5_sideBySide 64 = .ok (.goto 5, 3) := by decide +kernel
theorem dX5_sideBySide_67 : decode cX5_sideBySide 67 = .ok (.iload 4, 2) := by decide +kernel
theorem dX5_sideBySide_69 : decode cX5_sideBySide 69 = .ok (.ireturn, 1) := by decide +kernel
theorem dX5_longestRow_0 : decode cX5_longestRow 0 = .ok (.iconst 0, 1) := by decide +kernel
theorem dX5_longestRow_1 : decode cX5_longestRow 1 = .ok (.istore_n 3, 1) := by decide +kernel
theorem dX5_longestRow_2 : decode cX5_longestRow 2 = .ok (.iconst (-1), 1) := by decide +kernel
theorem dX5_longestRow_3 : decode cX5_longestRow 3 = .ok (.istore 4, 2) := by decide +kernel
theorem dX5_longestRow_5 : decode cX5_longestRow 5 = .ok (.iconst 0, 1) := by decide +kernel
theorem dX5_longestRow_6 : decode cX5_longestRow 6 = .ok (.istore 5, 2) := by decide +kernel
theorem dX5_longestRow_8 : decode cX5_longestRow 8 = .ok (.iconst 0, 1) := by decide +kernel
theorem dX5_longestRow_9 : decode cX5_longestRow 9 = .ok (.istore 6, 2) := by decide +kernel
theorem dX5_longestRow_11 : decode cX5_longestRow 11 = .ok (.iload 6, 2) := by decide +kernel
theorem dX5_longestRow_13 : decode cX5_longestRow 13 = .ok (.sipush 336, 3) := by decide +kernel
theorem dX5_longestRow_16 : decode cX5_longestRow 16 = .ok (.if_icmp .ge 62, 3) := by decide +kernel
theorem dX5_longestRow_19 : decode cX5_longestRow 19 = .ok (.aload_n 0, 1) := by decide +kernel
theorem dX5_longestRow_20 : decode cX5_longestRow 20 = .ok (.getfield 25, 3) := by decide +kernel
theorem dX5_longestRow_23 : decode cX5_longestRow 23 = .ok (.iload 6, 2) := by decide +kernel
theorem dX5_longestRow_25 : decode cX5_longestRow 25 = .ok (.sipush 168, 3) := by decide +kernel
theorem dX5_longestRow_28 : decode cX5_longestRow 28 = .ok (.irem, 1) := by decide +kernel
theorem dX5_longestRow_29 : decode cX5_longestRow 29 = .ok (.invokevirtual 26, 3) := by decide +kernel
theorem dX5_longestRow_32 : decode cX5_longestRow 32 = .ok (.iload_n 1, 1) := by decide +kernel
theorem dX5_longestRow_33 : decode cX5_longestRow 33 = .ok (.if_icmp .ne 10, 3) := by decide +kernel
theorem dX5_longestRow_36 : decode cX5_longestRow 36 = .ok (.iload 5, 2) := by decide +kernel
theorem dX5_longestRow_38 : decode cX5_longestRow 38 = .ok (.iconst 1, 1) := by decide +kernel
theorem dX5_longestRow_39 : decode cX5_longestRow 39 = .ok (.iadd, 1) := by decide +kernel
theorem dX5_longestRow_40 : decode cX5_longestRow 40 = .ok (.goto 4, 3) := by decide +kernel
theorem dX5_longestRow_43 : decode cX5_longestRow 43 = .ok (.iconst 0, 1) := by decide +kernel
theorem dX5_longestRow_44 : decode cX5_longestRow 44 = .ok (.istore 5, 2) := by decide +kernel
theorem dX5_longestRow_46 : decode cX5_longestRow 46 = .ok (.iload 5, 2) := by decide +kernel
theorem dX5_longestRow_48 : decode cX5_longestRow 48 = .ok (.iload_n 3, 1) := by decide +kernel
theorem dX5_longestRow_49 : decode cX5_longestRow 49 = .ok (.if_icmp .le 23, 3) := by decide +kernel
theorem dX5_longestRow_52 : decode cX5_longestRow 52 = .ok (.iload 5, 2) := by decide +kernel
theorem dX5_longestRow_54 : decode cX5_longestRow 54 = .ok (.sipush 168, 3) := by decide +kernel
theorem dX5_longestRow_57 : decode cX5_longestRow 57 = .ok (.if_icmp .gt 15, 3) := by decide +kernel
theorem dX5_longestRow_60 : decode cX5_longestRow 60 = .ok (.iload 5, 2) := by decide +kernel
theorem dX5_longestRow_62 : decode cX5_longestRow 62 = .ok (.istore_n 3, 1) := by decide +kernel
theorem dX5_longestRow_63 : decode cX5_longestRow 63 = .ok (.iload 6, 2) := by decide +kernel
theorem dX5_longestRow_65 : decode cX5_longestRow 65 = .ok (.iconst 1, 1) := by decide +kernel
theorem dX5_longestRow_66 : decode cX5_longestRow 66 = .ok (.iadd, 1) := by decide +kernel
theorem dX5_longestRow_67 : decode cX5_longestRow 67 = .ok (.iload 5, 2) := by decide +kernel
theorem dX5_longestRow_69 : decode cX5_longestRow 69 = .ok (.isub, 1) := by decide +kernel
theorem dX5_longestRow_70 : decode cX5_longestRow 70 = .ok (.istore 4, 2) := by decide +kernel
theorem dX5_longestRow_72 : decode cX5_longestRow 72 = .ok (.iinc 6 1, 3) := by decide +kernel
theorem dX5_longestRow_75 : decode cX5_longestRow 75 = .ok (.goto (-64), 3) := by decide +kernel
theorem dX5_longestRow_78 : decode cX5_longestRow 78 = .ok (.iload_n 2, 1) := by decide +kernel
theorem dX5_longestRow_79 : decode cX5_longestRow 79 = .ok (.ifCond .eq 8, 3) := by decide +kernel
theorem dX5_longestRow_82 : decode cX5_longestRow 82 = .ok (.iload 4, 2) := by decide +kernel
theorem dX5_longestRow_84 : decode cX5_longestRow 84 = .ok (.goto 4, 3) := by decide +kernel
theorem dX5_longestRow_87 : decode cX5_longestRow 87 = .ok (.iload_n 3, 1) := by decide +kernel
theorem dX5_longestRow_88 : decode cX5_longestRow 88 = .ok (.ireturn, 1) := by decide +kernel
theorem dX5_firstMeeting_0 : decode cX5_firstMeeting 0 = .ok (.aload_n 0, 1) := by decide +kernel
theorem dX5_firstMeeting_1 : decode cX5_firstMeeting 1 = .ok (.getfield 25, 3) := by decide +kernel
theorem dX5_firstMeeting_4 : decode cX5_firstMeeting 4 = .ok (.getfield 35, 3) := by decide +kernel
theorem dX5_firstMeeting_7 : decode cX5_firstMeeting 7 = .ok (.istore_n 3, 1) := by decide +kernel
theorem dX5_firstMeeting_8 : decode cX5_firstMeeting 8 = .ok (.iconst 0, 1) := by decide +kernel
theorem dX5_firstMeeting_9 : decode cX5_firstMeeting 9 = .ok (.istore 4, 2) := by decide +kernel
theorem dX5_firstMeeting_11 : decode cX5_firstMeeting 11 = .ok (.iload 4, 2) := by decide +kernel
theorem dX5_firstMeeting_13 : decode cX5_firstMeeting 13 = .ok (.sipush 168, 3) := by decide +kernel
theorem dX5_firstMeeting_16 : decode cX5_firstMeeting 16 = .ok (.if_icmp .ge 63, 3) := by decide +kernel
theorem dX5_firstMeeting_19 : decode cX5_firstMeeting 19 = .ok (.aload_n 0, 1) := by decide +kernel
theorem dX5_firstMeeting_20 : decode cX5_firstMeeting 20 = .ok (.getfield 25, 3) := by decide +kernel
theorem dX5_firstMeeting_23 : decode cX5_firstMeeting 23 = .ok (.iload_n 3, 1) := by decide +kernel
theorem dX5_firstMeeting_24 : decode cX5_firstMeeting 24 = .ok (.invokevirtual 26, 3) := by decide +kernel
theorem dX5_firstMeeting_27 : decode cX5_firstMeeting 27 = .ok (.istore 5, 2) := by decide +kernel
theorem dX5_firstMeeting_29 : decode cX5_firstMeeting 29 = .ok (.aload_n 0, 1) := by decide +kernel
theorem dX5_firstMeeting_30 : decode cX5_firstMeeting 30 = .ok (.getfield 25, 3) := by decide +kernel
theorem dX5_firstMeeting_33 : decode cX5_firstMeeting 33 = .ok (.iload_n 3, 1) := by decide +kernel
theorem dX5_firstMeeting_34 : decode cX5_firstMeeting 34 = .ok (.invokestatic 32, 3) := by decide +kernel
theorem dX5_firstMeeting_37 : decode cX5_firstMeeting 37 = .ok (.invokevirtual 26, 3) := by decide +kernel
theorem dX5_firstMeeting_40 : decode cX5_firstMeeting 40 = .ok (.istore 6, 2) := by decide +kernel
theorem dX5_firstMeeting_42 : decode cX5_firstMeeting 42 = .ok (.iload 5, 2) := by decide +kernel
theorem dX5_firstMeeting_44 : decode cX5_firstMeeting 44 = .ok (.iload_n 1, 1) := by decide +kernel
theorem dX5_firstMeeting_45 : decode cX5_firstMeeting 45 = .ok (.if_icmp .ne 9, 3) := by decide +kernel
theorem dX5_firstMeeting_48 : decode cX5_firstMeeting 48 = .ok (.iload 6, 2) := by decide +kernel
theorem dX5_firstMeeting_50 : decode cX5_firstMeeting 50 = .ok (.iload_n 2, 1) := by decide +kernel
theorem dX5_firstMeeting_51 : decode cX5_firstMeeting 51 = .ok (.if_icmp .eq 15, 3) := by decide +kernel
theorem dX5_firstMeeting_54 : decode cX5_firstMeeting 54 = .ok (.iload 5, 2) := by decide +kernel
theorem dX5_firstMeeting_56 : decode cX5_firstMeeting 56 = .ok (.iload_n 2, 1) := by decide +kernel
theorem dX5_firstMeeting_57 : decode cX5_firstMeeting 57 = .ok (.if_icmp .ne 11, 3) := by decide +kernel
theorem dX5_firstMeeting_60 : decode cX5_firstMeeting 60 = .ok (.iload 6, 2) := by decide +kernel
theorem dX5_firstMeeting_62 : decode cX5_firstMeeting 62 = .ok (.iload_n 1, 1) := by decide +kernel
theorem dX5_firstMeeting_63 : decode cX5_firstMeeting 63 = .ok (.if_icmp .ne 5, 3) := by decide +kernel
theorem dX5_firstMeeting_66 : decode cX5_firstMeeting 66 = .ok (.iload_n 3, 1) := by decide +kernel
theorem dX5_firstMeeting_67 : decode cX5_firstMeeting 67 = .ok (.ireturn, 1) := by decide +kernel
theorem dX5_firstMeeting_68 : decode cX5_firstMeeting 68 = .ok (.iload_n 3, 1) := by decide +kernel
theorem dX5_firstMeeting_69 : decode cX5_firstMeeting 69 = .ok (.invokestatic 32, 3) := by decide +kernel
theorem dX5_firstMeeting_72 : decode cX5_firstMeeting 72 = .ok (.istore_n 3, 1) := by decide +kernel
theorem dX5_firstMeeting_73 : decode cX5_firstMeeting 73 = .ok (.iinc 4 1, 3) := by decide +kernel
theorem dX5_firstMeeting_76 : decode cX5_firstMeeting 76 = .ok (.goto (-65), 3) := by decide +kernel
theorem dX5_firstMeeting_79 : decode cX5_firstMeeting 79 = .ok (.iconst (-1), 1) := by decide +kernel
theorem dX5_firstMeeting_80 : decode cX5_firstMeeting 80 = .ok (.ireturn, 1) := by decide +kernel
theorem dX5_rowOfDifferent_0 : decode cX5_rowOfDifferent 0 = .ok (.iconst 0, 1) := by decide +kernel
theorem dX5_rowOfDifferent_1 : decode cX5_rowOfDifferent 1 = .ok (.istore_n 3, 1) := by decide +kernel
theorem dX5_rowOfDifferent_2 : decode cX5_rowOfDifferent 2 = .ok (.iconst (-1), 1) := by decide +kernel
theorem dX5_rowOfDifferent_3 : decode cX5_rowOfDifferent 3 = .ok (.istore 4, 2) := by decide +kernel
theorem dX5_rowOfDifferent_5 : decode cX5_rowOfDifferent 5 = .ok (.iconst 0, 1) := by decide +kernel
theorem dX5_rowOfDifferent_6 : decode cX5_rowOfDifferent 6 = .ok (.istore 5, 2) := by decide +kernel
theorem dX5_rowOfDifferent_8 : decode cX5_rowOfDifferent 8 = .ok (.iload 5, 2) := by decide +kernel
theorem dX5_rowOfDifferent_10 : decode cX5_rowOfDifferent 10 = .ok (.sipush 168, 3) := by decide +kernel
theorem dX5_rowOfDifferent_13 : decode cX5_rowOfDifferent 13 = .ok (.if_icmp .ge 31, 3) := by decide +kernel
theorem dX5_rowOfDifferent_16 : decode cX5_rowOfDifferent 16 = .ok (.aload_n 0, 1) := by decide +kernel
theorem dX5_rowOfDifferent_17 : decode cX5_rowOfDifferent 17 = .ok (.iload 5, 2) := by decide +kernel
theorem dX5_rowOfDifferent_19 : decode cX5_rowOfDifferent 19 = .ok (.iload_n 1, 1) := by decide +kernel
theorem dX5_rowOfDifferent_20 : decode cX5_rowOfDifferent 20 = .ok (.invokevirtual 39, 3) := by decide +kernel
theorem dX5_rowOfDifferent_23 : decode cX5_rowOfDifferent 23 = .ok (.istore 6, 2) := by decide +kernel
theorem dX5_rowOfDifferent_25 : decode cX5_rowOfDifferent 25 = .ok (.iload 6, 2) := by decide +kernel
theorem dX5_rowOfDifferent_27 : decode cX5_rowOfDifferent 27 = .ok (.iload_n 3, 1) := by decide +kernel
theorem dX5_rowOfDifferent_28 : decode cX5_rowOfDifferent 28 = .ok (.if_icmp .le 10, 3) := by decide +kernel
theorem dX5_rowOfDifferent_31 : decode cX5_rowOfDifferent 31 = .ok (.iload 6, 2) := by decide +kernel
theorem dX5_rowOfDifferent_33 : decode cX5_rowOfDifferent 33 = .ok (.istore_n 3, 1) := by decide +kernel
theorem dX5_rowOfDifferent_34 : decode cX5_rowOfDifferent 34 = .ok (.iload 5, 2) := by decide +kernel
theorem dX5_rowOfDifferent_36 : decode cX5_rowOfDifferent 36 = .ok (.istore 4, 2) := by decide +kernel
theorem dX5_rowOfDifferent_38 : decode cX5_rowOfDifferent 38 = .ok (.iinc 5 1, 3) := by decide +kernel
theorem dX5_rowOfDifferent_41 : decode cX5_rowOfDifferent 41 = .ok (.goto (-33), 3) := by decide +kernel
theorem dX5_rowOfDifferent_44 : decode cX5_rowOfDifferent 44 = .ok (.iload_n 2, 1) := by decide +kernel
theorem dX5_rowOfDifferent_45 : decode cX5_rowOfDifferent 45 = .ok (.ifCond .eq 8, 3) := by decide +kernel
theorem dX5_rowOfDifferent_48 : decode cX5_rowOfDifferent 48 = .ok (.iload 4, 2) := by decide +kernel
theorem dX5_rowOfDifferent_50 : decode cX5_rowOfDifferent 50 = .ok (.goto 4, 3) := by decide +kernel
theorem dX5_rowOfDifferent_53 : decode cX5_rowOfDifferent 53 = .ok (.iload_n 3, 1) := by decide +kernel
theorem dX5_rowOfDifferent_54 : decode cX5_rowOfDifferent 54 = .ok (.ireturn, 1) := by decide +kernel
theorem dX5_differentFrom_0 : decode cX5_differentFrom 0 = .ok (.iload_n 2, 1) := by decide +kernel
theorem dX5_differentFrom_1 : decode cX5_differentFrom 1 = .ok (.istore_n 3, 1) := by decide +kernel
theorem dX5_differentFrom_2 : decode cX5_differentFrom 2 = .ok (.iload_n 1, 1) := by decide +kernel
theorem dX5_differentFrom_3 : decode cX5_differentFrom 3 = .ok (.istore 4, 2) := by decide +kernel
theorem dX5_differentFrom_5 : decode cX5_differentFrom 5 = .ok (.iconst 0, 1) := by decide +kernel
theorem dX5_differentFrom_6 : decode cX5_differentFrom 6 = .ok (.istore 5, 2) := by decide +kernel
theorem dX5_differentFrom_8 : decode cX5_differentFrom 8 = .ok (.iload 5, 2) := by decide +kernel
theorem dX5_differentFrom_10 : decode cX5_differentFrom 10 = .ok (.bipush 10, 2) := by decide +kernel
theorem dX5_differentFrom_12 : decode cX5_differentFrom 12 = .ok (.if_icmp .ge 54, 3) := by decide +kernel
theorem dX5_differentFrom_15 : decode cX5_differentFrom 15 = .ok (.aload_n 0, 1) := by decide +kernel
theorem dX5_differentFrom_16 : decode cX5_differentFrom 16 = .ok (.getfield 25, 3) := by decide +kernel
theorem dX5_differentFrom_19 : decode cX5_differentFrom 19 = .ok (.iload 4, 2) := by decide +kernel
theorem dX5_differentFrom_21 : decode cX5_differentFrom 21 = .ok (.invokevirtual 26, 3) := by decide +kernel
theorem dX5_differentFrom_24 : decode cX5_differentFrom 24 = .ok (.istore 6, 2) := by decide +kernel
theorem dX5_differentFrom_26 : decode cX5_differentFrom 26 = .ok (.iload 6, 2) := by decide +kernel
theorem dX5_differentFrom_28 : decode cX5_differentFrom 28 = .ok (.iconst (-1), 1) := by decide +kernel
theorem dX5_differentFrom_29 : decode cX5_differentFrom 29 = .ok (.if_icmp .eq 12, 3) := by decide +kernel
theorem dX5_differentFrom_32 : decode cX5_differentFrom 32 = .ok (.iload_n 3, 1) := by decide +kernel
theorem dX5_differentFrom_33 : decode cX5_differentFrom 33 = .ok (.iload 6, 2) := by decide +kernel
theorem dX5_differentFrom_35 : decode cX5_differentFrom 35 = .ok (.iushr, 1) := by decide +kernel
theorem dX5_differentFrom_36 : decode cX5_differentFrom 36 = .ok (.iconst 1, 1) := by decide +kernel
theorem dX5_differentFrom_37 : decode cX5_differentFrom 37 = .ok (.iand, 1) := by decide +kernel
theorem dX5_differentFrom_38 : decode cX5_differentFrom 38 = .ok (.ifCond .ne 6, 3) := by decide +kernel
theorem dX5_differentFrom_41 : decode cX5_differentFrom 41 = .ok (.iload 5, 2) := by decide +kernel
theorem dX5_differentFrom_43 : decode cX5_differentFrom 43 = .ok (.ireturn, 1) := by decide +kernel
theorem dX5_differentFrom_44 : decode cX5_differentFrom 44 = .ok (.iload_n 3, 1) := by decide +kernel
theorem dX5_differentFrom_45 : decode cX5_differentFrom 45 = .ok (.iconst 1, 1) := by decide +kernel
theorem dX5_differentFrom_46 : decode cX5_differentFrom 46 = .ok (.iload 6, 2) := by decide +kernel
theorem dX5_differentFrom_48 : decode cX5_differentFrom 48 = .ok (.ishl, 1) := by decide +kernel
theorem dX5_differentFrom_49 : decode cX5_differentFrom 49 = .ok (.iconst (-1), 1) := by decide +kernel
theorem dX5_differentFrom_50 : decode cX5_differentFrom 50 = .ok (.ixor, 1) := by decide +kernel
theorem dX5_differentFrom_51 : decode cX5_differentFrom 51 = .ok (.iand, 1) := by decide +kernel
theorem dX5_differentFrom_52 : decode cX5_differentFrom 52 = .ok (.istore_n 3, 1) := by decide +kernel
theorem dX5_differentFrom_53 : decode cX5_differentFrom 53 = .ok (.iload 4, 2) := by decide +kernel
theorem dX5_differentFrom_55 : decode cX5_differentFrom 55 = .ok (.invokestatic 32, 3) := by decide +kernel
theorem dX5_differentFrom_58 : decode cX5_differentFrom 58 = .ok (.istore 4, 2) := by decide +kernel
theorem dX5_differentFrom_60 : decode cX5_differentFrom 60 = .ok (.iinc 5 1, 3) := by decide +kernel
theorem dX5_differentFrom_63 : decode cX5_differentFrom 63 = .ok (.goto (-55), 3) := by decide +kernel
theorem dX5_differentFrom_66 : decode cX5_differentFrom 66 = .ok (.bipush 10, 2) := by decide +kernel
theorem dX5_differentFrom_68 : decode cX5_differentFrom 68 = .ok (.ireturn, 1) := by decide +kernel
theorem dX5_ticksToHear_0 : decode cX5_ticksToHear 0 = .ok (.iconst 1, 1) := by decide +kernel
theorem dX5_ticksToHear_1 : decode cX5_ticksToHear 1 = .ok (.iload_n 1, 1) := by decide +kernel
theorem dX5_ticksToHear_2 : decode cX5_ticksToHear 2 = .ok (.ishl, 1) := by decide +kernel
theorem dX5_ticksToHear_3 : decode cX5_ticksToHear 3 = .ok (.istore_n 3, 1) := by decide +kernel
theorem dX5_ticksToHear_4 : decode cX5_ticksToHear 4 = .ok (.aload_n 0, 1) := by decide +kernel
theorem dX5_ticksToHear_5 : decode cX5_ticksToHear 5 = .ok (.getfield 25, 3) := by decide +kernel
theorem dX5_ticksToHear_8 : decode cX5_ticksToHear 8 = .ok (.getfield 35, 3) := by decide +kernel
theorem dX5_ticksToHear_11 : decode cX5_ticksToHear 11 = .ok (.istore 4, 2) := by decide +kernel
theorem dX5_ticksToHear_13 : decode cX5_ticksToHear 13 = .ok (.iconst 0, 1) := by decide +kernel
theorem dX5_ticksToHear_14 : decode cX5_ticksToHear 14 = .ok (.istore 5, 2) := by decide +kernel
theorem dX5_ticksToHear_16 : decode cX5_ticksToHear 16 = .ok (.iload 5, 2) := by decide +kernel
theorem dX5_ticksToHear_18 : decode cX5_ticksToHear 18 = .ok (.sipush 336, 3) := by decide +kernel
theorem dX5_ticksToHear_21 : decode cX5_ticksToHear 21 = .ok (.if_icmp .gt 35, 3) := by decide +kernel
theorem dX5_ticksToHear_24 : decode cX5_ticksToHear 24 = .ok (.iload_n 3, 1) := by decide +kernel
theorem dX5_ticksToHear_25 : decode cX5_ticksToHear 25 = .ok (.iload_n 2, 1) := by decide +kernel
theorem dX5_ticksToHear_26 : decode cX5_ticksToHear 26 = .ok (.iushr, 1) := by decide +kernel
theorem dX5_ticksToHear_27 : decode cX5_ticksToHear 27 = .ok (.iconst 1, 1) := by decide +kernel
theorem dX5_ticksToHear_28 : decode cX5_ticksToHear 28 = .ok (.iand, 1) := by decide +kernel
theorem dX5_ticksToHear_29 : decode cX5_ticksToHear 29 = .ok (.ifCond .eq 6, 3) := by decide +kernel
theorem dX5_ticksToHear_32 : decode cX5_ticksToHear 32 = .ok (.iload 5, 2) := by decide +kernel
theorem dX5_ticksToHear_34 : decode cX5_ticksToHear 34 = .ok (.ireturn, 1) := by decide +kernel
theorem dX5_ticksToHear_35 : decode cX5_ticksToHear 35 = .ok (.aload_n 0, 1) := by decide +kernel
theorem dX5_ticksToHear_36 : decode cX5_ticksToHear 36 = .ok (.iload_n 3, 1) := by decide +kernel
theorem dX5_ticksToHear_37 : decode cX5_ticksToHear 37 = .ok (.iload 4, 2) := by decide +kernel
theorem dX5_ticksToHear_39 : decode cX5_ticksToHear 39 = .ok (.invokevirtual 43, 3) := by decide +kernel
theorem dX5_ticksToHear_42 : decode cX5_ticksToHear 42 = .ok (.istore_n 3, 1) := by decide +kernel
theorem dX5_ticksToHear_43 : decode cX5_ticksToHear 43 = .ok (.iload 4, 2) := by decide +kernel
theorem dX5_ticksToHear_45 : decode cX5_ticksToHear 45 = .ok (.invokestatic 32, 3) := by decide +kernel
theorem dX5_ticksToHear_48 : decode cX5_ticksToHear 48 = .ok (.istore 4, 2) := by decide +kernel
theorem dX5_ticksToHear_50 : decode cX5_ticksToHear 50 = .ok (.iinc 5 1, 3) := by decide +kernel
theorem dX5_ticksToHear_53 : decode cX5_ticksToHear 53 = .ok (.goto (-37), 3) := by decide +kernel
theorem dX5_ticksToHear_56 : decode cX5_ticksToHear 56 = .ok (.iconst (-1), 1) := by decide +kernel
theorem dX5_ticksToHear_57 : decode cX5_ticksToHear 57 = .ok (.ireturn, 1) := by decide +kernel
theorem dX5_knowBehind_0 : decode cX5_knowBehind 0 = .ok (.iconst 1, 1) := by decide +kernel
theorem dX5_knowBehind_1 : decode cX5_knowBehind 1 = .ok (.iload_n 1, 1) := by decide +kernel
theorem dX5_knowBehind_2 : decode cX5_knowBehind 2 = .ok (.ishl, 1) := by decide +kernel
theorem dX5_knowBehind_3 : decode cX5_knowBehind 3 = .ok (.istore_n 3, 1) := by decide +kernel
theorem dX5_knowBehind_4 : decode cX5_knowBehind 4 = .ok (.aload_n 0, 1) := by decide +kernel
theorem dX5_knowBehind_5 : decode cX5_knowBehind 5 = .ok (.getfield 25, 3) := by decide +kernel
theorem dX5_knowBehind_8 : decode cX5_knowBehind 8 = .ok (.getfield 35, 3) := by decide +kernel
theorem dX5_knowBehind_11 : decode cX5_knowBehind 11 = .ok (.istore 4, 2) := by decide +kernel
theorem dX5_knowBehind_13 : decode cX5_knowBehind 13 = .ok (.iconst 0, 1) := by decide +kernel
theorem dX5_knowBehind_14 : decode cX5_knowBehind 14 = .ok (.istore 5, 2) := by decide +kernel
theorem dX5_knowBehind_16 : decode cX5_knowBehind 16 = .ok (.iload 5, 2) := by decide +kernel
theorem dX5_knowBehind_18 : decode cX5_knowBehind 18 = .ok (.iload_n 2, 1) := by decide +kernel
theorem dX5_knowBehind_19 : decode cX5_knowBehind 19 = .ok (.if_icmp .ge 24, 3) := by decide +kernel
theorem dX5_knowBehind_22 : decode cX5_knowBehind 22 = .ok (.aload_n 0, 1) := by decide +kernel
theorem dX5_knowBehind_23 : decode cX5_knowBehind 23 = .ok (.iload_n 3, 1) := by decide +kernel
theorem dX5_knowBehind_24 : decode cX5_knowBehind 24 = .ok (.iload 4, 2) := by decide +kernel
theorem dX5_knowBehind_26 : decode cX5_knowBehind 26 = .ok (.invokevirtual 43, 3) := by decide +kernel
theorem dX5_knowBehind_29 : decode cX5_knowBehind 29 = .ok (.istore_n 3, 1) := by decide +kernel
theorem dX5_knowBehind_30 : decode cX5_knowBehind 30 = .ok (.iload 4, 2) := by decide +kernel
theorem dX5_knowBehind_32 : decode cX5_knowBehind 32 = .ok (.invokestatic 32, 3) := by decide +kernel
theorem dX5_knowBehind_35 : decode cX5_knowBehind 35 = .ok (.istore 4, 2) := by decide +kernel
theorem dX5_knowBehind_37 : decode cX5_knowBehind 37 = .ok (.iinc 5 1, 3) := by decide +kernel
theorem dX5_knowBehind_40 : decode cX5_knowBehind 40 = .ok (.goto (-24), 3) := by decide +kernel
theorem dX5_knowBehind_43 : decode cX5_knowBehind 43 = .ok (.aload_n 0, 1) := by decide +kernel
theorem dX5_knowBehind_44 : decode cX5_knowBehind 44 = .ok (.iload_n 3, 1) := by decide +kernel
theorem dX5_knowBehind_45 : decode cX5_knowBehind 45 = .ok (.invokevirtual 46, 3) := by decide +kernel
theorem dX5_knowBehind_48 : decode cX5_knowBehind 48 = .ok (.ireturn, 1) := by decide +kernel
theorem dX5_toldOn_0 : decode cX5_toldOn 0 = .ok (.aload_n 0, 1) := by decide +kernel
theorem dX5_toldOn_1 : decode cX5_toldOn 1 = .ok (.getfield 25, 3) := by decide +kernel
theorem dX5_toldOn_4 : decode cX5_toldOn 4 = .ok (.iload_n 2, 1) := by decide +kernel
theorem dX5_toldOn_5 : decode cX5_toldOn 5 = .ok (.invokevirtual 26, 3) := by decide +kernel
theorem dX5_toldOn_8 : decode cX5_toldOn 8 = .ok (.istore_n 3, 1) := by decide +kernel
theorem dX5_toldOn_9 : decode cX5_toldOn 9 = .ok (.aload_n 0, 1) := by decide +kernel
theorem dX5_toldOn_10 : decode cX5_toldOn 10 = .ok (.getfield 25, 3) := by decide +kernel
theorem dX5_toldOn_13 : decode cX5_toldOn 13 = .ok (.iload_n 2, 1) := by decide +kernel
theorem dX5_toldOn_14 : decode cX5_toldOn 14 = .ok (.invokestatic 32, 3) := by decide +kernel
theorem dX5_toldOn_17 : decode cX5_toldOn 17 = .ok (.invokevirtual 26, 3) := by decide +kernel
theorem dX5_toldOn_20 : decode cX5_toldOn 20 = .ok (.istore 4, 2) := by decide +kernel
theorem dX5_toldOn_22 : decode cX5_toldOn 22 = .ok (.iload_n 3, 1) := by decide +kernel
theorem dX5_toldOn_23 : decode cX5_toldOn 23 = .ok (.iconst (-1), 1) := by decide +kernel
theorem dX5_toldOn_24 : decode cX5_toldOn 24 = .ok (.if_icmp .eq 17, 3) := by decide +kernel
theorem dX5_toldOn_27 : decode cX5_toldOn 27 = .ok (.iload 4, 2) := by decide +kernel
theorem dX5_toldOn_29 : decode cX5_toldOn 29 = .ok (.iconst (-1), 1) := by decide +kernel
theorem dX5_toldOn_30 : decode cX5_toldOn 30 = .ok (.if_icmp .eq 11, 3) := by decide +kernel
theorem dX5_toldOn_33 : decode cX5_toldOn 33 = .ok (.iload_n 1, 1) := by decide +kernel
theorem dX5_toldOn_34 : decode cX5_toldOn 34 = .ok (.iload_n 3, 1) := by decide +kernel
theorem dX5_toldOn_35 : decode cX5_toldOn 35 = .ok (.iushr, 1) := by decide +kernel
theorem dX5_toldOn_36 : decode cX5_toldOn 36 = .ok (.iconst 1, 1) := by decide +kernel
theorem dX5_toldOn_37 : decode cX5_toldOn 37 = .ok (.iand, 1) := by decide +kernel
theorem dX5_toldOn_38 : decode cX5_toldOn 38 = .ok (.ifCond .ne 5, 3) := by decide +kernel
theorem dX5_toldOn_41 : decode cX5_toldOn 41 = .ok (.iload_n 1, 1) := by decide +kernel
theorem dX5_toldOn_42 : decode cX5_toldOn 42 = .ok (.ireturn, 1) := by decide +kernel
theorem dX5_toldOn_43 : decode cX5_toldOn 43 = .ok (.iload_n 1, 1) := by decide +kernel
theorem dX5_toldOn_44 : decode cX5_toldOn 44 = .ok (.iconst 1, 1) := by decide +kernel
theorem dX5_toldOn_45 : decode cX5_toldOn 45 = .ok (.iload 4, 2) := by decide +kernel
theorem dX5_toldOn_47 : decode cX5_toldOn 47 = .ok (.ishl, 1) := by decide +kernel
theorem dX5_toldOn_48 : decode cX5_toldOn 48 = .ok (.ior, 1) := by decide +kernel
theorem dX5_toldOn_49 : decode cX5_toldOn 49 = .ok (.ireturn, 1) := by decide +kernel
theorem dX5_withChildren_0 : decode cX5_withChildren 0 = .ok (.iload_n 1, 1) := by decide +kernel
theorem dX5_withChildren_1 : decode cX5_withChildren 1 = .ok (.istore_n 2, 1) := by decide +kernel
theorem dX5_withChildren_2 : decode cX5_withChildren 2 = .ok (.iconst 0, 1) := by decide +kernel
theorem dX5_withChildren_3 : decode cX5_withChildren 3 = .ok (.istore_n 3, 1) := by decide +kernel
theorem dX5_withChildren_4 : decode cX5_withChildren 4 = .ok (.iload_n 3, 1) := by decide +kernel
theorem dX5_withChildren_5 : decode cX5_withChildren 5 = .ok (.aload_n 0, 1) := by decide +kernel
theorem dX5_withChildren_6 : decode cX5_withChildren 6 = .ok (.getfield 15, 3) := by decide +kernel
theorem dX5_withChildren_9 : decode cX5_withChildren 9 = .ok (.getfield 49, 3) := by decide +kernel
theorem dX5_withChildren_12 : decode cX5_withChildren 12 = .ok (.getfield 53, 3) := by decide +kernel
theorem dX5_withChildren_15 : decode cX5_withChildren 15 = .ok (.if_icmp .ge 30, 3) := by decide +kernel
theorem dX5_withChildren_18 : decode cX5_withChildren 18 = .ok (.iload_n 1, 1) := by decide +kernel
theorem dX5_withChildren_19 : decode cX5_withChildren 19 = .ok (.aload_n 0, 1) := by decide +kernel
theorem dX5_withChildren_20 : decode cX5_withChildren 20 = .ok (.getfield 15, 3) := by decide +kernel
theorem dX5_withChildren_23 : decode cX5_withChildren 23 = .ok (.iload_n 3, 1) := by decide +kernel
theorem dX5_withChildren_24 : decode cX5_withChildren 24 = .ok (.invokevirtual 58, 3) := by decide +kernel
theorem dX5_withChildren_27 : decode cX5_withChildren 27 = .ok (.iushr, 1) := by decide +kernel
theorem dX5_withChildren_28 : decode cX5_withChildren 28 = .ok (.iconst 1, 1) := by decide +kernel
theorem dX5_withChildren_29 : decode cX5_withChildren 29 = .ok (.iand, 1) := by decide +kernel
theorem dX5_withChildren_30 : decode cX5_withChildren 30 = .ok (.ifCond .eq 9, 3) := by decide +kernel
theorem dX5_withChildren_33 : decode cX5_withChildren 33 = .ok (.iload_n 2, 1) := by decide +kernel
theorem dX5_withChildren_34 : decode cX5_withChildren 34 = .ok (.iconst 1, 1) := by decide +kernel
theorem dX5_withChildren_35 : decode cX5_withChildren 35 = .ok (.iload_n 3, 1) := by decide +kernel
theorem dX5_withChildren_36 : decode cX5_withChildren 36 = .ok (.ishl, 1) := by decide +kernel
theorem dX5_withChildren_37 : decode cX5_withChildren 37 = .ok (.ior, 1) := by decide +kernel
theorem dX5_withChildren_38 : decode cX5_withChildren 38 = .ok (.istore_n 2, 1) := by decide +kernel
theorem dX5_withChildren_39 : decode cX5_withChildren 39 = .ok (.iinc 3 1, 3) := by decide +kernel
theorem dX5_withChildren_42 : decode cX5_withChildren 42 = .ok (.goto (-38), 3) := by decide +kernel
theorem dX5_withChildren_45 : decode cX5_withChildren 45 = .ok (.iload_n 2, 1) := by decide +kernel
theorem dX5_withChildren_46 : decode cX5_withChildren 46 = .ok (.ireturn, 1) := by decide +kernel
theorem dX5_fewestEvictions_0 : decode cX5_fewestEvictions 0 = .ok (.aload_n 0, 1) := by decide +kernel
theorem dX5_fewestEvictions_1 : decode cX5_fewestEvictions 1 = .ok (.getfield 15, 3) := by decide +kernel
theorem dX5_fewestEvictions_4 : decode cX5_fewestEvictions 4 = .ok (.iload_n 1, 1) := by decide +kernel
theorem dX5_fewestEvictions_5 : decode cX5_fewestEvictions 5 = .ok (.invokevirtual 61, 3) := by decide +kernel
theorem dX5_fewestEvictions_8 : decode cX5_fewestEvictions 8 = .ok (.ifCond .eq 5, 3) := by decide +kernel
theorem dX5_fewestEvictions_11 : decode cX5_fewestEvictions 11 = .ok (.iconst (-1), 1) := by decide +kernel
theorem dX5_fewestEvictions_12 : decode cX5_fewestEvictions 12 = .ok (.ireturn, 1) := by decide +kernel
theorem dX5_fewestEvictions_13 : decode cX5_fewestEvictions 13 = .ok (.iconst 0, 1) := by decide +kernel
theorem dX5_fewestEvictions_14 : decode cX5_fewestEvictions 14 = .ok (.istore 4, 2) := by decide +kernel
theorem dX5_fewestEvictions_16 : decode cX5_fewestEvictions 16 = .ok (.iload 4, 2) := by decide +kernel
theorem dX5_fewestEvictions_18 : decode cX5_fewestEvictions 18 = .ok (.sipush 168, 3) := by decide +kernel
theorem dX5_fewestEvictions_21 : decode cX5_fewestEvictions 21 = .ok (.if_icmp .ge 23, 3) := by decide +kernel
theorem dX5_fewestEvictions_24 : decode cX5_fewestEvictions 24 = .ok (.aload_n 0, 1) := by decide +kernel
theorem dX5_fewestEvictions_25 : decode cX5_fewestEvictions 25 = .ok (.getfield 9, 3) := by decide +kernel
theorem dX5_fewestEvictions_28 : decode cX5_fewestEvictions 28 = .ok (.iload 4, 2) := by decide +kernel
theorem dX5_fewestEvictions_30 : decode cX5_fewestEvictions 30 = .ok (.aload_n 0, 1) := by decide +kernel
theorem dX5_fewestEvictions_31 : decode cX5_fewestEvictions 31 = .ok (.iload_n 1, 1) := by decide +kernel
theorem dX5_fewestEvictions_32 : decode cX5_fewestEvictions 32 = .ok (.iload 4, 2) := by decide +kernel
theorem dX5_fewestEvictions_34 : decode cX5_fewestEvictions 34 = .ok (.invokevirtual 65, 3) := by decide +kernel
theorem dX5_fewestEvictions_37 : decode cX5_fewestEvictions 37 = .ok (.iastore, 1) := by decide +kernel
theorem dX5_fewestEvictions_38 : decode cX5_fewestEvictions 38 = .ok (.iinc 4 1, 3) := by decide +kernel
theorem dX5_fewestEvictions_41 : decode cX5_fewestEvictions 41 = .ok (.goto (-25), 3) := by decide +kernel
theorem dX5_fewestEvictions_44 : decode cX5_fewestEvictions 44 = .ok (.iconst (-1), 1) := by decide +kernel
theorem dX5_fewestEvictions_45 : decode cX5_fewestEvictions 45 = .ok (.istore 4, 2) := by decide +kernel
theorem dX5_fewestEvictions_47 : decode cX5_fewestEvictions 47 = .ok (.iconst (-1), 1) := by decide +kernel
theorem dX5_fewestEvictions_48 : decode cX5_fewestEvictions 48 = .ok (.istore 5, 2) := by decide +kernel
theorem dX5_fewestEvictions_50 : decode cX5_fewestEvictions 50 = .ok (.iconst 0, 1) := by decide +kernel
theorem dX5_fewestEvictions_51 : decode cX5_fewestEvictions 51 = .ok (.istore 6, 2) := by decide +kernel
theorem dX5_fewestEvictions_53 : decode cX5_fewestEvictions 53 = .ok (.iload 6, 2) := by decide +kernel
theorem dX5_fewestEvictions_55 : decode cX5_fewestEvictions 55 = .ok (.sipush 168, 3) := by decide +kernel
theorem dX5_fewestEvictions_58 : decode cX5_fewestEvictions 58 = .ok (.if_icmp .ge 45, 3) := by decide +kernel
theorem dX5_fewestEvictions_61 : decode cX5_fewestEvictions 61 = .ok (.aload_n 0, 1) := by decide +kernel
theorem dX5_fewestEvictions_62 : decode cX5_fewestEvictions 62 = .ok (.iload 6, 2) := by decide +kernel
theorem dX5_fewestEvictions_64 : decode cX5_fewestEvictions 64 = .ok (.iload_n 2, 1) := by decide +kernel
theorem dX5_fewestEvictions_65 : decode cX5_fewestEvictions 65 = .ok (.invokevirtual 68, 3) := by decide +kernel
theorem dX5_fewestEvictions_68 : decode cX5_fewestEvictions 68 = .ok (.istore 7, 2) := by decide +kernel
theorem dX5_fewestEvictions_70 : decode cX5_fewestEvictions 70 = .ok (.iload 7, 2) := by decide +kernel
theorem dX5_fewestEvictions_72 : decode cX5_fewestEvictions 72 = .ok (.iconst (-1), 1) := by decide +kernel
theorem dX5_fewestEvictions_73 : decode cX5_fewestEvictions 73 = .ok (.if_icmp .eq 24, 3) := by decide +kernel
theorem dX5_fewestEvictions_76 : decode cX5_fewestEvictions 76 = .ok (.iload 4, 2) := by decide +kernel
theorem dX5_fewestEvictions_78 : decode cX5_fewestEvictions 78 = .ok (.iconst (-1), 1) := by decide +kernel
theorem dX5_fewestEvictions_79 : decode cX5_fewestEvictions 79 = .ok (.if_icmp .eq 10, 3) := by decide +kernel
theorem dX5_fewestEvictions_82 : decode cX5_fewestEvictions 82 = .ok (.iload 7, 2) := by decide +kernel
theorem dX5_fewestEvictions_84 : decode cX5_fewestEvictions 84 = .ok (.iload 4, 2) := by decide +kernel
theorem dX5_fewestEvictions_86 : decode cX5_fewestEvictions 86 = .ok (.if_icmp .ge 11, 3) := by decide +kernel
theorem dX5_fewestEvictions_89 : decode cX5_fewestEvictions 89 = .ok (.iload 7, 2) := by decide +kernel
theorem dX5_fewestEvictions_91 : decode cX5_fewestEvictions 91 = .ok (.istore 4, 2) := by decide +kernel
theorem dX5_fewestEvictions_93 : decode cX5_fewestEvictions 93 = .ok (.iload 6, 2) := by decide +kernel
theorem dX5_fewestEvictions_95 : decode cX5_fewestEvictions 95 = .ok (.istore 5, 2) := by decide +kernel
theorem dX5_fewestEvictions_97 : decode cX5_fewestEvictions 97 = .ok (.iinc 6 1, 3) := by decide +kernel
theorem dX5_fewestEvictions_100 : decode cX5_fewestEvictions 100 = .ok (.goto (-47), 3) := by decide +kernel
theorem dX5_fewestEvictions_103 : decode cX5_fewestEvictions 103 = .ok (.iload_n 3, 1) := by decide +kernel
theorem dX5_fewestEvictions_104 : decode cX5_fewestEvictions 104 = .ok (.ifCond .eq 8, 3) := by decide +kernel
theorem dX5_fewestEvictions_107 : decode cX5_fewestEvictions 107 = .ok (.iload 5, 2) := by decide +kernel
theorem dX5_fewestEvictions_109 : decode cX5_fewestEvictions 109 = .ok (.goto 5, 3) := by decide +kernel
theorem dX5_fewestEvictions_112 : decode cX5_fewestEvictions 112 = .ok (.iload 4, 2) := by decide +kernel
theorem dX5_fewestEvictions_114 : decode cX5_fewestEvictions 114 = .ok (.ireturn, 1) := by decide +kernel
theorem dX5_costOf_0 : decode cX5_costOf 0 = .ok (.aload_n 0, 1) := by decide +kernel
theorem dX5_costOf_1 : decode cX5_costOf 1 = .ok (.getfield 15, 3) := by decide +kernel
theorem dX5_costOf_4 : decode cX5_costOf 4 = .ok (.getfield 49, 3) := by decide +kernel
theorem dX5_costOf_7 : decode cX5_costOf 7 = .ok (.getfield 71, 3) := by decide +kernel
theorem dX5_costOf_10 : decode cX5_costOf 10 = .ok (.iload_n 2, 1) := by decide +kernel
theorem dX5_costOf_11 : decode cX5_costOf 11 = .ok (.iaload, 1) := by decide +kernel
theorem dX5_costOf_12 : decode cX5_costOf 12 = .ok (.ifCond .ne 15, 3) := by decide +kernel
theorem dX5_costOf_15 : decode cX5_costOf 15 = .ok (.aload_n 0, 1) := by decide +kernel
theorem dX5_costOf_16 : decode cX5_costOf 16 = .ok (.getfield 15, 3) := by decide +kernel
theorem dX5_costOf_19 : decode cX5_costOf 19 = .ok (.iload_n 1, 1) := by decide +kernel
theorem dX5_costOf_20 : decode cX5_costOf 20 = .ok (.iload_n 2, 1) := by decide +kernel
theorem dX5_costOf_21 : decode cX5_costOf 21 = .ok (.invokevirtual 74, 3) := by decide +kernel
theorem dX5_costOf_24 : decode cX5_costOf 24 = .ok (.ifCond .eq 5, 3) := by decide +kernel
theorem dX5_costOf_27 : decode cX5_costOf 27 = .ok (.iconst (-1), 1) := by decide +kernel
theorem dX5_costOf_28 : decode cX5_costOf 28 = .ok (.ireturn, 1) := by decide +kernel
theorem dX5_costOf_29 : decode cX5_costOf 29 = .ok (.aload_n 0, 1) := by decide +kernel
theorem dX5_costOf_30 : decode cX5_costOf 30 = .ok (.getfield 25, 3) := by decide +kernel
theorem dX5_costOf_33 : decode cX5_costOf 33 = .ok (.getfield 78, 3) := by decide +kernel
theorem dX5_costOf_36 : decode cX5_costOf 36 = .ok (.iload_n 2, 1) := by decide +kernel
theorem dX5_costOf_37 : decode cX5_costOf 37 = .ok (.iaload, 1) := by decide +kernel
theorem dX5_costOf_38 : decode cX5_costOf 38 = .ok (.istore_n 3, 1) := by decide +kernel
theorem dX5_costOf_39 : decode cX5_costOf 39 = .ok (.iload_n 3, 1) := by decide +kernel
theorem dX5_costOf_40 : decode cX5_costOf 40 = .ok (.iconst (-1), 1) := by decide +kernel
theorem dX5_costOf_41 : decode cX5_costOf 41 = .ok (.if_icmp .eq 8, 3) := by decide +kernel
theorem dX5_costOf_44 : decode cX5_costOf 44 = .ok (.iload_n 3, 1) := by decide +kernel
theorem dX5_costOf_45 : decode cX5_costOf 45 = .ok (.iload_n 1, 1) := by decide +kernel
theorem dX5_costOf_46 : decode cX5_costOf 46 = .ok (.if_icmp .ne 7, 3) := by decide +kernel
theorem dX5_costOf_49 : decode cX5_costOf 49 = .ok (.iconst 0, 1) := by decide +kernel
theorem dX5_costOf_50 : decode cX5_costOf 50 = .ok (.goto 4, 3) := by decide +kernel
theorem dX5_costOf_53 : decode cX5_costOf 53 = .ok (.iconst 1, 1) := by decide +kernel
theorem dX5_costOf_54 : decode cX5_costOf 54 = .ok (.ireturn, 1) := by decide +kernel
theorem dX5_costOfRow_0 : decode cX5_costOfRow 0 = .ok (.iconst 0, 1) := by decide +kernel
theorem dX5_costOfRow_1 : decode cX5_costOfRow 1 = .ok (.istore_n 3, 1) := by decide +kernel
theorem dX5_costOfRow_2 : decode cX5_costOfRow 2 = .ok (.iconst 0, 1) := by decide +kernel
theorem dX5_costOfRow_3 : decode cX5_costOfRow 3 = .ok (.istore 4, 2) := by decide +kernel
theorem dX5_costOfRow_5 : decode cX5_costOfRow 5 = .ok (.iload 4, 2) := by decide +kernel
theorem dX5_costOfRow_7 : decode cX5_costOfRow 7 = .ok (.iload_n 2, 1) := by decide +kernel
theorem dX5_costOfRow_8 : decode cX5_costOfRow 8 = .ok (.if_icmp .ge 37, 3) := by decide +kernel
theorem dX5_costOfRow_11 : decode cX5_costOfRow 11 = .ok (.aload_n 0, 1) := by decide +kernel
theorem dX5_costOfRow_12 : decode cX5_costOfRow 12 = .ok (.getfield 9, 3) := by decide +kernel
theorem dX5_costOfRow_15 : decode cX5_costOfRow 15 = .ok (.iload_n 1, 1) := by decide +kernel
theorem dX5_costOfRow_16 : decode cX5_costOfRow 16 = .ok (.iload 4, 2) := by decide +kernel
theorem dX5_costOfRow_18 : decode cX5_costOfRow 18 = .ok (.iadd, 1) := by decide +kernel
theorem dX5_costOfRow_19 : decode cX5_costOfRow 19 = .ok (.sipush 168, 3) := by decide +kernel
theorem dX5_costOfRow_22 : decode cX5_costOfRow 22 = .ok (.irem, 1) := by decide +kernel
theorem dX5_costOfRow_23 : decode cX5_costOfRow 23 = .ok (.iaload, 1) := by decide +kernel
theorem dX5_costOfRow_24 : decode cX5_costOfRow 24 = .ok (.istore 5, 2) := by decide +kernel
theorem dX5_costOfRow_26 : decode cX5_costOfRow 26 = .ok (.iload 5, 2) := by decide +kernel
theorem dX5_costOfRow_28 : decode cX5_costOfRow 28 = .ok (.iconst (-1), 1) := by decide +kernel
theorem dX5_costOfRow_29 : decode cX5_costOfRow 29 = .ok (.if_icmp .ne 5, 3) := by decide +kernel
theorem dX5_costOfRow_32 : decode cX5_costOfRow 32 = .ok (.iconst (-1), 1) := by decide +kernel
theorem dX5_costOfRow_33 : decode cX5_costOfRow 33 = .ok (.ireturn, 1) := by decide +kernel
theorem dX5_costOfRow_34 : decode cX5_costOfRow 34 = .ok (.iload_n 3, 1) := by decide +kernel
theorem dX5_costOfRow_35 : decode cX5_costOfRow 35 = .ok (.iload 5, 2) := by decide +kernel
theorem dX5_costOfRow_37 : decode cX5_costOfRow 37 = .ok (.iadd, 1) := by decide +kernel
theorem dX5_costOfRow_38 : decode cX5_costOfRow 38 = .ok (.istore_n 3, 1) := by decide +kernel
theorem dX5_costOfRow_39 : decode cX5_costOfRow 39 = .ok (.iinc 4 1, 3) := by decide +kernel
theorem dX5_costOfRow_42 : decode cX5_costOfRow 42 = .ok (.goto (-37), 3) := by decide +kernel
theorem dX5_costOfRow_45 : decode cX5_costOfRow 45 = .ok (.iload_n 3, 1) := by decide +kernel
theorem dX5_costOfRow_46 : decode cX5_costOfRow 46 = .ok (.ireturn, 1) := by decide +kernel
theorem dX5_nearBy_0 : decode cX5_nearBy 0 = .ok (.aload_n 0, 1) := by decide +kernel
theorem dX5_nearBy_1 : decode cX5_nearBy 1 = .ok (.getfield 25, 3) := by decide +kernel
theorem dX5_nearBy_4 : decode cX5_nearBy 4 = .ok (.iload_n 1, 1) := by decide +kernel
theorem dX5_nearBy_5 : decode cX5_nearBy 5 = .ok (.invokestatic 81, 3) := by decide +kernel
theorem dX5_nearBy_8 : decode cX5_nearBy 8 = .ok (.invokevirtual 26, 3) := by decide +kernel
theorem dX5_nearBy_11 : decode cX5_nearBy 11 = .ok (.invokestatic 84, 3) := by decide +kernel
theorem dX5_nearBy_14 : decode cX5_nearBy 14 = .ok (.aload_n 0, 1) := by decide +kernel
theorem dX5_nearBy_15 : decode cX5_nearBy 15 = .ok (.getfield 25, 3) := by decide +kernel
theorem dX5_nearBy_18 : decode cX5_nearBy 18 = .ok (.iload_n 1, 1) := by decide +kernel
theorem dX5_nearBy_19 : decode cX5_nearBy 19 = .ok (.invokevirtual 26, 3) := by decide +kernel
theorem dX5_nearBy_22 : decode cX5_nearBy 22 = .ok (.invokestatic 84, 3) := by decide +kernel
theorem dX5_nearBy_25 : decode cX5_nearBy 25 = .ok (.ior, 1) := by decide +kernel
theorem dX5_nearBy_26 : decode cX5_nearBy 26 = .ok (.aload_n 0, 1) := by decide +kernel
theorem dX5_nearBy_27 : decode cX5_nearBy 27 = .ok (.getfield 25, 3) := by decide +kernel
theorem dX5_nearBy_30 : decode cX5_nearBy 30 = .ok (.iload_n 1, 1) := by decide +kernel
theorem dX5_nearBy_31 : decode cX5_nearBy 31 = .ok (.invokestatic 32, 3) := by decide +kernel
theorem dX5_nearBy_34 : decode cX5_nearBy 34 = .ok (.invokevirtual 26, 3) := by decide +kernel
theorem dX5_nearBy_37 : decode cX5_nearBy 37 = .ok (.invokestatic 84, 3) := by decide +kernel
theorem dX5_nearBy_40 : decode cX5_nearBy 40 = .ok (.ior, 1) := by decide +kernel
theorem dX5_nearBy_41 : decode cX5_nearBy 41 = .ok (.ireturn, 1) := by decide +kernel
theorem dX5_bitOf_0 : decode cX5_bitOf 0 = .ok (.iload_n 0, 1) := by decide +kernel
theorem dX5_bitOf_1 : decode cX5_bitOf 1 = .ok (.iconst (-1), 1) := by decide +kernel
theorem dX5_bitOf_2 : decode cX5_bitOf 2 = .ok (.if_icmp .ne 7, 3) := by decide +kernel
theorem dX5_bitOf_5 : decode cX5_bitOf 5 = .ok (.iconst 0, 1) := by decide +kernel
theorem dX5_bitOf_6 : decode cX5_bitOf 6 = .ok (.goto 6, 3) := by decide +kernel
theorem dX5_bitOf_9 : decode cX5_bitOf 9 = .ok (.iconst 1, 1) := by decide +kernel
theorem dX5_bitOf_10 : decode cX5_bitOf 10 = .ok (.iload_n 0, 1) := by decide +kernel
theorem dX5_bitOf_11 : decode cX5_bitOf 11 = .ok (.ishl, 1) := by decide +kernel
theorem dX5_bitOf_12 : decode cX5_bitOf 12 = .ok (.ireturn, 1) := by decide +kernel
theorem dX5_livedInRow_0 : decode cX5_livedInRow 0 = .ok (.iconst 0, 1) := by decide +kernel
theorem dX5_livedInRow_1 : decode cX5_livedInRow 1 = .ok (.istore 4, 2) := by decide +kernel
theorem dX5_livedInRow_3 : decode cX5_livedInRow 3 = .ok (.iconst 0, 1) := by decide +kernel
theorem dX5_livedInRow_4 : decode cX5_livedInRow 4 = .ok (.istore 5, 2) := by decide +kernel
theorem dX5_livedInRow_6 : decode cX5_livedInRow 6 = .ok (.iload 5, 2) := by decide +kernel
theorem dX5_livedInRow_8 : decode cX5_livedInRow 8 = .ok (.iload_n 3, 1) := by decide +kernel
theorem dX5_livedInRow_9 : decode cX5_livedInRow 9 = .ok (.if_icmp .ge 31, 3) := by decide +kernel
theorem dX5_livedInRow_12 : decode cX5_livedInRow 12 = .ok (.aload_n 0, 1) := by decide +kernel
theorem dX5_livedInRow_13 : decode cX5_livedInRow 13 = .ok (.getfield 25, 3) := by decide +kernel
theorem dX5_livedInRow_16 : decode cX5_livedInRow 16 = .ok (.iload_n 2, 1) := by decide +kernel
theorem dX5_livedInRow_17 : decode cX5_livedInRow 17 = .ok (.iload 5, 2) := by decide +kernel
theorem dX5_livedInRow_19 : decode cX5_livedInRow 19 = .ok (.iadd, 1) := by decide +kernel
theorem dX5_livedInRow_20 : decode cX5_livedInRow 20 = .ok (.sipush 168, 3) := by decide +kernel
theorem dX5_livedInRow_23 : decode cX5_livedInRow 23 = .ok (.irem, 1) := by decide +kernel
theorem dX5_livedInRow_24 : decode cX5_livedInRow 24 = .ok (.invokevirtual 26, 3) := by decide +kernel
theorem dX5_livedInRow_27 : decode cX5_livedInRow 27 = .ok (.iload_n 1, 1) := by decide +kernel
theorem dX5_livedInRow_28 : decode cX5_livedInRow 28 = .ok (.if_icmp .ne 6, 3) := by decide +kernel
theorem dX5_livedInRow_31 : decode cX5_livedInRow 31 = .ok (.iinc 4 1, 3) := by decide +kernel
theorem dX5_livedInRow_34 : decode cX5_livedInRow 34 = .ok (.iinc 5 1, 3) := by decide +kernel
theorem dX5_livedInRow_37 : decode cX5_livedInRow 37 = .ok (.goto (-31), 3) := by decide +kernel
theorem dX5_livedInRow_40 : decode cX5_livedInRow 40 = .ok (.iload 4, 2) := by decide +kernel
theorem dX5_livedInRow_42 : decode cX5_livedInRow 42 = .ok (.ireturn, 1) := by decide +kernel
theorem dX5_mostInRow_0 : decode cX5_mostInRow 0 = .ok (.iconst 0, 1) := by decide +kernel
theorem dX5_mostInRow_1 : decode cX5_mostInRow 1 = .ok (.istore_n 3, 1) := by decide +kernel
theorem dX5_mostInRow_2 : decode cX5_mostInRow 2 = .ok (.iconst (-1), 1) := by decide +kernel
theorem dX5_mostInRow_3 : decode cX5_mostInRow 3 = .ok (.istore 4, 2) := by decide +kernel
theorem dX5_mostInRow_5 : decode cX5_mostInRow 5 = .ok (.iconst 0, 1) := by decide +kernel
theorem dX5_mostInRow_6 : decode cX5_mostInRow 6 = .ok (.istore 5, 2) := by decide +kernel
theorem dX5_mostInRow_8 : decode cX5_mostInRow 8 = .ok (.iload 5, 2) := by decide +kernel
theorem dX5_mostInRow_10 : decode cX5_mostInRow 10 = .ok (.aload_n 0, 1) := by decide +kernel
theorem dX5_mostInRow_11 : decode cX5_mostInRow 11 = .ok (.getfield 15, 3) := by decide +kernel
theorem dX5_mostInRow_14 : decode cX5_mostInRow 14 = .ok (.getfield 49, 3) := by decide +kernel
theorem dX5_mostInRow_17 : decode cX5_mostInRow 17 = .ok (.getfield 53, 3) := by decide +kernel
theorem dX5_mostInRow_20 : decode cX5_mostInRow 20 = .ok (.if_icmp .ge 32, 3) := by decide +kernel
theorem dX5_mostInRow_23 : decode cX5_mostInRow 23 = .ok (.aload_n 0, 1) := by decide +kernel
theorem dX5_mostInRow_24 : decode cX5_mostInRow 24 = .ok (.iload 5, 2) := by decide +kernel
theorem dX5_mostInRow_26 : decode cX5_mostInRow 26 = .ok (.iload_n 1, 1) := by decide +kernel
theorem dX5_mostInRow_27 : decode cX5_mostInRow 27 = .ok (.iload_n 2, 1) := by decide +kernel
theorem dX5_mostInRow_28 : decode cX5_mostInRow 28 = .ok (.invokevirtual 87, 3) := by decide +kernel
theorem dX5_mostInRow_31 : decode cX5_mostInRow 31 = .ok (.istore 6, 2) := by decide +kernel
theorem dX5_mostInRow_33 : decode cX5_mostInRow 33 = .ok (.iload 6, 2) := by decide +kernel
theorem dX5_mostInRow_35 : decode cX5_mostInRow 35 = .ok (.iload_n 3, 1) := by decide +kernel
theorem dX5_mostInRow_36 : decode cX5_mostInRow 36 = .ok (.if_icmp .le 10, 3) := by decide +kernel
theorem dX5_mostInRow_39 : decode cX5_mostInRow 39 = .ok (.iload 6, 2) := by decide +kernel
theorem dX5_mostInRow_41 : decode cX5_mostInRow 41 = .ok (.istore_n 3, 1) := by decide +kernel
theorem dX5_mostInRow_42 : decode cX5_mostInRow 42 = .ok (.iload 5, 2) := by decide +kernel
theorem dX5_mostInRow_44 : decode cX5_mostInRow 44 = .ok (.istore 4, 2) := by decide +kernel
theorem dX5_mostInRow_46 : decode cX5_mostInRow 46 = .ok (.iinc 5 1, 3) := by decide +kernel
theorem dX5_mostInRow_49 : decode cX5_mostInRow 49 = .ok (.goto (-41), 3) := by decide +kernel
theorem dX5_mostInRow_52 : decode cX5_mostInRow 52 = .ok (.iload 4, 2) := by decide +kernel
theorem dX5_mostInRow_54 : decode cX5_mostInRow 54 = .ok (.ireturn, 1) := by decide +kernel
theorem dX10_init_0 : decode cX10_init 0 = .ok (.aload_n 0, 1) := by decide +kernel
theorem dX10_init_1 : decode cX10_init 1 = .ok (.invokespecial 1, 3) := by decide +kernel
theorem dX10_init_4 : decode cX10_init 4 = .ok (.aload_n 0, 1) := by decide +kernel
theorem dX10_init_5 : decode cX10_init 5 = .ok (.sipush 400, 3) := by decide +kernel
theorem dX10_init_8 : decode cX10_init 8 = .ok (.newarray .int, 2) := by decide +kernel
theorem dX10_init_10 : decode cX10_init 10 = .ok (.putfield 9, 3) := by decide +kernel
theorem dX10_init_13 : decode cX10_init 13 = .ok (.aload_n 0, 1) := by decide +kernel
theorem dX10_init_14 : decode cX10_init 14 = .ok (.iconst (-1), 1) := by decide +kernel
theorem dX10_init_15 : decode cX10_init 15 = .ok (.putfield 13, 3) := by decide +kernel
theorem dX10_init_18 : decode cX10_init 18 = .ok (.aload_n 0, 1) := by decide +kernel
theorem dX10_init_19 : decode cX10_init 19 = .ok (.new 17, 3) := by decide +kernel
theorem dX10_init_22 : decode cX10_init 22 = .ok (.dup, 1) := by decide +kernel
theorem dX10_init_23 : decode cX10_init 23 = .ok (.invokespecial 19, 3) := by decide +kernel
theorem dX10_init_26 : decode cX10_init 26 = .ok (.putfield 20, 3) := by decide +kernel
theorem dX10_init_29 : decode cX10_init 29 = .ok (.aload_n 0, 1) := by decide +kernel
theorem dX10_init_30 : decode cX10_init 30 = .ok (.new 17, 3) := by decide +kernel
theorem dX10_init_33 : decode cX10_init 33 = .ok (.dup, 1) := by decide +kernel
theorem dX10_init_34 : decode cX10_init 34 = .ok (.invokespecial 19, 3) := by decide +kernel
theorem dX10_init_37 : decode cX10_init 37 = .ok (.putfield 24, 3) := by decide +kernel
theorem dX10_init_40 : decode cX10_init 40 = .ok (.aload_n 0, 1) := by decide +kernel
theorem dX10_init_41 : decode cX10_init 41 = .ok (.new 17, 3) := by decide +kernel
theorem dX10_init_44 : decode cX10_init 44 = .ok (.dup, 1) := by decide +kernel
theorem dX10_init_45 : decode cX10_init 45 = .ok (.invokespecial 19, 3) := by decide +kernel
theorem dX10_init_48 : decode cX10_init 48 = .ok (.putfield 27, 3) := by decide +kernel
theorem dX10_init_51 : decode cX10_init 51 = .ok (.aload_n 0, 1) := by decide +kernel
theorem dX10_init_52 : decode cX10_init 52 = .ok (.bipush 12, 2) := by decide +kernel
theorem dX10_init_54 : decode cX10_init 54 = .ok (.anewarray 30, 3) := by decide +kernel
theorem dX10_init_57 : decode cX10_init 57 = .ok (.putfield 32, 3) := by decide +kernel
theorem dX10_init_60 : decode cX10_init 60 = .ok (.aload_n 0, 1) := by decide +kernel
theorem dX10_init_61 : decode cX10_init 61 = .ok (.new 36, 3) := by decide +kernel
theorem dX10_init_64 : decode cX10_init 64 = .ok (.dup, 1) := by decide +kernel
theorem dX10_init_65 : decode cX10_init 65 = .ok (.aload_n 0, 1) := by decide +kernel
theorem dX10_init_66 : decode cX10_init 66 = .ok (.getfield 9, 3) := by decide +kernel
theorem dX10_init_69 : decode cX10_init 69 = .ok (.aload_n 0, 1) := by decide +kernel
theorem dX10_init_70 : decode cX10_init 70 = .ok (.getfield 24, 3) := by decide +kernel
theorem dX10_init_73 : decode cX10_init 73 = .ok (.invokespecial 38, 3) := by decide +kernel
theorem dX10_init_76 : decode cX10_init 76 = .ok (.putfield 41, 3) := by decide +kernel
theorem dX10_init_79 : decode cX10_init 79 = .ok (.aload_n 0, 1) := by decide +kernel
theorem dX10_init_80 : decode cX10_init 80 = .ok (.new 45, 3) := by decide +kernel
theorem dX10_init_83 : decode cX10_init 83 = .ok (.dup, 1) := by decide +kernel
theorem dX10_init_84 : decode cX10_init 84 = .ok (.aload_n 0, 1) := by decide +kernel
theorem dX10_init_85 : decode cX10_init 85 = .ok (.getfield 9, 3) := by decide +kernel
theorem dX10_init_88 : decode cX10_init 88 = .ok (.aload_n 0, 1) := by decide +kernel
theorem dX10_init_89 : decode cX10_init 89 = .ok (.getfield 24, 3) := by decide +kernel
theorem dX10_init_92 : decode cX10_init 92 = .ok (.getfield 47, 3) := by decide +kernel
theorem dX10_init_95 : decode cX10_init 95 = .ok (.invokespecial 51, 3) := by decide +kernel
theorem dX10_init_98 : decode cX10_init 98 = .ok (.putfield 54, 3) := by decide +kernel
theorem dX10_init_101 : decode cX10_init 101 = .ok (.aload_n 0, 1) := by decide +kernel
theorem dX10_init_102 : decode cX10_init 102 = .ok (.new 58, 3) := by decide +kernel
theorem dX10_init_105 : decode cX10_init 105 = .ok (.dup, 1) := by decide +kernel
theorem dX10_init_106 : decode cX10_init 106 = .ok (.aload_n 0, 1) := by decide +kernel
theorem dX10_init_107 : decode cX10_init 107 = .ok (.getfield 20, 3) := by decide +kernel
theorem dX10_init_110 : decode cX10_init 110 = .ok (.invokespecial 60, 3) := by decide +kernel
theorem dX10_init_113 : decode cX10_init 113 = .ok (.putfield 63, 3) := by decide +kernel
theorem dX10_init_116 : decode cX10_init 116 = .ok (.aload_n 0, 1) := by decide +kernel
theorem dX10_init_117 : decode cX10_init 117 = .ok (.new 67, 3) := by decide +kernel
theorem dX10_init_120 : decode cX10_init 120 = .ok (.dup, 1) := by decide +kernel
theorem dX10_init_121 : decode cX10_init 121 = .ok (.aload_n 0, 1) := by decide +kernel
theorem dX10_init_122 : decode cX10_init 122 = .ok (.getfield 20, 3) := by decide +kernel
theorem dX10_init_125 : decode cX10_init 125 = .ok (.invokespecial 69, 3) := by decide +kernel
theorem dX10_init_128 : decode cX10_init 128 = .ok (.putfield 70, 3) := by decide +kernel
theorem dX10_init_131 : decode cX10_init 131 = .ok (.aload_n 0, 1) := by decide +kernel
theorem dX10_init_132 : decode cX10_init 132 = .ok (.new 74, 3) := by decide +kernel
theorem dX10_init_135 : decode cX10_init 135 = .ok (.dup, 1) := by decide +kernel
theorem dX10_init_136 : decode cX10_init 136 = .ok (.aload_n 0, 1) := by decide +kernel
theorem dX10_init_137 : decode cX10_init 137 = .ok (.getfield 20, 3) := by decide +kernel
theorem dX10_init_140 : decode cX10_init 140 = .ok (.invokespecial 76, 3) := by decide +kernel
theorem dX10_init_143 : decode cX10_init 143 = .ok (.putfield 77, 3) := by decide +kernel
theorem dX10_init_146 : decode cX10_init 146 = .ok (.iconst 0, 1) := by decide +kernel
theorem dX10_init_147 : decode cX10_init 147 = .ok (.istore_n 1, 1) := by decide +kernel
theorem dX10_init_148 : decode cX10_init 148 = .ok (.iload_n 1, 1) := by decide +kernel
theorem dX10_init_149 : decode cX10_init 149 = .ok (.bipush 12, 2) := by decide +kernel
theorem dX10_init_151 : decode cX10_init 151 = .ok (.if_icmp .ge 22, 3) := by decide +kernel
theorem dX10_init_154 : decode cX10_init 154 = .ok (.aload_n 0, 1) := by decide +kernel
theorem dX10_init_155 : decode cX10_init 155 = .ok (.getfield 32, 3) := by decide +kernel
theorem dX10_init_158 : decode cX10_init 158 = .ok (.iload_n 1, 1) := by decide +kernel
theorem dX10_init_159 : decode cX10_init 159 = .ok (.new 30, 3) := by decide +kernel
theorem dX10_init_162 : decode cX10_init 162 = .ok (.dup, 1) := by decide +kernel
theorem dX10_init_163 : decode cX10_init 163 = .ok (.invokespecial 81, 3) := by decide +kernel
theorem dX10_init_166 : decode cX10_init 166 = .ok (.aastore, 1) := by decide +kernel
theorem dX10_init_167 : decode cX10_init 167 = .ok (.iinc 1 1, 3) := by decide +kernel
theorem dX10_init_170 : decode cX10_init 170 = .ok (.goto (-22), 3) := by decide +kernel
theorem dX10_init_173 : decode cX10_init 173 = .ok (.return_, 1) := by decide +kernel
theorem dX10_feed_0 : decode cX10_feed 0 = .ok (.aload_n 0, 1) := by decide +kernel
theorem dX10_feed_1 : decode cX10_feed 1 = .ok (.getfield 82, 3) := by decide +kernel
theorem dX10_feed_4 : decode cX10_feed 4 = .ok (.bipush 20, 2) := by decide +kernel
theorem dX10_feed_6 : decode cX10_feed 6 = .ok (.iadd, 1) := by decide +kernel
theorem dX10_feed_7 : decode cX10_feed 7 = .ok (.sipush 400, 3) := by decide +kernel
theorem dX10_feed_10 : decode cX10_feed 10 = .ok (.if_icmp .le 5, 3) := by decide +kernel
theorem dX10_feed_13 : decode cX10_feed 13 = .ok (.iconst (-1), 1) := by decide +kernel
theorem dX10_feed_14 : decode cX10_feed 14 = .ok (.ireturn, 1) := by decide +kernel
theorem dX10_feed_15 : decode cX10_feed 15 = .ok (.aload_n 0, 1) := by decide +kernel
theorem dX10_feed_16 : decode cX10_feed 16 = .ok (.iload_n 1, 1) := by decide +kernel
theorem dX10_feed_17 : decode cX10_feed 17 = .ok (.invokevirtual 85, 3) := by decide +kernel
theorem dX10_feed_20 : decode cX10_feed 20 = .ok (.aload_n 0, 1) := by decide +kernel
theorem dX10_feed_21 : decode cX10_feed 21 = .ok (.iload_n 2, 1) := by decide +kernel
theorem dX10_feed_22 : decode cX10_feed 22 = .ok (.invokevirtual 85, 3) := by decide +kernel
theorem dX10_feed_25 : decode cX10_feed 25 = .ok (.aload_n 0, 1) := by decide +kernel
theorem dX10_feed_26 : decode cX10_feed 26 = .ok (.iload_n 3, 1) := by decide +kernel
theorem dX10_feed_27 : decode cX10_feed 27 = .ok (.invokevirtual 85, 3) := by decide +kernel
theorem dX10_feed_30 : decode cX10_feed 30 = .ok (.aload_n 0, 1) := by decide +kernel
theorem dX10_feed_31 : decode cX10_feed 31 = .ok (.iload 4, 2) := by decide +kernel
theorem dX10_feed_33 : decode cX10_feed 33 = .ok (.invokevirtual 85, 3) := by decide +kernel
theorem dX10_feed_36 : decode cX10_feed 36 = .ok (.aload_n 0, 1) := by decide +kernel
theorem dX10_feed_37 : decode cX10_feed 37 = .ok (.iload 5, 2) := by decide +kernel
theorem dX10_feed_39 : decode cX10_feed 39 = .ok (.invokevirtual 85, 3) := by decide +kernel
theorem dX10_feed_42 : decode cX10_feed 42 = .ok (.aload_n 0, 1) := by decide +kernel
theorem dX10_feed_43 : decode cX10_feed 43 = .ok (.getfield 82, 3) := by decide +kernel
theorem dX10_feed_46 : decode cX10_feed 46 = .ok (.ireturn, 1) := by decide +kernel
theorem dX10_end_0 : decode cX10_end 0 = .ok (.iload_n 1, 1) := by decide +kernel
theorem dX10_end_1 : decode cX10_end 1 = .ok (.ifCond .lt 11, 3) := by decide +kernel
theorem dX10_end_4 : decode cX10_end 4 = .ok (.iload_n 1, 1) := by decide +kernel
theorem dX10_end_5 : decode cX10_end 5 = .ok (.aload_n 0, 1) := by decide +kernel
theorem dX10_end_6 : decode cX10_end 6 = .ok (.getfield 82, 3) := by decide +kernel
theorem dX10_end_9 : decode cX10_end 9 = .ok (.if_icmp .le 5, 3) := by decide +kernel
theorem dX10_end_12 : decode cX10_end 12 = .ok (.iconst 0, 1) := by decide +kernel
theorem dX10_end_13 : decode cX10_end 13 = .ok (.ireturn, 1) := by decide +kernel
theorem dX10_end_14 : decode cX10_end 14 = .ok (.aload_n 0, 1) := by decide +kernel
theorem dX10_end_15 : decode cX10_end 15 = .ok (.iload_n 1, 1) := by decide +kernel
theorem dX10_end_16 : decode cX10_end 16 = .ok (.putfield 82, 3) := by decide +kernel
theorem dX10_end_19 : decode cX10_end 19 = .ok (.iconst 1, 1) := by decide +kernel
theorem dX10_end_20 : decode cX10_end 20 = .ok (.ireturn, 1) := by decide +kernel
theorem dX10_town_0 : decode cX10_town 0 = .ok (.aload_n 0, 1) := by decide +kernel
theorem dX10_town_1 : decode cX10_town 1 = .ok (.getfield 24, 3) := by decide +kernel
theorem dX10_town_4 : decode cX10_town 4 = .ok (.getfield 89, 3) := by decide +kernel
theorem dX10_town_7 : decode cX10_town 7 = .ok (.aload_n 0, 1) := by decide +kernel
theorem dX10_town_8 : decode cX10_town 8 = .ok (.getfield 20, 3) := by decide +kernel
theorem dX10_town_11 : decode cX10_town 11 = .ok (.getfield 89, 3) := by decide +kernel
theorem dX10_town_14 : decode cX10_town 14 = .ok (.invokevirtual 93, 3) := by decide +kernel
theorem dX10_town_17 : decode cX10_town 17 = .ok (.aload_n 0, 1) := by decide +kernel
theorem dX10_town_18 : decode cX10_town 18 = .ok (.getfield 24, 3) := by decide +kernel
theorem dX10_town_21 : decode cX10_town 21 = .ok (.getfield 97, 3) := by decide +kernel
theorem dX10_town_24 : decode cX10_town 24 = .ok (.aload_n 0, 1) := by decide +kernel
theorem dX10_town_25 : decode cX10_town 25 = .ok (.getfield 20, 3) := by decide +kernel
theorem dX10_town_28 : decode cX10_town 28 = .ok (.getfield 97, 3) := by decide +kernel
theorem dX10_town_31 : decode cX10_town 31 = .ok (.invokevirtual 101, 3) := by decide +kernel
theorem dX10_town_34 : decode cX10_town 34 = .ok (.aload_n 0, 1) := by decide +kernel
theorem dX10_town_35 : decode cX10_town 35 = .ok (.aload_n 0, 1) := by decide +kernel
theorem dX10_town_36 : decode cX10_town 36 = .ok (.getfield 41, 3) := by decide +kernel
theorem dX10_town_39 : decode cX10_town 39 = .ok (.aload_n 0, 1) := by decide +kernel
theorem dX10_town_40 : decode cX10_town 40 = .ok (.invokevirtual 106, 3) := by decide +kernel
theorem dX10_town_43 : decode cX10_town 43 = .ok (.invokevirtual 110, 3) := by decide +kernel
theorem dX10_town_46 : decode cX10_town 46 = .ok (.putfield 13, 3) := by decide +kernel
theorem dX10_town_49 : decode cX10_town 49 = .ok (.aload_n 0, 1) := by decide +kernel
theorem dX10_town_50 : decode cX10_town 50 = .ok (.getfield 13, 3) := by decide +kernel
theorem dX10_town_53 : decode cX10_town 53 = .ok (.iconst (-1), 1) := by decide +kernel
theorem dX10_town_54 : decode cX10_town 54 = .ok (.if_icmp .eq 13, 3) := by decide +kernel
theorem dX10_town_57 : decode cX10_town 57 = .ok (.new 114, 3) := by decide +kernel
theorem dX10_town_60 : decode cX10_town 60 = .ok (.dup, 1) := by decide +kernel
theorem dX10_town_61 : decode cX10_town 61 = .ok (.ldc 116, 2) := by decide +kernel
theorem dX10_town_63 : decode cX10_town 63 = .ok (.invokespecial 118, 3) := by decide +kernel
theorem dX10_town_66 : decode cX10_town 66 = .ok (.athrow, 1) := by decide +kernel
theorem dX10_town_67 : decode cX10_town 67 = .ok (.aload_n 0, 1) := by decide +kernel
theorem dX10_town_68 : decode cX10_town 68 = .ok (.getfield 20, 3) := by decide +kernel
theorem dX10_town_71 : decode cX10_town 71 = .ok (.getfield 97, 3) := by decide +kernel
theorem dX10_town_74 : decode cX10_town 74 = .ok (.getfield 121, 3) := by decide +kernel
theorem dX10_town_77 : decode cX10_town 77 = .ok (.bipush 12, 2) := by decide +kernel
theorem dX10_town_79 : decode cX10_town 79 = .ok (.if_icmp .lt 13, 3) := by decide +kernel
theorem dX10_town_82 : decode cX10_town 82 = .ok (.new 124, 3) := by decide +kernel
theorem dX10_town_85 : decode cX10_town 85 = .ok (.dup, 1) := by decide +kernel
theorem dX10_town_86 : decode cX10_town 86 = .ok (.ldc 126, 2) := by decide +kernel
theorem dX10_town_88 : decode cX10_town 88 = .ok (.invokespecial 128, 3) := by decide +kernel
theorem dX10_town_91 : decode cX10_town 91 = .ok (.athrow, 1) := by decide +kernel
theorem dX10_town_92 : decode cX10_town 92 = .ok (.aload_n 0, 1) := by decide +kernel
theorem dX10_town_93 : decode cX10_town 93 = .ok (.getfield 24, 3) := by decide +kernel
theorem dX10_town_96 : decode cX10_town 96 = .ok (.getfield 97, 3) := by decide +kernel
theorem dX10_town_99 : decode cX10_town 99 = .ok (.dup, 1) := by decide +kernel
theorem dX10_town_100 : decode cX10_town 100 = .ok (.getfield 121, 3) := by decide +kernel
theorem dX10_town_103 : decode cX10_town 103 = .ok (.iconst 1, 1) := by decide +kernel
theorem dX10_town_104 : decode cX10_town 104 = .ok (.iadd, 1) := by decide +kernel
theorem dX10_town_105 : decode cX10_town 105 = .ok (.putfield 121, 3) := by decide +kernel
theorem dX10_town_108 : decode cX10_town 108 = .ok (.aload_n 0, 1) := by decide +kernel
theorem dX10_town_109 : decode cX10_town 109 = .ok (.getfield 20, 3) := by decide +kernel
theorem dX10_town_112 : decode cX10_town 112 = .ok (.getfield 89, 3) := by decide +kernel
theorem dX10_town_115 : decode cX10_town 115 = .ok (.aload_n 0, 1) := by decide +kernel
theorem dX10_town_116 : decode cX10_town 116 = .ok (.getfield 24, 3) := by decide +kernel
theorem dX10_town_119 : decode cX10_town 119 = .ok (.getfield 89, 3) := by decide +kernel
theorem dX10_town_122 : decode cX10_town 122 = .ok (.invokevirtual 93, 3) := by decide +kernel
theorem dX10_town_125 : decode cX10_town 125 = .ok (.aload_n 0, 1) := by decide +kernel
theorem dX10_town_126 : decode cX10_town 126 = .ok (.getfield 20, 3) := by decide +kernel
theorem dX10_town_129 : decode cX10_town 129 = .ok (.getfield 97, 3) := by decide +kernel
theorem dX10_town_132 : decode cX10_town 132 = .ok (.aload_n 0, 1) := by decide +kernel
theorem dX10_town_133 : decode cX10_town 133 = .ok (.getfield 24, 3) := by decide +kernel
theorem dX10_town_136 : decode cX10_town 136 = .ok (.getfield 97, 3) := by decide +kernel
theorem dX10_town_139 : decode cX10_town 139 = .ok (.invokevirtual 101, 3) := by decide +kernel
theorem dX10_town_142 : decode cX10_town 142 = .ok (.aload_n 0, 1) := by decide +kernel
theorem dX10_town_143 : decode cX10_town 143 = .ok (.iconst 0, 1) := by decide +kernel
theorem dX10_town_144 : decode cX10_town 144 = .ok (.putfield 129, 3) := by decide +kernel
theorem dX10_town_147 : decode cX10_town 147 = .ok (.aload_n 0, 1) := by decide +kernel
theorem dX10_town_148 : decode cX10_town 148 = .ok (.getfield 20, 3) := by decide +kernel
theorem dX10_town_151 : decode cX10_town 151 = .ok (.getfield 97, 3) := by decide +kernel
theorem dX10_town_154 : decode cX10_town 154 = .ok (.getfield 121, 3) := by decide +kernel
theorem dX10_town_157 : decode cX10_town 157 = .ok (.ireturn, 1) := by decide +kernel
theorem dX10_law_0 : decode cX10_law 0 = .ok (.aload_n 0, 1) := by decide +kernel
theorem dX10_law_1 : decode cX10_law 1 = .ok (.aload_n 0, 1) := by decide +kernel
theorem dX10_law_2 : decode cX10_law 2 = .ok (.getfield 54, 3) := by decide +kernel
theorem dX10_law_5 : decode cX10_law 5 = .ok (.aload_n 0, 1) := by decide +kernel
theorem dX10_law_6 : decode cX10_law 6 = .ok (.invokevirtual 106, 3) := by decide +kernel
theorem dX10_law_9 : decode cX10_law 9 = .ok (.invokevirtual 132, 3) := by decide +kernel
theorem dX10_law_12 : decode cX10_law 12 = .ok (.putfield 13, 3) := by decide +kernel
theorem dX10_law_15 : decode cX10_law 15 = .ok (.aload_n 0, 1) := by decide +kernel
theorem dX10_law_16 : decode cX10_law 16 = .ok (.getfield 13, 3) := by decide +kernel
theorem dX10_law_19 : decode cX10_law 19 = .ok (.iconst (-1), 1) := by decide +kernel
theorem dX10_law_20 : decode cX10_law 20 = .ok (.if_icmp .eq 13, 3) := by decide +kernel
theorem dX10_law_23 : decode cX10_law 23 = .ok (.new 114, 3) := by decide +kernel
theorem dX10_law_26 : decode cX10_law 26 = .ok (.dup, 1) := by decide +kernel
theorem dX10_law_27 : decode cX10_law 27 = .ok (.ldc 116, 2) := by decide +kernel
theorem dX10_law_29 : decode cX10_law 29 = .ok (.invokespecial 118, 3) := by decide +kernel
theorem dX10_law_32 : decode cX10_law 32 = .ok (.athrow, 1) := by decide +kernel
theorem dX10_law_33 : decode cX10_law 33 = .ok (.aload_n 0, 1) := by decide +kernel
theorem dX10_law_34 : decode cX10_law 34 = .ok (.getfield 20, 3) := by decide +kernel
theorem dX10_law_37 : decode cX10_law 37 = .ok (.getfield 47, 3) := by decide +kernel
theorem dX10_law_40 : decode cX10_law 40 = .ok (.aload_n 0, 1) := by decide +kernel
theorem dX10_law_41 : decode cX10_law 41 = .ok (.getfield 24, 3) := by decide +kernel
theorem dX10_law_44 : decode cX10_law 44 = .ok (.getfield 47, 3) := by decide +kernel
theorem dX10_law_47 : decode cX10_law 47 = .ok (.invokevirtual 135, 3) := by decide +kernel
theorem dX10_law_50 : decode cX10_law 50 = .ok (.aload_n 0, 1) := by decide +kernel
theorem dX10_law_51 : decode cX10_law 51 = .ok (.iconst 0, 1) := by decide +kernel
theorem dX10_law_52 : decode cX10_law 52 = .ok (.putfield 129, 3) := by decide +kernel
theorem dX10_law_55 : decode cX10_law 55 = .ok (.aload_n 0, 1) := by decide +kernel
theorem dX10_law_56 : decode cX10_law 56 = .ok (.getfield 20, 3) := by decide +kernel
theorem dX10_law_59 : decode cX10_law 59 = .ok (.getfield 47, 3) := by decide +kernel
theorem dX10_law_62 : decode cX10_law 62 = .ok (.getfield 140, 3) := by decide +kernel
theorem dX10_law_65 : decode cX10_law 65 = .ok (.ireturn, 1) := by decide +kernel
theorem dX10_fault_0 : decode cX10_fault 0 = .ok (.aload_n 0, 1) := by decide +kernel
theorem dX10_fault_1 : decode cX10_fault 1 = .ok (.getfield 13, 3) := by decide +kernel
theorem dX10_fault_4 : decode cX10_fault 4 = .ok (.ireturn, 1) := by decide +kernel
theorem dX10_tenant_0 : decode cX10_tenant 0 = .ok (.aload_n 0, 1) := by decide +kernel
theorem dX10_tenant_1 : decode cX10_tenant 1 = .ok (.iload_n 1, 1) := by decide +kernel
theorem dX10_tenant_2 : decode cX10_tenant 2 = .ok (.invokevirtual 143, 3) := by decide +kernel
theorem dX10_tenant_5 : decode cX10_tenant 5 = .ok (.iload_n 2, 1) := by decide +kernel
theorem dX10_tenant_6 : decode cX10_tenant 6 = .ok (.tableswitch 145 0 7 #[46, 59, 72, 85, 98, 111, 127, 136], 46) := by decide +kernel
theorem dX10_tenant_52 : decode cX10_tenant 52 = .ok (.aload_n 0, 1) := by decide +kernel
theorem dX10_tenant_53 : decode cX10_tenant 53 = .ok (.getfield 20, 3) := by decide +kernel
theorem dX10_tenant_56 : decode cX10_tenant 56 = .ok (.getfield 89, 3) := by decide +kernel
theorem dX10_tenant_59 : decode cX10_tenant 59 = .ok (.getfield 146, 3) := by decide +kernel
theorem dX10_tenant_62 : decode cX10_tenant 62 = .ok (.iload_n 1, 1) := by decide +kernel
theorem dX10_tenant_63 : decode cX10_tenant 63 = .ok (.iaload, 1) := by decide +kernel
theorem dX10_tenant_64 : decode cX10_tenant 64 = .ok (.ireturn, 1) := by decide +kernel
theorem dX10_tenant_65 : decode cX10_tenant 65 = .ok (.aload_n 0, 1) := by decide +kernel
theorem dX10_tenant_66 : decode cX10_tenant 66 = .ok (.getfield 20, 3) := by decide +kernel
theorem dX10_tenant_69 : decode cX10_tenant 69 = .ok (.getfield 97, 3) := by decide +kernel
theorem dX10_tenant_72 : decode cX10_tenant 72 = .ok (.getfield 149, 3) := by decide +kernel
theorem dX10_tenant_75 : decode cX10_tenant 75 = .ok (.iload_n 1, 1) := by decide +kernel
theorem dX10_tenant_76 : decode cX10_tenant 76 = .ok (.iaload, 1) := by decide +kernel
theorem dX10_tenant_77 : decode cX10_tenant 77 = .ok (.ireturn, 1) := by decide +kernel
theorem dX10_tenant_78 : decode cX10_tenant 78 = .ok (.aload_n 0, 1) := by decide +kernel
theorem dX10_tenant_79 : decode cX10_tenant 79 = .ok (.getfield 20, 3) := by decide +kernel
theorem dX10_tenant_82 : decode cX10_tenant 82 = .ok (.getfield 97, 3) := by decide +kernel
theorem dX10_tenant_85 : decode cX10_tenant 85 = .ok (.getfield 152, 3) := by decide +kernel
theorem dX10_tenant_88 : decode cX10_tenant 88 = .ok (.iload_n 1, 1) := by decide +kernel
theorem dX10_tenant_89 : decode cX10_tenant 89 = .ok (.iaload, 1) := by decide +kernel
theorem dX10_tenant_90 : decode cX10_tenant 90 = .ok (.ireturn, 1) := by decide +kernel
theorem dX10_tenant_91 : decode cX10_tenant 91 = .ok (.aload_n 0, 1) := by decide +kernel
theorem dX10_tenant_92 : decode cX10_tenant 92 = .ok (.getfield 20, 3) := by decide +kernel
theorem dX10_tenant_95 : decode cX10_tenant 95 = .ok (.getfield 97, 3) := by decide +kernel
theorem dX10_tenant_98 : decode cX10_tenant 98 = .ok (.getfield 155, 3) := by decide +kernel
theorem dX10_tenant_101 : decode cX10_tenant 101 = .ok (.iload_n 1, 1) := by decide +kernel
theorem dX10_tenant_102 : decode cX10_tenant 102 = .ok (.iaload, 1) := by decide +kernel
theorem dX10_tenant_103 : decode cX10_tenant 103 = .ok (.ireturn, 1) := by decide +kernel
theorem dX10_tenant_104 : decode cX10_tenant 104 = .ok (.aload_n 0, 1) := by decide +kernel
theorem dX10_tenant_105 : decode cX10_tenant 105 = .ok (.getfield 20, 3) := by decide +kernel
theorem dX10_tenant_108 : decode cX10_tenant 108 = .ok (.getfield 89, 3) := by decide +kernel
theorem dX10_tenant_111 : decode cX10_tenant 111 = .ok (.getfield 158, 3) := by decide +kernel
theorem dX10_tenant_114 : decode cX10_tenant 114 = .ok (.iload_n 1, 1) := by decide +kernel
theorem dX10_tenant_115 : decode cX10_tenant 115 = .ok (.iaload, 1) := by decide +kernel
theorem dX10_tenant_116 : decode cX10_tenant 116 = .ok (.ireturn, 1) := by decide +kernel
theorem dX10_tenant_117 : decode cX10_tenant 117 = .ok (.aload_n 0, 1) := by decide +kernel
theorem dX10_tenant_118 : decode cX10_tenant 118 = .ok (.getfield 20, 3) := by decide +kernel
theorem dX10_tenant_121 : decode cX10_tenant 121 = .ok (.aload_n 0, 1) := by decide +kernel
theorem dX10_tenant_122 : decode cX10_tenant 122 = .ok (.getfield 20, 3) := by decide +kernel
theorem dX10_tenant_125 : decode cX10_tenant 125 = .ok (.iload_n 1, 1) := by decide +kernel
theorem dX10_tenant_126 : decode cX10_tenant 126 = .ok (.invokevirtual 161, 3) := by decide +kernel
theorem dX10_tenant_129 : decode cX10_tenant 129 = .ok (.invokevirtual 164, 3) := by decide +kernel
theorem dX10_tenant_132 : decode cX10_tenant 132 = .ok (.ireturn, 1) := by decide +kernel
theorem dX10_tenant_133 : decode cX10_tenant 133 = .ok (.aload_n 0, 1) := by decide +kernel
theorem dX10_tenant_134 : decode cX10_tenant 134 = .ok (.getfield 20, 3) := by decide +kernel
theorem dX10_tenant_137 : decode cX10_tenant 137 = .ok (.iload_n 1, 1) := by decide +kernel
theorem dX10_tenant_138 : decode cX10_tenant 138 = .ok (.invokevirtual 167, 3) := by decide +kernel
theorem dX10_tenant_141 : decode cX10_tenant 141 = .ok (.ireturn, 1) := by decide +kernel
theorem dX10_tenant_142 : decode cX10_tenant 142 = .ok (.aload_n 0, 1) := by decide +kernel
theorem dX10_tenant_143 : decode cX10_tenant 143 = .ok (.getfield 20, 3) := by decide +kernel
theorem dX10_tenant_146 : decode cX10_tenant 146 = .ok (.iload_n 1, 1) := by decide +kernel
theorem dX10_tenant_147 : decode cX10_tenant 147 = .ok (.invokevirtual 170, 3) := by decide +kernel
theorem dX10_tenant_150 : decode cX10_tenant 150 = .ok (.ireturn, 1) := by decide +kernel
theorem dX10_tenant_151 : decode cX10_tenant 151 = .ok (.new 173, 3) := by decide +kernel
theorem dX10_tenant_154 : decode cX10_tenant 154 = .ok (.dup, 1) := by decide +kernel
theorem dX10_tenant_155 : decode cX10_tenant 155 = .ok (.ldc 175, 2) := by decide +kernel
theorem dX10_tenant_157 : decode cX10_tenant 157 = .ok (.invokespecial 177, 3) := by decide +kernel
theorem dX10_tenant_160 : decode cX10_tenant 160 = .ok (.athrow, 1) := by decide +kernel
theorem dX10_room_0 : decode cX10_room 0 = .ok (.iload_n 1, 1) := by decide +kernel
theorem dX10_room_1 : decode cX10_room 1 = .ok (.invokestatic 178, 3) := by decide +kernel
theorem dX10_room_4 : decode cX10_room 4 = .ok (.iload_n 2, 1) := by decide +kernel
theorem dX10_room_5 : decode cX10_room 5 = .ok (.tableswitch 120 0 5 #[39, 52, 64, 77, 90, 105], 39) := by decide +kernel
theorem dX10_room_44 : decode cX10_room 44 = .ok (.aload_n 0, 1) := by decide +kernel
theorem dX10_room_45 : decode cX10_room 45 = .ok (.getfield 20, 3) := by decide +kernel
theorem dX10_room_48 : decode cX10_room 48 = .ok (.getfield 89, 3) := by decide +kernel
theorem dX10_room_51 : decode cX10_room 51 = .ok (.getfield 181, 3) := by decide +kernel
theorem dX10_room_54 : decode cX10_room 54 = .ok (.iload_n 1, 1) := by decide +kernel
theorem dX10_room_55 : decode cX10_room 55 = .ok (.iaload, 1) := by decide +kernel
theorem dX10_room_56 : decode cX10_room 56 = .ok (.ireturn, 1) := by decide +kernel
theorem dX10_room_57 : decode cX10_room 57 = .ok (.aload_n 0, 1) := by decide +kernel
theorem dX10_room_58 : decode cX10_room 58 = .ok (.getfield 20, 3) := by decide +kernel
theorem dX10_room_61 : decode cX10_room 61 = .ok (.getfield 89, 3) := by decide +kernel
theorem dX10_room_64 : decode cX10_room 64 = .ok (.iload_n 1, 1) := by decide +kernel
theorem dX10_room_65 : decode cX10_room 65 = .ok (.invokevirtual 184, 3) := by decide +kernel
theorem dX10_room_68 : decode cX10_room 68 = .ok (.ireturn, 1) := by decide +kernel
theorem dX10_room_69 : decode cX10_room 69 = .ok (.aload_n 0, 1) := by decide +kernel
theorem dX10_room_70 : decode cX10_room 70 = .ok (.getfield 20, 3) := by decide +kernel
theorem dX10_room_73 : decode cX10_room 73 = .ok (.getfield 89, 3) := by decide +kernel
theorem dX10_room_76 : decode cX10_room 76 = .ok (.getfield 187, 3) := by decide +kernel
theorem dX10_room_79 : decode cX10_room 79 = .ok (.iload_n 1, 1) := by decide +kernel
theorem dX10_room_80 : decode cX10_room 80 = .ok (.iaload, 1) := by decide +kernel
theorem dX10_room_81 : decode cX10_room 81 = .ok (.ireturn, 1) := by decide +kernel
theorem dX10_room_82 : decode cX10_room 82 = .ok (.aload_n 0, 1) := by decide +kernel
theorem dX10_room_83 : decode cX10_room 83 = .ok (.getfield 20, 3) := by decide +kernel
theorem dX10_room_86 : decode cX10_room 86 = .ok (.getfield 97, 3) := by decide +kernel
theorem dX10_room_89 : decode cX10_room 89 = .ok (.getfield 190, 3) := by decide +kernel
theorem dX10_room_92 : decode cX10_room 92 = .ok (.iload_n 1, 1) := by decide +kernel
theorem dX10_room_93 : decode cX10_room 93 = .ok (.iaload, 1) := by decide +kernel
theorem dX10_room_94 : decode cX10_room 94 = .ok (.ireturn, 1) := by decide +kernel
theorem dX10_room_95 : decode cX10_room 95 = .ok (.aload_n 0, 1) := by decide +kernel
theorem dX10_room_96 : decode cX10_room 96 = .ok (.getfield 20, 3) := by decide +kernel
theorem dX10_room_99 : decode cX10_room 99 = .ok (.getfield 89, 3) := by decide +kernel
theorem dX10_room_102 : decode cX10_room 102 = .ok (.iload_n 1, 1) := by decide +kernel
theorem dX10_room_103 : decode cX10_room 103 = .ok (.invokestatic 193, 3) := by decide +kernel
theorem dX10_room_106 : decode cX10_room 106 = .ok (.invokevirtual 184, 3) := by decide +kernel
theorem dX10_room_109 : decode cX10_room 109 = .ok (.ireturn, 1) := by decide +kernel
theorem dX10_room_110 : decode cX10_room 110 = .ok (.aload_n 0, 1) := by decide +kernel
theorem dX10_room_111 : decode cX10_room 111 = .ok (.getfield 20, 3) := by decide +kernel
theorem dX10_room_114 : decode cX10_room 114 = .ok (.getfield 89, 3) := by decide +kernel
theorem dX10_room_117 : decode cX10_room 117 = .ok (.iload_n 1, 1) := by decide +kernel
theorem dX10_room_118 : decode cX10_room 118 = .ok (.invokestatic 196, 3) := by decide +kernel
theorem dX10_room_121 : decode cX10_room 121 = .ok (.invokevirtual 184, 3) := by decide +kernel
theorem dX10_room_124 : decode cX10_room 124 = .ok (.ireturn, 1) := by decide +kernel
theorem dX10_room_125 : decode cX10_room 125 = .ok (.new 173, 3) := by decide +kernel
theorem dX10_room_128 : decode cX10_room 128 = .ok (.dup, 1) := by decide +kernel
theorem dX10_room_129 : decode cX10_room 129 = .ok (.ldc 175, 2) := by decide +kernel
theorem dX10_room_131 : decode cX10_room 131 = .ok (.invokespecial 177, 3) := by decide +kernel
theorem dX10_room_134 : decode cX10_room 134 = .ok (.athrow, 1) := by decide +kernel
theorem dX10_rule_0 : decode cX10_rule 0 = .ok (.aload_n 0, 1) := by decide +kernel
theorem dX10_rule_1 : decode cX10_rule 1 = .ok (.iload_n 1, 1) := by decide +kernel
theorem dX10_rule_2 : decode cX10_rule 2 = .ok (.invokevirtual 143, 3) := by decide +kernel
theorem dX10_rule_5 : decode cX10_rule 5 = .ok (.iload_n 2, 1) := by decide +kernel
theorem dX10_rule_6 : decode cX10_rule 6 = .ok (.invokestatic 178, 3) := by decide +kernel
theorem dX10_rule_9 : decode cX10_rule 9 = .ok (.iload_n 3, 1) := by decide +kernel
theorem dX10_rule_10 : decode cX10_rule 10 = .ok (.ifCond .lt 8, 3) := by decide +kernel
theorem dX10_rule_13 : decode cX10_rule 13 = .ok (.iload_n 3, 1) := by decide +kernel
theorem dX10_rule_14 : decode cX10_rule 14 = .ok (.iconst 2, 1) := by decide +kernel
theorem dX10_rule_15 : decode cX10_rule 15 = .ok (.if_icmp .le 13, 3) := by decide +kernel
theorem dX10_rule_18 : decode cX10_rule 18 = .ok (.new 173, 3) := by decide +kernel
theorem dX10_rule_21 : decode cX10_rule 21 = .ok (.dup, 1) := by decide +kernel
theorem dX10_rule_22 : decode cX10_rule 22 = .ok (.ldc 175, 2) := by decide +kernel
theorem dX10_rule_24 : decode cX10_rule 24 = .ok (.invokespecial 177, 3) := by decide +kernel
theorem dX10_rule_27 : decode cX10_rule 27 = .ok (.athrow, 1) := by decide +kernel
theorem dX10_rule_28 : decode cX10_rule 28 = .ok (.aload_n 0, 1) := by decide +kernel
theorem dX10_rule_29 : decode cX10_rule 29 = .ok (.getfield 20, 3) := by decide +kernel
theorem dX10_rule_32 : decode cX10_rule 32 = .ok (.iload_n 1, 1) := by decide +kernel
theorem dX10_rule_33 : decode cX10_rule 33 = .ok (.invokevirtual 199, 3) := by decide +kernel
theorem dX10_rule_36 : decode cX10_rule 36 = .ok (.ifCond .eq 5, 3) := by decide +kernel
theorem dX10_rule_39 : decode cX10_rule 39 = .ok (.iconst 0, 1) := by decide +kernel
theorem dX10_rule_40 : decode cX10_rule 40 = .ok (.ireturn, 1) := by decide +kernel
theorem dX10_rule_41 : decode cX10_rule 41 = .ok (.iload_n 3, 1) := by decide +kernel
theorem dX10_rule_42 : decode cX10_rule 42 = .ok (.ifCond .ne 21, 3) := by decide +kernel
theorem dX10_rule_45 : decode cX10_rule 45 = .ok (.aload_n 0, 1) := by decide +kernel
theorem dX10_rule_46 : decode cX10_rule 46 = .ok (.getfield 20, 3) := by decide +kernel
theorem dX10_rule_49 : decode cX10_rule 49 = .ok (.iload_n 1, 1) := by decide +kernel
theorem dX10_rule_50 : decode cX10_rule 50 = .ok (.iload_n 2, 1) := by decide +kernel
theorem dX10_rule_51 : decode cX10_rule 51 = .ok (.invokevirtual 203, 3) := by decide +kernel
theorem dX10_rule_54 : decode cX10_rule 54 = .ok (.ifCond .eq 7, 3) := by decide +kernel
theorem dX10_rule_57 : decode cX10_rule 57 = .ok (.iconst 1, 1) := by decide +kernel
theorem dX10_rule_58 : decode cX10_rule 58 = .ok (.goto 4, 3) := by decide +kernel
theorem dX10_rule_61 : decode cX10_rule 61 = .ok (.iconst 0, 1) := by decide +kernel
theorem dX10_rule_62 : decode cX10_rule 62 = .ok (.ireturn, 1) := by decide +kernel
theorem dX10_rule_63 : decode cX10_rule 63 = .ok (.iload_n 3, 1) := by decide +kernel
theorem dX10_rule_64 : decode cX10_rule 64 = .ok (.iconst 1, 1) := by decide +kernel
theorem dX10_rule_65 : decode cX10_rule 65 = .ok (.if_icmp .ne 15, 3) := by decide +kernel
theorem dX10_rule_68 : decode cX10_rule 68 = .ok (.aload_n 0, 1) := by decide +kernel
theorem dX10_rule_69 : decode cX10_rule 69 = .ok (.getfield 20, 3) := by decide +kernel
theorem dX10_rule_72 : decode cX10_rule 72 = .ok (.iload_n 1, 1) := by decide +kernel
theorem dX10_rule_73 : decode cX10_rule 73 = .ok (.iload_n 2, 1) := by decide +kernel
theorem dX10_rule_74 : decode cX10_rule 74 = .ok (.invokevirtual 207, 3) := by decide +kernel
theorem dX10_rule_77 : decode cX10_rule 77 = .ok (.goto 12, 3) := by decide +kernel
theorem dX10_rule_80 : decode cX10_rule 80 = .ok (.aload_n 0, 1) := by decide +kernel
theorem dX10_rule_81 : decode cX10_rule 81 = .ok (.getfield 20, 3) := by decide +kernel
theorem dX10_rule_84 : decode cX10_rule 84 = .ok (.iload_n 1, 1) := by decide +kernel
theorem dX10_rule_85 : decode cX10_rule 85 = .ok (.iload_n 2, 1) := by decide +kernel
theorem dX10_rule_86 : decode cX10_rule 86 = .ok (.invokevirtual 211, 3) := by decide +kernel
theorem dX10_rule_89 : decode cX10_rule 89 = .ok (.ireturn, 1) := by decide +kernel
theorem dX10_roomOf_0 : decode cX10_roomOf 0 = .ok (.aload_n 0, 1) := by decide +kernel
theorem dX10_roomOf_1 : decode cX10_roomOf 1 = .ok (.iload_n 1, 1) := by decide +kernel
theorem dX10_roomOf_2 : decode cX10_roomOf 2 = .ok (.invokevirtual 143, 3) := by decide +kernel
theorem dX10_roomOf_5 : decode cX10_roomOf 5 = .ok (.iload_n 3, 1) := by decide +kernel
theorem dX10_roomOf_6 : decode cX10_roomOf 6 = .ok (.ifCond .eq 14, 3) := by decide +kernel
theorem dX10_roomOf_9 : decode cX10_roomOf 9 = .ok (.aload_n 0, 1) := by decide +kernel
theorem dX10_roomOf_10 : decode cX10_roomOf 10 = .ok (.getfield 20, 3) := by decide +kernel
theorem dX10_roomOf_13 : decode cX10_roomOf 13 = .ok (.iload_n 1, 1) := by decide +kernel
theorem dX10_roomOf_14 : decode cX10_roomOf 14 = .ok (.invokevirtual 161, 3) := by decide +kernel
theorem dX10_roomOf_17 : decode cX10_roomOf 17 = .ok (.goto 4, 3) := by decide +kernel
theorem dX10_roomOf_20 : decode cX10_roomOf 20 = .ok (.iload_n 1, 1) := by decide +kernel
theorem dX10_roomOf_21 : decode cX10_roomOf 21 = .ok (.istore 4, 2) := by decide +kernel
theorem dX10_roomOf_23 : decode cX10_roomOf 23 = .ok (.iload_n 2, 1) := by decide +kernel
theorem dX10_roomOf_24 : decode cX10_roomOf 24 = .ok (.istore 5, 2) := by decide +kernel
theorem dX10_roomOf_26 : decode cX10_roomOf 26 = .ok (.iconst 0, 1) := by decide +kernel
theorem dX10_roomOf_27 : decode cX10_roomOf 27 = .ok (.istore 6, 2) := by decide +kernel
theorem dX10_roomOf_29 : decode cX10_roomOf 29 = .ok (.iload 6, 2) := by decide +kernel
theorem dX10_roomOf_31 : decode cX10_roomOf 31 = .ok (.sipush 168, 3) := by decide +kernel
theorem dX10_roomOf_34 : decode cX10_roomOf 34 = .ok (.if_icmp .ge 66, 3) := by decide +kernel
theorem dX10_roomOf_37 : decode cX10_roomOf 37 = .ok (.iload 5, 2) := by decide +kernel
theorem dX10_roomOf_39 : decode cX10_roomOf 39 = .ok (.ifCond .lt 61, 3) := by decide +kernel
theorem dX10_roomOf_42 : decode cX10_roomOf 42 = .ok (.iload_n 3, 1) := by decide +kernel
theorem dX10_roomOf_43 : decode cX10_roomOf 43 = .ok (.ifCond .eq 18, 3) := by decide +kernel
theorem dX10_roomOf_46 : decode cX10_roomOf 46 = .ok (.aload_n 0, 1) := by decide +kernel
theorem dX10_roomOf_47 : decode cX10_roomOf 47 = .ok (.getfield 20, 3) := by decide +kernel
theorem dX10_roomOf_50 : decode cX10_roomOf 50 = .ok (.getfield 89, 3) := by decide +kernel
theorem dX10_roomOf_53 : decode cX10_roomOf 53 = .ok (.iload 6, 2) := by decide +kernel
theorem dX10_roomOf_55 : decode cX10_roomOf 55 = .ok (.invokevirtual 184, 3) := by decide +kernel
theorem dX10_roomOf_58 : decode cX10_roomOf 58 = .ok (.goto 16, 3) := by decide +kernel
theorem dX10_roomOf_61 : decode cX10_roomOf 61 = .ok (.aload_n 0, 1) := by decide +kernel
theorem dX10_roomOf_62 : decode cX10_roomOf 62 = .ok (.getfield 20, 3) := by decide +kernel
theorem dX10_roomOf_65 : decode cX10_roomOf 65 = .ok (.getfield 89, 3) := by decide +kernel
theorem dX10_roomOf_68 : decode cX10_roomOf 68 = .ok (.getfield 181, 3) := by decide +kernel
theorem dX10_roomOf_71 : decode cX10_roomOf 71 = .ok (.iload 6, 2) := by decide +kernel
theorem dX10_roomOf_73 : decode cX10_roomOf 73 = .ok (.iaload, 1) := by decide +kernel
theorem dX10_roomOf_74 : decode cX10_roomOf 74 = .ok (.istore 7, 2) := by decide +kernel
theorem dX10_roomOf_76 : decode cX10_roomOf 76 = .ok (.iload 7, 2) := by decide +kernel
theorem dX10_roomOf_78 : decode cX10_roomOf 78 = .ok (.iload 4, 2) := by decide +kernel
theorem dX10_roomOf_80 : decode cX10_roomOf 80 = .ok (.if_icmp .ne 14, 3) := by decide +kernel
theorem dX10_roomOf_83 : decode cX10_roomOf 83 = .ok (.iload 5, 2) := by decide +kernel
theorem dX10_roomOf_85 : decode cX10_roomOf 85 = .ok (.ifCond .ne 6, 3) := by decide +kernel
theorem dX10_roomOf_88 : decode cX10_roomOf 88 = .ok (.iload 6, 2) := by decide +kernel
theorem dX10_roomOf_90 : decode cX10_roomOf 90 = .ok (.ireturn, 1) := by decide +kernel
theorem dX10_roomOf_91 : decode cX10_roomOf 91 = .ok (.iinc 5 (-1), 3) := by decide +kernel
theorem dX10_roomOf_94 : decode cX10_roomOf 94 = .ok (.iinc 6 1, 3) := by decide +kernel
theorem dX10_roomOf_97 : decode cX10_roomOf 97 = .ok (.goto (-68), 3) := by decide +kernel
theorem dX10_roomOf_100 : decode cX10_roomOf 100 = .ok (.iconst (-1), 1) := by decide +kernel
theorem dX10_roomOf_101 : decode cX10_roomOf 101 = .ok (.ireturn, 1) := by decide +kernel
theorem dX10_take_0 : decode cX10_take 0 = .ok (.aload_n 0, 1) := by decide +kernel
theorem dX10_take_1 : decode cX10_take 1 = .ok (.iload_n 1, 1) := by decide +kernel
theorem dX10_take_2 : decode cX10_take 2 = .ok (.invokevirtual 143, 3) := by decide +kernel
theorem dX10_take_5 : decode cX10_take 5 = .ok (.iload_n 2, 1) := by decide +kernel
theorem dX10_take_6 : decode cX10_take 6 = .ok (.invokestatic 178, 3) := by decide +kernel
theorem dX10_take_9 : decode cX10_take 9 = .ok (.aload_n 0, 1) := by decide +kernel
theorem dX10_take_10 : decode cX10_take 10 = .ok (.getfield 20, 3) := by decide +kernel
theorem dX10_take_13 : decode cX10_take 13 = .ok (.iload_n 1, 1) := by decide +kernel
theorem dX10_take_14 : decode cX10_take 14 = .ok (.iload_n 2, 1) := by decide +kernel
theorem dX10_take_15 : decode cX10_take 15 = .ok (.aload_n 0, 1) := by decide +kernel
theorem dX10_take_16 : decode cX10_take 16 = .ok (.getfield 20, 3) := by decide +kernel
theorem dX10_take_19 : decode cX10_take 19 = .ok (.getfield 89, 3) := by decide +kernel
theorem dX10_take_22 : decode cX10_take 22 = .ok (.getfield 146, 3) := by decide +kernel
theorem dX10_take_25 : decode cX10_take 25 = .ok (.iload_n 1, 1) := by decide +kernel
theorem dX10_take_26 : decode cX10_take 26 = .ok (.iaload, 1) := by decide +kernel
theorem dX10_take_27 : decode cX10_take 27 = .ok (.invokevirtual 214, 3) := by decide +kernel
theorem dX10_take_30 : decode cX10_take 30 = .ok (.invokestatic 218, 3) := by decide +kernel
theorem dX10_take_33 : decode cX10_take 33 = .ok (.aload_n 0, 1) := by decide +kernel
theorem dX10_take_34 : decode cX10_take 34 = .ok (.invokevirtual 222, 3) := by decide +kernel
theorem dX10_take_37 : decode cX10_take 37 = .ok (.aload_n 0, 1) := by decide +kernel
theorem dX10_take_38 : decode cX10_take 38 = .ok (.getfield 20, 3) := by decide +kernel
theorem dX10_take_41 : decode cX10_take 41 = .ok (.iload_n 1, 1) := by decide +kernel
theorem dX10_take_42 : decode cX10_take 42 = .ok (.iload_n 2, 1) := by decide +kernel
theorem dX10_take_43 : decode cX10_take 43 = .ok (.iconst 0, 1) := by decide +kernel
theorem dX10_take_44 : decode cX10_take 44 = .ok (.invokevirtual 225, 3) := by decide +kernel
theorem dX10_take_47 : decode cX10_take 47 = .ok (.ireturn, 1) := by decide +kernel
theorem dX10_leave_0 : decode cX10_leave 0 = .ok (.iload_n 1, 1) := by decide +kernel
theorem dX10_leave_1 : decode cX10_leave 1 = .ok (.invokestatic 178, 3) := by decide +kernel
theorem dX10_leave_4 : decode cX10_leave 4 = .ok (.aload_n 0, 1) := by decide +kernel
theorem dX10_leave_5 : decode cX10_leave 5 = .ok (.getfield 20, 3) := by decide +kernel
theorem dX10_leave_8 : decode cX10_leave 8 = .ok (.getfield 89, 3) := by decide +kernel
theorem dX10_leave_11 : decode cX10_leave 11 = .ok (.getfield 181, 3) := by decide +kernel
theorem dX10_leave_14 : decode cX10_leave 14 = .ok (.iload_n 1, 1) := by decide +kernel
theorem dX10_leave_15 : decode cX10_leave 15 = .ok (.iaload, 1) := by decide +kernel
theorem dX10_leave_16 : decode cX10_leave 16 = .ok (.istore_n 2, 1) := by decide +kernel
theorem dX10_leave_17 : decode cX10_leave 17 = .ok (.iload_n 2, 1) := by decide +kernel
theorem dX10_leave_18 : decode cX10_leave 18 = .ok (.iconst (-1), 1) := by decide +kernel
theorem dX10_leave_19 : decode cX10_leave 19 = .ok (.if_icmp .eq 7, 3) := by decide +kernel
theorem dX10_leave_22 : decode cX10_leave 22 = .ok (.iconst 1, 1) := by decide +kernel
theorem dX10_leave_23 : decode cX10_leave 23 = .ok (.goto 4, 3) := by decide +kernel
theorem dX10_leave_26 : decode cX10_leave 26 = .ok (.iconst 0, 1) := by decide +kernel
theorem dX10_leave_27 : decode cX10_leave 27 = .ok (.invokestatic 218, 3) := by decide +kernel
theorem dX10_leave_30 : decode cX10_leave 30 = .ok (.aload_n 0, 1) := by decide +kernel
theorem dX10_leave_31 : decode cX10_leave 31 = .ok (.invokevirtual 222, 3) := by decide +kernel
theorem dX10_leave_34 : decode cX10_leave 34 = .ok (.aload_n 0, 1) := by decide +kernel
theorem dX10_leave_35 : decode cX10_leave 35 = .ok (.getfield 20, 3) := by decide +kernel
theorem dX10_leave_38 : decode cX10_leave 38 = .ok (.getfield 89, 3) := by decide +kernel
theorem dX10_leave_41 : decode cX10_leave 41 = .ok (.iload_n 1, 1) := by decide +kernel
theorem dX10_leave_42 : decode cX10_leave 42 = .ok (.invokevirtual 229, 3) := by decide +kernel
theorem dX10_leave_45 : decode cX10_leave 45 = .ok (.iload_n 2, 1) := by decide +kernel
theorem dX10_leave_46 : decode cX10_leave 46 = .ok (.ireturn, 1) := by decide +kernel
theorem dX10_sublet_0 : decode cX10_sublet 0 = .ok (.iload_n 1, 1) := by decide +kernel
theorem dX10_sublet_1 : decode cX10_sublet 1 = .ok (.invokestatic 178, 3) := by decide +kernel
theorem dX10_sublet_4 : decode cX10_sublet 4 = .ok (.aload_n 0, 1) := by decide +kernel
theorem dX10_sublet_5 : decode cX10_sublet 5 = .ok (.iload_n 2, 1) := by decide +kernel
theorem dX10_sublet_6 : decode cX10_sublet 6 = .ok (.invokevirtual 143, 3) := by decide +kernel
theorem dX10_sublet_9 : decode cX10_sublet 9 = .ok (.iload_n 3, 1) := by decide +kernel
theorem dX10_sublet_10 : decode cX10_sublet 10 = .ok (.iconst 0, 1) := by decide +kernel
theorem dX10_sublet_11 : decode cX10_sublet 11 = .ok (.sipush 999, 3) := by decide +kernel
theorem dX10_sublet_14 : decode cX10_sublet 14 = .ok (.invokestatic 232, 3) := by decide +kernel
theorem dX10_sublet_17 : decode cX10_sublet 17 = .ok (.aload_n 0, 1) := by decide +kernel
theorem dX10_sublet_18 : decode cX10_sublet 18 = .ok (.getfield 20, 3) := by decide +kernel
theorem dX10_sublet_21 : decode cX10_sublet 21 = .ok (.iload_n 1, 1) := by decide +kernel
theorem dX10_sublet_22 : decode cX10_sublet 22 = .ok (.iload_n 2, 1) := by decide +kernel
theorem dX10_sublet_23 : decode cX10_sublet 23 = .ok (.iload_n 3, 1) := by decide +kernel
theorem dX10_sublet_24 : decode cX10_sublet 24 = .ok (.invokevirtual 236, 3) := by decide +kernel
theorem dX10_sublet_27 : decode cX10_sublet 27 = .ok (.invokestatic 218, 3) := by decide +kernel
theorem dX10_sublet_30 : decode cX10_sublet 30 = .ok (.aload_n 0, 1) := by decide +kernel
theorem dX10_sublet_31 : decode cX10_sublet 31 = .ok (.invokevirtual 222, 3) := by decide +kernel
theorem dX10_sublet_34 : decode cX10_sublet 34 = .ok (.aload_n 0, 1) := by decide +kernel
theorem dX10_sublet_35 : decode cX10_sublet 35 = .ok (.getfield 20, 3) := by decide +kernel
theorem dX10_sublet_38 : decode cX10_sublet 38 = .ok (.iload_n 1, 1) := by decide +kernel
theorem dX10_sublet_39 : decode cX10_sublet 39 = .ok (.iload_n 2, 1) := by decide +kernel
theorem dX10_sublet_40 : decode cX10_sublet 40 = .ok (.iload_n 3, 1) := by decide +kernel
theorem dX10_sublet_41 : decode cX10_sublet 41 = .ok (.invokevirtual 239, 3) := by decide +kernel
theorem dX10_sublet_44 : decode cX10_sublet 44 = .ok (.aload_n 0, 1) := by decide +kernel
theorem dX10_sublet_45 : decode cX10_sublet 45 = .ok (.getfield 20, 3) := by decide +kernel
theorem dX10_sublet_48 : decode cX10_sublet 48 = .ok (.getfield 89, 3) := by decide +kernel
theorem dX10_sublet_51 : decode cX10_sublet 51 = .ok (.getfield 181, 3) := by decide +kernel
theorem dX10_sublet_54 : decode cX10_sublet 54 = .ok (.iload_n 1, 1) := by decide +kernel
theorem dX10_sublet_55 : decode cX10_sublet 55 = .ok (.iaload, 1) := by decide +kernel
theorem dX10_sublet_56 : decode cX10_sublet 56 = .ok (.ireturn, 1) := by decide +kernel
theorem dX10_ends_0 : decode cX10_ends 0 = .ok (.iload_n 1, 1) := by decide +kernel
theorem dX10_ends_1 : decode cX10_ends 1 = .ok (.invokestatic 178, 3) := by decide +kernel
theorem dX10_ends_4 : decode cX10_ends 4 = .ok (.aload_n 0, 1) := by decide +kernel
theorem dX10_ends_5 : decode cX10_ends 5 = .ok (.getfield 20, 3) := by decide +kernel
theorem dX10_ends_8 : decode cX10_ends 8 = .ok (.getfield 89, 3) := by decide +kernel
theorem dX10_ends_11 : decode cX10_ends 11 = .ok (.getfield 242, 3) := by decide +kernel
theorem dX10_ends_14 : decode cX10_ends 14 = .ok (.iload_n 1, 1) := by decide +kernel
theorem dX10_ends_15 : decode cX10_ends 15 = .ok (.iaload, 1) := by decide +kernel
theorem dX10_ends_16 : decode cX10_ends 16 = .ok (.istore_n 2, 1) := by decide +kernel
theorem dX10_ends_17 : decode cX10_ends 17 = .ok (.iload_n 2, 1) := by decide +kernel
theorem dX10_ends_18 : decode cX10_ends 18 = .ok (.iconst (-1), 1) := by decide +kernel
theorem dX10_ends_19 : decode cX10_ends 19 = .ok (.if_icmp .eq 7, 3) := by decide +kernel
theorem dX10_ends_22 : decode cX10_ends 22 = .ok (.iconst 1, 1) := by decide +kernel
theorem dX10_ends_23 : decode cX10_ends 23 = .ok (.goto 4, 3) := by decide +kernel
theorem dX10_ends_26 : decode cX10_ends 26 = .ok (.iconst 0, 1) := by decide +kernel
theorem dX10_ends_27 : decode cX10_ends 27 = .ok (.invokestatic 218, 3) := by decide +kernel
theorem dX10_ends_30 : decode cX10_ends 30 = .ok (.aload_n 0, 1) := by decide +kernel
theorem dX10_ends_31 : decode cX10_ends 31 = .ok (.invokevirtual 222, 3) := by decide +kernel
theorem dX10_ends_34 : decode cX10_ends 34 = .ok (.aload_n 0, 1) := by decide +kernel
theorem dX10_ends_35 : decode cX10_ends 35 = .ok (.getfield 20, 3) := by decide +kernel
theorem dX10_ends_38 : decode cX10_ends 38 = .ok (.getfield 89, 3) := by decide +kernel
theorem dX10_ends_41 : decode cX10_ends 41 = .ok (.getfield 242, 3) := by decide +kernel
theorem dX10_ends_44 : decode cX10_ends 44 = .ok (.iload_n 1, 1) := by decide +kernel
theorem dX10_ends_45 : decode cX10_ends 45 = .ok (.iconst (-1), 1) := by decide +kernel
theorem dX10_ends_46 : decode cX10_ends 46 = .ok (.iastore, 1) := by decide +kernel
theorem dX10_ends_47 : decode cX10_ends 47 = .ok (.iload_n 2, 1) := by decide +kernel
theorem dX10_ends_48 : decode cX10_ends 48 = .ok (.ireturn, 1) := by decide +kernel
theorem dX10_evict_0 : decode cX10_evict 0 = .ok (.iload_n 1, 1) := by decide +kernel
theorem dX10_evict_1 : decode cX10_evict 1 = .ok (.invokestatic 178, 3) := by decide +kernel
theorem dX10_evict_4 : decode cX10_evict 4 = .ok (.aload_n 0, 1) := by decide +kernel
theorem dX10_evict_5 : decode cX10_evict 5 = .ok (.getfield 20, 3) := by decide +kernel
theorem dX10_evict_8 : decode cX10_evict 8 = .ok (.getfield 89, 3) := by decide +kernel
theorem dX10_evict_11 : decode cX10_evict 11 = .ok (.iload_n 1, 1) := by decide +kernel
theorem dX10_evict_12 : decode cX10_evict 12 = .ok (.invokevirtual 184, 3) := by decide +kernel
theorem dX10_evict_15 : decode cX10_evict 15 = .ok (.iconst (-1), 1) := by decide +kernel
theorem dX10_evict_16 : decode cX10_evict 16 = .ok (.if_icmp .eq 7, 3) := by decide +kernel
theorem dX10_evict_19 : decode cX10_evict 19 = .ok (.iconst 1, 1) := by decide +kernel
theorem dX10_evict_20 : decode cX10_evict 20 = .ok (.goto 4, 3) := by decide +kernel
theorem dX10_evict_23 : decode cX10_evict 23 = .ok (.iconst 0, 1) := by decide +kernel
theorem dX10_evict_24 : decode cX10_evict 24 = .ok (.invokestatic 218, 3) := by decide +kernel
theorem dX10_evict_27 : decode cX10_evict 27 = .ok (.aload_n 0, 1) := by decide +kernel
theorem dX10_evict_28 : decode cX10_evict 28 = .ok (.invokevirtual 222, 3) := by decide +kernel
theorem dX10_evict_31 : decode cX10_evict 31 = .ok (.aload_n 0, 1) := by decide +kernel
theorem dX10_evict_32 : decode cX10_evict 32 = .ok (.getfield 20, 3) := by decide +kernel
theorem dX10_evict_35 : decode cX10_evict 35 = .ok (.getfield 89, 3) := by decide +kernel
theorem dX10_evict_38 : decode cX10_evict 38 = .ok (.getfield 242, 3) := by decide +kernel
theorem dX10_evict_41 : decode cX10_evict 41 = .ok (.iload_n 1, 1) := by decide +kernel
theorem dX10_evict_42 : decode cX10_evict 42 = .ok (.iaload, 1) := by decide +kernel
theorem dX10_evict_43 : decode cX10_evict 43 = .ok (.iconst (-1), 1) := by decide +kernel
theorem dX10_evict_44 : decode cX10_evict 44 = .ok (.if_icmp .eq 18, 3) := by decide +kernel
theorem dX10_evict_47 : decode cX10_evict 47 = .ok (.aload_n 0, 1) := by decide +kernel
theorem dX10_evict_48 : decode cX10_evict 48 = .ok (.getfield 20, 3) := by decide +kernel
theorem dX10_evict_51 : decode cX10_evict 51 = .ok (.getfield 89, 3) := by decide +kernel
theorem dX10_evict_54 : decode cX10_evict 54 = .ok (.getfield 242, 3) := by decide +kernel
theorem dX10_evict_57 : decode cX10_evict 57 = .ok (.iload_n 1, 1) := by decide +kernel
theorem dX10_evict_58 : decode cX10_evict 58 = .ok (.iconst (-1), 1) := by decide +kernel
theorem dX10_evict_59 : decode cX10_evict 59 = .ok (.iastore, 1) := by decide +kernel
theorem dX10_evict_60 : decode cX10_evict 60 = .ok (.iconst (-1), 1) := by decide +kernel
theorem dX10_evict_61 : decode cX10_evict 61 = .ok (.ireturn, 1) := by decide +kernel
theorem dX10_evict_62 : decode cX10_evict 62 = .ok (.aload_n 0, 1) := by decide +kernel
theorem dX10_evict_63 : decode cX10_evict 63 = .ok (.getfield 20, 3) := by decide +kernel
theorem dX10_evict_66 : decode cX10_evict 66 = .ok (.iload_n 1, 1) := by decide +kernel
theorem dX10_evict_67 : decode cX10_evict 67 = .ok (.invokevirtual 245, 3) := by decide +kernel
theorem dX10_evict_70 : decode cX10_evict 70 = .ok (.ireturn, 1) := by decide +kernel
theorem dX10_carry_0 : decode cX10_carry 0 = .ok (.aload_n 0, 1) := by decide +kernel
theorem dX10_carry_1 : decode cX10_carry 1 = .ok (.iload_n 1, 1) := by decide +kernel
theorem dX10_carry_2 : decode cX10_carry 2 = .ok (.invokevirtual 143, 3) := by decide +kernel
theorem dX10_carry_5 : decode cX10_carry 5 = .ok (.iload_n 2, 1) := by decide +kernel
theorem dX10_carry_6 : decode cX10_carry 6 = .ok (.invokestatic 178, 3) := by decide +kernel
theorem dX10_carry_9 : decode cX10_carry 9 = .ok (.iload_n 3, 1) := by decide +kernel
theorem dX10_carry_10 : decode cX10_carry 10 = .ok (.invokestatic 178, 3) := by decide +kernel
theorem dX10_carry_13 : decode cX10_carry 13 = .ok (.iload 4, 2) := by decide +kernel
theorem dX10_carry_15 : decode cX10_carry 15 = .ok (.iconst 1, 1) := by decide +kernel
theorem dX10_carry_16 : decode cX10_carry 16 = .ok (.bipush 99, 2) := by decide +kernel
theorem dX10_carry_18 : decode cX10_carry 18 = .ok (.invokestatic 232, 3) := by decide +kernel
theorem dX10_carry_21 : decode cX10_carry 21 = .ok (.iload_n 2, 1) := by decide +kernel
theorem dX10_carry_22 : decode cX10_carry 22 = .ok (.iload_n 3, 1) := by decide +kernel
theorem dX10_carry_23 : decode cX10_carry 23 = .ok (.invokestatic 248, 3) := by decide +kernel
theorem dX10_carry_26 : decode cX10_carry 26 = .ok (.aload_n 0, 1) := by decide +kernel
theorem dX10_carry_27 : decode cX10_carry 27 = .ok (.getfield 20, 3) := by decide +kernel
theorem dX10_carry_30 : decode cX10_carry 30 = .ok (.getfield 89, 3) := by decide +kernel
theorem dX10_carry_33 : decode cX10_carry 33 = .ok (.iload_n 2, 1) := by decide +kernel
theorem dX10_carry_34 : decode cX10_carry 34 = .ok (.invokevirtual 184, 3) := by decide +kernel
theorem dX10_carry_37 : decode cX10_carry 37 = .ok (.iload_n 1, 1) := by decide +kernel
theorem dX10_carry_38 : decode cX10_carry 38 = .ok (.if_icmp .ne 22, 3) := by decide +kernel
theorem dX10_carry_41 : decode cX10_carry 41 = .ok (.aload_n 0, 1) := by decide +kernel
theorem dX10_carry_42 : decode cX10_carry 42 = .ok (.getfield 20, 3) := by decide +kernel
theorem dX10_carry_45 : decode cX10_carry 45 = .ok (.getfield 89, 3) := by decide +kernel
theorem dX10_carry_48 : decode cX10_carry 48 = .ok (.iload_n 3, 1) := by decide +kernel
theorem dX10_carry_49 : decode cX10_carry 49 = .ok (.invokevirtual 184, 3) := by decide +kernel
theorem dX10_carry_52 : decode cX10_carry 52 = .ok (.iload_n 1, 1) := by decide +kernel
theorem dX10_carry_53 : decode cX10_carry 53 = .ok (.if_icmp .ne 7, 3) := by decide +kernel
theorem dX10_carry_56 : decode cX10_carry 56 = .ok (.iconst 1, 1) := by decide +kernel
theorem dX10_carry_57 : decode cX10_carry 57 = .ok (.goto 4, 3) := by decide +kernel
theorem dX10_carry_60 : decode cX10_carry 60 = .ok (.iconst 0, 1) := by decide +kernel
theorem dX10_carry_61 : decode cX10_carry 61 = .ok (.invokestatic 218, 3) := by decide +kernel
theorem dX10_carry_64 : decode cX10_carry 64 = .ok (.aload_n 0, 1) := by decide +kernel
theorem dX10_carry_65 : decode cX10_carry 65 = .ok (.invokevirtual 222, 3) := by decide +kernel
theorem dX10_carry_68 : decode cX10_carry 68 = .ok (.aload_n 0, 1) := by decide +kernel
theorem dX10_carry_69 : decode cX10_carry 69 = .ok (.getfield 20, 3) := by decide +kernel
theorem dX10_carry_72 : decode cX10_carry 72 = .ok (.getfield 89, 3) := by decide +kernel
theorem dX10_carry_75 : decode cX10_carry 75 = .ok (.getfield 187, 3) := by decide +kernel
theorem dX10_carry_78 : decode cX10_carry 78 = .ok (.astore 5, 2) := by decide +kernel
theorem dX10_carry_80 : decode cX10_carry 80 = .ok (.iload 4, 2) := by decide +kernel
theorem dX10_carry_82 : decode cX10_carry 82 = .ok (.aload 5, 2) := by decide +kernel
theorem dX10_carry_84 : decode cX10_carry 84 = .ok (.iload_n 2, 1) := by decide +kernel
theorem dX10_carry_85 : decode cX10_carry 85 = .ok (.iaload, 1) := by decide +kernel
theorem dX10_carry_86 : decode cX10_carry 86 = .ok (.bipush 99, 2) := by decide +kernel
theorem dX10_carry_88 : decode cX10_carry 88 = .ok (.aload 5, 2) := by decide +kernel
theorem dX10_carry_90 : decode cX10_carry 90 = .ok (.iload_n 3, 1) := by decide +kernel
theorem dX10_carry_91 : decode cX10_carry 91 = .ok (.iaload, 1) := by decide +kernel
theorem dX10_carry_92 : decode cX10_carry 92 = .ok (.isub, 1) := by decide +kernel
theorem dX10_carry_93 : decode cX10_carry 93 = .ok (.invokestatic 252, 3) := by decide +kernel
theorem dX10_carry_96 : decode cX10_carry 96 = .ok (.invokestatic 252, 3) := by decide +kernel
theorem dX10_carry_99 : decode cX10_carry 99 = .ok (.istore 6, 2) := by decide +kernel
theorem dX10_carry_101 : decode cX10_carry 101 = .ok (.aload 5, 2) := by decide +kernel
theorem dX10_carry_103 : decode cX10_carry 103 = .ok (.iload_n 2, 1) := by decide +kernel
theorem dX10_carry_104 : decode cX10_carry 104 = .ok (.dup2, 1) := by decide +kernel
theorem dX10_carry_105 : decode cX10_carry 105 = .ok (.iaload, 1) := by decide +kernel
theorem dX10_carry_106 : decode cX10_carry 106 = .ok (.iload 6, 2) := by decide +kernel
theorem dX10_carry_108 : decode cX10_carry 108 = .ok (.isub, 1) := by decide +kernel
theorem dX10_carry_109 : decode cX10_carry 109 = .ok (.iastore, 1) := by decide +kernel
theorem dX10_carry_110 : decode cX10_carry 110 = .ok (.aload 5, 2) := by decide +kernel
theorem dX10_carry_112 : decode cX10_carry 112 = .ok (.iload_n 3, 1) := by decide +kernel
theorem dX10_carry_113 : decode cX10_carry 113 = .ok (.dup2, 1) := by decide +kernel
theorem dX10_carry_114 : decode cX10_carry 114 = .ok (.iaload, 1) := by decide +kernel
theorem dX10_carry_115 : decode cX10_carry 115 = .ok (.iload 6, 2) := by decide +kernel
theorem dX10_carry_117 : decode cX10_carry 117 = .ok (.iadd, 1) := by decide +kernel
theorem dX10_carry_118 : decode cX10_carry 118 = .ok (.iastore, 1) := by decide +kernel
theorem dX10_carry_119 : decode cX10_carry 119 = .ok (.iload 6, 2) := by decide +kernel
theorem dX10_carry_121 : decode cX10_carry 121 = .ok (.ireturn, 1) := by decide +kernel
theorem dX10_swap_0 : decode cX10_swap 0 = .ok (.iload_n 1, 1) := by decide +kernel
theorem dX10_swap_1 : decode cX10_swap 1 = .ok (.invokestatic 178, 3) := by decide +kernel
theorem dX10_swap_4 : decode cX10_swap 4 = .ok (.iload_n 2, 1) := by decide +kernel
theorem dX10_swap_5 : decode cX10_swap 5 = .ok (.invokestatic 178, 3) := by decide +kernel
theorem dX10_swap_8 : decode cX10_swap 8 = .ok (.iload_n 1, 1) := by decide +kernel
theorem dX10_swap_9 : decode cX10_swap 9 = .ok (.iload_n 2, 1) := by decide +kernel
theorem dX10_swap_10 : decode cX10_swap 10 = .ok (.invokestatic 248, 3) := by decide +kernel
theorem dX10_swap_13 : decode cX10_swap 13 = .ok (.aload_n 0, 1) := by decide +kernel
theorem dX10_swap_14 : decode cX10_swap 14 = .ok (.getfield 20, 3) := by decide +kernel
theorem dX10_swap_17 : decode cX10_swap 17 = .ok (.iload_n 1, 1) := by decide +kernel
theorem dX10_swap_18 : decode cX10_swap 18 = .ok (.iload_n 2, 1) := by decide +kernel
theorem dX10_swap_19 : decode cX10_swap 19 = .ok (.invokevirtual 257, 3) := by decide +kernel
theorem dX10_swap_22 : decode cX10_swap 22 = .ok (.invokestatic 218, 3) := by decide +kernel
theorem dX10_swap_25 : decode cX10_swap 25 = .ok (.aload_n 0, 1) := by decide +kernel
theorem dX10_swap_26 : decode cX10_swap 26 = .ok (.invokevirtual 222, 3) := by decide +kernel
theorem dX10_swap_29 : decode cX10_swap 29 = .ok (.aload_n 0, 1) := by decide +kernel
theorem dX10_swap_30 : decode cX10_swap 30 = .ok (.getfield 20, 3) := by decide +kernel
theorem dX10_swap_33 : decode cX10_swap 33 = .ok (.getfield 89, 3) := by decide +kernel
theorem dX10_swap_36 : decode cX10_swap 36 = .ok (.getfield 181, 3) := by decide +kernel
theorem dX10_swap_39 : decode cX10_swap 39 = .ok (.iload_n 1, 1) := by decide +kernel
theorem dX10_swap_40 : decode cX10_swap 40 = .ok (.iaload, 1) := by decide +kernel
theorem dX10_swap_41 : decode cX10_swap 41 = .ok (.istore_n 3, 1) := by decide +kernel
theorem dX10_swap_42 : decode cX10_swap 42 = .ok (.aload_n 0, 1) := by decide +kernel
theorem dX10_swap_43 : decode cX10_swap 43 = .ok (.getfield 20, 3) := by decide +kernel
theorem dX10_swap_46 : decode cX10_swap 46 = .ok (.getfield 89, 3) := by decide +kernel
theorem dX10_swap_49 : decode cX10_swap 49 = .ok (.getfield 181, 3) := by decide +kernel
theorem dX10_swap_52 : decode cX10_swap 52 = .ok (.iload_n 2, 1) := by decide +kernel
theorem dX10_swap_53 : decode cX10_swap 53 = .ok (.iaload, 1) := by decide +kernel
theorem dX10_swap_54 : decode cX10_swap 54 = .ok (.istore 4, 2) := by decide +kernel
theorem dX10_swap_56 : decode cX10_swap 56 = .ok (.aload_n 0, 1) := by decide +kernel
theorem dX10_swap_57 : decode cX10_swap 57 = .ok (.getfield 20, 3) := by decide +kernel
theorem dX10_swap_60 : decode cX10_swap 60 = .ok (.getfield 89, 3) := by decide +kernel
theorem dX10_swap_63 : decode cX10_swap 63 = .ok (.iload_n 1, 1) := by decide +kernel
theorem dX10_swap_64 : decode cX10_swap 64 = .ok (.iload 4, 2) := by decide +kernel
theorem dX10_swap_66 : decode cX10_swap 66 = .ok (.iconst 3, 1) := by decide +kernel
theorem dX10_swap_67 : decode cX10_swap 67 = .ok (.invokevirtual 260, 3) := by decide +kernel
theorem dX10_swap_70 : decode cX10_swap 70 = .ok (.aload_n 0, 1) := by decide +kernel
theorem dX10_swap_71 : decode cX10_swap 71 = .ok (.getfield 20, 3) := by decide +kernel
theorem dX10_swap_74 : decode cX10_swap 74 = .ok (.getfield 89, 3) := by decide +kernel
theorem dX10_swap_77 : decode cX10_swap 77 = .ok (.iload_n 2, 1) := by decide +kernel
theorem dX10_swap_78 : decode cX10_swap 78 = .ok (.iload_n 3, 1) := by decide +kernel
theorem dX10_swap_79 : decode cX10_swap 79 = .ok (.iconst 3, 1) := by decide +kernel
theorem dX10_swap_80 : decode cX10_swap 80 = .ok (.invokevirtual 260, 3) := by decide +kernel
theorem dX10_swap_83 : decode cX10_swap 83 = .ok (.iload 4, 2) := by decide +kernel
theorem dX10_swap_85 : decode cX10_swap 85 = .ok (.ireturn, 1) := by decide +kernel
theorem dX10_ticks_0 : decode cX10_ticks 0 = .ok (.iload_n 1, 1) := by decide +kernel
theorem dX10_ticks_1 : decode cX10_ticks 1 = .ok (.iconst 1, 1) := by decide +kernel
theorem dX10_ticks_2 : decode cX10_ticks 2 = .ok (.sipush 400, 3) := by decide +kernel
theorem dX10_ticks_5 : decode cX10_ticks 5 = .ok (.invokestatic 232, 3) := by decide +kernel
theorem dX10_ticks_8 : decode cX10_ticks 8 = .ok (.aload_n 0, 1) := by decide +kernel
theorem dX10_ticks_9 : decode cX10_ticks 9 = .ok (.invokevirtual 222, 3) := by decide +kernel
theorem dX10_ticks_12 : decode cX10_ticks 12 = .ok (.aload_n 0, 1) := by decide +kernel
theorem dX10_ticks_13 : decode cX10_ticks 13 = .ok (.getfield 20, 3) := by decide +kernel
theorem dX10_ticks_16 : decode cX10_ticks 16 = .ok (.getfield 89, 3) := by decide +kernel
theorem dX10_ticks_19 : decode cX10_ticks 19 = .ok (.getfield 263, 3) := by decide +kernel
theorem dX10_ticks_22 : decode cX10_ticks 22 = .ok (.istore_n 2, 1) := by decide +kernel
theorem dX10_ticks_23 : decode cX10_ticks 23 = .ok (.iconst 0, 1) := by decide +kernel
theorem dX10_ticks_24 : decode cX10_ticks 24 = .ok (.istore_n 3, 1) := by decide +kernel
theorem dX10_ticks_25 : decode cX10_ticks 25 = .ok (.iload_n 3, 1) := by decide +kernel
theorem dX10_ticks_26 : decode cX10_ticks 26 = .ok (.iload_n 1, 1) := by decide +kernel
theorem dX10_ticks_27 : decode cX10_ticks 27 = .ok (.if_icmp .ge 16, 3) := by decide +kernel
theorem dX10_ticks_30 : decode cX10_ticks 30 = .ok (.aload_n 0, 1) := by decide +kernel
theorem dX10_ticks_31 : decode cX10_ticks 31 = .ok (.getfield 20, 3) := by decide +kernel
theorem dX10_ticks_34 : decode cX10_ticks 34 = .ok (.invokevirtual 266, 3) := by decide +kernel
theorem dX10_ticks_37 : decode cX10_ticks 37 = .ok (.iinc 3 1, 3) := by decide +kernel
theorem dX10_ticks_40 : decode cX10_ticks 40 = .ok (.goto (-15), 3) := by decide +kernel
theorem dX10_ticks_43 : decode cX10_ticks 43 = .ok (.aload_n 0, 1) := by decide +kernel
theorem dX10_ticks_44 : decode cX10_ticks 44 = .ok (.getfield 20, 3) := by decide +kernel
theorem dX10_ticks_47 : decode cX10_ticks 47 = .ok (.getfield 89, 3) := by decide +kernel
theorem dX10_ticks_50 : decode cX10_ticks 50 = .ok (.getfield 263, 3) := by decide +kernel
theorem dX10_ticks_53 : decode cX10_ticks 53 = .ok (.iload_n 2, 1) := by decide +kernel
theorem dX10_ticks_54 : decode cX10_ticks 54 = .ok (.isub, 1) := by decide +kernel
theorem dX10_ticks_55 : decode cX10_ticks 55 = .ok (.ireturn, 1) := by decide +kernel
theorem dX10_neighbours_0 : decode cX10_neighbours 0 = .ok (.aload_n 0, 1) := by decide +kernel
theorem dX10_neighbours_1 : decode cX10_neighbours 1 = .ok (.iload_n 1, 1) := by decide +kernel
theorem dX10_neighbours_2 : decode cX10_neighbours 2 = .ok (.invokevirtual 143, 3) := by decide +kernel
theorem dX10_neighbours_5 : decode cX10_neighbours 5 = .ok (.aload_n 0, 1) := by decide +kernel
theorem dX10_neighbours_6 : decode cX10_neighbours 6 = .ok (.iload_n 2, 1) := by decide +kernel
theorem dX10_neighbours_7 : decode cX10_neighbours 7 = .ok (.invokevirtual 143, 3) := by decide +kernel
theorem dX10_neighbours_10 : decode cX10_neighbours 10 = .ok (.aload_n 0, 1) := by decide +kernel
theorem dX10_neighbours_11 : decode cX10_neighbours 11 = .ok (.getfield 63, 3) := by decide +kernel
theorem dX10_neighbours_14 : decode cX10_neighbours 14 = .ok (.aload_n 0, 1) := by decide +kernel
theorem dX10_neighbours_15 : decode cX10_neighbours 15 = .ok (.getfield 20, 3) := by decide +kernel
theorem dX10_neighbours_18 : decode cX10_neighbours 18 = .ok (.iload_n 1, 1) := by decide +kernel
theorem dX10_neighbours_19 : decode cX10_neighbours 19 = .ok (.invokevirtual 161, 3) := by decide +kernel
theorem dX10_neighbours_22 : decode cX10_neighbours 22 = .ok (.aload_n 0, 1) := by decide +kernel
theorem dX10_neighbours_23 : decode cX10_neighbours 23 = .ok (.getfield 20, 3) := by decide +kernel
theorem dX10_neighbours_26 : decode cX10_neighbours 26 = .ok (.iload_n 2, 1) := by decide +kernel
theorem dX10_neighbours_27 : decode cX10_neighbours 27 = .ok (.invokevirtual 161, 3) := by decide +kernel
theorem dX10_neighbours_30 : decode cX10_neighbours 30 = .ok (.iload_n 3, 1) := by decide +kernel
theorem dX10_neighbours_31 : decode cX10_neighbours 31 = .ok (.invokevirtual 269, 3) := by decide +kernel
theorem dX10_neighbours_34 : decode cX10_neighbours 34 = .ok (.ireturn, 1) := by decide +kernel
theorem dX10_run_0 : decode cX10_run 0 = .ok (.aload_n 0, 1) := by decide +kernel
theorem dX10_run_1 : decode cX10_run 1 = .ok (.iload_n 1, 1) := by decide +kernel
theorem dX10_run_2 : decode cX10_run 2 = .ok (.invokevirtual 143, 3) := by decide +kernel
theorem dX10_run_5 : decode cX10_run 5 = .ok (.aload_n 0, 1) := by decide +kernel
theorem dX10_run_6 : decode cX10_run 6 = .ok (.getfield 63, 3) := by decide +kernel
theorem dX10_run_9 : decode cX10_run 9 = .ok (.aload_n 0, 1) := by decide +kernel
theorem dX10_run_10 : decode cX10_run 10 = .ok (.getfield 20, 3) := by decide +kernel
theorem dX10_run_13 : decode cX10_run 13 = .ok (.iload_n 1, 1) := by decide +kernel
theorem dX10_run_14 : decode cX10_run 14 = .ok (.invokevirtual 161, 3) := by decide +kernel
theorem dX10_run_17 : decode cX10_run 17 = .ok (.iload_n 2, 1) := by decide +kernel
theorem dX10_run_18 : decode cX10_run 18 = .ok (.invokevirtual 273, 3) := by decide +kernel
theorem dX10_run_21 : decode cX10_run 21 = .ok (.ireturn, 1) := by decide +kernel
theorem dX10_empty_0 : decode cX10_empty 0 = .ok (.aload_n 0, 1) := by decide +kernel
theorem dX10_empty_1 : decode cX10_empty 1 = .ok (.getfield 63, 3) := by decide +kernel
theorem dX10_empty_4 : decode cX10_empty 4 = .ok (.iconst (-1), 1) := by decide +kernel
theorem dX10_empty_5 : decode cX10_empty 5 = .ok (.iload_n 1, 1) := by decide +kernel
theorem dX10_empty_6 : decode cX10_empty 6 = .ok (.invokevirtual 273, 3) := by decide +kernel
theorem dX10_empty_9 : decode cX10_empty 9 = .ok (.ireturn, 1) := by decide +kernel
theorem dX10_wedding_0 : decode cX10_wedding 0 = .ok (.aload_n 0, 1) := by decide +kernel
theorem dX10_wedding_1 : decode cX10_wedding 1 = .ok (.iload_n 1, 1) := by decide +kernel
theorem dX10_wedding_2 : decode cX10_wedding 2 = .ok (.invokevirtual 143, 3) := by decide +kernel
theorem dX10_wedding_5 : decode cX10_wedding 5 = .ok (.aload_n 0, 1) := by decide +kernel
theorem dX10_wedding_6 : decode cX10_wedding 6 = .ok (.iload_n 2, 1) := by decide +kernel
theorem dX10_wedding_7 : decode cX10_wedding 7 = .ok (.invokevirtual 143, 3) := by decide +kernel
theorem dX10_wedding_10 : decode cX10_wedding 10 = .ok (.iload_n 1, 1) := by decide +kernel
theorem dX10_wedding_11 : decode cX10_wedding 11 = .ok (.iload_n 2, 1) := by decide +kernel
theorem dX10_wedding_12 : decode cX10_wedding 12 = .ok (.invokestatic 248, 3) := by decide +kernel
theorem dX10_wedding_15 : decode cX10_wedding 15 = .ok (.aload_n 0, 1) := by decide +kernel
theorem dX10_wedding_16 : decode cX10_wedding 16 = .ok (.getfield 63, 3) := by decide +kernel
theorem dX10_wedding_19 : decode cX10_wedding 19 = .ok (.aload_n 0, 1) := by decide +kernel
theorem dX10_wedding_20 : decode cX10_wedding 20 = .ok (.getfield 20, 3) := by decide +kernel
theorem dX10_wedding_23 : decode cX10_wedding 23 = .ok (.iload_n 1, 1) := by decide +kernel
theorem dX10_wedding_24 : decode cX10_wedding 24 = .ok (.invokevirtual 161, 3) := by decide +kernel
theorem dX10_wedding_27 : decode cX10_wedding 27 = .ok (.aload_n 0, 1) := by decide +kernel
theorem dX10_wedding_28 : decode cX10_wedding 28 = .ok (.getfield 20, 3) := by decide +kernel
theorem dX10_wedding_31 : decode cX10_wedding 31 = .ok (.iload_n 2, 1) := by decide +kernel
theorem dX10_wedding_32 : decode cX10_wedding 32 = .ok (.invokevirtual 161, 3) := by decide +kernel
theorem dX10_wedding_35 : decode cX10_wedding 35 = .ok (.invokevirtual 277, 3) := by decide +kernel
theorem dX10_wedding_38 : decode cX10_wedding 38 = .ok (.ireturn, 1) := by decide +kernel
theorem dX10_court_0 : decode cX10_court 0 = .ok (.aload_n 0, 1) := by decide +kernel
theorem dX10_court_1 : decode cX10_court 1 = .ok (.getfield 63, 3) := by decide +kernel
theorem dX10_court_4 : decode cX10_court 4 = .ok (.aload_n 0, 1) := by decide +kernel
theorem dX10_court_5 : decode cX10_court 5 = .ok (.getfield 20, 3) := by decide +kernel
theorem dX10_court_8 : decode cX10_court 8 = .ok (.iload_n 1, 1) := by decide +kernel
theorem dX10_court_9 : decode cX10_court 9 = .ok (.invokevirtual 280, 3) := by decide +kernel
theorem dX10_court_12 : decode cX10_court 12 = .ok (.iload_n 2, 1) := by decide +kernel
theorem dX10_court_13 : decode cX10_court 13 = .ok (.invokevirtual 283, 3) := by decide +kernel
theorem dX10_court_16 : decode cX10_court 16 = .ok (.ireturn, 1) := by decide +kernel
theorem dX10_cheap_0 : decode cX10_cheap 0 = .ok (.aload_n 0, 1) := by decide +kernel
theorem dX10_cheap_1 : decode cX10_cheap 1 = .ok (.iload_n 1, 1) := by decide +kernel
theorem dX10_cheap_2 : decode cX10_cheap 2 = .ok (.invokevirtual 143, 3) := by decide +kernel
theorem dX10_cheap_5 : decode cX10_cheap 5 = .ok (.iload_n 2, 1) := by decide +kernel
theorem dX10_cheap_6 : decode cX10_cheap 6 = .ok (.iconst 1, 1) := by decide +kernel
theorem dX10_cheap_7 : decode cX10_cheap 7 = .ok (.bipush 20, 2) := by decide +kernel
theorem dX10_cheap_9 : decode cX10_cheap 9 = .ok (.invokestatic 232, 3) := by decide +kernel
theorem dX10_cheap_12 : decode cX10_cheap 12 = .ok (.iload_n 3, 1) := by decide +kernel
theorem dX10_cheap_13 : decode cX10_cheap 13 = .ok (.iconst (-1), 1) := by decide +kernel
theorem dX10_cheap_14 : decode cX10_cheap 14 = .ok (.iload_n 2, 1) := by decide +kernel
theorem dX10_cheap_15 : decode cX10_cheap 15 = .ok (.iconst 1, 1) := by decide +kernel
theorem dX10_cheap_16 : decode cX10_cheap 16 = .ok (.isub, 1) := by decide +kernel
theorem dX10_cheap_17 : decode cX10_cheap 17 = .ok (.invokestatic 232, 3) := by decide +kernel
theorem dX10_cheap_20 : decode cX10_cheap 20 = .ok (.aload_n 0, 1) := by decide +kernel
theorem dX10_cheap_21 : decode cX10_cheap 21 = .ok (.getfield 70, 3) := by decide +kernel
theorem dX10_cheap_24 : decode cX10_cheap 24 = .ok (.iload_n 1, 1) := by decide +kernel
theorem dX10_cheap_25 : decode cX10_cheap 25 = .ok (.iload_n 2, 1) := by decide +kernel
theorem dX10_cheap_26 : decode cX10_cheap 26 = .ok (.iload_n 3, 1) := by decide +kernel
theorem dX10_cheap_27 : decode cX10_cheap 27 = .ok (.invokevirtual 286, 3) := by decide +kernel
theorem dX10_cheap_30 : decode cX10_cheap 30 = .ok (.ireturn, 1) := by decide +kernel
theorem dX10_fitted_0 : decode cX10_fitted 0 = .ok (.aload_n 0, 1) := by decide +kernel
theorem dX10_fitted_1 : decode cX10_fitted 1 = .ok (.getfield 77, 3) := by decide +kernel
theorem dX10_fitted_4 : decode cX10_fitted 4 = .ok (.invokevirtual 289, 3) := by decide +kernel
theorem dX10_fitted_7 : decode cX10_fitted 7 = .ok (.istore_n 2, 1) := by decide +kernel
theorem dX10_fitted_8 : decode cX10_fitted 8 = .ok (.iload_n 1, 1) := by decide +kernel
theorem dX10_fitted_9 : decode cX10_fitted 9 = .ok (.ifCond .ne 5, 3) := by decide +kernel
theorem dX10_fitted_12 : decode cX10_fitted 12 = .ok (.iload_n 2, 1) := by decide +kernel
theorem dX10_fitted_13 : decode cX10_fitted 13 = .ok (.ireturn, 1) := by decide +kernel
theorem dX10_fitted_14 : decode cX10_fitted 14 = .ok (.iload_n 2, 1) := by decide +kernel
theorem dX10_fitted_15 : decode cX10_fitted 15 = .ok (.aload_n 0, 1) := by decide +kernel
theorem dX10_fitted_16 : decode cX10_fitted 16 = .ok (.getfield 20, 3) := by decide +kernel
theorem dX10_fitted_19 : decode cX10_fitted 19 = .ok (.getfield 97, 3) := by decide +kernel
theorem dX10_fitted_22 : decode cX10_fitted 22 = .ok (.invokevirtual 292, 3) := by decide +kernel
theorem dX10_fitted_25 : decode cX10_fitted 25 = .ok (.if_icmp .ne 7, 3) := by decide +kernel
theorem dX10_fitted_28 : decode cX10_fitted 28 = .ok (.iconst 1, 1) := by decide +kernel
theorem dX10_fitted_29 : decode cX10_fitted 29 = .ok (.goto 4, 3) := by decide +kernel
theorem dX10_fitted_32 : decode cX10_fitted 32 = .ok (.iconst 0, 1) := by decide +kernel
theorem dX10_fitted_33 : decode cX10_fitted 33 = .ok (.ireturn, 1) := by decide +kernel
theorem dX10_given_0 : decode cX10_given 0 = .ok (.iload_n 1, 1) := by decide +kernel
theorem dX10_given_1 : decode cX10_given 1 = .ok (.invokestatic 178, 3) := by decide +kernel
theorem dX10_given_4 : decode cX10_given 4 = .ok (.aload_n 0, 1) := by decide +kernel
theorem dX10_given_5 : decode cX10_given 5 = .ok (.getfield 77, 3) := by decide +kernel
theorem dX10_given_8 : decode cX10_given 8 = .ok (.invokevirtual 289, 3) := by decide +kernel
theorem dX10_given_11 : decode cX10_given 11 = .ok (.pop, 1) := by decide +kernel
theorem dX10_given_12 : decode cX10_given 12 = .ok (.aload_n 0, 1) := by decide +kernel
theorem dX10_given_13 : decode cX10_given 13 = .ok (.getfield 77, 3) := by decide +kernel
theorem dX10_given_16 : decode cX10_given 16 = .ok (.iload_n 1, 1) := by decide +kernel
theorem dX10_given_17 : decode cX10_given 17 = .ok (.invokevirtual 295, 3) := by decide +kernel
theorem dX10_given_20 : decode cX10_given 20 = .ok (.ireturn, 1) := by decide +kernel
theorem dX10_envies_0 : decode cX10_envies 0 = .ok (.aload_n 0, 1) := by decide +kernel
theorem dX10_envies_1 : decode cX10_envies 1 = .ok (.iload_n 1, 1) := by decide +kernel
theorem dX10_envies_2 : decode cX10_envies 2 = .ok (.invokevirtual 143, 3) := by decide +kernel
theorem dX10_envies_5 : decode cX10_envies 5 = .ok (.aload_n 0, 1) := by decide +kernel
theorem dX10_envies_6 : decode cX10_envies 6 = .ok (.getfield 70, 3) := by decide +kernel
theorem dX10_envies_9 : decode cX10_envies 9 = .ok (.iload_n 1, 1) := by decide +kernel
theorem dX10_envies_10 : decode cX10_envies 10 = .ok (.invokevirtual 298, 3) := by decide +kernel
theorem dX10_envies_13 : decode cX10_envies 13 = .ok (.ireturn, 1) := by decide +kernel
theorem dX10_fair_0 : decode cX10_fair 0 = .ok (.iload_n 1, 1) := by decide +kernel
theorem dX10_fair_1 : decode cX10_fair 1 = .ok (.iconst 0, 1) := by decide +kernel
theorem dX10_fair_2 : decode cX10_fair 2 = .ok (.bipush 6, 2) := by decide +kernel
theorem dX10_fair_4 : decode cX10_fair 4 = .ok (.invokestatic 232, 3) := by decide +kernel
theorem dX10_fair_7 : decode cX10_fair 7 = .ok (.iload_n 3, 1) := by decide +kernel
theorem dX10_fair_8 : decode cX10_fair 8 = .ok (.iconst (-1), 1) := by decide +kernel
theorem dX10_fair_9 : decode cX10_fair 9 = .ok (.if_icmp .eq 11, 3) := by decide +kernel
theorem dX10_fair_12 : decode cX10_fair 12 = .ok (.iload_n 3, 1) := by decide +kernel
theorem dX10_fair_13 : decode cX10_fair 13 = .ok (.bipush 12, 2) := by decide +kernel
theorem dX10_fair_15 : decode cX10_fair 15 = .ok (.bipush 17, 2) := by decide +kernel
theorem dX10_fair_17 : decode cX10_fair 17 = .ok (.invokestatic 232, 3) := by decide +kernel
theorem dX10_fair_20 : decode cX10_fair 20 = .ok (.aload_n 0, 1) := by decide +kernel
theorem dX10_fair_21 : decode cX10_fair 21 = .ok (.getfield 70, 3) := by decide +kernel
theorem dX10_fair_24 : decode cX10_fair 24 = .ok (.aload_n 0, 1) := by decide +kernel
theorem dX10_fair_25 : decode cX10_fair 25 = .ok (.getfield 20, 3) := by decide +kernel
theorem dX10_fair_28 : decode cX10_fair 28 = .ok (.iload_n 2, 1) := by decide +kernel
theorem dX10_fair_29 : decode cX10_fair 29 = .ok (.invokevirtual 280, 3) := by decide +kernel
theorem dX10_fair_32 : decode cX10_fair 32 = .ok (.invokevirtual 301, 3) := by decide +kernel
theorem dX10_fair_35 : decode cX10_fair 35 = .ok (.ifCond .ne 6, 3) := by decide +kernel
theorem dX10_fair_38 : decode cX10_fair 38 = .ok (.bipush (-2), 2) := by decide +kernel
theorem dX10_fair_40 : decode cX10_fair 40 = .ok (.ireturn, 1) := by decide +kernel
theorem dX10_fair_41 : decode cX10_fair 41 = .ok (.aload_n 0, 1) := by decide +kernel
theorem dX10_fair_42 : decode cX10_fair 42 = .ok (.getfield 70, 3) := by decide +kernel
theorem dX10_fair_45 : decode cX10_fair 45 = .ok (.iload_n 1, 1) := by decide +kernel
theorem dX10_fair_46 : decode cX10_fair 46 = .ok (.invokevirtual 304, 3) := by decide +kernel
theorem dX10_fair_49 : decode cX10_fair 49 = .ok (.istore 4, 2) := by decide +kernel
theorem dX10_fair_51 : decode cX10_fair 51 = .ok (.iload_n 3, 1) := by decide +kernel
theorem dX10_fair_52 : decode cX10_fair 52 = .ok (.iconst (-1), 1) := by decide +kernel
theorem dX10_fair_53 : decode cX10_fair 53 = .ok (.if_icmp .ne 6, 3) := by decide +kernel
theorem dX10_fair_56 : decode cX10_fair 56 = .ok (.iload 4, 2) := by decide +kernel
theorem dX10_fair_58 : decode cX10_fair 58 = .ok (.ireturn, 1) := by decide +kernel
theorem dX10_fair_59 : decode cX10_fair 59 = .ok (.iload 4, 2) := by decide +kernel
theorem dX10_fair_61 : decode cX10_fair 61 = .ok (.ifCond .ne 7, 3) := by decide +kernel
theorem dX10_fair_64 : decode cX10_fair 64 = .ok (.iconst (-1), 1) := by decide +kernel
theorem dX10_fair_65 : decode cX10_fair 65 = .ok (.goto 14, 3) := by decide +kernel
theorem dX10_fair_68 : decode cX10_fair 68 = .ok (.aload_n 0, 1) := by decide +kernel
theorem dX10_fair_69 : decode cX10_fair 69 = .ok (.getfield 70, 3) := by decide +kernel
theorem dX10_fair_72 : decode cX10_fair 72 = .ok (.iload_n 3, 1) := by decide +kernel
theorem dX10_fair_73 : decode cX10_fair 73 = .ok (.bipush 12, 2) := by decide +kernel
theorem dX10_fair_75 : decode cX10_fair 75 = .ok (.isub, 1) := by decide +kernel
theorem dX10_fair_76 : decode cX10_fair 76 = .ok (.invokevirtual 307, 3) := by decide +kernel
theorem dX10_fair_79 : decode cX10_fair 79 = .ok (.ireturn, 1) := by decide +kernel
theorem dX10_ring_0 : decode cX10_ring 0 = .ok (.aload_n 0, 1) := by decide +kernel
theorem dX10_ring_1 : decode cX10_ring 1 = .ok (.iload_n 1, 1) := by decide +kernel
theorem dX10_ring_2 : decode cX10_ring 2 = .ok (.invokevirtual 143, 3) := by decide +kernel
theorem dX10_ring_5 : decode cX10_ring 5 = .ok (.iload_n 2, 1) := by decide +kernel
theorem dX10_ring_6 : decode cX10_ring 6 = .ok (.iconst (-1), 1) := by decide +kernel
theorem dX10_ring_7 : decode cX10_ring 7 = .ok (.if_icmp .ge 14, 3) := by decide +kernel
theorem dX10_ring_10 : decode cX10_ring 10 = .ok (.new 114, 3) := by decide +kernel
theorem dX10_ring_13 : decode cX10_ring 13 = .ok (.dup, 1) := by decide +kernel
theorem dX10_ring_14 : decode cX10_ring 14 = .ok (.ldc_w 310, 3) := by decide +kernel
theorem dX10_ring_17 : decode cX10_ring 17 = .ok (.invokespecial 118, 3) := by decide +kernel
theorem dX10_ring_20 : decode cX10_ring 20 = .ok (.athrow, 1) := by decide +kernel
theorem dX10_ring_21 : decode cX10_ring 21 = .ok (.aload_n 0, 1) := by decide +kernel
theorem dX10_ring_22 : decode cX10_ring 22 = .ok (.getfield 70, 3) := by decide +kernel
theorem dX10_ring_25 : decode cX10_ring 25 = .ok (.iload_n 1, 1) := by decide +kernel
theorem dX10_ring_26 : decode cX10_ring 26 = .ok (.invokevirtual 312, 3) := by decide +kernel
theorem dX10_ring_29 : decode cX10_ring 29 = .ok (.istore_n 3, 1) := by decide +kernel
theorem dX10_ring_30 : decode cX10_ring 30 = .ok (.iload_n 3, 1) := by decide +kernel
theorem dX10_ring_31 : decode cX10_ring 31 = .ok (.ifCond .eq 8, 3) := by decide +kernel
theorem dX10_ring_34 : decode cX10_ring 34 = .ok (.iload_n 2, 1) := by decide +kernel
theorem dX10_ring_35 : decode cX10_ring 35 = .ok (.iload_n 3, 1) := by decide +kernel
theorem dX10_ring_36 : decode cX10_ring 36 = .ok (.if_icmp .lt 5, 3) := by decide +kernel
theorem dX10_ring_39 : decode cX10_ring 39 = .ok (.iconst (-1), 1) := by decide +kernel
theorem dX10_ring_40 : decode cX10_ring 40 = .ok (.ireturn, 1) := by decide +kernel
theorem dX10_ring_41 : decode cX10_ring 41 = .ok (.iload_n 2, 1) := by decide +kernel
theorem dX10_ring_42 : decode cX10_ring 42 = .ok (.iconst (-1), 1) := by decide +kernel
theorem dX10_ring_43 : decode cX10_ring 43 = .ok (.if_icmp .ne 7, 3) := by decide +kernel
theorem dX10_ring_46 : decode cX10_ring 46 = .ok (.iload_n 3, 1) := by decide +kernel
theorem dX10_ring_47 : decode cX10_ring 47 = .ok (.goto 11, 3) := by decide +kernel
theorem dX10_ring_50 : decode cX10_ring 50 = .ok (.aload_n 0, 1) := by decide +kernel
theorem dX10_ring_51 : decode cX10_ring 51 = .ok (.getfield 70, 3) := by decide +kernel
theorem dX10_ring_54 : decode cX10_ring 54 = .ok (.iload_n 2, 1) := by decide +kernel
theorem dX10_ring_55 : decode cX10_ring 55 = .ok (.invokevirtual 315, 3) := by decide +kernel
theorem dX10_ring_58 : decode cX10_ring 58 = .ok (.ireturn, 1) := by decide +kernel
theorem dX10_turn_0 : decode cX10_turn 0 = .ok (.aload_n 0, 1) := by decide +kernel
theorem dX10_turn_1 : decode cX10_turn 1 = .ok (.iload_n 1, 1) := by decide +kernel
theorem dX10_turn_2 : decode cX10_turn 2 = .ok (.invokevirtual 143, 3) := by decide +kernel
theorem dX10_turn_5 : decode cX10_turn 5 = .ok (.aload_n 0, 1) := by decide +kernel
theorem dX10_turn_6 : decode cX10_turn 6 = .ok (.getfield 70, 3) := by decide +kernel
theorem dX10_turn_9 : decode cX10_turn 9 = .ok (.iload_n 1, 1) := by decide +kernel
theorem dX10_turn_10 : decode cX10_turn 10 = .ok (.invokevirtual 312, 3) := by decide +kernel
theorem dX10_turn_13 : decode cX10_turn 13 = .ok (.istore_n 2, 1) := by decide +kernel
theorem dX10_turn_14 : decode cX10_turn 14 = .ok (.iload_n 2, 1) := by decide +kernel
theorem dX10_turn_15 : decode cX10_turn 15 = .ok (.ifCond .le 7, 3) := by decide +kernel
theorem dX10_turn_18 : decode cX10_turn 18 = .ok (.iconst 1, 1) := by decide +kernel
theorem dX10_turn_19 : decode cX10_turn 19 = .ok (.goto 4, 3) := by decide +kernel
theorem dX10_turn_22 : decode cX10_turn 22 = .ok (.iconst 0, 1) := by decide +kernel
theorem dX10_turn_23 : decode cX10_turn 23 = .ok (.invokestatic 218, 3) := by decide +kernel
theorem dX10_turn_26 : decode cX10_turn 26 = .ok (.aload_n 0, 1) := by decide +kernel
theorem dX10_turn_27 : decode cX10_turn 27 = .ok (.invokevirtual 222, 3) := by decide +kernel
theorem dX10_turn_30 : decode cX10_turn 30 = .ok (.aload_n 0, 1) := by decide +kernel
theorem dX10_turn_31 : decode cX10_turn 31 = .ok (.getfield 70, 3) := by decide +kernel
theorem dX10_turn_34 : decode cX10_turn 34 = .ok (.iload_n 2, 1) := by decide +kernel
theorem dX10_turn_35 : decode cX10_turn 35 = .ok (.invokevirtual 318, 3) := by decide +kernel
theorem dX10_turn_38 : decode cX10_turn 38 = .ok (.iload_n 2, 1) := by decide +kernel
theorem dX10_turn_39 : decode cX10_turn 39 = .ok (.ireturn, 1) := by decide +kernel
theorem dX10_soonest_0 : decode cX10_soonest 0 = .ok (.aload_n 0, 1) := by decide +kernel
theorem dX10_soonest_1 : decode cX10_soonest 1 = .ok (.iload_n 1, 1) := by decide +kernel
theorem dX10_soonest_2 : decode cX10_soonest 2 = .ok (.invokevirtual 143, 3) := by decide +kernel
theorem dX10_soonest_5 : decode cX10_soonest 5 = .ok (.aload_n 0, 1) := by decide +kernel
theorem dX10_soonest_6 : decode cX10_soonest 6 = .ok (.iload_n 2, 1) := by decide +kernel
theorem dX10_soonest_7 : decode cX10_soonest 7 = .ok (.invokevirtual 143, 3) := by decide +kernel
theorem dX10_soonest_10 : decode cX10_soonest 10 = .ok (.aload_n 0, 1) := by decide +kernel
theorem dX10_soonest_11 : decode cX10_soonest 11 = .ok (.getfield 63, 3) := by decide +kernel
theorem dX10_soonest_14 : decode cX10_soonest 14 = .ok (.aload_n 0, 1) := by decide +kernel
theorem dX10_soonest_15 : decode cX10_soonest 15 = .ok (.getfield 20, 3) := by decide +kernel
theorem dX10_soonest_18 : decode cX10_soonest 18 = .ok (.iload_n 1, 1) := by decide +kernel
theorem dX10_soonest_19 : decode cX10_soonest 19 = .ok (.invokevirtual 161, 3) := by decide +kernel
theorem dX10_soonest_22 : decode cX10_soonest 22 = .ok (.aload_n 0, 1) := by decide +kernel
theorem dX10_soonest_23 : decode cX10_soonest 23 = .ok (.getfield 20, 3) := by decide +kernel
theorem dX10_soonest_26 : decode cX10_soonest 26 = .ok (.iload_n 2, 1) := by decide +kernel
theorem dX10_soonest_27 : decode cX10_soonest 27 = .ok (.invokevirtual 161, 3) := by decide +kernel
theorem dX10_soonest_30 : decode cX10_soonest 30 = .ok (.invokevirtual 321, 3) := by decide +kernel
theorem dX10_soonest_33 : decode cX10_soonest 33 = .ok (.ireturn, 1) := by decide +kernel
theorem dX10_heard_0 : decode cX10_heard 0 = .ok (.aload_n 0, 1) := by decide +kernel
theorem dX10_heard_1 : decode cX10_heard 1 = .ok (.iload_n 1, 1) := by decide +kernel
theorem dX10_heard_2 : decode cX10_heard 2 = .ok (.invokevirtual 143, 3) := by decide +kernel
theorem dX10_heard_5 : decode cX10_heard 5 = .ok (.iload_n 2, 1) := by decide +kernel
theorem dX10_heard_6 : decode cX10_heard 6 = .ok (.iconst 0, 1) := by decide +kernel
theorem dX10_heard_7 : decode cX10_heard 7 = .ok (.sipush 336, 3) := by decide +kernel
theorem dX10_heard_10 : decode cX10_heard 10 = .ok (.invokestatic 232, 3) := by decide +kernel
theorem dX10_heard_13 : decode cX10_heard 13 = .ok (.aload_n 0, 1) := by decide +kernel
theorem dX10_heard_14 : decode cX10_heard 14 = .ok (.getfield 63, 3) := by decide +kernel
theorem dX10_heard_17 : decode cX10_heard 17 = .ok (.aload_n 0, 1) := by decide +kernel
theorem dX10_heard_18 : decode cX10_heard 18 = .ok (.getfield 20, 3) := by decide +kernel
theorem dX10_heard_21 : decode cX10_heard 21 = .ok (.iload_n 1, 1) := by decide +kernel
theorem dX10_heard_22 : decode cX10_heard 22 = .ok (.invokevirtual 161, 3) := by decide +kernel
theorem dX10_heard_25 : decode cX10_heard 25 = .ok (.iload_n 2, 1) := by decide +kernel
theorem dX10_heard_26 : decode cX10_heard 26 = .ok (.invokevirtual 324, 3) := by decide +kernel
theorem dX10_heard_29 : decode cX10_heard 29 = .ok (.ireturn, 1) := by decide +kernel
theorem dX10_roomsFor_0 : decode cX10_roomsFor 0 = .ok (.aload_n 0, 1) := by decide +kernel
theorem dX10_roomsFor_1 : decode cX10_roomsFor 1 = .ok (.iload_n 1, 1) := by decide +kernel
theorem dX10_roomsFor_2 : decode cX10_roomsFor 2 = .ok (.invokevirtual 143, 3) := by decide +kernel
theorem dX10_roomsFor_5 : decode cX10_roomsFor 5 = .ok (.iload_n 2, 1) := by decide +kernel
theorem dX10_roomsFor_6 : decode cX10_roomsFor 6 = .ok (.iconst 1, 1) := by decide +kernel
theorem dX10_roomsFor_7 : decode cX10_roomsFor 7 = .ok (.bipush 24, 2) := by decide +kernel
theorem dX10_roomsFor_9 : decode cX10_roomsFor 9 = .ok (.invokestatic 232, 3) := by decide +kernel
theorem dX10_roomsFor_12 : decode cX10_roomsFor 12 = .ok (.aload_n 0, 1) := by decide +kernel
theorem dX10_roomsFor_13 : decode cX10_roomsFor 13 = .ok (.getfield 63, 3) := by decide +kernel
theorem dX10_roomsFor_16 : decode cX10_roomsFor 16 = .ok (.iload_n 1, 1) := by decide +kernel
theorem dX10_roomsFor_17 : decode cX10_roomsFor 17 = .ok (.iload_n 2, 1) := by decide +kernel
theorem dX10_roomsFor_18 : decode cX10_roomsFor 18 = .ok (.iload_n 3, 1) := by decide +kernel
theorem dX10_roomsFor_19 : decode cX10_roomsFor 19 = .ok (.invokevirtual 327, 3) := by decide +kernel
theorem dX10_roomsFor_22 : decode cX10_roomsFor 22 = .ok (.ireturn, 1) := by decide +kernel
theorem dX10_thieves_0 : decode cX10_thieves 0 = .ok (.aload_n 0, 1) := by decide +kernel
theorem dX10_thieves_1 : decode cX10_thieves 1 = .ok (.invokevirtual 106, 3) := by decide +kernel
theorem dX10_thieves_4 : decode cX10_thieves 4 = .ok (.istore_n 1, 1) := by decide +kernel
theorem dX10_thieves_5 : decode cX10_thieves 5 = .ok (.aload_n 0, 1) := by decide +kernel
theorem dX10_thieves_6 : decode cX10_thieves 6 = .ok (.iload_n 1, 1) := by decide +kernel
theorem dX10_thieves_7 : decode cX10_thieves 7 = .ok (.iconst 1, 1) := by decide +kernel
theorem dX10_thieves_8 : decode cX10_thieves 8 = .ok (.invokevirtual 330, 3) := by decide +kernel
theorem dX10_thieves_11 : decode cX10_thieves 11 = .ok (.iload_n 1, 1) := by decide +kernel
theorem dX10_thieves_12 : decode cX10_thieves 12 = .ok (.ifCond .ne 14, 3) := by decide +kernel
theorem dX10_thieves_15 : decode cX10_thieves 15 = .ok (.new 114, 3) := by decide +kernel
theorem dX10_thieves_18 : decode cX10_thieves 18 = .ok (.dup, 1) := by decide +kernel
theorem dX10_thieves_19 : decode cX10_thieves 19 = .ok (.ldc_w 333, 3) := by decide +kernel
theorem dX10_thieves_22 : decode cX10_thieves 22 = .ok (.invokespecial 118, 3) := by decide +kernel
theorem dX10_thieves_25 : decode cX10_thieves 25 = .ok (.athrow, 1) := by decide +kernel
theorem dX10_thieves_26 : decode cX10_thieves 26 = .ok (.aload_n 0, 1) := by decide +kernel
theorem dX10_thieves_27 : decode cX10_thieves 27 = .ok (.getfield 20, 3) := by decide +kernel
theorem dX10_thieves_30 : decode cX10_thieves 30 = .ok (.iconst (-1), 1) := by decide +kernel
theorem dX10_thieves_31 : decode cX10_thieves 31 = .ok (.invokevirtual 280, 3) := by decide +kernel
theorem dX10_thieves_34 : decode cX10_thieves 34 = .ok (.istore_n 2, 1) := by decide +kernel
theorem dX10_thieves_35 : decode cX10_thieves 35 = .ok (.iconst 0, 1) := by decide +kernel
theorem dX10_thieves_36 : decode cX10_thieves 36 = .ok (.istore_n 3, 1) := by decide +kernel
theorem dX10_thieves_37 : decode cX10_thieves 37 = .ok (.iload_n 3, 1) := by decide +kernel
theorem dX10_thieves_38 : decode cX10_thieves 38 = .ok (.iload_n 1, 1) := by decide +kernel
theorem dX10_thieves_39 : decode cX10_thieves 39 = .ok (.if_icmp .ge 25, 3) := by decide +kernel
theorem dX10_thieves_42 : decode cX10_thieves 42 = .ok (.iload_n 2, 1) := by decide +kernel
theorem dX10_thieves_43 : decode cX10_thieves 43 = .ok (.aload_n 0, 1) := by decide +kernel
theorem dX10_thieves_44 : decode cX10_thieves 44 = .ok (.getfield 63, 3) := by decide +kernel
theorem dX10_thieves_47 : decode cX10_thieves 47 = .ok (.aload_n 0, 1) := by decide +kernel
theorem dX10_thieves_48 : decode cX10_thieves 48 = .ok (.getfield 9, 3) := by decide +kernel
theorem dX10_thieves_51 : decode cX10_thieves 51 = .ok (.iload_n 3, 1) := by decide +kernel
theorem dX10_thieves_52 : decode cX10_thieves 52 = .ok (.iaload, 1) := by decide +kernel
theorem dX10_thieves_53 : decode cX10_thieves 53 = .ok (.invokevirtual 335, 3) := by decide +kernel
theorem dX10_thieves_56 : decode cX10_thieves 56 = .ok (.iand, 1) := by decide +kernel
theorem dX10_thieves_57 : decode cX10_thieves 57 = .ok (.istore_n 2, 1) := by decide +kernel
theorem dX10_thieves_58 : decode cX10_thieves 58 = .ok (.iinc 3 1, 3) := by decide +kernel
theorem dX10_thieves_61 : decode cX10_thieves 61 = .ok (.goto (-24), 3) := by decide +kernel
theorem dX10_thieves_64 : decode cX10_thieves 64 = .ok (.iload_n 2, 1) := by decide +kernel
theorem dX10_thieves_65 : decode cX10_thieves 65 = .ok (.ireturn, 1) := by decide +kernel
theorem dX10_seen_0 : decode cX10_seen 0 = .ok (.aload_n 0, 1) := by decide +kernel
theorem dX10_seen_1 : decode cX10_seen 1 = .ok (.invokevirtual 106, 3) := by decide +kernel
theorem dX10_seen_4 : decode cX10_seen 4 = .ok (.istore_n 1, 1) := by decide +kernel
theorem dX10_seen_5 : decode cX10_seen 5 = .ok (.iload_n 1, 1) := by decide +kernel
theorem dX10_seen_6 : decode cX10_seen 6 = .ok (.iconst 2, 1) := by decide +kernel
theorem dX10_seen_7 : decode cX10_seen 7 = .ok (.irem, 1) := by decide +kernel
theorem dX10_seen_8 : decode cX10_seen 8 = .ok (.ifCond .eq 14, 3) := by decide +kernel
theorem dX10_seen_11 : decode cX10_seen 11 = .ok (.new 114, 3) := by decide +kernel
theorem dX10_seen_14 : decode cX10_seen 14 = .ok (.dup, 1) := by decide +kernel
theorem dX10_seen_15 : decode cX10_seen 15 = .ok (.ldc_w 338, 3) := by decide +kernel
theorem dX10_seen_18 : decode cX10_seen 18 = .ok (.invokespecial 118, 3) := by decide +kernel
theorem dX10_seen_21 : decode cX10_seen 21 = .ok (.athrow, 1) := by decide +kernel
theorem dX10_seen_22 : decode cX10_seen 22 = .ok (.aload_n 0, 1) := by decide +kernel
theorem dX10_seen_23 : decode cX10_seen 23 = .ok (.iload_n 1, 1) := by decide +kernel
theorem dX10_seen_24 : decode cX10_seen 24 = .ok (.iconst 2, 1) := by decide +kernel
theorem dX10_seen_25 : decode cX10_seen 25 = .ok (.invokevirtual 330, 3) := by decide +kernel
theorem dX10_seen_28 : decode cX10_seen 28 = .ok (.iconst 1, 1) := by decide +kernel
theorem dX10_seen_29 : decode cX10_seen 29 = .ok (.istore_n 2, 1) := by decide +kernel
theorem dX10_seen_30 : decode cX10_seen 30 = .ok (.iload_n 2, 1) := by decide +kernel
theorem dX10_seen_31 : decode cX10_seen 31 = .ok (.iload_n 1, 1) := by decide +kernel
theorem dX10_seen_32 : decode cX10_seen 32 = .ok (.if_icmp .ge 34, 3) := by decide +kernel
theorem dX10_seen_35 : decode cX10_seen 35 = .ok (.aload_n 0, 1) := by decide +kernel
theorem dX10_seen_36 : decode cX10_seen 36 = .ok (.getfield 9, 3) := by decide +kernel
theorem dX10_seen_39 : decode cX10_seen 39 = .ok (.iload_n 2, 1) := by decide +kernel
theorem dX10_seen_40 : decode cX10_seen 40 = .ok (.iaload, 1) := by decide +kernel
theorem dX10_seen_41 : decode cX10_seen 41 = .ok (.bipush 97, 2) := by decide +kernel
theorem dX10_seen_43 : decode cX10_seen 43 = .ok (.isub, 1) := by decide +kernel
theorem dX10_seen_44 : decode cX10_seen 44 = .ok (.iconst 0, 1) := by decide +kernel
theorem dX10_seen_45 : decode cX10_seen 45 = .ok (.aload_n 0, 1) := by decide +kernel
theorem dX10_seen_46 : decode cX10_seen 46 = .ok (.getfield 20, 3) := by decide +kernel
theorem dX10_seen_49 : decode cX10_seen 49 = .ok (.getfield 97, 3) := by decide +kernel
theorem dX10_seen_52 : decode cX10_seen 52 = .ok (.getfield 340, 3) := by decide +kernel
theorem dX10_seen_55 : decode cX10_seen 55 = .ok (.iconst 1, 1) := by decide +kernel
theorem dX10_seen_56 : decode cX10_seen 56 = .ok (.isub, 1) := by decide +kernel
theorem dX10_seen_57 : decode cX10_seen 57 = .ok (.invokestatic 232, 3) := by decide +kernel
theorem dX10_seen_60 : decode cX10_seen 60 = .ok (.iinc 2 2, 3) := by decide +kernel
theorem dX10_seen_63 : decode cX10_seen 63 = .ok (.goto (-33), 3) := by decide +kernel
theorem dX10_seen_66 : decode cX10_seen 66 = .ok (.iconst 0, 1) := by decide +kernel
theorem dX10_seen_67 : decode cX10_seen 67 = .ok (.istore_n 2, 1) := by decide +kernel
theorem dX10_seen_68 : decode cX10_seen 68 = .ok (.iload_n 2, 1) := by decide +kernel
theorem dX10_seen_69 : decode cX10_seen 69 = .ok (.iload_n 1, 1) := by decide +kernel
theorem dX10_seen_70 : decode cX10_seen 70 = .ok (.if_icmp .ge 50, 3) := by decide +kernel
theorem dX10_seen_73 : decode cX10_seen 73 = .ok (.aload_n 0, 1) := by decide +kernel
theorem dX10_seen_74 : decode cX10_seen 74 = .ok (.getfield 20, 3) := by decide +kernel
theorem dX10_seen_77 : decode cX10_seen 77 = .ok (.getfield 89, 3) := by decide +kernel
theorem dX10_seen_80 : decode cX10_seen 80 = .ok (.aload_n 0, 1) := by decide +kernel
theorem dX10_seen_81 : decode cX10_seen 81 = .ok (.getfield 9, 3) := by decide +kernel
theorem dX10_seen_84 : decode cX10_seen 84 = .ok (.iload_n 2, 1) := by decide +kernel
theorem dX10_seen_85 : decode cX10_seen 85 = .ok (.iaload, 1) := by decide +kernel
theorem dX10_seen_86 : decode cX10_seen 86 = .ok (.invokevirtual 184, 3) := by decide +kernel
theorem dX10_seen_89 : decode cX10_seen 89 = .ok (.aload_n 0, 1) := by decide +kernel
theorem dX10_seen_90 : decode cX10_seen 90 = .ok (.getfield 20, 3) := by decide +kernel
theorem dX10_seen_93 : decode cX10_seen 93 = .ok (.aload_n 0, 1) := by decide +kernel
theorem dX10_seen_94 : decode cX10_seen 94 = .ok (.getfield 9, 3) := by decide +kernel
theorem dX10_seen_97 : decode cX10_seen 97 = .ok (.iload_n 2, 1) := by decide +kernel
theorem dX10_seen_98 : decode cX10_seen 98 = .ok (.iconst 1, 1) := by decide +kernel
theorem dX10_seen_99 : decode cX10_seen 99 = .ok (.iadd, 1) := by decide +kernel
theorem dX10_seen_100 : decode cX10_seen 100 = .ok (.iaload, 1) := by decide +kernel
theorem dX10_seen_101 : decode cX10_seen 101 = .ok (.bipush 97, 2) := by decide +kernel
theorem dX10_seen_103 : decode cX10_seen 103 = .ok (.isub, 1) := by decide +kernel
theorem dX10_seen_104 : decode cX10_seen 104 = .ok (.invokevirtual 161, 3) := by decide +kernel
theorem dX10_seen_107 : decode cX10_seen 107 = .ok (.if_icmp .eq 7, 3) := by decide +kernel
theorem dX10_seen_110 : decode cX10_seen 110 = .ok (.iload_n 2, 1) := by decide +kernel
theorem dX10_seen_111 : decode cX10_seen 111 = .ok (.iconst 2, 1) := by decide +kernel
theorem dX10_seen_112 : decode cX10_seen 112 = .ok (.idiv, 1) := by decide +kernel
theorem dX10_seen_113 : decode cX10_seen 113 = .ok (.ireturn, 1) := by decide +kernel
theorem dX10_seen_114 : decode cX10_seen 114 = .ok (.iinc 2 2, 3) := by decide +kernel
theorem dX10_seen_117 : decode cX10_seen 117 = .ok (.goto (-49), 3) := by decide +kernel
theorem dX10_seen_120 : decode cX10_seen 120 = .ok (.iconst (-1), 1) := by decide +kernel
theorem dX10_seen_121 : decode cX10_seen 121 = .ok (.ireturn, 1) := by decide +kernel
theorem dX10_changed_0 : decode cX10_changed 0 = .ok (.iload_n 1, 1) := by decide +kernel
theorem dX10_changed_1 : decode cX10_changed 1 = .ok (.invokestatic 178, 3) := by decide +kernel
theorem dX10_changed_4 : decode cX10_changed 4 = .ok (.iload_n 3, 1) := by decide +kernel
theorem dX10_changed_5 : decode cX10_changed 5 = .ok (.iconst (-1), 1) := by decide +kernel
theorem dX10_changed_6 : decode cX10_changed 6 = .ok (.if_icmp .eq 8, 3) := by decide +kernel
theorem dX10_changed_9 : decode cX10_changed 9 = .ok (.aload_n 0, 1) := by decide +kernel
theorem dX10_changed_10 : decode cX10_changed 10 = .ok (.iload_n 3, 1) := by decide +kernel
theorem dX10_changed_11 : decode cX10_changed 11 = .ok (.invokevirtual 143, 3) := by decide +kernel
theorem dX10_changed_14 : decode cX10_changed 14 = .ok (.iload_n 2, 1) := by decide +kernel
theorem dX10_changed_15 : decode cX10_changed 15 = .ok (.iconst 1, 1) := by decide +kernel
theorem dX10_changed_16 : decode cX10_changed 16 = .ok (.bipush 12, 2) := by decide +kernel
theorem dX10_changed_18 : decode cX10_changed 18 = .ok (.invokestatic 232, 3) := by decide +kernel
theorem dX10_changed_21 : decode cX10_changed 21 = .ok (.iload_n 3, 1) := by decide +kernel
theorem dX10_changed_22 : decode cX10_changed 22 = .ok (.iconst (-1), 1) := by decide +kernel
theorem dX10_changed_23 : decode cX10_changed 23 = .ok (.if_icmp .eq 21, 3) := by decide +kernel
theorem dX10_changed_26 : decode cX10_changed 26 = .ok (.aload_n 0, 1) := by decide +kernel
theorem dX10_changed_27 : decode cX10_changed 27 = .ok (.getfield 63, 3) := by decide +kernel
theorem dX10_changed_30 : decode cX10_changed 30 = .ok (.aload_n 0, 1) := by decide +kernel
theorem dX10_changed_31 : decode cX10_changed 31 = .ok (.getfield 20, 3) := by decide +kernel
theorem dX10_changed_34 : decode cX10_changed 34 = .ok (.iload_n 3, 1) := by decide +kernel
theorem dX10_changed_35 : decode cX10_changed 35 = .ok (.invokevirtual 161, 3) := by decide +kernel
theorem dX10_changed_38 : decode cX10_changed 38 = .ok (.iload_n 1, 1) := by decide +kernel
theorem dX10_changed_39 : decode cX10_changed 39 = .ok (.iload_n 2, 1) := by decide +kernel
theorem dX10_changed_40 : decode cX10_changed 40 = .ok (.invokevirtual 343, 3) := by decide +kernel
theorem dX10_changed_43 : decode cX10_changed 43 = .ok (.ireturn, 1) := by decide +kernel
theorem dX10_changed_44 : decode cX10_changed 44 = .ok (.aload_n 0, 1) := by decide +kernel
theorem dX10_changed_45 : decode cX10_changed 45 = .ok (.getfield 63, 3) := by decide +kernel
theorem dX10_changed_48 : decode cX10_changed 48 = .ok (.iload_n 1, 1) := by decide +kernel
theorem dX10_changed_49 : decode cX10_changed 49 = .ok (.iload_n 2, 1) := by decide +kernel
theorem dX10_changed_50 : decode cX10_changed 50 = .ok (.invokevirtual 346, 3) := by decide +kernel
theorem dX10_changed_53 : decode cX10_changed 53 = .ok (.ireturn, 1) := by decide +kernel
theorem dX10_log_0 : decode cX10_log 0 = .ok (.iload_n 2, 1) := by decide +kernel
theorem dX10_log_1 : decode cX10_log 1 = .ok (.ifCond .lt 8, 3) := by decide +kernel
theorem dX10_log_4 : decode cX10_log 4 = .ok (.iload_n 2, 1) := by decide +kernel
theorem dX10_log_5 : decode cX10_log 5 = .ok (.iconst 3, 1) := by decide +kernel
theorem dX10_log_6 : decode cX10_log 6 = .ok (.if_icmp .le 13, 3) := by decide +kernel
theorem dX10_log_9 : decode cX10_log 9 = .ok (.new 173, 3) := by decide +kernel
theorem dX10_log_12 : decode cX10_log 12 = .ok (.dup, 1) := by decide +kernel
theorem dX10_log_13 : decode cX10_log 13 = .ok (.ldc 175, 2) := by decide +kernel
theorem dX10_log_15 : decode cX10_log 15 = .ok (.invokespecial 177, 3) := by decide +kernel
theorem dX10_log_18 : decode cX10_log 18 = .ok (.athrow, 1) := by decide +kernel
theorem dX10_log_19 : decode cX10_log 19 = .ok (.iload_n 1, 1) := by decide +kernel
theorem dX10_log_20 : decode cX10_log 20 = .ok (.ifCond .lt 17, 3) := by decide +kernel
theorem dX10_log_23 : decode cX10_log 23 = .ok (.iload_n 1, 1) := by decide +kernel
theorem dX10_log_24 : decode cX10_log 24 = .ok (.aload_n 0, 1) := by decide +kernel
theorem dX10_log_25 : decode cX10_log 25 = .ok (.getfield 20, 3) := by decide +kernel
theorem dX10_log_28 : decode cX10_log 28 = .ok (.getfield 89, 3) := by decide +kernel
theorem dX10_log_31 : decode cX10_log 31 = .ok (.getfield 349, 3) := by decide +kernel
theorem dX10_log_34 : decode cX10_log 34 = .ok (.if_icmp .lt 5, 3) := by decide +kernel
theorem dX10_log_37 : decode cX10_log 37 = .ok (.iconst (-1), 1) := by decide +kernel
theorem dX10_log_38 : decode cX10_log 38 = .ok (.ireturn, 1) := by decide +kernel
theorem dX10_log_39 : decode cX10_log 39 = .ok (.aload_n 0, 1) := by decide +kernel
theorem dX10_log_40 : decode cX10_log 40 = .ok (.getfield 20, 3) := by decide +kernel
theorem dX10_log_43 : decode cX10_log 43 = .ok (.getfield 89, 3) := by decide +kernel
theorem dX10_log_46 : decode cX10_log 46 = .ok (.iload_n 1, 1) := by decide +kernel
theorem dX10_log_47 : decode cX10_log 47 = .ok (.invokevirtual 352, 3) := by decide +kernel
theorem dX10_log_50 : decode cX10_log 50 = .ok (.istore_n 3, 1) := by decide +kernel
theorem dX10_log_51 : decode cX10_log 51 = .ok (.iload_n 2, 1) := by decide +kernel
theorem dX10_log_52 : decode cX10_log 52 = .ok (.tableswitch 43 0 2 #[28, 33, 38], 28) := by decide +kernel
theorem dX10_log_80 : decode cX10_log 80 = .ok (.iload_n 3, 1) := by decide +kernel
theorem dX10_log_81 : decode cX10_log 81 = .ok (.invokestatic 355, 3) := by decide +kernel
theorem dX10_log_84 : decode cX10_log 84 = .ok (.ireturn, 1) := by decide +kernel
theorem dX10_log_85 : decode cX10_log 85 = .ok (.iload_n 3, 1) := by decide +kernel
theorem dX10_log_86 : decode cX10_log 86 = .ok (.invokestatic 358, 3) := by decide +kernel
theorem dX10_log_89 : decode cX10_log 89 = .ok (.ireturn, 1) := by decide +kernel
theorem dX10_log_90 : decode cX10_log 90 = .ok (.iload_n 3, 1) := by decide +kernel
theorem dX10_log_91 : decode cX10_log 91 = .ok (.invokestatic 361, 3) := by decide +kernel
theorem dX10_log_94 : decode cX10_log 94 = .ok (.ireturn, 1) := by decide +kernel
theorem dX10_log_95 : decode cX10_log 95 = .ok (.iload_n 3, 1) := by decide +kernel
theorem dX10_log_96 : decode cX10_log 96 = .ok (.invokestatic 364, 3) := by decide +kernel
theorem dX10_log_99 : decode cX10_log 99 = .ok (.ireturn, 1) := by decide +kernel
theorem dX10_led_0 : decode cX10_led 0 = .ok (.iload_n 1, 1) := by decide +kernel
theorem dX10_led_1 : decode cX10_led 1 = .ok (.invokestatic 178, 3) := by decide +kernel
theorem dX10_led_4 : decode cX10_led 4 = .ok (.iload_n 2, 1) := by decide +kernel
theorem dX10_led_5 : decode cX10_led 5 = .ok (.ifCond .ge 14, 3) := by decide +kernel
theorem dX10_led_8 : decode cX10_led 8 = .ok (.new 114, 3) := by decide +kernel
theorem dX10_led_11 : decode cX10_led 11 = .ok (.dup, 1) := by decide +kernel
theorem dX10_led_12 : decode cX10_led 12 = .ok (.ldc_w 367, 3) := by decide +kernel
theorem dX10_led_15 : decode cX10_led 15 = .ok (.invokespecial 118, 3) := by decide +kernel
theorem dX10_led_18 : decode cX10_led 18 = .ok (.athrow, 1) := by decide +kernel
theorem dX10_led_19 : decode cX10_led 19 = .ok (.iload_n 2, 1) := by decide +kernel
theorem dX10_led_20 : decode cX10_led 20 = .ok (.istore_n 3, 1) := by decide +kernel
theorem dX10_led_21 : decode cX10_led 21 = .ok (.iconst 0, 1) := by decide +kernel
theorem dX10_led_22 : decode cX10_led 22 = .ok (.istore 4, 2) := by decide +kernel
theorem dX10_led_24 : decode cX10_led 24 = .ok (.iload 4, 2) := by decide +kernel
theorem dX10_led_26 : decode cX10_led 26 = .ok (.aload_n 0, 1) := by decide +kernel
theorem dX10_led_27 : decode cX10_led 27 = .ok (.getfield 20, 3) := by decide +kernel
theorem dX10_led_30 : decode cX10_led 30 = .ok (.getfield 89, 3) := by decide +kernel
theorem dX10_led_33 : decode cX10_led 33 = .ok (.getfield 349, 3) := by decide +kernel
theorem dX10_led_36 : decode cX10_led 36 = .ok (.if_icmp .ge 45, 3) := by decide +kernel
theorem dX10_led_39 : decode cX10_led 39 = .ok (.aload_n 0, 1) := by decide +kernel
theorem dX10_led_40 : decode cX10_led 40 = .ok (.getfield 20, 3) := by decide +kernel
theorem dX10_led_43 : decode cX10_led 43 = .ok (.getfield 89, 3) := by decide +kernel
theorem dX10_led_46 : decode cX10_led 46 = .ok (.iload 4, 2) := by decide +kernel
theorem dX10_led_48 : decode cX10_led 48 = .ok (.invokevirtual 352, 3) := by decide +kernel
theorem dX10_led_51 : decode cX10_led 51 = .ok (.istore 5, 2) := by decide +kernel
theorem dX10_led_53 : decode cX10_led 53 = .ok (.iload 5, 2) := by decide +kernel
theorem dX10_led_55 : decode cX10_led 55 = .ok (.invokestatic 358, 3) := by decide +kernel
theorem dX10_led_58 : decode cX10_led 58 = .ok (.iload_n 1, 1) := by decide +kernel
theorem dX10_led_59 : decode cX10_led 59 = .ok (.if_icmp .ne 16, 3) := by decide +kernel
theorem dX10_led_62 : decode cX10_led 62 = .ok (.iload_n 3, 1) := by decide +kernel
theorem dX10_led_63 : decode cX10_led 63 = .ok (.ifCond .ne 9, 3) := by decide +kernel
theorem dX10_led_66 : decode cX10_led 66 = .ok (.iload 5, 2) := by decide +kernel
theorem dX10_led_68 : decode cX10_led 68 = .ok (.invokestatic 361, 3) := by decide +kernel
theorem dX10_led_71 : decode cX10_led 71 = .ok (.ireturn, 1) := by decide +kernel
theorem dX10_led_72 : decode cX10_led 72 = .ok (.iinc 3 (-1), 3) := by decide +kernel
theorem dX10_led_75 : decode cX10_led 75 = .ok (.iinc 4 1, 3) := by decide +kernel
theorem dX10_led_78 : decode cX10_led 78 = .ok (.goto (-54), 3) := by decide +kernel
theorem dX10_led_81 : decode cX10_led 81 = .ok (.iconst (-1), 1) := by decide +kernel
theorem dX10_led_82 : decode cX10_led 82 = .ok (.ireturn, 1) := by decide +kernel
theorem dX10_seed_0 : decode cX10_seed 0 = .ok (.aload_n 0, 1) := by decide +kernel
theorem dX10_seed_1 : decode cX10_seed 1 = .ok (.getfield 20, 3) := by decide +kernel
theorem dX10_seed_4 : decode cX10_seed 4 = .ok (.getfield 89, 3) := by decide +kernel
theorem dX10_seed_7 : decode cX10_seed 7 = .ok (.getfield 369, 3) := by decide +kernel
theorem dX10_seed_10 : decode cX10_seed 10 = .ok (.istore_n 2, 1) := by decide +kernel
theorem dX10_seed_11 : decode cX10_seed 11 = .ok (.aload_n 0, 1) := by decide +kernel
theorem dX10_seed_12 : decode cX10_seed 12 = .ok (.getfield 20, 3) := by decide +kernel
theorem dX10_seed_15 : decode cX10_seed 15 = .ok (.getfield 89, 3) := by decide +kernel
theorem dX10_seed_18 : decode cX10_seed 18 = .ok (.iload_n 1, 1) := by decide +kernel
theorem dX10_seed_19 : decode cX10_seed 19 = .ok (.putfield 369, 3) := by decide +kernel
theorem dX10_seed_22 : decode cX10_seed 22 = .ok (.iload_n 2, 1) := by decide +kernel
theorem dX10_seed_23 : decode cX10_seed 23 = .ok (.ireturn, 1) := by decide +kernel
theorem dX10_undo_0 : decode cX10_undo 0 = .ok (.aload_n 0, 1) := by decide +kernel
theorem dX10_undo_1 : decode cX10_undo 1 = .ok (.getfield 129, 3) := by decide +kernel
theorem dX10_undo_4 : decode cX10_undo 4 = .ok (.ifCond .ne 5, 3) := by decide +kernel
theorem dX10_undo_7 : decode cX10_undo 7 = .ok (.iconst 0, 1) := by decide +kernel
theorem dX10_undo_8 : decode cX10_undo 8 = .ok (.ireturn, 1) := by decide +kernel
theorem dX10_undo_9 : decode cX10_undo 9 = .ok (.aload_n 0, 1) := by decide +kernel
theorem dX10_undo_10 : decode cX10_undo 10 = .ok (.dup, 1) := by decide +kernel
theorem dX10_undo_11 : decode cX10_undo 11 = .ok (.getfield 129, 3) := by decide +kernel
theorem dX10_undo_14 : decode cX10_undo 14 = .ok (.iconst 1, 1) := by decide +kernel
theorem dX10_undo_15 : decode cX10_undo 15 = .ok (.isub, 1) := by decide +kernel
theorem dX10_undo_16 : decode cX10_undo 16 = .ok (.putfield 129, 3) := by decide +kernel
theorem dX10_undo_19 : decode cX10_undo 19 = .ok (.aload_n 0, 1) := by decide +kernel
theorem dX10_undo_20 : decode cX10_undo 20 = .ok (.getfield 20, 3) := by decide +kernel
theorem dX10_undo_23 : decode cX10_undo 23 = .ok (.getfield 89, 3) := by decide +kernel
theorem dX10_undo_26 : decode cX10_undo 26 = .ok (.aload_n 0, 1) := by decide +kernel
theorem dX10_undo_27 : decode cX10_undo 27 = .ok (.getfield 32, 3) := by decide +kernel
theorem dX10_undo_30 : decode cX10_undo 30 = .ok (.aload_n 0, 1) := by decide +kernel
theorem dX10_undo_31 : decode cX10_undo 31 = .ok (.getfield 372, 3) := by decide +kernel
theorem dX10_undo_34 : decode cX10_undo 34 = .ok (.aload_n 0, 1) := by decide +kernel
theorem dX10_undo_35 : decode cX10_undo 35 = .ok (.getfield 129, 3) := by decide +kernel
theorem dX10_undo_38 : decode cX10_undo 38 = .ok (.iadd, 1) := by decide +kernel
theorem dX10_undo_39 : decode cX10_undo 39 = .ok (.bipush 12, 2) := by decide +kernel
theorem dX10_undo_41 : decode cX10_undo 41 = .ok (.irem, 1) := by decide +kernel
theorem dX10_undo_42 : decode cX10_undo 42 = .ok (.aaload, 1) := by decide +kernel
theorem dX10_undo_43 : decode cX10_undo 43 = .ok (.invokevirtual 93, 3) := by decide +kernel
theorem dX10_undo_46 : decode cX10_undo 46 = .ok (.iconst 1, 1) := by decide +kernel
theorem dX10_undo_47 : decode cX10_undo 47 = .ok (.ireturn, 1) := by decide +kernel
theorem dX10_image_0 : decode cX10_image 0 = .ok (.aload_n 0, 1) := by decide +kernel
theorem dX10_image_1 : decode cX10_image 1 = .ok (.getfield 27, 3) := by decide +kernel
theorem dX10_image_4 : decode cX10_image 4 = .ok (.aload_n 0, 1) := by decide +kernel
theorem dX10_image_5 : decode cX10_image 5 = .ok (.getfield 20, 3) := by decide +kernel
theorem dX10_image_8 : decode cX10_image 8 = .ok (.invokevirtual 375, 3) := by decide +kernel
theorem dX10_image_11 : decode cX10_image 11 = .ok (.aload_n 0, 1) := by decide +kernel
theorem dX10_image_12 : decode cX10_image 12 = .ok (.iconst 1, 1) := by decide +kernel
theorem dX10_image_13 : decode cX10_image 13 = .ok (.putfield 377, 3) := by decide +kernel
theorem dX10_image_16 : decode cX10_image 16 = .ok (.return_, 1) := by decide +kernel
theorem dX10_back_0 : decode cX10_back 0 = .ok (.aload_n 0, 1) := by decide +kernel
theorem dX10_back_1 : decode cX10_back 1 = .ok (.getfield 377, 3) := by decide +kernel
theorem dX10_back_4 : decode cX10_back 4 = .ok (.ifCond .ne 5, 3) := by decide +kernel
theorem dX10_back_7 : decode cX10_back 7 = .ok (.iconst 0, 1) := by decide +kernel
theorem dX10_back_8 : decode cX10_back 8 = .ok (.ireturn, 1) := by decide +kernel
theorem dX10_back_9 : decode cX10_back 9 = .ok (.aload_n 0, 1) := by decide +kernel
theorem dX10_back_10 : decode cX10_back 10 = .ok (.getfield 20, 3) := by decide +kernel
theorem dX10_back_13 : decode cX10_back 13 = .ok (.aload_n 0, 1) := by decide +kernel
theorem dX10_back_14 : decode cX10_back 14 = .ok (.getfield 27, 3) := by decide +kernel
theorem dX10_back_17 : decode cX10_back 17 = .ok (.invokevirtual 375, 3) := by decide +kernel
theorem dX10_back_20 : decode cX10_back 20 = .ok (.aload_n 0, 1) := by decide +kernel
theorem dX10_back_21 : decode cX10_back 21 = .ok (.iconst 0, 1) := by decide +kernel
theorem dX10_back_22 : decode cX10_back 22 = .ok (.putfield 129, 3) := by decide +kernel
theorem dX10_back_25 : decode cX10_back 25 = .ok (.iconst 1, 1) := by decide +kernel
theorem dX10_back_26 : decode cX10_back 26 = .ok (.ireturn, 1) := by decide +kernel
theorem dX10_count_0 : decode cX10_count 0 = .ok (.iload_n 1, 1) := by decide +kernel
theorem dX10_count_1 : decode cX10_count 1 = .ok (.tableswitch 253 0 15 #[79, 90, 101, 112, 123, 134, 145, 159, 170, 179, 187, 201, 212, 223, 234, 248], 79) := by decide +kernel
theorem dX10_count_80 : decode cX10_count 80 = .ok (.aload_n 0, 1) := by decide +kernel
theorem dX10_count_81 : decode cX10_count 81 = .ok (.getfield 20, 3) := by decide +kernel
theorem dX10_count_84 : decode cX10_count 84 = .ok (.getfield 97, 3) := by decide +kernel
theorem dX10_count_87 : decode cX10_count 87 = .ok (.getfield 340, 3) := by decide +kernel
theorem dX10_count_90 : decode cX10_count 90 = .ok (.ireturn, 1) := by decide +kernel
theorem dX10_count_91 : decode cX10_count 91 = .ok (.aload_n 0, 1) := by decide +kernel
theorem dX10_count_92 : decode cX10_count 92 = .ok (.getfield 20, 3) := by decide +kernel
theorem dX10_count_95 : decode cX10_count 95 = .ok (.getfield 97, 3) := by decide +kernel
theorem dX10_count_98 : decode cX10_count 98 = .ok (.getfield 121, 3) := by decide +kernel
theorem dX10_count_101 : decode cX10_count 101 = .ok (.ireturn, 1) := by decide +kernel
theorem dX10_count_102 : decode cX10_count 102 = .ok (.aload_n 0, 1) := by decide +kernel
theorem dX10_count_103 : decode cX10_count 103 = .ok (.getfield 20, 3) := by decide +kernel
theorem dX10_count_106 : decode cX10_count 106 = .ok (.getfield 47, 3) := by decide +kernel
theorem dX10_count_109 : decode cX10_count 109 = .ok (.getfield 140, 3) := by decide +kernel
theorem dX10_count_112 : decode cX10_count 112 = .ok (.ireturn, 1) := by decide +kernel
theorem dX10_count_113 : decode cX10_count 113 = .ok (.aload_n 0, 1) := by decide +kernel
theorem dX10_count_114 : decode cX10_count 114 = .ok (.getfield 20, 3) := by decide +kernel
theorem dX10_count_117 : decode cX10_count 117 = .ok (.getfield 89, 3) := by decide +kernel
theorem dX10_count_120 : decode cX10_count 120 = .ok (.getfield 381, 3) := by decide +kernel
theorem dX10_count_123 : decode cX10_count 123 = .ok (.ireturn, 1) := by decide +kernel
theorem dX10_count_124 : decode cX10_count 124 = .ok (.aload_n 0, 1) := by decide +kernel
theorem dX10_count_125 : decode cX10_count 125 = .ok (.getfield 20, 3) := by decide +kernel
theorem dX10_count_128 : decode cX10_count 128 = .ok (.getfield 89, 3) := by decide +kernel
theorem dX10_count_131 : decode cX10_count 131 = .ok (.getfield 384, 3) := by decide +kernel
theorem dX10_count_134 : decode cX10_count 134 = .ok (.ireturn, 1) := by decide +kernel
theorem dX10_count_135 : decode cX10_count 135 = .ok (.aload_n 0, 1) := by decide +kernel
theorem dX10_count_136 : decode cX10_count 136 = .ok (.getfield 20, 3) := by decide +kernel
theorem dX10_count_139 : decode cX10_count 139 = .ok (.getfield 89, 3) := by decide +kernel
theorem dX10_count_142 : decode cX10_count 142 = .ok (.getfield 263, 3) := by decide +kernel
theorem dX10_count_145 : decode cX10_count 145 = .ok (.ireturn, 1) := by decide +kernel
theorem dX10_count_146 : decode cX10_count 146 = .ok (.aload_n 0, 1) := by decide +kernel
theorem dX10_count_147 : decode cX10_count 147 = .ok (.getfield 20, 3) := by decide +kernel
theorem dX10_count_150 : decode cX10_count 150 = .ok (.getfield 89, 3) := by decide +kernel
theorem dX10_count_153 : decode cX10_count 153 = .ok (.getfield 146, 3) := by decide +kernel
theorem dX10_count_156 : decode cX10_count 156 = .ok (.invokestatic 387, 3) := by decide +kernel
theorem dX10_count_159 : decode cX10_count 159 = .ok (.ireturn, 1) := by decide +kernel
theorem dX10_count_160 : decode cX10_count 160 = .ok (.aload_n 0, 1) := by decide +kernel
theorem dX10_count_161 : decode cX10_count 161 = .ok (.getfield 20, 3) := by decide +kernel
theorem dX10_count_164 : decode cX10_count 164 = .ok (.getfield 97, 3) := by decide +kernel
theorem dX10_count_167 : decode cX10_count 167 = .ok (.getfield 391, 3) := by decide +kernel
theorem dX10_count_170 : decode cX10_count 170 = .ok (.ireturn, 1) := by decide +kernel
theorem dX10_count_171 : decode cX10_count 171 = .ok (.aload_n 0, 1) := by decide +kernel
theorem dX10_count_172 : decode cX10_count 172 = .ok (.getfield 20, 3) := by decide +kernel
theorem dX10_count_175 : decode cX10_count 175 = .ok (.iconst (-1), 1) := by decide +kernel
theorem dX10_count_176 : decode cX10_count 176 = .ok (.invokevirtual 164, 3) := by decide +kernel
theorem dX10_count_179 : decode cX10_count 179 = .ok (.ireturn, 1) := by decide +kernel
theorem dX10_count_180 : decode cX10_count 180 = .ok (.aload_n 0, 1) := by decide +kernel
theorem dX10_count_181 : decode cX10_count 181 = .ok (.getfield 20, 3) := by decide +kernel
theorem dX10_count_184 : decode cX10_count 184 = .ok (.invokevirtual 394, 3) := by decide +kernel
theorem dX10_count_187 : decode cX10_count 187 = .ok (.ireturn, 1) := by decide +kernel
theorem dX10_count_188 : decode cX10_count 188 = .ok (.aload_n 0, 1) := by decide +kernel
theorem dX10_count_189 : decode cX10_count 189 = .ok (.getfield 20, 3) := by decide +kernel
theorem dX10_count_192 : decode cX10_count 192 = .ok (.getfield 89, 3) := by decide +kernel
theorem dX10_count_195 : decode cX10_count 195 = .ok (.getfield 187, 3) := by decide +kernel
theorem dX10_count_198 : decode cX10_count 198 = .ok (.invokestatic 387, 3) := by decide +kernel
theorem dX10_count_201 : decode cX10_count 201 = .ok (.ireturn, 1) := by decide +kernel
theorem dX10_count_202 : decode cX10_count 202 = .ok (.aload_n 0, 1) := by decide +kernel
theorem dX10_count_203 : decode cX10_count 203 = .ok (.getfield 20, 3) := by decide +kernel
theorem dX10_count_206 : decode cX10_count 206 = .ok (.getfield 97, 3) := by decide +kernel
theorem dX10_count_209 : decode cX10_count 209 = .ok (.getfield 397, 3) := by decide +kernel
theorem dX10_count_212 : decode cX10_count 212 = .ok (.ireturn, 1) := by decide +kernel
theorem dX10_count_213 : decode cX10_count 213 = .ok (.aload_n 0, 1) := by decide +kernel
theorem dX10_count_214 : decode cX10_count 214 = .ok (.getfield 20, 3) := by decide +kernel
theorem dX10_count_217 : decode cX10_count 217 = .ok (.getfield 97, 3) := by decide +kernel
theorem dX10_count_220 : decode cX10_count 220 = .ok (.getfield 400, 3) := by decide +kernel
theorem dX10_count_223 : decode cX10_count 223 = .ok (.ireturn, 1) := by decide +kernel
theorem dX10_count_224 : decode cX10_count 224 = .ok (.aload_n 0, 1) := by decide +kernel
theorem dX10_count_225 : decode cX10_count 225 = .ok (.getfield 20, 3) := by decide +kernel
theorem dX10_count_228 : decode cX10_count 228 = .ok (.getfield 89, 3) := by decide +kernel
theorem dX10_count_231 : decode cX10_count 231 = .ok (.getfield 349, 3) := by decide +kernel
theorem dX10_count_234 : decode cX10_count 234 = .ok (.ireturn, 1) := by decide +kernel
theorem dX10_count_235 : decode cX10_count 235 = .ok (.aload_n 0, 1) := by decide +kernel
theorem dX10_count_236 : decode cX10_count 236 = .ok (.getfield 20, 3) := by decide +kernel
theorem dX10_count_239 : decode cX10_count 239 = .ok (.getfield 97, 3) := by decide +kernel
theorem dX10_count_242 : decode cX10_count 242 = .ok (.getfield 190, 3) := by decide +kernel
theorem dX10_count_245 : decode cX10_count 245 = .ok (.invokestatic 387, 3) := by decide +kernel
theorem dX10_count_248 : decode cX10_count 248 = .ok (.ireturn, 1) := by decide +kernel
theorem dX10_count_249 : decode cX10_count 249 = .ok (.aload_n 0, 1) := by decide +kernel
theorem dX10_count_250 : decode cX10_count 250 = .ok (.getfield 129, 3) := by decide +kernel
theorem dX10_count_253 : decode cX10_count 253 = .ok (.ireturn, 1) := by decide +kernel
theorem dX10_count_254 : decode cX10_count 254 = .ok (.iconst (-1), 1) := by decide +kernel
theorem dX10_count_255 : decode cX10_count 255 = .ok (.ireturn, 1) := by decide +kernel
theorem dX10_feedNumber_0 : decode cX10_feedNumber 0 = .ok (.bipush 24, 2) := by decide +kernel
theorem dX10_feedNumber_2 : decode cX10_feedNumber 2 = .ok (.istore_n 2, 1) := by decide +kernel
theorem dX10_feedNumber_3 : decode cX10_feedNumber 3 = .ok (.iload_n 2, 1) := by decide +kernel
theorem dX10_feedNumber_4 : decode cX10_feedNumber 4 = .ok (.ifCond .lt 45, 3) := by decide +kernel
theorem dX10_feedNumber_7 : decode cX10_feedNumber 7 = .ok (.aload_n 0, 1) := by decide +kernel
theorem dX10_feedNumber_8 : decode cX10_feedNumber 8 = .ok (.getfield 82, 3) := by decide +kernel
theorem dX10_feedNumber_11 : decode cX10_feedNumber 11 = .ok (.sipush 400, 3) := by decide +kernel
theorem dX10_feedNumber_14 : decode cX10_feedNumber 14 = .ok (.if_icmp .ge 29, 3) := by decide +kernel
theorem dX10_feedNumber_17 : decode cX10_feedNumber 17 = .ok (.aload_n 0, 1) := by decide +kernel
theorem dX10_feedNumber_18 : decode cX10_feedNumber 18 = .ok (.getfield 9, 3) := by decide +kernel
theorem dX10_feedNumber_21 : decode cX10_feedNumber 21 = .ok (.aload_n 0, 1) := by decide +kernel
theorem dX10_feedNumber_22 : decode cX10_feedNumber 22 = .ok (.getfield 82, 3) := by decide +kernel
theorem dX10_feedNumber_25 : decode cX10_feedNumber 25 = .ok (.iload_n 1, 1) := by decide +kernel
theorem dX10_feedNumber_26 : decode cX10_feedNumber 26 = .ok (.iload_n 2, 1) := by decide +kernel
theorem dX10_feedNumber_27 : decode cX10_feedNumber 27 = .ok (.iushr, 1) := by decide +kernel
theorem dX10_feedNumber_28 : decode cX10_feedNumber 28 = .ok (.sipush 255, 3) := by decide +kernel
theorem dX10_feedNumber_31 : decode cX10_feedNumber 31 = .ok (.iand, 1) := by decide +kernel
theorem dX10_feedNumber_32 : decode cX10_feedNumber 32 = .ok (.iastore, 1) := by decide +kernel
theorem dX10_feedNumber_33 : decode cX10_feedNumber 33 = .ok (.aload_n 0, 1) := by decide +kernel
theorem dX10_feedNumber_34 : decode cX10_feedNumber 34 = .ok (.dup, 1) := by decide +kernel
theorem dX10_feedNumber_35 : decode cX10_feedNumber 35 = .ok (.getfield 82, 3) := by decide +kernel
theorem dX10_feedNumber_38 : decode cX10_feedNumber 38 = .ok (.iconst 1, 1) := by decide +kernel
theorem dX10_feedNumber_39 : decode cX10_feedNumber 39 = .ok (.iadd, 1) := by decide +kernel
theorem dX10_feedNumber_40 : decode cX10_feedNumber 40 = .ok (.putfield 82, 3) := by decide +kernel
theorem dX10_feedNumber_43 : decode cX10_feedNumber 43 = .ok (.iinc 2 (-8), 3) := by decide +kernel
theorem dX10_feedNumber_46 : decode cX10_feedNumber 46 = .ok (.goto (-43), 3) := by decide +kernel
theorem dX10_feedNumber_49 : decode cX10_feedNumber 49 = .ok (.return_, 1) := by decide +kernel
theorem dX10_useTape_0 : decode cX10_useTape 0 = .ok (.aload_n 0, 1) := by decide +kernel
theorem dX10_useTape_1 : decode cX10_useTape 1 = .ok (.getfield 82, 3) := by decide +kernel
theorem dX10_useTape_4 : decode cX10_useTape 4 = .ok (.istore_n 1, 1) := by decide +kernel
theorem dX10_useTape_5 : decode cX10_useTape 5 = .ok (.aload_n 0, 1) := by decide +kernel
theorem dX10_useTape_6 : decode cX10_useTape 6 = .ok (.iconst 0, 1) := by decide +kernel
theorem dX10_useTape_7 : decode cX10_useTape 7 = .ok (.putfield 82, 3) := by decide +kernel
theorem dX10_useTape_10 : decode cX10_useTape 10 = .ok (.iload_n 1, 1) := by decide +kernel
theorem dX10_useTape_11 : decode cX10_useTape 11 = .ok (.ireturn, 1) := by decide +kernel
theorem dX10_remember_0 : decode cX10_remember 0 = .ok (.aload_n 0, 1) := by decide +kernel
theorem dX10_remember_1 : decode cX10_remember 1 = .ok (.getfield 129, 3) := by decide +kernel
theorem dX10_remember_4 : decode cX10_remember 4 = .ok (.bipush 12, 2) := by decide +kernel
theorem dX10_remember_6 : decode cX10_remember 6 = .ok (.if_icmp .ne 26, 3) := by decide +kernel
theorem dX10_remember_9 : decode cX10_remember 9 = .ok (.aload_n 0, 1) := by decide +kernel
theorem dX10_remember_10 : decode cX10_remember 10 = .ok (.aload_n 0, 1) := by decide +kernel
theorem dX10_remember_11 : decode cX10_remember 11 = .ok (.getfield 372, 3) := by decide +kernel
theorem dX10_remember_14 : decode cX10_remember 14 = .ok (.iconst 1, 1) := by decide +kernel
theorem dX10_remember_15 : decode cX10_remember 15 = .ok (.iadd, 1) := by decide +kernel
theorem dX10_remember_16 : decode cX10_remember 16 = .ok (.bipush 12, 2) := by decide +kernel
theorem dX10_remember_18 : decode cX10_remember 18 = .ok (.irem, 1) := by decide +kernel
theorem dX10_remember_19 : decode cX10_remember 19 = .ok (.putfield 372, 3) := by decide +kernel
theorem dX10_remember_22 : decode cX10_remember 22 = .ok (.aload_n 0, 1) := by decide +kernel
theorem dX10_remember_23 : decode cX10_remember 23 = .ok (.dup, 1) := by decide +kernel
theorem dX10_remember_24 : decode cX10_remember 24 = .ok (.getfield 129, 3) := by decide +kernel
theorem dX10_remember_27 : decode cX10_remember 27 = .ok (.iconst 1, 1) := by decide +kernel
theorem dX10_remember_28 : decode cX10_remember 28 = .ok (.isub, 1) := by decide +kernel
theorem dX10_remember_29 : decode cX10_remember 29 = .ok (.putfield 129, 3) := by decide +kernel
theorem dX10_remember_32 : decode cX10_remember 32 = .ok (.aload_n 0, 1) := by decide +kernel
theorem dX10_remember_33 : decode cX10_remember 33 = .ok (.getfield 32, 3) := by decide +kernel
theorem dX10_remember_36 : decode cX10_remember 36 = .ok (.aload_n 0, 1) := by decide +kernel
theorem dX10_remember_37 : decode cX10_remember 37 = .ok (.getfield 372, 3) := by decide +kernel
theorem dX10_remember_40 : decode cX10_remember 40 = .ok (.aload_n 0, 1) := by decide +kernel
theorem dX10_remember_41 : decode cX10_remember 41 = .ok (.getfield 129, 3) := by decide +kernel
theorem dX10_remember_44 : decode cX10_remember 44 = .ok (.iadd, 1) := by decide +kernel
theorem dX10_remember_45 : decode cX10_remember 45 = .ok (.bipush 12, 2) := by decide +kernel
theorem dX10_remember_47 : decode cX10_remember 47 = .ok (.irem, 1) := by decide +kernel
theorem dX10_remember_48 : decode cX10_remember 48 = .ok (.aaload, 1) := by decide +kernel
theorem dX10_remember_49 : decode cX10_remember 49 = .ok (.aload_n 0, 1) := by decide +kernel
theorem dX10_remember_50 : decode cX10_remember 50 = .ok (.getfield 20, 3) := by decide +kernel
theorem dX10_remember_53 : decode cX10_remember 53 = .ok (.getfield 89, 3) := by decide +kernel
theorem dX10_remember_56 : decode cX10_remember 56 = .ok (.invokevirtual 93, 3) := by decide +kernel
theorem dX10_remember_59 : decode cX10_remember 59 = .ok (.aload_n 0, 1) := by decide +kernel
theorem dX10_remember_60 : decode cX10_remember 60 = .ok (.dup, 1) := by decide +kernel
theorem dX10_remember_61 : decode cX10_remember 61 = .ok (.getfield 129, 3) := by decide +kernel
theorem dX10_remember_64 : decode cX10_remember 64 = .ok (.iconst 1, 1) := by decide +kernel
theorem dX10_remember_65 : decode cX10_remember 65 = .ok (.iadd, 1) := by decide +kernel
theorem dX10_remember_66 : decode cX10_remember 66 = .ok (.putfield 129, 3) := by decide +kernel
theorem dX10_remember_69 : decode cX10_remember 69 = .ok (.return_, 1) := by decide +kernel
theorem dX10_needTenant_0 : decode cX10_needTenant 0 = .ok (.iload_n 1, 1) := by decide +kernel
theorem dX10_needTenant_1 : decode cX10_needTenant 1 = .ok (.ifCond .lt 17, 3) := by decide +kernel
theorem dX10_needTenant_4 : decode cX10_needTenant 4 = .ok (.iload_n 1, 1) := by decide +kernel
theorem dX10_needTenant_5 : decode cX10_needTenant 5 = .ok (.aload_n 0, 1) := by decide +kernel
theorem dX10_needTenant_6 : decode cX10_needTenant 6 = .ok (.getfield 20, 3) := by decide +kernel
theorem dX10_needTenant_9 : decode cX10_needTenant 9 = .ok (.getfield 97, 3) := by decide +kernel
theorem dX10_needTenant_12 : decode cX10_needTenant 12 = .ok (.getfield 340, 3) := by decide +kernel
theorem dX10_needTenant_15 : decode cX10_needTenant 15 = .ok (.if_icmp .lt 14, 3) := by decide +kernel
theorem dX10_needTenant_18 : decode cX10_needTenant 18 = .ok (.new 403, 3) := by decide +kernel
theorem dX10_needTenant_21 : decode cX10_needTenant 21 = .ok (.dup, 1) := by decide +kernel
theorem dX10_needTenant_22 : decode cX10_needTenant 22 = .ok (.ldc_w 405, 3) := by decide +kernel
theorem dX10_needTenant_25 : decode cX10_needTenant 25 = .ok (.invokespecial 407, 3) := by decide +kernel
theorem dX10_needTenant_28 : decode cX10_needTenant 28 = .ok (.athrow, 1) := by decide +kernel
theorem dX10_needTenant_29 : decode cX10_needTenant 29 = .ok (.return_, 1) := by decide +kernel
theorem dX10_needRoom_0 : decode cX10_needRoom 0 = .ok (.iload_n 0, 1) := by decide +kernel
theorem dX10_needRoom_1 : decode cX10_needRoom 1 = .ok (.invokestatic 408, 3) := by decide +kernel
theorem dX10_needRoom_4 : decode cX10_needRoom 4 = .ok (.ifCond .ne 14, 3) := by decide +kernel
theorem dX10_needRoom_7 : decode cX10_needRoom 7 = .ok (.new 403, 3) := by decide +kernel
theorem dX10_needRoom_10 : decode cX10_needRoom 10 = .ok (.dup, 1) := by decide +kernel
theorem dX10_needRoom_11 : decode cX10_needRoom 11 = .ok (.ldc_w 411, 3) := by decide +kernel
theorem dX10_needRoom_14 : decode cX10_needRoom 14 = .ok (.invokespecial 407, 3) := by decide +kernel
theorem dX10_needRoom_17 : decode cX10_needRoom 17 = .ok (.athrow, 1) := by decide +kernel
theorem dX10_needRoom_18 : decode cX10_needRoom 18 = .ok (.return_, 1) := by decide +kernel
theorem dX10_needNumber_0 : decode cX10_needNumber 0 = .ok (.iload_n 0, 1) := by decide +kernel
theorem dX10_needNumber_1 : decode cX10_needNumber 1 = .ok (.iload_n 1, 1) := by decide +kernel
theorem dX10_needNumber_2 : decode cX10_needNumber 2 = .ok (.if_icmp .lt 8, 3) := by decide +kernel
theorem dX10_needNumber_5 : decode cX10_needNumber 5 = .ok (.iload_n 0, 1) := by decide +kernel
theorem dX10_needNumber_6 : decode cX10_needNumber 6 = .ok (.iload_n 2, 1) := by decide +kernel
theorem dX10_needNumber_7 : decode cX10_needNumber 7 = .ok (.if_icmp .le 14, 3) := by decide +kernel
theorem dX10_needNumber_10 : decode cX10_needNumber 10 = .ok (.new 114, 3) := by decide +kernel
theorem dX10_needNumber_13 : decode cX10_needNumber 13 = .ok (.dup, 1) := by decide +kernel
theorem dX10_needNumber_14 : decode cX10_needNumber 14 = .ok (.ldc_w 413, 3) := by decide +kernel
theorem dX10_needNumber_17 : decode cX10_needNumber 17 = .ok (.invokespecial 118, 3) := by decide +kernel
theorem dX10_needNumber_20 : decode cX10_needNumber 20 = .ok (.athrow, 1) := by decide +kernel
theorem dX10_needNumber_21 : decode cX10_needNumber 21 = .ok (.return_, 1) := by decide +kernel
theorem dX10_needTwo_0 : decode cX10_needTwo 0 = .ok (.iload_n 0, 1) := by decide +kernel
theorem dX10_needTwo_1 : decode cX10_needTwo 1 = .ok (.iload_n 1, 1) := by decide +kernel
theorem dX10_needTwo_2 : decode cX10_needTwo 2 = .ok (.if_icmp .ne 14, 3) := by decide +kernel
theorem dX10_needTwo_5 : decode cX10_needTwo 5 = .ok (.new 114, 3) := by decide +kernel
theorem dX10_needTwo_8 : decode cX10_needTwo 8 = .ok (.dup, 1) := by decide +kernel
theorem dX10_needTwo_9 : decode cX10_needTwo 9 = .ok (.ldc_w 415, 3) := by decide +kernel
theorem dX10_needTwo_12 : decode cX10_needTwo 12 = .ok (.invokespecial 118, 3) := by decide +kernel
theorem dX10_needTwo_15 : decode cX10_needTwo 15 = .ok (.athrow, 1) := by decide +kernel
theorem dX10_needTwo_16 : decode cX10_needTwo 16 = .ok (.return_, 1) := by decide +kernel
theorem dX10_needAllowed_0 : decode cX10_needAllowed 0 = .ok (.iload_n 0, 1) := by decide +kernel
theorem dX10_needAllowed_1 : decode cX10_needAllowed 1 = .ok (.ifCond .ne 14, 3) := by decide +kernel
theorem dX10_needAllowed_4 : decode cX10_needAllowed 4 = .ok (.new 417, 3) := by decide +kernel
theorem dX10_needAllowed_7 : decode cX10_needAllowed 7 = .ok (.dup, 1) := by decide +kernel
theorem dX10_needAllowed_8 : decode cX10_needAllowed 8 = .ok (.ldc_w 419, 3) := by decide +kernel
theorem dX10_needAllowed_11 : decode cX10_needAllowed 11 = .ok (.invokespecial 421, 3) := by decide +kernel
theorem dX10_needAllowed_14 : decode cX10_needAllowed 14 = .ok (.athrow, 1) := by decide +kernel
theorem dX10_needAllowed_15 : decode cX10_needAllowed 15 = .ok (.return_, 1) := by decide +kernel
theorem dX10_needAllRooms_0 : decode cX10_needAllRooms 0 = .ok (.iconst 0, 1) := by decide +kernel
theorem dX10_needAllRooms_1 : decode cX10_needAllRooms 1 = .ok (.istore_n 3, 1) := by decide +kernel
theorem dX10_needAllRooms_2 : decode cX10_needAllRooms 2 = .ok (.iload_n 3, 1) := by decide +kernel
theorem dX10_needAllRooms_3 : decode cX10_needAllRooms 3 = .ok (.iload_n 1, 1) := by decide +kernel
theorem dX10_needAllRooms_4 : decode cX10_needAllRooms 4 = .ok (.if_icmp .ge 30, 3) := by decide +kernel
theorem dX10_needAllRooms_7 : decode cX10_needAllRooms 7 = .ok (.iload_n 3, 1) := by decide +kernel
theorem dX10_needAllRooms_8 : decode cX10_needAllRooms 8 = .ok (.sipush 400, 3) := by decide +kernel
theorem dX10_needAllRooms_11 : decode cX10_needAllRooms 11 = .ok (.if_icmp .ge 23, 3) := by decide +kernel
theorem dX10_needAllRooms_14 : decode cX10_needAllRooms 14 = .ok (.aload_n 0, 1) := by decide +kernel
theorem dX10_needAllRooms_15 : decode cX10_needAllRooms 15 = .ok (.getfield 9, 3) := by decide +kernel
theorem dX10_needAllRooms_18 : decode cX10_needAllRooms 18 = .ok (.iload_n 3, 1) := by decide +kernel
theorem dX10_needAllRooms_19 : decode cX10_needAllRooms 19 = .ok (.iaload, 1) := by decide +kernel
theorem dX10_needAllRooms_20 : decode cX10_needAllRooms 20 = .ok (.iconst 0, 1) := by decide +kernel
theorem dX10_needAllRooms_21 : decode cX10_needAllRooms 21 = .ok (.sipush 167, 3) := by decide +kernel
theorem dX10_needAllRooms_24 : decode cX10_needAllRooms 24 = .ok (.invokestatic 232, 3) := by decide +kernel
theorem dX10_needAllRooms_27 : decode cX10_needAllRooms 27 = .ok (.iload_n 3, 1) := by decide +kernel
theorem dX10_needAllRooms_28 : decode cX10_needAllRooms 28 = .ok (.iload_n 2, 1) := by decide +kernel
theorem dX10_needAllRooms_29 : decode cX10_needAllRooms 29 = .ok (.iadd, 1) := by decide +kernel
theorem dX10_needAllRooms_30 : decode cX10_needAllRooms 30 = .ok (.istore_n 3, 1) := by decide +kernel
theorem dX10_needAllRooms_31 : decode cX10_needAllRooms 31 = .ok (.goto (-29), 3) := by decide +kernel
theorem dX10_needAllRooms_34 : decode cX10_needAllRooms 34 = .ok (.return_, 1) := by decide +kernel
theorem dX10_isRoom_0 : decode cX10_isRoom 0 = .ok (.iload_n 0, 1) := by decide +kernel
theorem dX10_isRoom_1 : decode cX10_isRoom 1 = .ok (.ifCond .lt 14, 3) := by decide +kernel
theorem dX10_isRoom_4 : decode cX10_isRoom 4 = .ok (.iload_n 0, 1) := by decide +kernel
theorem dX10_isRoom_5 : decode cX10_isRoom 5 = .ok (.sipush 168, 3) := by decide +kernel
theorem dX10_isRoom_8 : decode cX10_isRoom 8 = .ok (.if_icmp .ge 7, 3) := by decide +kernel
theorem dX10_isRoom_11 : decode cX10_isRoom 11 = .ok (.iconst 1, 1) := by decide +kernel
theorem dX10_isRoom_12 : decode cX10_isRoom 12 = .ok (.goto 4, 3) := by decide +kernel
theorem dX10_isRoom_15 : decode cX10_isRoom 15 = .ok (.iconst 0, 1) := by decide +kernel
theorem dX10_isRoom_16 : decode cX10_isRoom 16 = .ok (.ireturn, 1) := by decide +kernel
theorem dX10_after_0 : decode cX10_after 0 = .ok (.iload_n 0, 1) := by decide +kernel
theorem dX10_after_1 : decode cX10_after 1 = .ok (.iconst 1, 1) := by decide +kernel
theorem dX10_after_2 : decode cX10_after 2 = .ok (.iadd, 1) := by decide +kernel
theorem dX10_after_3 : decode cX10_after 3 = .ok (.sipush 168, 3) := by decide +kernel
theorem dX10_after_6 : decode cX10_after 6 = .ok (.if_icmp .ge 9, 3) := by decide +kernel
theorem dX10_after_9 : decode cX10_after 9 = .ok (.iload_n 0, 1) := by decide +kernel
theorem dX10_after_10 : decode cX10_after 10 = .ok (.iconst 1, 1) := by decide +kernel
theorem dX10_after_11 : decode cX10_after 11 = .ok (.iadd, 1) := by decide +kernel
theorem dX10_after_12 : decode cX10_after 12 = .ok (.goto 4, 3) := by decide +kernel
theorem dX10_after_15 : decode cX10_after 15 = .ok (.iconst 0, 1) := by decide +kernel
theorem dX10_after_16 : decode cX10_after 16 = .ok (.ireturn, 1) := by decide +kernel
theorem dX10_before_0 : decode cX10_before 0 = .ok (.iload_n 0, 1) := by decide +kernel
theorem dX10_before_1 : decode cX10_before 1 = .ok (.ifCond .le 9, 3) := by decide +kernel
theorem dX10_before_4 : decode cX10_before 4 = .ok (.iload_n 0, 1) := by decide +kernel
theorem dX10_before_5 : decode cX10_before 5 = .ok (.iconst 1, 1) := by decide +kernel
theorem dX10_before_6 : decode cX10_before 6 = .ok (.isub, 1) := by decide +kernel
theorem dX10_before_7 : decode cX10_before 7 = .ok (.goto 6, 3) := by decide +kernel
theorem dX10_before_10 : decode cX10_before 10 = .ok (.sipush 167, 3) := by decide +kernel
theorem dX10_before_13 : decode cX10_before 13 = .ok (.ireturn, 1) := by decide +kernel
theorem dX10_sumOf_0 : decode cX10_sumOf 0 = .ok (.iconst 0, 1) := by decide +kernel
theorem dX10_sumOf_1 : decode cX10_sumOf 1 = .ok (.istore_n 1, 1) := by decide +kernel
theorem dX10_sumOf_2 : decode cX10_sumOf 2 = .ok (.iconst 0, 1) := by decide +kernel
theorem dX10_sumOf_3 : decode cX10_sumOf 3 = .ok (.istore_n 2, 1) := by decide +kernel
theorem dX10_sumOf_4 : decode cX10_sumOf 4 = .ok (.iload_n 2, 1) := by decide +kernel
theorem dX10_sumOf_5 : decode cX10_sumOf 5 = .ok (.aload_n 0, 1) := by decide +kernel
theorem dX10_sumOf_6 : decode cX10_sumOf 6 = .ok (.arraylength, 1) := by decide +kernel
theorem dX10_sumOf_7 : decode cX10_sumOf 7 = .ok (.if_icmp .ge 15, 3) := by decide +kernel
theorem dX10_sumOf_10 : decode cX10_sumOf 10 = .ok (.iload_n 1, 1) := by decide +kernel
theorem dX10_sumOf_11 : decode cX10_sumOf 11 = .ok (.aload_n 0, 1) := by decide +kernel
theorem dX10_sumOf_12 : decode cX10_sumOf 12 = .ok (.iload_n 2, 1) := by decide +kernel
theorem dX10_sumOf_13 : decode cX10_sumOf 13 = .ok (.iaload, 1) := by decide +kernel
theorem dX10_sumOf_14 : decode cX10_sumOf 14 = .ok (.iadd, 1) := by decide +kernel
theorem dX10_sumOf_15 : decode cX10_sumOf 15 = .ok (.istore_n 1, 1) := by decide +kernel
theorem dX10_sumOf_16 : decode cX10_sumOf 16 = .ok (.iinc 2 1, 3) := by decide +kernel
theorem dX10_sumOf_19 : decode cX10_sumOf 19 = .ok (.goto (-15), 3) := by decide +kernel
theorem dX10_sumOf_22 : decode cX10_sumOf 22 = .ok (.iload_n 1, 1) := by decide +kernel
theorem dX10_sumOf_23 : decode cX10_sumOf 23 = .ok (.ireturn, 1) := by decide +kernel
theorem dJ0_length_8abf5_0 : decode cJ0_length_8abf5 0 = .ok (.aload_n 0, 1) := by decide +kernel
theorem dJ0_length_8abf5_1 : decode cJ0_length_8abf5 1 = .ok (.getfield 9, 3) := by decide +kernel
theorem dJ0_length_8abf5_4 : decode cJ0_length_8abf5 4 = .ok (.arraylength, 1) := by decide +kernel
theorem dJ0_length_8abf5_5 : decode cJ0_length_8abf5 5 = .ok (.aload_n 0, 1) := by decide +kernel
theorem dJ0_length_8abf5_6 : decode cJ0_length_8abf5 6 = .ok (.invokevirtual 335, 3) := by decide +kernel
theorem dJ0_length_8abf5_9 : decode cJ0_length_8abf5 9 = .ok (.ishr, 1) := by decide +kernel
theorem dJ0_length_8abf5_10 : decode cJ0_length_8abf5 10 = .ok (.ireturn, 1) := by decide +kernel
theorem dJ0_charAt_5068e_0 : decode cJ0_charAt_5068e 0 = .ok (.aload_n 0, 1) := by decide +kernel
theorem dJ0_charAt_5068e_1 : decode cJ0_charAt_5068e 1 = .ok (.invokevirtual 492, 3) := by decide +kernel
theorem dJ0_charAt_5068e_4 : decode cJ0_charAt_5068e 4 = .ok (.ifCond .eq 12, 3) := by decide +kernel
theorem dJ0_charAt_5068e_7 : decode cJ0_charAt_5068e 7 = .ok (.aload_n 0, 1) := by decide +kernel
theorem dJ0_charAt_5068e_8 : decode cJ0_charAt_5068e 8 = .ok (.getfield 9, 3) := by decide +kernel
theorem dJ0_charAt_5068e_11 : decode cJ0_charAt_5068e 11 = .ok (.iload_n 1, 1) := by decide +kernel
theorem dJ0_charAt_5068e_12 : decode cJ0_charAt_5068e 12 = .ok (.invokestatic 495, 3) := by decide +kernel
theorem dJ0_charAt_5068e_15 : decode cJ0_charAt_5068e 15 = .ok (.ireturn, 1) := by decide +kernel
theorem dJ0_charAt_5068e_16 : decode cJ0_charAt_5068e 16 = .ok (.aload_n 0, 1) := by decide +kernel
theorem dJ0_charAt_5068e_17 : decode cJ0_charAt_5068e 17 = .ok (.getfield 9, 3) := by decide +kernel
theorem dJ0_charAt_5068e_20 : decode cJ0_charAt_5068e 20 = .ok (.iload_n 1, 1) := by decide +kernel
theorem dJ0_charAt_5068e_21 : decode cJ0_charAt_5068e 21 = .ok (.invokestatic 498, 3) := by decide +kernel
theorem dJ0_charAt_5068e_24 : decode cJ0_charAt_5068e 24 = .ok (.ireturn, 1) := by decide +kernel
theorem dJ0_coder_7d493_0 : decode cJ0_coder_7d493 0 = .ok (.getstatic 38, 3) := by decide +kernel
theorem dJ0_coder_7d493_3 : decode cJ0_coder_7d493 3 = .ok (.ifCond .eq 10, 3) := by decide +kernel
theorem dJ0_coder_7d493_6 : decode cJ0_coder_7d493 6 = .ok (.aload_n 0, 1) := by decide +kernel
theorem dJ0_coder_7d493_7 : decode cJ0_coder_7d493 7 = .ok (.getfield 15, 3) := by decide +kernel
theorem dJ0_coder_7d493_10 : decode cJ0_coder_7d493 10 = .ok (.goto 4, 3) := by decide +kernel
theorem dJ0_coder_7d493_13 : decode cJ0_coder_7d493 13 = .ok (.iconst 1, 1) := by decide +kernel
theorem dJ0_coder_7d493_14 : decode cJ0_coder_7d493 14 = .ok (.ireturn, 1) := by decide +kernel
theorem dJ0_isLatin1_aae02_0 : decode cJ0_isLatin1_aae02 0 = .ok (.getstatic 38, 3) := by decide +kernel
theorem dJ0_isLatin1_aae02_3 : decode cJ0_isLatin1_aae02 3 = .ok (.ifCond .eq 14, 3) := by decide +kernel
theorem dJ0_isLatin1_aae02_6 : decode cJ0_isLatin1_aae02 6 = .ok (.aload_n 0, 1) := by decide +kernel
theorem dJ0_isLatin1_aae02_7 : decode cJ0_isLatin1_aae02 7 = .ok (.getfield 15, 3) := by decide +kernel
theorem dJ0_isLatin1_aae02_10 : decode cJ0_isLatin1_aae02 10 = .ok (.ifCond .ne 7, 3) := by decide +kernel
theorem dJ0_isLatin1_aae02_13 : decode cJ0_isLatin1_aae02 13 = .ok (.iconst 1, 1) := by decide +kernel
theorem dJ0_isLatin1_aae02_14 : decode cJ0_isLatin1_aae02 14 = .ok (.goto 4, 3) := by decide +kernel
theorem dJ0_isLatin1_aae02_17 : decode cJ0_isLatin1_aae02 17 = .ok (.iconst 0, 1) := by decide +kernel
theorem dJ0_isLatin1_aae02_18 : decode cJ0_isLatin1_aae02 18 = .ok (.ireturn, 1) := by decide +kernel
theorem dJ0_checkIndex_df160_0 : decode cJ0_checkIndex_df160 0 = .ok (.iload_n 0, 1) := by decide +kernel
theorem dJ0_checkIndex_df160_1 : decode cJ0_checkIndex_df160 1 = .ok (.iload_n 1, 1) := by decide +kernel
theorem dJ0_checkIndex_df160_2 : decode cJ0_checkIndex_df160 2 = .ok (.getstatic 1053, 3) := by decide +kernel
theorem dJ0_checkIndex_df160_5 : decode cJ0_checkIndex_df160 5 = .ok (.invokestatic 1059, 3) := by decide +kernel
theorem dJ0_checkIndex_df160_8 : decode cJ0_checkIndex_df160 8 = .ok (.pop, 1) := by decide +kernel
theorem dJ0_checkIndex_df160_9 : decode cJ0_checkIndex_df160 9 = .ok (.return_, 1) := by decide +kernel
theorem dJ1_charAt_3b067_0 : decode cJ1_charAt_3b067 0 = .ok (.iload_n 1, 1) := by decide +kernel
theorem dJ1_charAt_3b067_1 : decode cJ1_charAt_3b067 1 = .ok (.aload_n 0, 1) := by decide +kernel
theorem dJ1_charAt_3b067_2 : decode cJ1_charAt_3b067 2 = .ok (.arraylength, 1) := by decide +kernel
theorem dJ1_charAt_3b067_3 : decode cJ1_charAt_3b067 3 = .ok (.invokestatic 9, 3) := by decide +kernel
theorem dJ1_charAt_3b067_6 : decode cJ1_charAt_3b067 6 = .ok (.aload_n 0, 1) := by decide +kernel
theorem dJ1_charAt_3b067_7 : decode cJ1_charAt_3b067 7 = .ok (.iload_n 1, 1) := by decide +kernel
theorem dJ1_charAt_3b067_8 : decode cJ1_charAt_3b067 8 = .ok (.baload, 1) := by decide +kernel
theorem dJ1_charAt_3b067_9 : decode cJ1_charAt_3b067 9 = .ok (.sipush 255, 3) := by decide +kernel
theorem dJ1_charAt_3b067_12 : decode cJ1_charAt_3b067 12 = .ok (.iand, 1) := by decide +kernel
theorem dJ1_charAt_3b067_13 : decode cJ1_charAt_3b067 13 = .ok (.i2c, 1) := by decide +kernel
theorem dJ1_charAt_3b067_14 : decode cJ1_charAt_3b067 14 = .ok (.ireturn, 1) := by decide +kernel
theorem dJ2_getChar_3b067_0 : decode cJ2_getChar_3b067 0 = .ok (.getstatic 44, 3) := by decide +kernel
theorem dJ2_getChar_3b067_3 : decode cJ2_getChar_3b067 3 = .ok (.ifCond .ne 25, 3) := by decide +kernel
theorem dJ2_getChar_3b067_6 : decode cJ2_getChar_3b067 6 = .ok (.iload_n 1, 1) := by decide +kernel
theorem dJ2_getChar_3b067_7 : decode cJ2_getChar_3b067 7 = .ok (.ifCond .lt 11, 3) := by decide +kernel
theorem dJ2_getChar_3b067_10 : decode cJ2_getChar_3b067 10 = .ok (.iload_n 1, 1) := by decide +kernel
theorem dJ2_getChar_3b067_11 : decode cJ2_getChar_3b067 11 = .ok (.aload_n 0, 1) := by decide +kernel
theorem dJ2_getChar_3b067_12 : decode cJ2_getChar_3b067 12 = .ok (.invokestatic 48, 3) := by decide +kernel
theorem dJ2_getChar_3b067_15 : decode cJ2_getChar_3b067 15 = .ok (.if_icmp .lt 13, 3) := by decide +kernel
theorem dJ2_getChar_3b067_18 : decode cJ2_getChar_3b067 18 = .ok (.new 52, 3) := by decide +kernel
theorem dJ2_getChar_3b067_21 : decode cJ2_getChar_3b067 21 = .ok (.dup, 1) := by decide +kernel
theorem dJ2_getChar_3b067_22 : decode cJ2_getChar_3b067 22 = .ok (.ldc 54, 2) := by decide +kernel
theorem dJ2_getChar_3b067_24 : decode cJ2_getChar_3b067 24 = .ok (.invokespecial 56, 3) := by decide +kernel
theorem dJ2_getChar_3b067_27 : decode cJ2_getChar_3b067 27 = .ok (.athrow, 1) := by decide +kernel
theorem dJ2_getChar_3b067_28 : decode cJ2_getChar_3b067 28 = .ok (.iload_n 1, 1) := by decide +kernel
theorem dJ2_getChar_3b067_29 : decode cJ2_getChar_3b067 29 = .ok (.iconst 1, 1) := by decide +kernel
theorem dJ2_getChar_3b067_30 : decode cJ2_getChar_3b067 30 = .ok (.ishl, 1) := by decide +kernel
theorem dJ2_getChar_3b067_31 : decode cJ2_getChar_3b067 31 = .ok (.istore_n 1, 1) := by decide +kernel
theorem dJ2_getChar_3b067_32 : decode cJ2_getChar_3b067 32 = .ok (.aload_n 0, 1) := by decide +kernel
theorem dJ2_getChar_3b067_33 : decode cJ2_getChar_3b067 33 = .ok (.iload_n 1, 1) := by decide +kernel
theorem dJ2_getChar_3b067_34 : decode cJ2_getChar_3b067 34 = .ok (.iinc 1 1, 3) := by decide +kernel
theorem dJ2_getChar_3b067_37 : decode cJ2_getChar_3b067 37 = .ok (.baload, 1) := by decide +kernel
theorem dJ2_getChar_3b067_38 : decode cJ2_getChar_3b067 38 = .ok (.sipush 255, 3) := by decide +kernel
theorem dJ2_getChar_3b067_41 : decode cJ2_getChar_3b067 41 = .ok (.iand, 1) := by decide +kernel
theorem dJ2_getChar_3b067_42 : decode cJ2_getChar_3b067 42 = .ok (.getstatic 59, 3) := by decide +kernel
theorem dJ2_getChar_3b067_45 : decode cJ2_getChar_3b067 45 = .ok (.ishl, 1) := by decide +kernel
theorem dJ2_getChar_3b067_46 : decode cJ2_getChar_3b067 46 = .ok (.aload_n 0, 1) := by decide +kernel
theorem dJ2_getChar_3b067_47 : decode cJ2_getChar_3b067 47 = .ok (.iload_n 1, 1) := by decide +kernel
theorem dJ2_getChar_3b067_48 : decode cJ2_getChar_3b067 48 = .ok (.baload, 1) := by decide +kernel
theorem dJ2_getChar_3b067_49 : decode cJ2_getChar_3b067 49 = .ok (.sipush 255, 3) := by decide +kernel
theorem dJ2_getChar_3b067_52 : decode cJ2_getChar_3b067 52 = .ok (.iand, 1) := by decide +kernel
theorem dJ2_getChar_3b067_53 : decode cJ2_getChar_3b067 53 = .ok (.getstatic 63, 3) := by decide +kernel
theorem dJ2_getChar_3b067_56 : decode cJ2_getChar_3b067 56 = .ok (.ishl, 1) := by decide +kernel
theorem dJ2_getChar_3b067_57 : decode cJ2_getChar_3b067 57 = .ok (.ior, 1) := by decide +kernel
theorem dJ2_getChar_3b067_58 : decode cJ2_getChar_3b067 58 = .ok (.i2c, 1) := by decide +kernel
theorem dJ2_getChar_3b067_59 : decode cJ2_getChar_3b067 59 = .ok (.ireturn, 1) := by decide +kernel
theorem dJ2_length_9d52b_0 : decode cJ2_length_9d52b 0 = .ok (.aload_n 0, 1) := by decide +kernel
theorem dJ2_length_9d52b_1 : decode cJ2_length_9d52b 1 = .ok (.arraylength, 1) := by decide +kernel
theorem dJ2_length_9d52b_2 : decode cJ2_length_9d52b 2 = .ok (.iconst 1, 1) := by decide +kernel
theorem dJ2_length_9d52b_3 : decode cJ2_length_9d52b 3 = .ok (.ishr, 1) := by decide +kernel
theorem dJ2_length_9d52b_4 : decode cJ2_length_9d52b 4 = .ok (.ireturn, 1) := by decide +kernel
theorem dJ2_charAt_3b067_0 : decode cJ2_charAt_3b067 0 = .ok (.iload_n 1, 1) := by decide +kernel
theorem dJ2_charAt_3b067_1 : decode cJ2_charAt_3b067 1 = .ok (.aload_n 0, 1) := by decide +kernel
theorem dJ2_charAt_3b067_2 : decode cJ2_charAt_3b067 2 = .ok (.invokestatic 67, 3) := by decide +kernel
theorem dJ2_charAt_3b067_5 : decode cJ2_charAt_3b067 5 = .ok (.aload_n 0, 1) := by decide +kernel
theorem dJ2_charAt_3b067_6 : decode cJ2_charAt_3b067 6 = .ok (.iload_n 1, 1) := by decide +kernel
theorem dJ2_charAt_3b067_7 : decode cJ2_charAt_3b067 7 = .ok (.invokestatic 71, 3) := by decide +kernel
theorem dJ2_charAt_3b067_10 : decode cJ2_charAt_3b067 10 = .ok (.ireturn, 1) := by decide +kernel
theorem dJ2_checkIndex_2214a_0 : decode cJ2_checkIndex_2214a 0 = .ok (.iload_n 0, 1) := by decide +kernel
theorem dJ2_checkIndex_2214a_1 : decode cJ2_checkIndex_2214a 1 = .ok (.aload_n 1, 1) := by decide +kernel
theorem dJ2_checkIndex_2214a_2 : decode cJ2_checkIndex_2214a 2 = .ok (.invokestatic 48, 3) := by decide +kernel
theorem dJ2_checkIndex_2214a_5 : decode cJ2_checkIndex_2214a 5 = .ok (.invokestatic 414, 3) := by decide +kernel
theorem dJ2_checkIndex_2214a_8 : decode cJ2_checkIndex_2214a 8 = .ok (.return_, 1) := by decide +kernel
theorem dJ3_checkIndex_8e157_0 : decode cJ3_checkIndex_8e157 0 = .ok (.iload_n 0, 1) := by decide +kernel
theorem dJ3_checkIndex_8e157_1 : decode cJ3_checkIndex_8e157 1 = .ok (.ifCond .lt 8, 3) := by decide +kernel
theorem dJ3_checkIndex_8e157_4 : decode cJ3_checkIndex_8e157 4 = .ok (.iload_n 0, 1) := by decide +kernel
theorem dJ3_checkIndex_8e157_5 : decode cJ3_checkIndex_8e157 5 = .ok (.iload_n 1, 1) := by decide +kernel
theorem dJ3_checkIndex_8e157_6 : decode cJ3_checkIndex_8e157 6 = .ok (.if_icmp .lt 10, 3) := by decide +kernel
theorem dJ3_checkIndex_8e157_9 : decode cJ3_checkIndex_8e157 9 = .ok (.aload_n 2, 1) := by decide +kernel
theorem dJ3_checkIndex_8e157_10 : decode cJ3_checkIndex_8e157 10 = .ok (.iload_n 0, 1) := by decide +kernel
theorem dJ3_checkIndex_8e157_11 : decode cJ3_checkIndex_8e157 11 = .ok (.iload_n 1, 1) := by decide +kernel
theorem dJ3_checkIndex_8e157_12 : decode cJ3_checkIndex_8e157 12 = .ok (.invokestatic 95, 3) := by decide +kernel
theorem dJ3_checkIndex_8e157_15 : decode cJ3_checkIndex_8e157 15 = .ok (.athrow, 1) := by decide +kernel
theorem dJ3_checkIndex_8e157_16 : decode cJ3_checkIndex_8e157 16 = .ok (.iload_n 0, 1) := by decide +kernel
theorem dJ3_checkIndex_8e157_17 : decode cJ3_checkIndex_8e157 17 = .ok (.ireturn, 1) := by decide +kernel
theorem dJ6_bitCount_0f7a4_0 : decode cJ6_bitCount_0f7a4 0 = .ok (.iload_n 0, 1) := by decide +kernel
theorem dJ6_bitCount_0f7a4_1 : decode cJ6_bitCount_0f7a4 1 = .ok (.iload_n 0, 1) := by decide +kernel
theorem dJ6_bitCount_0f7a4_2 : decode cJ6_bitCount_0f7a4 2 = .ok (.iconst 1, 1) := by decide +kernel
theorem dJ6_bitCount_0f7a4_3 : decode cJ6_bitCount_0f7a4 3 = .ok (.iushr, 1) := by decide +kernel
theorem dJ6_bitCount_0f7a4_4 : decode cJ6_bitCount_0f7a4 4 = .ok (.ldc_w 265, 3) := by decide +kernel
theorem dJ6_bitCount_0f7a4_7 : decode cJ6_bitCount_0f7a4 7 = .ok (.iand, 1) := by decide +kernel
theorem dJ6_bitCount_0f7a4_8 : decode cJ6_bitCount_0f7a4 8 = .ok (.isub, 1) := by decide +kernel
theorem dJ6_bitCount_0f7a4_9 : decode cJ6_bitCount_0f7a4 9 = .ok (.istore_n 0, 1) := by decide +kernel
theorem dJ6_bitCount_0f7a4_10 : decode cJ6_bitCount_0f7a4 10 = .ok (.iload_n 0, 1) := by decide +kernel
theorem dJ6_bitCount_0f7a4_11 : decode cJ6_bitCount_0f7a4 11 = .ok (.ldc_w 266, 3) := by decide +kernel
theorem dJ6_bitCount_0f7a4_14 : decode cJ6_bitCount_0f7a4 14 = .ok (.iand, 1) := by decide +kernel
theorem dJ6_bitCount_0f7a4_15 : decode cJ6_bitCount_0f7a4 15 = .ok (.iload_n 0, 1) := by decide +kernel
theorem dJ6_bitCount_0f7a4_16 : decode cJ6_bitCount_0f7a4 16 = .ok (.iconst 2, 1) := by decide +kernel
theorem dJ6_bitCount_0f7a4_17 : decode cJ6_bitCount_0f7a4 17 = .ok (.iushr, 1) := by decide +kernel
theorem dJ6_bitCount_0f7a4_18 : decode cJ6_bitCount_0f7a4 18 = .ok (.ldc_w 266, 3) := by decide +kernel
theorem dJ6_bitCount_0f7a4_21 : decode cJ6_bitCount_0f7a4 21 = .ok (.iand, 1) := by decide +kernel
theorem dJ6_bitCount_0f7a4_22 : decode cJ6_bitCount_0f7a4 22 = .ok (.iadd, 1) := by decide +kernel
theorem dJ6_bitCount_0f7a4_23 : decode cJ6_bitCount_0f7a4 23 = .ok (.istore_n 0, 1) := by decide +kernel
theorem dJ6_bitCount_0f7a4_24 : decode cJ6_bitCount_0f7a4 24 = .ok (.iload_n 0, 1) := by decide +kernel
theorem dJ6_bitCount_0f7a4_25 : decode cJ6_bitCount_0f7a4 25 = .ok (.iload_n 0, 1) := by decide +kernel
theorem dJ6_bitCount_0f7a4_26 : decode cJ6_bitCount_0f7a4 26 = .ok (.iconst 4, 1) := by decide +kernel
theorem dJ6_bitCount_0f7a4_27 : decode cJ6_bitCount_0f7a4 27 = .ok (.iushr, 1) := by decide +kernel
theorem dJ6_bitCount_0f7a4_28 : decode cJ6_bitCount_0f7a4 28 = .ok (.iadd, 1) := by decide +kernel
theorem dJ6_bitCount_0f7a4_29 : decode cJ6_bitCount_0f7a4 29 = .ok (.ldc_w 267, 3) := by decide +kernel
theorem dJ6_bitCount_0f7a4_32 : decode cJ6_bitCount_0f7a4 32 = .ok (.iand, 1) := by decide +kernel
theorem dJ6_bitCount_0f7a4_33 : decode cJ6_bitCount_0f7a4 33 = .ok (.istore_n 0, 1) := by decide +kernel
theorem dJ6_bitCount_0f7a4_34 : decode cJ6_bitCount_0f7a4 34 = .ok (.iload_n 0, 1) := by decide +kernel
theorem dJ6_bitCount_0f7a4_35 : decode cJ6_bitCount_0f7a4 35 = .ok (.iload_n 0, 1) := by decide +kernel
theorem dJ6_bitCount_0f7a4_36 : decode cJ6_bitCount_0f7a4 36 = .ok (.bipush 8, 2) := by decide +kernel
theorem dJ6_bitCount_0f7a4_38 : decode cJ6_bitCount_0f7a4 38 = .ok (.iushr, 1) := by decide +kernel
theorem dJ6_bitCount_0f7a4_39 : decode cJ6_bitCount_0f7a4 39 = .ok (.iadd, 1) := by decide +kernel
theorem dJ6_bitCount_0f7a4_40 : decode cJ6_bitCount_0f7a4 40 = .ok (.istore_n 0, 1) := by decide +kernel
theorem dJ6_bitCount_0f7a4_41 : decode cJ6_bitCount_0f7a4 41 = .ok (.iload_n 0, 1) := by decide +kernel
theorem dJ6_bitCount_0f7a4_42 : decode cJ6_bitCount_0f7a4 42 = .ok (.iload_n 0, 1) := by decide +kernel
theorem dJ6_bitCount_0f7a4_43 : decode cJ6_bitCount_0f7a4 43 = .ok (.bipush 16, 2) := by decide +kernel
theorem dJ6_bitCount_0f7a4_45 : decode cJ6_bitCount_0f7a4 45 = .ok (.iushr, 1) := by decide +kernel
theorem dJ6_bitCount_0f7a4_46 : decode cJ6_bitCount_0f7a4 46 = .ok (.iadd, 1) := by decide +kernel
theorem dJ6_bitCount_0f7a4_47 : decode cJ6_bitCount_0f7a4 47 = .ok (.istore_n 0, 1) := by decide +kernel
theorem dJ6_bitCount_0f7a4_48 : decode cJ6_bitCount_0f7a4 48 = .ok (.iload_n 0, 1) := by decide +kernel
theorem dJ6_bitCount_0f7a4_49 : decode cJ6_bitCount_0f7a4 49 = .ok (.bipush 63, 2) := by decide +kernel
theorem dJ6_bitCount_0f7a4_51 : decode cJ6_bitCount_0f7a4 51 = .ok (.iand, 1) := by decide +kernel
theorem dJ6_bitCount_0f7a4_52 : decode cJ6_bitCount_0f7a4 52 = .ok (.ireturn, 1) := by decide +kernel
theorem dJ7_fill_53178_0 : decode cJ7_fill_53178 0 = .ok (.iconst 0, 1) := by decide +kernel
theorem dJ7_fill_53178_1 : decode cJ7_fill_53178 1 = .ok (.istore_n 2, 1) := by decide +kernel
theorem dJ7_fill_53178_2 : decode cJ7_fill_53178 2 = .ok (.aload_n 0, 1) := by decide +kernel
theorem dJ7_fill_53178_3 : decode cJ7_fill_53178 3 = .ok (.arraylength, 1) := by decide +kernel
theorem dJ7_fill_53178_4 : decode cJ7_fill_53178 4 = .ok (.istore_n 3, 1) := by decide +kernel
theorem dJ7_fill_53178_5 : decode cJ7_fill_53178 5 = .ok (.iload_n 2, 1) := by decide +kernel
theorem dJ7_fill_53178_6 : decode cJ7_fill_53178 6 = .ok (.iload_n 3, 1) := by decide +kernel
theorem dJ7_fill_53178_7 : decode cJ7_fill_53178 7 = .ok (.if_icmp .ge 13, 3) := by decide +kernel
theorem dJ7_fill_53178_10 : decode cJ7_fill_53178 10 = .ok (.aload_n 0, 1) := by decide +kernel
theorem dJ7_fill_53178_11 : decode cJ7_fill_53178 11 = .ok (.iload_n 2, 1) := by decide +kernel
theorem dJ7_fill_53178_12 : decode cJ7_fill_53178 12 = .ok (.iload_n 1, 1) := by decide +kernel
theorem dJ7_fill_53178_13 : decode cJ7_fill_53178 13 = .ok (.iastore, 1) := by decide +kernel
theorem dJ7_fill_53178_14 : decode cJ7_fill_53178 14 = .ok (.iinc 2 1, 3) := by decide +kernel
theorem dJ7_fill_53178_17 : decode cJ7_fill_53178 17 = .ok (.goto (-12), 3) := by decide +kernel
theorem dJ7_fill_53178_20 : decode cJ7_fill_53178 20 = .ok (.return_, 1) := by decide +kernel
theorem dJ9_floorMod_7cf53_0 : decode cJ9_floorMod_7cf53 0 = .ok (.iload_n 0, 1) := by decide +kernel
theorem dJ9_floorMod_7cf53_1 : decode cJ9_floorMod_7cf53 1 = .ok (.iload_n 1, 1) := by decide +kernel
theorem dJ9_floorMod_7cf53_2 : decode cJ9_floorMod_7cf53 2 = .ok (.irem, 1) := by decide +kernel
theorem dJ9_floorMod_7cf53_3 : decode cJ9_floorMod_7cf53 3 = .ok (.istore_n 2, 1) := by decide +kernel
theorem dJ9_floorMod_7cf53_4 : decode cJ9_floorMod_7cf53 4 = .ok (.iload_n 0, 1) := by decide +kernel
theorem dJ9_floorMod_7cf53_5 : decode cJ9_floorMod_7cf53 5 = .ok (.iload_n 1, 1) := by decide +kernel
theorem dJ9_floorMod_7cf53_6 : decode cJ9_floorMod_7cf53 6 = .ok (.ixor, 1) := by decide +kernel
theorem dJ9_floorMod_7cf53_7 : decode cJ9_floorMod_7cf53 7 = .ok (.ifCond .ge 11, 3) := by decide +kernel
theorem dJ9_floorMod_7cf53_10 : decode cJ9_floorMod_7cf53 10 = .ok (.iload_n 2, 1) := by decide +kernel
theorem dJ9_floorMod_7cf53_11 : decode cJ9_floorMod_7cf53 11 = .ok (.ifCond .eq 7, 3) := by decide +kernel
theorem dJ9_floorMod_7cf53_14 : decode cJ9_floorMod_7cf53 14 = .ok (.iload_n 2, 1) := by decide +kernel
theorem dJ9_floorMod_7cf53_15 : decode cJ9_floorMod_7cf53 15 = .ok (.iload_n 1, 1) := by decide +kernel
theorem dJ9_floorMod_7cf53_16 : decode cJ9_floorMod_7cf53 16 = .ok (.iadd, 1) := by decide +kernel
theorem dJ9_floorMod_7cf53_17 : decode cJ9_floorMod_7cf53 17 = .ok (.ireturn, 1) := by decide +kernel
theorem dJ9_floorMod_7cf53_18 : decode cJ9_floorMod_7cf53 18 = .ok (.iload_n 2, 1) := by decide +kernel
theorem dJ9_floorMod_7cf53_19 : decode cJ9_floorMod_7cf53 19 = .ok (.ireturn, 1) := by decide +kernel
theorem dJ9_max_7cf53_0 : decode cJ9_max_7cf53 0 = .ok (.iload_n 0, 1) := by decide +kernel
theorem dJ9_max_7cf53_1 : decode cJ9_max_7cf53 1 = .ok (.iload_n 1, 1) := by decide +kernel
theorem dJ9_max_7cf53_2 : decode cJ9_max_7cf53 2 = .ok (.if_icmp .lt 7, 3) := by decide +kernel
theorem dJ9_max_7cf53_5 : decode cJ9_max_7cf53 5 = .ok (.iload_n 0, 1) := by decide +kernel
theorem dJ9_max_7cf53_6 : decode cJ9_max_7cf53 6 = .ok (.goto 4, 3) := by decide +kernel
theorem dJ9_max_7cf53_9 : decode cJ9_max_7cf53 9 = .ok (.iload_n 1, 1) := by decide +kernel
theorem dJ9_max_7cf53_10 : decode cJ9_max_7cf53 10 = .ok (.ireturn, 1) := by decide +kernel
theorem dJ9_min_7cf53_0 : decode cJ9_min_7cf53 0 = .ok (.iload_n 0, 1) := by decide +kernel
theorem dJ9_min_7cf53_1 : decode cJ9_min_7cf53 1 = .ok (.iload_n 1, 1) := by decide +kernel
theorem dJ9_min_7cf53_2 : decode cJ9_min_7cf53 2 = .ok (.if_icmp .gt 7, 3) := by decide +kernel
theorem dJ9_min_7cf53_5 : decode cJ9_min_7cf53 5 = .ok (.iload_n 0, 1) := by decide +kernel
theorem dJ9_min_7cf53_6 : decode cJ9_min_7cf53 6 = .ok (.goto 4, 3) := by decide +kernel
theorem dJ9_min_7cf53_9 : decode cJ9_min_7cf53 9 = .ok (.iload_n 1, 1) := by decide +kernel
theorem dJ9_min_7cf53_10 : decode cJ9_min_7cf53 10 = .ok (.ireturn, 1) := by decide +kernel
