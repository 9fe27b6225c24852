theorem dX11_carry_92 : decode cX11_carry 92 = .ok (.iconst 2, 1) := by decide +kernel
theorem dX11_carry_93 : decode cX11_carry 93 = .ok (.invokevirtual 84, 3) := by decide +kernel
theorem dX11_carry_96 : decode cX11_carry 96 = .ok (.bipush 99, 2) := by decide +kernel
theorem dX11_carry_98 : decode cX11_carry 98 = .ok (.aload_n 0, 1) := by decide +kernel
theorem dX11_carry_99 : decode cX11_carry 99 = .ok (.iload_n 3, 1) := by decide +kernel
theorem dX11_carry_100 : decode cX11_carry 100 = .ok (.iconst 2, 1) := by decide +kernel
theorem dX11_carry_101 : decode cX11_carry 101 = .ok (.invokevirtual 84, 3) := by decide +kernel
theorem dX11_carry_104 : decode cX11_carry 104 = .ok (.isub, 1) := by decide +kernel
theorem dX11_carry_105 : decode cX11_carry 105 = .ok (.invokestatic 292, 3) := by decide +kernel
theorem dX11_carry_108 : decode cX11_carry 108 = .ok (.invokestatic 292, 3) := by decide +kernel
theorem dX11_carry_111 : decode cX11_carry 111 = .ok (.istore 5, 2) := by decide +kernel
theorem dX11_carry_113 : decode cX11_carry 113 = .ok (.aload_n 0, 1) := by decide +kernel
theorem dX11_carry_114 : decode cX11_carry 114 = .ok (.getfield 7, 3) := by decide +kernel
theorem dX11_carry_117 : decode cX11_carry 117 = .ok (.bipush 88, 2) := by decide +kernel
theorem dX11_carry_119 : decode cX11_carry 119 = .ok (.iconst 4, 1) := by decide +kernel
theorem dX11_carry_120 : decode cX11_carry 120 = .ok (.iload_n 2, 1) := by decide +kernel
theorem dX11_carry_121 : decode cX11_carry 121 = .ok (.imul, 1) := by decide +kernel
theorem dX11_carry_122 : decode cX11_carry 122 = .ok (.iadd, 1) := by decide +kernel
theorem dX11_carry_123 : decode cX11_carry 123 = .ok (.iconst 2, 1) := by decide +kernel
theorem dX11_carry_124 : decode cX11_carry 124 = .ok (.iadd, 1) := by decide +kernel
theorem dX11_carry_125 : decode cX11_carry 125 = .ok (.dup2, 1) := by decide +kernel
theorem dX11_carry_126 : decode cX11_carry 126 = .ok (.iaload, 1) := by decide +kernel
theorem dX11_carry_127 : decode cX11_carry 127 = .ok (.iload 5, 2) := by decide +kernel
theorem dX11_carry_129 : decode cX11_carry 129 = .ok (.isub, 1) := by decide +kernel
theorem dX11_carry_130 : decode cX11_carry 130 = .ok (.iastore, 1) := by decide +kernel
theorem dX11_carry_131 : decode cX11_carry 131 = .ok (.aload_n 0, 1) := by decide +kernel
theorem dX11_carry_132 : decode cX11_carry 132 = .ok (.getfield 7, 3) := by decide +kernel
theorem dX11_carry_135 : decode cX11_carry 135 = .ok (.bipush 88, 2) := by decide +kernel
theorem dX11_carry_137 : decode cX11_carry 137 = .ok (.iconst 4, 1) := by decide +kernel
theorem dX11_carry_138 : decode cX11_carry 138 = .ok (.iload_n 3, 1) := by decide +kernel
theorem dX11_carry_139 : decode cX11_carry 139 = .ok (.imul, 1) := by decide +kernel
theorem dX11_carry_140 : decode cX11_carry 140 = .ok (.iadd, 1) := by decide +kernel
theorem dX11_carry_141 : decode cX11_carry 141 = .ok (.iconst 2, 1) := by decide +kernel
theorem dX11_carry_142 : decode cX11_carry 142 = .ok (.iadd, 1) := by decide +kernel
theorem dX11_carry_143 : decode cX11_carry 143 = .ok (.dup2, 1) := by decide +kernel
theorem dX11_carry_144 : decode cX11_carry 144 = .ok (.iaload, 1) := by decide +kernel
theorem dX11_carry_145 : decode cX11_carry 145 = .ok (.iload 5, 2) := by decide +kernel
theorem dX11_carry_147 : decode cX11_carry 147 = .ok (.iadd, 1) := by decide +kernel
theorem dX11_carry_148 : decode cX11_carry 148 = .ok (.iastore, 1) := by decide +kernel
theorem dX11_carry_149 : decode cX11_carry 149 = .ok (.iload 5, 2) := by decide +kernel
theorem dX11_carry_151 : decode cX11_carry 151 = .ok (.ireturn, 1) := by decide +kernel
theorem dX11_maySwap_0 : decode cX11_maySwap 0 = .ok (.aload_n 0, 1) := by decide +kernel
theorem dX11_maySwap_1 : decode cX11_maySwap 1 = .ok (.iload_n 1, 1) := by decide +kernel
theorem dX11_maySwap_2 : decode cX11_maySwap 2 = .ok (.iconst 0, 1) := by decide +kernel
theorem dX11_maySwap_3 : decode cX11_maySwap 3 = .ok (.invokevirtual 84, 3) := by decide +kernel
theorem dX11_maySwap_6 : decode cX11_maySwap 6 = .ok (.istore_n 3, 1) := by decide +kernel
theorem dX11_maySwap_7 : decode cX11_maySwap 7 = .ok (.aload_n 0, 1) := by decide +kernel
theorem dX11_maySwap_8 : decode cX11_maySwap 8 = .ok (.iload_n 2, 1) := by decide +kernel
theorem dX11_maySwap_9 : decode cX11_maySwap 9 = .ok (.iconst 0, 1) := by decide +kernel
theorem dX11_maySwap_10 : decode cX11_maySwap 10 = .ok (.invokevirtual 84, 3) := by decide +kernel
theorem dX11_maySwap_13 : decode cX11_maySwap 13 = .ok (.istore 4, 2) := by decide +kernel
theorem dX11_maySwap_15 : decode cX11_maySwap 15 = .ok (.iload_n 3, 1) := by decide +kernel
theorem dX11_maySwap_16 : decode cX11_maySwap 16 = .ok (.iconst (-1), 1) := by decide +kernel
theorem dX11_maySwap_17 : decode cX11_maySwap 17 = .ok (.if_icmp .eq 31, 3) := by decide +kernel
theorem dX11_maySwap_20 : decode cX11_maySwap 20 = .ok (.iload 4, 2) := by decide +kernel
theorem dX11_maySwap_22 : decode cX11_maySwap 22 = .ok (.iconst (-1), 1) := by decide +kernel
theorem dX11_maySwap_23 : decode cX11_maySwap 23 = .ok (.if_icmp .eq 25, 3) := by decide +kernel
theorem dX11_maySwap_26 : decode cX11_maySwap 26 = .ok (.iload_n 3, 1) := by decide +kernel
theorem dX11_maySwap_27 : decode cX11_maySwap 27 = .ok (.iload 4, 2) := by decide +kernel
theorem dX11_maySwap_29 : decode cX11_maySwap 29 = .ok (.if_icmp .eq 19, 3) := by decide +kernel
theorem dX11_maySwap_32 : decode cX11_maySwap 32 = .ok (.aload_n 0, 1) := by decide +kernel
theorem dX11_maySwap_33 : decode cX11_maySwap 33 = .ok (.iload_n 1, 1) := by decide +kernel
theorem dX11_maySwap_34 : decode cX11_maySwap 34 = .ok (.invokevirtual 311, 3) := by decide +kernel
theorem dX11_maySwap_37 : decode cX11_maySwap 37 = .ok (.ifCond .ne 11, 3) := by decide +kernel
theorem dX11_maySwap_40 : decode cX11_maySwap 40 = .ok (.aload_n 0, 1) := by decide +kernel
theorem dX11_maySwap_41 : decode cX11_maySwap 41 = .ok (.iload_n 2, 1) := by decide +kernel
theorem dX11_maySwap_42 : decode cX11_maySwap 42 = .ok (.invokevirtual 311, 3) := by decide +kernel
theorem dX11_maySwap_45 : decode cX11_maySwap 45 = .ok (.ifCond .eq 5, 3) := by decide +kernel
theorem dX11_maySwap_48 : decode cX11_maySwap 48 = .ok (.iconst 0, 1) := by decide +kernel
theorem dX11_maySwap_49 : decode cX11_maySwap 49 = .ok (.ireturn, 1) := by decide +kernel
theorem dX11_maySwap_50 : decode cX11_maySwap 50 = .ok (.aload_n 0, 1) := by decide +kernel
theorem dX11_maySwap_51 : decode cX11_maySwap 51 = .ok (.iload 4, 2) := by decide +kernel
theorem dX11_maySwap_53 : decode cX11_maySwap 53 = .ok (.iload_n 1, 1) := by decide +kernel
theorem dX11_maySwap_54 : decode cX11_maySwap 54 = .ok (.invokevirtual 314, 3) := by decide +kernel
theorem dX11_maySwap_57 : decode cX11_maySwap 57 = .ok (.ifCond .ne 16, 3) := by decide +kernel
theorem dX11_maySwap_60 : decode cX11_maySwap 60 = .ok (.aload_n 0, 1) := by decide +kernel
theorem dX11_maySwap_61 : decode cX11_maySwap 61 = .ok (.iload_n 3, 1) := by decide +kernel
theorem dX11_maySwap_62 : decode cX11_maySwap 62 = .ok (.iload_n 2, 1) := by decide +kernel
theorem dX11_maySwap_63 : decode cX11_maySwap 63 = .ok (.invokevirtual 314, 3) := by decide +kernel
theorem dX11_maySwap_66 : decode cX11_maySwap 66 = .ok (.ifCond .ne 7, 3) := by decide +kernel
theorem dX11_maySwap_69 : decode cX11_maySwap 69 = .ok (.iconst 1, 1) := by decide +kernel
theorem dX11_maySwap_70 : decode cX11_maySwap 70 = .ok (.goto 4, 3) := by decide +kernel
theorem dX11_maySwap_73 : decode cX11_maySwap 73 = .ok (.iconst 0, 1) := by decide +kernel
theorem dX11_maySwap_74 : decode cX11_maySwap 74 = .ok (.ireturn, 1) := by decide +kernel
theorem dX11_swap_0 : decode cX11_swap 0 = .ok (.aload_n 0, 1) := by decide +kernel
theorem dX11_swap_1 : decode cX11_swap 1 = .ok (.iload_n 1, 1) := by decide +kernel
theorem dX11_swap_2 : decode cX11_swap 2 = .ok (.invokestatic 289, 3) := by decide +kernel
theorem dX11_swap_5 : decode cX11_swap 5 = .ok (.ifCond .eq 10, 3) := by decide +kernel
theorem dX11_swap_8 : decode cX11_swap 8 = .ok (.iload_n 2, 1) := by decide +kernel
theorem dX11_swap_9 : decode cX11_swap 9 = .ok (.invokestatic 289, 3) := by decide +kernel
theorem dX11_swap_12 : decode cX11_swap 12 = .ok (.ifCond .ne 7, 3) := by decide +kernel
theorem dX11_swap_15 : decode cX11_swap 15 = .ok (.iconst 1, 1) := by decide +kernel
theorem dX11_swap_16 : decode cX11_swap 16 = .ok (.goto 26, 3) := by decide +kernel
theorem dX11_swap_19 : decode cX11_swap 19 = .ok (.iload_n 1, 1) := by decide +kernel
theorem dX11_swap_20 : decode cX11_swap 20 = .ok (.iload_n 2, 1) := by decide +kernel
theorem dX11_swap_21 : decode cX11_swap 21 = .ok (.if_icmp .ne 7, 3) := by decide +kernel
theorem dX11_swap_24 : decode cX11_swap 24 = .ok (.iconst 2, 1) := by decide +kernel
theorem dX11_swap_25 : decode cX11_swap 25 = .ok (.goto 17, 3) := by decide +kernel
theorem dX11_swap_28 : decode cX11_swap 28 = .ok (.aload_n 0, 1) := by decide +kernel
theorem dX11_swap_29 : decode cX11_swap 29 = .ok (.iload_n 1, 1) := by decide +kernel
theorem dX11_swap_30 : decode cX11_swap 30 = .ok (.iload_n 2, 1) := by decide +kernel
theorem dX11_swap_31 : decode cX11_swap 31 = .ok (.invokevirtual 320, 3) := by decide +kernel
theorem dX11_swap_34 : decode cX11_swap 34 = .ok (.ifCond .ne 7, 3) := by decide +kernel
theorem dX11_swap_37 : decode cX11_swap 37 = .ok (.iconst 3, 1) := by decide +kernel
theorem dX11_swap_38 : decode cX11_swap 38 = .ok (.goto 4, 3) := by decide +kernel
theorem dX11_swap_41 : decode cX11_swap 41 = .ok (.iconst 0, 1) := by decide +kernel
theorem dX11_swap_42 : decode cX11_swap 42 = .ok (.putfield 69, 3) := by decide +kernel
theorem dX11_swap_45 : decode cX11_swap 45 = .ok (.aload_n 0, 1) := by decide +kernel
theorem dX11_swap_46 : decode cX11_swap 46 = .ok (.getfield 69, 3) := by decide +kernel
theorem dX11_swap_49 : decode cX11_swap 49 = .ok (.ifCond .le 5, 3) := by decide +kernel
theorem dX11_swap_52 : decode cX11_swap 52 = .ok (.iconst 0, 1) := by decide +kernel
theorem dX11_swap_53 : decode cX11_swap 53 = .ok (.ireturn, 1) := by decide +kernel
theorem dX11_swap_54 : decode cX11_swap 54 = .ok (.aload_n 0, 1) := by decide +kernel
theorem dX11_swap_55 : decode cX11_swap 55 = .ok (.invokevirtual 305, 3) := by decide +kernel
theorem dX11_swap_58 : decode cX11_swap 58 = .ok (.aload_n 0, 1) := by decide +kernel
theorem dX11_swap_59 : decode cX11_swap 59 = .ok (.iload_n 1, 1) := by decide +kernel
theorem dX11_swap_60 : decode cX11_swap 60 = .ok (.iconst 0, 1) := by decide +kernel
theorem dX11_swap_61 : decode cX11_swap 61 = .ok (.invokevirtual 84, 3) := by decide +kernel
theorem dX11_swap_64 : decode cX11_swap 64 = .ok (.istore_n 3, 1) := by decide +kernel
theorem dX11_swap_65 : decode cX11_swap 65 = .ok (.aload_n 0, 1) := by decide +kernel
theorem dX11_swap_66 : decode cX11_swap 66 = .ok (.iload_n 2, 1) := by decide +kernel
theorem dX11_swap_67 : decode cX11_swap 67 = .ok (.iconst 0, 1) := by decide +kernel
theorem dX11_swap_68 : decode cX11_swap 68 = .ok (.invokevirtual 84, 3) := by decide +kernel
theorem dX11_swap_71 : decode cX11_swap 71 = .ok (.istore 4, 2) := by decide +kernel
theorem dX11_swap_73 : decode cX11_swap 73 = .ok (.aload_n 0, 1) := by decide +kernel
theorem dX11_swap_74 : decode cX11_swap 74 = .ok (.iload_n 1, 1) := by decide +kernel
theorem dX11_swap_75 : decode cX11_swap 75 = .ok (.iload 4, 2) := by decide +kernel
theorem dX11_swap_77 : decode cX11_swap 77 = .ok (.iload 4, 2) := by decide +kernel
theorem dX11_swap_79 : decode cX11_swap 79 = .ok (.invokevirtual 149, 3) := by decide +kernel
theorem dX11_swap_82 : decode cX11_swap 82 = .ok (.aload_n 0, 1) := by decide +kernel
theorem dX11_swap_83 : decode cX11_swap 83 = .ok (.iload_n 2, 1) := by decide +kernel
theorem dX11_swap_84 : decode cX11_swap 84 = .ok (.iload_n 3, 1) := by decide +kernel
theorem dX11_swap_85 : decode cX11_swap 85 = .ok (.iload_n 3, 1) := by decide +kernel
theorem dX11_swap_86 : decode cX11_swap 86 = .ok (.invokevirtual 149, 3) := by decide +kernel
theorem dX11_swap_89 : decode cX11_swap 89 = .ok (.aload_n 0, 1) := by decide +kernel
theorem dX11_swap_90 : decode cX11_swap 90 = .ok (.iload_n 1, 1) := by decide +kernel
theorem dX11_swap_91 : decode cX11_swap 91 = .ok (.iload 4, 2) := by decide +kernel
theorem dX11_swap_93 : decode cX11_swap 93 = .ok (.iconst 3, 1) := by decide +kernel
theorem dX11_swap_94 : decode cX11_swap 94 = .ok (.invokevirtual 298, 3) := by decide +kernel
theorem dX11_swap_97 : decode cX11_swap 97 = .ok (.aload_n 0, 1) := by decide +kernel
theorem dX11_swap_98 : decode cX11_swap 98 = .ok (.iload_n 2, 1) := by decide +kernel
theorem dX11_swap_99 : decode cX11_swap 99 = .ok (.iload_n 3, 1) := by decide +kernel
theorem dX11_swap_100 : decode cX11_swap 100 = .ok (.iconst 3, 1) := by decide +kernel
theorem dX11_swap_101 : decode cX11_swap 101 = .ok (.invokevirtual 298, 3) := by decide +kernel
theorem dX11_swap_104 : decode cX11_swap 104 = .ok (.iload 4, 2) := by decide +kernel
theorem dX11_swap_106 : decode cX11_swap 106 = .ok (.ireturn, 1) := by decide +kernel
theorem dX11_draw_0 : decode cX11_draw 0 = .ok (.aload_n 0, 1) := by decide +kernel
theorem dX11_draw_1 : decode cX11_draw 1 = .ok (.getfield 7, 3) := by decide +kernel
theorem dX11_draw_4 : decode cX11_draw 4 = .ok (.bipush 11, 2) := by decide +kernel
theorem dX11_draw_6 : decode cX11_draw 6 = .ok (.ldc_w 323, 3) := by decide +kernel
theorem dX11_draw_9 : decode cX11_draw 9 = .ok (.aload_n 0, 1) := by decide +kernel
theorem dX11_draw_10 : decode cX11_draw 10 = .ok (.getfield 7, 3) := by decide +kernel
theorem dX11_draw_13 : decode cX11_draw 13 = .ok (.bipush 11, 2) := by decide +kernel
theorem dX11_draw_15 : decode cX11_draw 15 = .ok (.iaload, 1) := by decide +kernel
theorem dX11_draw_16 : decode cX11_draw 16 = .ok (.imul, 1) := by decide +kernel
theorem dX11_draw_17 : decode cX11_draw 17 = .ok (.sipush 12345, 3) := by decide +kernel
theorem dX11_draw_20 : decode cX11_draw 20 = .ok (.iadd, 1) := by decide +kernel
theorem dX11_draw_21 : decode cX11_draw 21 = .ok (.iastore, 1) := by decide +kernel
theorem dX11_draw_22 : decode cX11_draw 22 = .ok (.aload_n 0, 1) := by decide +kernel
theorem dX11_draw_23 : decode cX11_draw 23 = .ok (.getfield 7, 3) := by decide +kernel
theorem dX11_draw_26 : decode cX11_draw 26 = .ok (.bipush 11, 2) := by decide +kernel
theorem dX11_draw_28 : decode cX11_draw 28 = .ok (.iaload, 1) := by decide +kernel
theorem dX11_draw_29 : decode cX11_draw 29 = .ok (.bipush 16, 2) := by decide +kernel
theorem dX11_draw_31 : decode cX11_draw 31 = .ok (.iushr, 1) := by decide +kernel
theorem dX11_draw_32 : decode cX11_draw 32 = .ok (.sipush 32767, 3) := by decide +kernel
theorem dX11_draw_35 : decode cX11_draw 35 = .ok (.iand, 1) := by decide +kernel
theorem dX11_draw_36 : decode cX11_draw 36 = .ok (.iload_n 1, 1) := by decide +kernel
theorem dX11_draw_37 : decode cX11_draw 37 = .ok (.irem, 1) := by decide +kernel
theorem dX11_draw_38 : decode cX11_draw 38 = .ok (.ireturn, 1) := by decide +kernel
theorem dX11_rentsDue_0 : decode cX11_rentsDue 0 = .ok (.iconst 0, 1) := by decide +kernel
theorem dX11_rentsDue_1 : decode cX11_rentsDue 1 = .ok (.istore_n 1, 1) := by decide +kernel
theorem dX11_rentsDue_2 : decode cX11_rentsDue 2 = .ok (.iload_n 1, 1) := by decide +kernel
theorem dX11_rentsDue_3 : decode cX11_rentsDue 3 = .ok (.aload_n 0, 1) := by decide +kernel
theorem dX11_rentsDue_4 : decode cX11_rentsDue 4 = .ok (.getfield 7, 3) := by decide +kernel
theorem dX11_rentsDue_7 : decode cX11_rentsDue 7 = .ok (.iconst 1, 1) := by decide +kernel
theorem dX11_rentsDue_8 : decode cX11_rentsDue 8 = .ok (.iaload, 1) := by decide +kernel
theorem dX11_rentsDue_9 : decode cX11_rentsDue 9 = .ok (.if_icmp .ge 70, 3) := by decide +kernel
theorem dX11_rentsDue_12 : decode cX11_rentsDue 12 = .ok (.iconst 0, 1) := by decide +kernel
theorem dX11_rentsDue_13 : decode cX11_rentsDue 13 = .ok (.istore_n 2, 1) := by decide +kernel
theorem dX11_rentsDue_14 : decode cX11_rentsDue 14 = .ok (.iload_n 2, 1) := by decide +kernel
theorem dX11_rentsDue_15 : decode cX11_rentsDue 15 = .ok (.sipush 168, 3) := by decide +kernel
theorem dX11_rentsDue_18 : decode cX11_rentsDue 18 = .ok (.if_icmp .ge 55, 3) := by decide +kernel
theorem dX11_rentsDue_21 : decode cX11_rentsDue 21 = .ok (.aload_n 0, 1) := by decide +kernel
theorem dX11_rentsDue_22 : decode cX11_rentsDue 22 = .ok (.iload_n 2, 1) := by decide +kernel
theorem dX11_rentsDue_23 : decode cX11_rentsDue 23 = .ok (.iconst 0, 1) := by decide +kernel
theorem dX11_rentsDue_24 : decode cX11_rentsDue 24 = .ok (.invokevirtual 84, 3) := by decide +kernel
theorem dX11_rentsDue_27 : decode cX11_rentsDue 27 = .ok (.iload_n 1, 1) := by decide +kernel
theorem dX11_rentsDue_28 : decode cX11_rentsDue 28 = .ok (.if_icmp .eq 6, 3) := by decide +kernel
theorem dX11_rentsDue_31 : decode cX11_rentsDue 31 = .ok (.goto 36, 3) := by decide +kernel
theorem dX11_rentsDue_34 : decode cX11_rentsDue 34 = .ok (.aload_n 0, 1) := by decide +kernel
theorem dX11_rentsDue_35 : decode cX11_rentsDue 35 = .ok (.iload_n 1, 1) := by decide +kernel
theorem dX11_rentsDue_36 : decode cX11_rentsDue 36 = .ok (.iload_n 2, 1) := by decide +kernel
theorem dX11_rentsDue_37 : decode cX11_rentsDue 37 = .ok (.invokevirtual 274, 3) := by decide +kernel
theorem dX11_rentsDue_40 : decode cX11_rentsDue 40 = .ok (.istore_n 3, 1) := by decide +kernel
theorem dX11_rentsDue_41 : decode cX11_rentsDue 41 = .ok (.aload_n 0, 1) := by decide +kernel
theorem dX11_rentsDue_42 : decode cX11_rentsDue 42 = .ok (.iload_n 1, 1) := by decide +kernel
theorem dX11_rentsDue_43 : decode cX11_rentsDue 43 = .ok (.iconst 0, 1) := by decide +kernel
theorem dX11_rentsDue_44 : decode cX11_rentsDue 44 = .ok (.invokevirtual 76, 3) := by decide +kernel
theorem dX11_rentsDue_47 : decode cX11_rentsDue 47 = .ok (.iload_n 3, 1) := by decide +kernel
theorem dX11_rentsDue_48 : decode cX11_rentsDue 48 = .ok (.if_icmp .ge 13, 3) := by decide +kernel
theorem dX11_rentsDue_51 : decode cX11_rentsDue 51 = .ok (.aload_n 0, 1) := by decide +kernel
theorem dX11_rentsDue_52 : decode cX11_rentsDue 52 = .ok (.iload_n 2, 1) := by decide +kernel
theorem dX11_rentsDue_53 : decode cX11_rentsDue 53 = .ok (.iconst (-1), 1) := by decide +kernel
theorem dX11_rentsDue_54 : decode cX11_rentsDue 54 = .ok (.iconst (-1), 1) := by decide +kernel
theorem dX11_rentsDue_55 : decode cX11_rentsDue 55 = .ok (.invokevirtual 149, 3) := by decide +kernel
theorem dX11_rentsDue_58 : decode cX11_rentsDue 58 = .ok (.goto 9, 3) := by decide +kernel
theorem dX11_rentsDue_61 : decode cX11_rentsDue 61 = .ok (.aload_n 0, 1) := by decide +kernel
theorem dX11_rentsDue_62 : decode cX11_rentsDue 62 = .ok (.iload_n 1, 1) := by decide +kernel
theorem dX11_rentsDue_63 : decode cX11_rentsDue 63 = .ok (.iload_n 3, 1) := by decide +kernel
theorem dX11_rentsDue_64 : decode cX11_rentsDue 64 = .ok (.invokevirtual 295, 3) := by decide +kernel
theorem dX11_rentsDue_67 : decode cX11_rentsDue 67 = .ok (.iinc 2 1, 3) := by decide +kernel
theorem dX11_rentsDue_70 : decode cX11_rentsDue 70 = .ok (.goto (-56), 3) := by decide +kernel
theorem dX11_rentsDue_73 : decode cX11_rentsDue 73 = .ok (.iinc 1 1, 3) := by decide +kernel
theorem dX11_rentsDue_76 : decode cX11_rentsDue 76 = .ok (.goto (-74), 3) := by decide +kernel
theorem dX11_rentsDue_79 : decode cX11_rentsDue 79 = .ok (.return_, 1) := by decide +kernel
theorem dX11_weekMore_0 : decode cX11_weekMore 0 = .ok (.aload_n 0, 1) := by decide +kernel
theorem dX11_weekMore_1 : decode cX11_weekMore 1 = .ok (.getfield 7, 3) := by decide +kernel
theorem dX11_weekMore_4 : decode cX11_weekMore 4 = .ok (.iconst 4, 1) := by decide +kernel
theorem dX11_weekMore_5 : decode cX11_weekMore 5 = .ok (.dup2, 1) := by decide +kernel
theorem dX11_weekMore_6 : decode cX11_weekMore 6 = .ok (.iaload, 1) := by decide +kernel
theorem dX11_weekMore_7 : decode cX11_weekMore 7 = .ok (.iconst 1, 1) := by decide +kernel
theorem dX11_weekMore_8 : decode cX11_weekMore 8 = .ok (.iadd, 1) := by decide +kernel
theorem dX11_weekMore_9 : decode cX11_weekMore 9 = .ok (.iastore, 1) := by decide +kernel
theorem dX11_weekMore_10 : decode cX11_weekMore 10 = .ok (.aload_n 0, 1) := by decide +kernel
theorem dX11_weekMore_11 : decode cX11_weekMore 11 = .ok (.invokevirtual 324, 3) := by decide +kernel
theorem dX11_weekMore_14 : decode cX11_weekMore 14 = .ok (.iconst 0, 1) := by decide +kernel
theorem dX11_weekMore_15 : decode cX11_weekMore 15 = .ok (.istore_n 1, 1) := by decide +kernel
theorem dX11_weekMore_16 : decode cX11_weekMore 16 = .ok (.iload_n 1, 1) := by decide +kernel
theorem dX11_weekMore_17 : decode cX11_weekMore 17 = .ok (.aload_n 0, 1) := by decide +kernel
theorem dX11_weekMore_18 : decode cX11_weekMore 18 = .ok (.getfield 7, 3) := by decide +kernel
theorem dX11_weekMore_21 : decode cX11_weekMore 21 = .ok (.iconst 1, 1) := by decide +kernel
theorem dX11_weekMore_22 : decode cX11_weekMore 22 = .ok (.iaload, 1) := by decide +kernel
theorem dX11_weekMore_23 : decode cX11_weekMore 23 = .ok (.if_icmp .ge 61, 3) := by decide +kernel
theorem dX11_weekMore_26 : decode cX11_weekMore 26 = .ok (.aload_n 0, 1) := by decide +kernel
theorem dX11_weekMore_27 : decode cX11_weekMore 27 = .ok (.iload_n 1, 1) := by decide +kernel
theorem dX11_weekMore_28 : decode cX11_weekMore 28 = .ok (.invokevirtual 80, 3) := by decide +kernel
theorem dX11_weekMore_31 : decode cX11_weekMore 31 = .ok (.ifCond .ne 47, 3) := by decide +kernel
theorem dX11_weekMore_34 : decode cX11_weekMore 34 = .ok (.aload_n 0, 1) := by decide +kernel
theorem dX11_weekMore_35 : decode cX11_weekMore 35 = .ok (.bipush 100, 2) := by decide +kernel
theorem dX11_weekMore_37 : decode cX11_weekMore 37 = .ok (.invokevirtual 327, 3) := by decide +kernel
theorem dX11_weekMore_40 : decode cX11_weekMore 40 = .ok (.aload_n 0, 1) := by decide +kernel
theorem dX11_weekMore_41 : decode cX11_weekMore 41 = .ok (.getfield 7, 3) := by decide +kernel
theorem dX11_weekMore_44 : decode cX11_weekMore 44 = .ok (.bipush 8, 2) := by decide +kernel
theorem dX11_weekMore_46 : decode cX11_weekMore 46 = .ok (.iaload, 1) := by decide +kernel
theorem dX11_weekMore_47 : decode cX11_weekMore 47 = .ok (.if_icmp .lt 6, 3) := by decide +kernel
theorem dX11_weekMore_50 : decode cX11_weekMore 50 = .ok (.goto 28, 3) := by decide +kernel
theorem dX11_weekMore_53 : decode cX11_weekMore 53 = .ok (.aload_n 0, 1) := by decide +kernel
theorem dX11_weekMore_54 : decode cX11_weekMore 54 = .ok (.sipush 168, 3) := by decide +kernel
theorem dX11_weekMore_57 : decode cX11_weekMore 57 = .ok (.invokevirtual 327, 3) := by decide +kernel
theorem dX11_weekMore_60 : decode cX11_weekMore 60 = .ok (.istore_n 2, 1) := by decide +kernel
theorem dX11_weekMore_61 : decode cX11_weekMore 61 = .ok (.aload_n 0, 1) := by decide +kernel
theorem dX11_weekMore_62 : decode cX11_weekMore 62 = .ok (.iload_n 1, 1) := by decide +kernel
theorem dX11_weekMore_63 : decode cX11_weekMore 63 = .ok (.iload_n 2, 1) := by decide +kernel
theorem dX11_weekMore_64 : decode cX11_weekMore 64 = .ok (.invokevirtual 301, 3) := by decide +kernel
theorem dX11_weekMore_67 : decode cX11_weekMore 67 = .ok (.ifCond .eq 11, 3) := by decide +kernel
theorem dX11_weekMore_70 : decode cX11_weekMore 70 = .ok (.aload_n 0, 1) := by decide +kernel
theorem dX11_weekMore_71 : decode cX11_weekMore 71 = .ok (.iload_n 1, 1) := by decide +kernel
theorem dX11_weekMore_72 : decode cX11_weekMore 72 = .ok (.iload_n 2, 1) := by decide +kernel
theorem dX11_weekMore_73 : decode cX11_weekMore 73 = .ok (.iconst 5, 1) := by decide +kernel
theorem dX11_weekMore_74 : decode cX11_weekMore 74 = .ok (.invokevirtual 308, 3) := by decide +kernel
theorem dX11_weekMore_77 : decode cX11_weekMore 77 = .ok (.pop, 1) := by decide +kernel
theorem dX11_weekMore_78 : decode cX11_weekMore 78 = .ok (.iinc 1 1, 3) := by decide +kernel
theorem dX11_weekMore_81 : decode cX11_weekMore 81 = .ok (.goto (-65), 3) := by decide +kernel
theorem dX11_weekMore_84 : decode cX11_weekMore 84 = .ok (.return_, 1) := by decide +kernel
theorem dX11_ticks_0 : decode cX11_ticks 0 = .ok (.aload_n 0, 1) := by decide +kernel
theorem dX11_ticks_1 : decode cX11_ticks 1 = .ok (.iload_n 1, 1) := by decide +kernel
theorem dX11_ticks_2 : decode cX11_ticks 2 = .ok (.iconst 1, 1) := by decide +kernel
theorem dX11_ticks_3 : decode cX11_ticks 3 = .ok (.sipush 400, 3) := by decide +kernel
theorem dX11_ticks_6 : decode cX11_ticks 6 = .ok (.invokestatic 72, 3) := by decide +kernel
theorem dX11_ticks_9 : decode cX11_ticks 9 = .ok (.ifCond .ne 7, 3) := by decide +kernel
theorem dX11_ticks_12 : decode cX11_ticks 12 = .ok (.iconst 1, 1) := by decide +kernel
theorem dX11_ticks_13 : decode cX11_ticks 13 = .ok (.goto 4, 3) := by decide +kernel
theorem dX11_ticks_16 : decode cX11_ticks 16 = .ok (.iconst 0, 1) := by decide +kernel
theorem dX11_ticks_17 : decode cX11_ticks 17 = .ok (.putfield 69, 3) := by decide +kernel
theorem dX11_ticks_20 : decode cX11_ticks 20 = .ok (.aload_n 0, 1) := by decide +kernel
theorem dX11_ticks_21 : decode cX11_ticks 21 = .ok (.getfield 69, 3) := by decide +kernel
theorem dX11_ticks_24 : decode cX11_ticks 24 = .ok (.ifCond .le 5, 3) := by decide +kernel
theorem dX11_ticks_27 : decode cX11_ticks 27 = .ok (.iconst 0, 1) := by decide +kernel
theorem dX11_ticks_28 : decode cX11_ticks 28 = .ok (.ireturn, 1) := by decide +kernel
theorem dX11_ticks_29 : decode cX11_ticks 29 = .ok (.aload_n 0, 1) := by decide +kernel
theorem dX11_ticks_30 : decode cX11_ticks 30 = .ok (.invokevirtual 305, 3) := by decide +kernel
theorem dX11_ticks_33 : decode cX11_ticks 33 = .ok (.aload_n 0, 1) := by decide +kernel
theorem dX11_ticks_34 : decode cX11_ticks 34 = .ok (.getfield 7, 3) := by decide +kernel
theorem dX11_ticks_37 : decode cX11_ticks 37 = .ok (.bipush 6, 2) := by decide +kernel
theorem dX11_ticks_39 : decode cX11_ticks 39 = .ok (.iaload, 1) := by decide +kernel
theorem dX11_ticks_40 : decode cX11_ticks 40 = .ok (.istore_n 2, 1) := by decide +kernel
theorem dX11_ticks_41 : decode cX11_ticks 41 = .ok (.iconst 0, 1) := by decide +kernel
theorem dX11_ticks_42 : decode cX11_ticks 42 = .ok (.istore_n 3, 1) := by decide +kernel
theorem dX11_ticks_43 : decode cX11_ticks 43 = .ok (.iload_n 3, 1) := by decide +kernel
theorem dX11_ticks_44 : decode cX11_ticks 44 = .ok (.iload_n 1, 1) := by decide +kernel
theorem dX11_ticks_45 : decode cX11_ticks 45 = .ok (.if_icmp .ge 40, 3) := by decide +kernel
theorem dX11_ticks_48 : decode cX11_ticks 48 = .ok (.aload_n 0, 1) := by decide +kernel
theorem dX11_ticks_49 : decode cX11_ticks 49 = .ok (.getfield 7, 3) := by decide +kernel
theorem dX11_ticks_52 : decode cX11_ticks 52 = .ok (.iconst 5, 1) := by decide +kernel
theorem dX11_ticks_53 : decode cX11_ticks 53 = .ok (.aload_n 0, 1) := by decide +kernel
theorem dX11_ticks_54 : decode cX11_ticks 54 = .ok (.getfield 7, 3) := by decide +kernel
theorem dX11_ticks_57 : decode cX11_ticks 57 = .ok (.iconst 5, 1) := by decide +kernel
theorem dX11_ticks_58 : decode cX11_ticks 58 = .ok (.iaload, 1) := by decide +kernel
theorem dX11_ticks_59 : decode cX11_ticks 59 = .ok (.iconst 1, 1) := by decide +kernel
theorem dX11_ticks_60 : decode cX11_ticks 60 = .ok (.iadd, 1) := by decide +kernel
theorem dX11_ticks_61 : decode cX11_ticks 61 = .ok (.sipush 168, 3) := by decide +kernel
theorem dX11_ticks_64 : decode cX11_ticks 64 = .ok (.irem, 1) := by decide +kernel
theorem dX11_ticks_65 : decode cX11_ticks 65 = .ok (.iastore, 1) := by decide +kernel
theorem dX11_ticks_66 : decode cX11_ticks 66 = .ok (.aload_n 0, 1) := by decide +kernel
theorem dX11_ticks_67 : decode cX11_ticks 67 = .ok (.getfield 7, 3) := by decide +kernel
theorem dX11_ticks_70 : decode cX11_ticks 70 = .ok (.iconst 5, 1) := by decide +kernel
theorem dX11_ticks_71 : decode cX11_ticks 71 = .ok (.iaload, 1) := by decide +kernel
theorem dX11_ticks_72 : decode cX11_ticks 72 = .ok (.ifCond .ne 7, 3) := by decide +kernel
theorem dX11_ticks_75 : decode cX11_ticks 75 = .ok (.aload_n 0, 1) := by decide +kernel
theorem dX11_ticks_76 : decode cX11_ticks 76 = .ok (.invokevirtual 330, 3) := by decide +kernel
theorem dX11_ticks_79 : decode cX11_ticks 79 = .ok (.iinc 3 1, 3) := by decide +kernel
theorem dX11_ticks_82 : decode cX11_ticks 82 = .ok (.goto (-39), 3) := by decide +kernel
theorem dX11_ticks_85 : decode cX11_ticks 85 = .ok (.aload_n 0, 1) := by decide +kernel
theorem dX11_ticks_86 : decode cX11_ticks 86 = .ok (.getfield 7, 3) := by decide +kernel
theorem dX11_ticks_89 : decode cX11_ticks 89 = .ok (.bipush 6, 2) := by decide +kernel
theorem dX11_ticks_91 : decode cX11_ticks 91 = .ok (.iaload, 1) := by decide +kernel
theorem dX11_ticks_92 : decode cX11_ticks 92 = .ok (.iload_n 2, 1) := by decide +kernel
theorem dX11_ticks_93 : decode cX11_ticks 93 = .ok (.isub, 1) := by decide +kernel
theorem dX11_ticks_94 : decode cX11_ticks 94 = .ok (.ireturn, 1) := by decide +kernel
theorem dX11_areNeighbours_0 : decode cX11_areNeighbours 0 = .ok (.aload_n 0, 1) := by decide +kernel
theorem dX11_areNeighbours_1 : decode cX11_areNeighbours 1 = .ok (.iload_n 3, 1) := by decide +kernel
theorem dX11_areNeighbours_2 : decode cX11_areNeighbours 2 = .ok (.invokevirtual 264, 3) := by decide +kernel
theorem dX11_areNeighbours_5 : decode cX11_areNeighbours 5 = .ok (.aload_n 0, 1) := by decide +kernel
theorem dX11_areNeighbours_6 : decode cX11_areNeighbours 6 = .ok (.iload_n 1, 1) := by decide +kernel
theorem dX11_areNeighbours_7 : decode cX11_areNeighbours 7 = .ok (.invokevirtual 87, 3) := by decide +kernel
theorem dX11_areNeighbours_10 : decode cX11_areNeighbours 10 = .ok (.if_icmp .ne 22, 3) := by decide +kernel
theorem dX11_areNeighbours_13 : decode cX11_areNeighbours 13 = .ok (.aload_n 0, 1) := by decide +kernel
theorem dX11_areNeighbours_14 : decode cX11_areNeighbours 14 = .ok (.iload_n 3, 1) := by decide +kernel
theorem dX11_areNeighbours_15 : decode cX11_areNeighbours 15 = .ok (.iconst 1, 1) := by decide +kernel
theorem dX11_areNeighbours_16 : decode cX11_areNeighbours 16 = .ok (.iadd, 1) := by decide +kernel
theorem dX11_areNeighbours_17 : decode cX11_areNeighbours 17 = .ok (.invokevirtual 264, 3) := by decide +kernel
theorem dX11_areNeighbours_20 : decode cX11_areNeighbours 20 = .ok (.aload_n 0, 1) := by decide +kernel
theorem dX11_areNeighbours_21 : decode cX11_areNeighbours 21 = .ok (.iload_n 2, 1) := by decide +kernel
theorem dX11_areNeighbours_22 : decode cX11_areNeighbours 22 = .ok (.invokevirtual 87, 3) := by decide +kernel
theorem dX11_areNeighbours_25 : decode cX11_areNeighbours 25 = .ok (.if_icmp .ne 7, 3) := by decide +kernel
theorem dX11_areNeighbours_28 : decode cX11_areNeighbours 28 = .ok (.iconst 1, 1) := by decide +kernel
theorem dX11_areNeighbours_29 : decode cX11_areNeighbours 29 = .ok (.goto 4, 3) := by decide +kernel
theorem dX11_areNeighbours_32 : decode cX11_areNeighbours 32 = .ok (.iconst 0, 1) := by decide +kernel
theorem dX11_areNeighbours_33 : decode cX11_areNeighbours 33 = .ok (.ireturn, 1) := by decide +kernel
theorem dX11_neighbours_0 : decode cX11_neighbours 0 = .ok (.aload_n 0, 1) := by decide +kernel
theorem dX11_neighbours_1 : decode cX11_neighbours 1 = .ok (.aload_n 0, 1) := by decide +kernel
theorem dX11_neighbours_2 : decode cX11_neighbours 2 = .ok (.iload_n 1, 1) := by decide +kernel
theorem dX11_neighbours_3 : decode cX11_neighbours 3 = .ok (.invokevirtual 277, 3) := by decide +kernel
theorem dX11_neighbours_6 : decode cX11_neighbours 6 = .ok (.ifCond .eq 11, 3) := by decide +kernel
theorem dX11_neighbours_9 : decode cX11_neighbours 9 = .ok (.aload_n 0, 1) := by decide +kernel
theorem dX11_neighbours_10 : decode cX11_neighbours 10 = .ok (.iload_n 2, 1) := by decide +kernel
theorem dX11_neighbours_11 : decode cX11_neighbours 11 = .ok (.invokevirtual 277, 3) := by decide +kernel
theorem dX11_neighbours_14 : decode cX11_neighbours 14 = .ok (.ifCond .ne 7, 3) := by decide +kernel
theorem dX11_neighbours_17 : decode cX11_neighbours 17 = .ok (.iconst 1, 1) := by decide +kernel
theorem dX11_neighbours_18 : decode cX11_neighbours 18 = .ok (.goto 4, 3) := by decide +kernel
theorem dX11_neighbours_21 : decode cX11_neighbours 21 = .ok (.iconst 0, 1) := by decide +kernel
theorem dX11_neighbours_22 : decode cX11_neighbours 22 = .ok (.putfield 69, 3) := by decide +kernel
theorem dX11_neighbours_25 : decode cX11_neighbours 25 = .ok (.aload_n 0, 1) := by decide +kernel
theorem dX11_neighbours_26 : decode cX11_neighbours 26 = .ok (.getfield 69, 3) := by decide +kernel
theorem dX11_neighbours_29 : decode cX11_neighbours 29 = .ok (.ifCond .le 5, 3) := by decide +kernel
theorem dX11_neighbours_32 : decode cX11_neighbours 32 = .ok (.iconst 0, 1) := by decide +kernel
theorem dX11_neighbours_33 : decode cX11_neighbours 33 = .ok (.ireturn, 1) := by decide +kernel
theorem dX11_neighbours_34 : decode cX11_neighbours 34 = .ok (.iconst 0, 1) := by decide +kernel
theorem dX11_neighbours_35 : decode cX11_neighbours 35 = .ok (.istore 4, 2) := by decide +kernel
theorem dX11_neighbours_37 : decode cX11_neighbours 37 = .ok (.iconst 0, 1) := by decide +kernel
theorem dX11_neighbours_38 : decode cX11_neighbours 38 = .ok (.istore 5, 2) := by decide +kernel
theorem dX11_neighbours_40 : decode cX11_neighbours 40 = .ok (.iload 5, 2) := by decide +kernel
theorem dX11_neighbours_42 : decode cX11_neighbours 42 = .ok (.sipush 168, 3) := by decide +kernel
theorem dX11_neighbours_45 : decode cX11_neighbours 45 = .ok (.if_icmp .ge 33, 3) := by decide +kernel
theorem dX11_neighbours_48 : decode cX11_neighbours 48 = .ok (.aload_n 0, 1) := by decide +kernel
theorem dX11_neighbours_49 : decode cX11_neighbours 49 = .ok (.iload_n 1, 1) := by decide +kernel
theorem dX11_neighbours_50 : decode cX11_neighbours 50 = .ok (.iload_n 2, 1) := by decide +kernel
theorem dX11_neighbours_51 : decode cX11_neighbours 51 = .ok (.iload 5, 2) := by decide +kernel
theorem dX11_neighbours_53 : decode cX11_neighbours 53 = .ok (.invokevirtual 333, 3) := by decide +kernel
theorem dX11_neighbours_56 : decode cX11_neighbours 56 = .ok (.ifCond .ne 6, 3) := by decide +kernel
theorem dX11_neighbours_59 : decode cX11_neighbours 59 = .ok (.goto 13, 3) := by decide +kernel
theorem dX11_neighbours_62 : decode cX11_neighbours 62 = .ok (.iload_n 3, 1) := by decide +kernel
theorem dX11_neighbours_63 : decode cX11_neighbours 63 = .ok (.ifCond .eq 6, 3) := by decide +kernel
theorem dX11_neighbours_66 : decode cX11_neighbours 66 = .ok (.iload 5, 2) := by decide +kernel
theorem dX11_neighbours_68 : decode cX11_neighbours 68 = .ok (.ireturn, 1) := by decide +kernel
theorem dX11_neighbours_69 : decode cX11_neighbours 69 = .ok (.iinc 4 1, 3) := by decide +kernel
theorem dX11_neighbours_72 : decode cX11_neighbours 72 = .ok (.iinc 5 1, 3) := by decide +kernel
theorem dX11_neighbours_75 : decode cX11_neighbours 75 = .ok (.goto (-35), 3) := by decide +kernel
theorem dX11_neighbours_78 : decode cX11_neighbours 78 = .ok (.iload_n 3, 1) := by decide +kernel
theorem dX11_neighbours_79 : decode cX11_neighbours 79 = .ok (.ifCond .eq 7, 3) := by decide +kernel
theorem dX11_neighbours_82 : decode cX11_neighbours 82 = .ok (.iconst (-1), 1) := by decide +kernel
theorem dX11_neighbours_83 : decode cX11_neighbours 83 = .ok (.goto 5, 3) := by decide +kernel
theorem dX11_neighbours_86 : decode cX11_neighbours 86 = .ok (.iload 4, 2) := by decide +kernel
theorem dX11_neighbours_88 : decode cX11_neighbours 88 = .ok (.ireturn, 1) := by decide +kernel
theorem dX11_runs_0 : decode cX11_runs 0 = .ok (.iconst 0, 1) := by decide +kernel
theorem dX11_runs_1 : decode cX11_runs 1 = .ok (.istore 4, 2) := by decide +kernel
theorem dX11_runs_3 : decode cX11_runs 3 = .ok (.iconst (-1), 1) := by decide +kernel
theorem dX11_runs_4 : decode cX11_runs 4 = .ok (.istore 5, 2) := by decide +kernel
theorem dX11_runs_6 : decode cX11_runs 6 = .ok (.iconst 0, 1) := by decide +kernel
theorem dX11_runs_7 : decode cX11_runs 7 = .ok (.istore 6, 2) := by decide +kernel
theorem dX11_runs_9 : decode cX11_runs 9 = .ok (.iload 6, 2) := by decide +kernel
theorem dX11_runs_11 : decode cX11_runs 11 = .ok (.sipush 168, 3) := by decide +kernel
theorem dX11_runs_14 : decode cX11_runs 14 = .ok (.if_icmp .ge 62, 3) := by decide +kernel
theorem dX11_runs_17 : decode cX11_runs 17 = .ok (.iconst 0, 1) := by decide +kernel
theorem dX11_runs_18 : decode cX11_runs 18 = .ok (.istore 7, 2) := by decide +kernel
theorem dX11_runs_20 : decode cX11_runs 20 = .ok (.iload 7, 2) := by decide +kernel
theorem dX11_runs_22 : decode cX11_runs 22 = .ok (.sipush 168, 3) := by decide +kernel
theorem dX11_runs_25 : decode cX11_runs 25 = .ok (.if_icmp .ge 27, 3) := by decide +kernel
theorem dX11_runs_28 : decode cX11_runs 28 = .ok (.aload_n 0, 1) := by decide +kernel
theorem dX11_runs_29 : decode cX11_runs 29 = .ok (.iload 6, 2) := by decide +kernel
theorem dX11_runs_31 : decode cX11_runs 31 = .ok (.iload 7, 2) := by decide +kernel
theorem dX11_runs_33 : decode cX11_runs 33 = .ok (.iadd, 1) := by decide +kernel
theorem dX11_runs_34 : decode cX11_runs 34 = .ok (.sipush 168, 3) := by decide +kernel
theorem dX11_runs_37 : decode cX11_runs 37 = .ok (.irem, 1) := by decide +kernel
theorem dX11_runs_38 : decode cX11_runs 38 = .ok (.iload_n 1, 1) := by decide +kernel
theorem dX11_runs_39 : decode cX11_runs 39 = .ok (.invokevirtual 84, 3) := by decide +kernel
theorem dX11_runs_42 : decode cX11_runs 42 = .ok (.iload_n 2, 1) := by decide +kernel
theorem dX11_runs_43 : decode cX11_runs 43 = .ok (.if_icmp .ne 9, 3) := by decide +kernel
theorem dX11_runs_46 : decode cX11_runs 46 = .ok (.iinc 7 1, 3) := by decide +kernel
theorem dX11_runs_49 : decode cX11_runs 49 = .ok (.goto (-29), 3) := by decide +kernel
theorem dX11_runs_52 : decode cX11_runs 52 = .ok (.iload 7, 2) := by decide +kernel
theorem dX11_runs_54 : decode cX11_runs 54 = .ok (.iload 4, 2) := by decide +kernel
theorem dX11_runs_56 : decode cX11_runs 56 = .ok (.if_icmp .gt 6, 3) := by decide +kernel
theorem dX11_runs_59 : decode cX11_runs 59 = .ok (.goto 11, 3) := by decide +kernel
theorem dX11_runs_62 : decode cX11_runs 62 = .ok (.iload 7, 2) := by decide +kernel
theorem dX11_runs_64 : decode cX11_runs 64 = .ok (.istore 4, 2) := by decide +kernel
theorem dX11_runs_66 : decode cX11_runs 66 = .ok (.iload 6, 2) := by decide +kernel
theorem dX11_runs_68 : decode cX11_runs 68 = .ok (.istore 5, 2) := by decide +kernel
theorem dX11_runs_70 : decode cX11_runs 70 = .ok (.iinc 6 1, 3) := by decide +kernel
theorem dX11_runs_73 : decode cX11_runs 73 = .ok (.goto (-64), 3) := by decide +kernel
theorem dX11_runs_76 : decode cX11_runs 76 = .ok (.iload_n 3, 1) := by decide +kernel
theorem dX11_runs_77 : decode cX11_runs 77 = .ok (.ifCond .eq 8, 3) := by decide +kernel
theorem dX11_runs_80 : decode cX11_runs 80 = .ok (.iload 5, 2) := by decide +kernel
theorem dX11_runs_82 : decode cX11_runs 82 = .ok (.goto 5, 3) := by decide +kernel
theorem dX11_runs_85 : decode cX11_runs 85 = .ok (.iload 4, 2) := by decide +kernel
theorem dX11_runs_87 : decode cX11_runs 87 = .ok (.ireturn, 1) := by decide +kernel
theorem dX11_run_0 : decode cX11_run 0 = .ok (.aload_n 0, 1) := by decide +kernel
theorem dX11_run_1 : decode cX11_run 1 = .ok (.aload_n 0, 1) := by decide +kernel
theorem dX11_run_2 : decode cX11_run 2 = .ok (.iload_n 1, 1) := by decide +kernel
theorem dX11_run_3 : decode cX11_run 3 = .ok (.invokevirtual 277, 3) := by decide +kernel
theorem dX11_run_6 : decode cX11_run 6 = .ok (.ifCond .ne 7, 3) := by decide +kernel
theorem dX11_run_9 : decode cX11_run 9 = .ok (.iconst 1, 1) := by decide +kernel
theorem dX11_run_10 : decode cX11_run 10 = .ok (.goto 4, 3) := by decide +kernel
theorem dX11_run_13 : decode cX11_run 13 = .ok (.iconst 0, 1) := by decide +kernel
theorem dX11_run_14 : decode cX11_run 14 = .ok (.putfield 69, 3) := by decide +kernel
theorem dX11_run_17 : decode cX11_run 17 = .ok (.aload_n 0, 1) := by decide +kernel
theorem dX11_run_18 : decode cX11_run 18 = .ok (.getfield 69, 3) := by decide +kernel
theorem dX11_run_21 : decode cX11_run 21 = .ok (.ifCond .le 5, 3) := by decide +kernel
theorem dX11_run_24 : decode cX11_run 24 = .ok (.iconst 0, 1) := by decide +kernel
theorem dX11_run_25 : decode cX11_run 25 = .ok (.ireturn, 1) := by decide +kernel
theorem dX11_run_26 : decode cX11_run 26 = .ok (.aload_n 0, 1) := by decide +kernel
theorem dX11_run_27 : decode cX11_run 27 = .ok (.iconst 1, 1) := by decide +kernel
theorem dX11_run_28 : decode cX11_run 28 = .ok (.aload_n 0, 1) := by decide +kernel
theorem dX11_run_29 : decode cX11_run 29 = .ok (.iload_n 1, 1) := by decide +kernel
theorem dX11_run_30 : decode cX11_run 30 = .ok (.invokevirtual 87, 3) := by decide +kernel
theorem dX11_run_33 : decode cX11_run 33 = .ok (.iload_n 2, 1) := by decide +kernel
theorem dX11_run_34 : decode cX11_run 34 = .ok (.invokevirtual 336, 3) := by decide +kernel
theorem dX11_run_37 : decode cX11_run 37 = .ok (.ireturn, 1) := by decide +kernel
theorem dX11_empty_0 : decode cX11_empty 0 = .ok (.aload_n 0, 1) := by decide +kernel
theorem dX11_empty_1 : decode cX11_empty 1 = .ok (.iconst 0, 1) := by decide +kernel
theorem dX11_empty_2 : decode cX11_empty 2 = .ok (.putfield 69, 3) := by decide +kernel
theorem dX11_empty_5 : decode cX11_empty 5 = .ok (.aload_n 0, 1) := by decide +kernel
theorem dX11_empty_6 : decode cX11_empty 6 = .ok (.iconst 0, 1) := by decide +kernel
theorem dX11_empty_7 : decode cX11_empty 7 = .ok (.iconst (-1), 1) := by decide +kernel
theorem dX11_empty_8 : decode cX11_empty 8 = .ok (.iload_n 1, 1) := by decide +kernel
theorem dX11_empty_9 : decode cX11_empty 9 = .ok (.invokevirtual 336, 3) := by decide +kernel
theorem dX11_empty_12 : decode cX11_empty 12 = .ok (.ireturn, 1) := by decide +kernel
theorem dX11_wedding_0 : decode cX11_wedding 0 = .ok (.aload_n 0, 1) := by decide +kernel
theorem dX11_wedding_1 : decode cX11_wedding 1 = .ok (.aload_n 0, 1) := by decide +kernel
theorem dX11_wedding_2 : decode cX11_wedding 2 = .ok (.iload_n 1, 1) := by decide +kernel
theorem dX11_wedding_3 : decode cX11_wedding 3 = .ok (.invokevirtual 277, 3) := by decide +kernel
theorem dX11_wedding_6 : decode cX11_wedding 6 = .ok (.ifCond .eq 11, 3) := by decide +kernel
theorem dX11_wedding_9 : decode cX11_wedding 9 = .ok (.aload_n 0, 1) := by decide +kernel
theorem dX11_wedding_10 : decode cX11_wedding 10 = .ok (.iload_n 2, 1) := by decide +kernel
theorem dX11_wedding_11 : decode cX11_wedding 11 = .ok (.invokevirtual 277, 3) := by decide +kernel
theorem dX11_wedding_14 : decode cX11_wedding 14 = .ok (.ifCond .ne 7, 3) := by decide +kernel
theorem dX11_wedding_17 : decode cX11_wedding 17 = .ok (.iconst 1, 1) := by decide +kernel
theorem dX11_wedding_18 : decode cX11_wedding 18 = .ok (.goto 13, 3) := by decide +kernel
theorem dX11_wedding_21 : decode cX11_wedding 21 = .ok (.iload_n 1, 1) := by decide +kernel
theorem dX11_wedding_22 : decode cX11_wedding 22 = .ok (.iload_n 2, 1) := by decide +kernel
theorem dX11_wedding_23 : decode cX11_wedding 23 = .ok (.if_icmp .ne 7, 3) := by decide +kernel
theorem dX11_wedding_26 : decode cX11_wedding 26 = .ok (.iconst 2, 1) := by decide +kernel
theorem dX11_wedding_27 : decode cX11_wedding 27 = .ok (.goto 4, 3) := by decide +kernel
theorem dX11_wedding_30 : decode cX11_wedding 30 = .ok (.iconst 0, 1) := by decide +kernel
theorem dX11_wedding_31 : decode cX11_wedding 31 = .ok (.putfield 69, 3) := by decide +kernel
theorem dX11_wedding_34 : decode cX11_wedding 34 = .ok (.aload_n 0, 1) := by decide +kernel
theorem dX11_wedding_35 : decode cX11_wedding 35 = .ok (.getfield 69, 3) := by decide +kernel
theorem dX11_wedding_38 : decode cX11_wedding 38 = .ok (.ifCond .le 5, 3) := by decide +kernel
theorem dX11_wedding_41 : decode cX11_wedding 41 = .ok (.iconst 0, 1) := by decide +kernel
theorem dX11_wedding_42 : decode cX11_wedding 42 = .ok (.ireturn, 1) := by decide +kernel
theorem dX11_wedding_43 : decode cX11_wedding 43 = .ok (.iconst 0, 1) := by decide +kernel
theorem dX11_wedding_44 : decode cX11_wedding 44 = .ok (.istore_n 3, 1) := by decide +kernel
theorem dX11_wedding_45 : decode cX11_wedding 45 = .ok (.iload_n 3, 1) := by decide +kernel
theorem dX11_wedding_46 : decode cX11_wedding 46 = .ok (.sipush 168, 3) := by decide +kernel
theorem dX11_wedding_49 : decode cX11_wedding 49 = .ok (.if_icmp .ge 48, 3) := by decide +kernel
theorem dX11_wedding_52 : decode cX11_wedding 52 = .ok (.aload_n 0, 1) := by decide +kernel
theorem dX11_wedding_53 : decode cX11_wedding 53 = .ok (.getfield 7, 3) := by decide +kernel
theorem dX11_wedding_56 : decode cX11_wedding 56 = .ok (.iconst 5, 1) := by decide +kernel
theorem dX11_wedding_57 : decode cX11_wedding 57 = .ok (.iaload, 1) := by decide +kernel
theorem dX11_wedding_58 : decode cX11_wedding 58 = .ok (.iload_n 3, 1) := by decide +kernel
theorem dX11_wedding_59 : decode cX11_wedding 59 = .ok (.iadd, 1) := by decide +kernel
theorem dX11_wedding_60 : decode cX11_wedding 60 = .ok (.sipush 168, 3) := by decide +kernel
theorem dX11_wedding_63 : decode cX11_wedding 63 = .ok (.irem, 1) := by decide +kernel
theorem dX11_wedding_64 : decode cX11_wedding 64 = .ok (.istore 4, 2) := by decide +kernel
theorem dX11_wedding_66 : decode cX11_wedding 66 = .ok (.aload_n 0, 1) := by decide +kernel
theorem dX11_wedding_67 : decode cX11_wedding 67 = .ok (.iload_n 1, 1) := by decide +kernel
theorem dX11_wedding_68 : decode cX11_wedding 68 = .ok (.iload_n 2, 1) := by decide +kernel
theorem dX11_wedding_69 : decode cX11_wedding 69 = .ok (.iload 4, 2) := by decide +kernel
theorem dX11_wedding_71 : decode cX11_wedding 71 = .ok (.invokevirtual 333, 3) := by decide +kernel
theorem dX11_wedding_74 : decode cX11_wedding 74 = .ok (.ifCond .ne 14, 3) := by decide +kernel
theorem dX11_wedding_77 : decode cX11_wedding 77 = .ok (.aload_n 0, 1) := by decide +kernel
theorem dX11_wedding_78 : decode cX11_wedding 78 = .ok (.iload_n 2, 1) := by decide +kernel
theorem dX11_wedding_79 : decode cX11_wedding 79 = .ok (.iload_n 1, 1) := by decide +kernel
theorem dX11_wedding_80 : decode cX11_wedding 80 = .ok (.iload 4, 2) := by decide +kernel
theorem dX11_wedding_82 : decode cX11_wedding 82 = .ok (.invokevirtual 333, 3) := by decide +kernel
theorem dX11_wedding_85 : decode cX11_wedding 85 = .ok (.ifCond .eq 6, 3) := by decide +kernel
theorem dX11_wedding_88 : decode cX11_wedding 88 = .ok (.iload 4, 2) := by decide +kernel
theorem dX11_wedding_90 : decode cX11_wedding 90 = .ok (.ireturn, 1) := by decide +kernel
theorem dX11_wedding_91 : decode cX11_wedding 91 = .ok (.iinc 3 1, 3) := by decide +kernel
theorem dX11_wedding_94 : decode cX11_wedding 94 = .ok (.goto (-49), 3) := by decide +kernel
theorem dX11_wedding_97 : decode cX11_wedding 97 = .ok (.iconst (-1), 1) := by decide +kernel
theorem dX11_wedding_98 : decode cX11_wedding 98 = .ok (.ireturn, 1) := by decide +kernel
theorem dX11_court_0 : decode cX11_court 0 = .ok (.aload_n 0, 1) := by decide +kernel
theorem dX11_court_1 : decode cX11_court 1 = .ok (.iconst 0, 1) := by decide +kernel
theorem dX11_court_2 : decode cX11_court 2 = .ok (.putfield 69, 3) := by decide +kernel
theorem dX11_court_5 : decode cX11_court 5 = .ok (.iconst 0, 1) := by decide +kernel
theorem dX11_court_6 : decode cX11_court 6 = .ok (.istore_n 3, 1) := by decide +kernel
theorem dX11_court_7 : decode cX11_court 7 = .ok (.iconst (-1), 1) := by decide +kernel
theorem dX11_court_8 : decode cX11_court 8 = .ok (.istore 4, 2) := by decide +kernel
theorem dX11_court_10 : decode cX11_court 10 = .ok (.iconst 0, 1) := by decide +kernel
theorem dX11_court_11 : decode cX11_court 11 = .ok (.istore 5, 2) := by decide +kernel
theorem dX11_court_13 : decode cX11_court 13 = .ok (.iload 5, 2) := by decide +kernel
theorem dX11_court_15 : decode cX11_court 15 = .ok (.sipush 168, 3) := by decide +kernel
theorem dX11_court_18 : decode cX11_court 18 = .ok (.if_icmp .ge 155, 3) := by decide +kernel
theorem dX11_court_21 : decode cX11_court 21 = .ok (.iconst 0, 1) := by decide +kernel
theorem dX11_court_22 : decode cX11_court 22 = .ok (.istore 6, 2) := by decide +kernel
theorem dX11_court_24 : decode cX11_court 24 = .ok (.iload 6, 2) := by decide +kernel
theorem dX11_court_26 : decode cX11_court 26 = .ok (.bipush 10, 2) := by decide +kernel
theorem dX11_court_28 : decode cX11_court 28 = .ok (.if_icmp .ge 41, 3) := by decide +kernel
theorem dX11_court_31 : decode cX11_court 31 = .ok (.aload_n 0, 1) := by decide +kernel
theorem dX11_court_32 : decode cX11_court 32 = .ok (.getfield 51, 3) := by decide +kernel
theorem dX11_court_35 : decode cX11_court 35 = .ok (.iload 6, 2) := by decide +kernel
theorem dX11_court_37 : decode cX11_court 37 = .ok (.iload 6, 2) := by decide +kernel
theorem dX11_court_39 : decode cX11_court 39 = .ok (.aload_n 0, 1) := by decide +kernel
theorem dX11_court_40 : decode cX11_court 40 = .ok (.getfield 7, 3) := by decide +kernel
theorem dX11_court_43 : decode cX11_court 43 = .ok (.iconst 1, 1) := by decide +kernel
theorem dX11_court_44 : decode cX11_court 44 = .ok (.iaload, 1) := by decide +kernel
theorem dX11_court_45 : decode cX11_court 45 = .ok (.if_icmp .ge 16, 3) := by decide +kernel
theorem dX11_court_48 : decode cX11_court 48 = .ok (.iload_n 1, 1) := by decide +kernel
theorem dX11_court_49 : decode cX11_court 49 = .ok (.iload 6, 2) := by decide +kernel
theorem dX11_court_51 : decode cX11_court 51 = .ok (.invokestatic 340, 3) := by decide +kernel
theorem dX11_court_54 : decode cX11_court 54 = .ok (.ifCond .eq 7, 3) := by decide +kernel
theorem dX11_court_57 : decode cX11_court 57 = .ok (.iconst 1, 1) := by decide +kernel
theorem dX11_court_58 : decode cX11_court 58 = .ok (.goto 4, 3) := by decide +kernel
theorem dX11_court_61 : decode cX11_court 61 = .ok (.iconst 0, 1) := by decide +kernel
theorem dX11_court_62 : decode cX11_court 62 = .ok (.iastore, 1) := by decide +kernel
theorem dX11_court_63 : decode cX11_court 63 = .ok (.iinc 6 1, 3) := by decide +kernel
theorem dX11_court_66 : decode cX11_court 66 = .ok (.goto (-42), 3) := by decide +kernel
theorem dX11_court_69 : decode cX11_court 69 = .ok (.iconst 0, 1) := by decide +kernel
theorem dX11_court_70 : decode cX11_court 70 = .ok (.istore 6, 2) := by decide +kernel
theorem dX11_court_72 : decode cX11_court 72 = .ok (.iconst 1, 1) := by decide +kernel
theorem dX11_court_73 : decode cX11_court 73 = .ok (.istore 7, 2) := by decide +kernel
theorem dX11_court_75 : decode cX11_court 75 = .ok (.iload 7, 2) := by decide +kernel
theorem dX11_court_77 : decode cX11_court 77 = .ok (.ifCond .eq 74, 3) := by decide +kernel
theorem dX11_court_80 : decode cX11_court 80 = .ok (.iload 6, 2) := by decide +kernel
theorem dX11_court_82 : decode cX11_court 82 = .ok (.sipush 168, 3) := by decide +kernel
theorem dX11_court_85 : decode cX11_court 85 = .ok (.if_icmp .ge 66, 3) := by decide +kernel
theorem dX11_court_88 : decode cX11_court 88 = .ok (.aload_n 0, 1) := by decide +kernel
theorem dX11_court_89 : decode cX11_court 89 = .ok (.iload 5, 2) := by decide +kernel
theorem dX11_court_91 : decode cX11_court 91 = .ok (.iload 6, 2) := by decide +kernel
theorem dX11_court_93 : decode cX11_court 93 = .ok (.iadd, 1) := by decide +kernel
theorem dX11_court_94 : decode cX11_court 94 = .ok (.sipush 168, 3) := by decide +kernel
theorem dX11_court_97 : decode cX11_court 97 = .ok (.irem, 1) := by decide +kernel
theorem dX11_court_98 : decode cX11_court 98 = .ok (.invokevirtual 264, 3) := by decide +kernel
theorem dX11_court_101 : decode cX11_court 101 = .ok (.istore 8, 2) := by decide +kernel
theorem dX11_court_103 : decode cX11_court 103 = .ok (.iload 8, 2) := by decide +kernel
theorem dX11_court_105 : decode cX11_court 105 = .ok (.iconst (-1), 1) := by decide +kernel
theorem dX11_court_106 : decode cX11_court 106 = .ok (.if_icmp .eq 17, 3) := by decide +kernel
theorem dX11_court_109 : decode cX11_court 109 = .ok (.aload_n 0, 1) := by decide +kernel
theorem dX11_court_110 : decode cX11_court 110 = .ok (.getfield 51, 3) := by decide +kernel
theorem dX11_court_113 : decode cX11_court 113 = .ok (.iload 8, 2) := by decide +kernel
theorem dX11_court_115 : decode cX11_court 115 = .ok (.iaload, 1) := by decide +kernel
theorem dX11_court_116 : decode cX11_court 116 = .ok (.ifCond .le 7, 3) := by decide +kernel
theorem dX11_court_119 : decode cX11_court 119 = .ok (.iconst 1, 1) := by decide +kernel
theorem dX11_court_120 : decode cX11_court 120 = .ok (.goto 4, 3) := by decide +kernel
theorem dX11_court_123 : decode cX11_court 123 = .ok (.iconst 0, 1) := by decide +kernel
theorem dX11_court_124 : decode cX11_court 124 = .ok (.istore 7, 2) := by decide +kernel
theorem dX11_court_126 : decode cX11_court 126 = .ok (.iload 7, 2) := by decide +kernel
theorem dX11_court_128 : decode cX11_court 128 = .ok (.ifCond .ne 6, 3) := by decide +kernel
theorem dX11_court_131 : decode cX11_court 131 = .ok (.goto (-56), 3) := by decide +kernel
theorem dX11_court_134 : decode cX11_court 134 = .ok (.aload_n 0, 1) := by decide +kernel
theorem dX11_court_135 : decode cX11_court 135 = .ok (.getfield 51, 3) := by decide +kernel
theorem dX11_court_138 : decode cX11_court 138 = .ok (.iload 8, 2) := by decide +kernel
theorem dX11_court_140 : decode cX11_court 140 = .ok (.dup2, 1) := by decide +kernel
theorem dX11_court_141 : decode cX11_court 141 = .ok (.iaload, 1) := by decide +kernel
theorem dX11_court_142 : decode cX11_court 142 = .ok (.iconst 1, 1) := by decide +kernel
theorem dX11_court_143 : decode cX11_court 143 = .ok (.isub, 1) := by decide +kernel
theorem dX11_court_144 : decode cX11_court 144 = .ok (.iastore, 1) := by decide +kernel
theorem dX11_court_145 : decode cX11_court 145 = .ok (.iinc 6 1, 3) := by decide +kernel
theorem dX11_court_148 : decode cX11_court 148 = .ok (.goto (-73), 3) := by decide +kernel
theorem dX11_court_151 : decode cX11_court 151 = .ok (.iload 6, 2) := by decide +kernel
theorem dX11_court_153 : decode cX11_court 153 = .ok (.iload_n 3, 1) := by decide +kernel
theorem dX11_court_154 : decode cX11_court 154 = .ok (.if_icmp .gt 6, 3) := by decide +kernel
theorem dX11_court_157 : decode cX11_court 157 = .ok (.goto 10, 3) := by decide +kernel
theorem dX11_court_160 : decode cX11_court 160 = .ok (.iload 6, 2) := by decide +kernel
theorem dX11_court_162 : decode cX11_court 162 = .ok (.istore_n 3, 1) := by decide +kernel
theorem dX11_court_163 : decode cX11_court 163 = .ok (.iload 5, 2) := by decide +kernel
theorem dX11_court_165 : decode cX11_court 165 = .ok (.istore 4, 2) := by decide +kernel
theorem dX11_court_167 : decode cX11_court 167 = .ok (.iinc 5 1, 3) := by decide +kernel
theorem dX11_court_170 : decode cX11_court 170 = .ok (.goto (-157), 3) := by decide +kernel
theorem dX11_court_173 : decode cX11_court 173 = .ok (.iload_n 2, 1) := by decide +kernel
theorem dX11_court_174 : decode cX11_court 174 = .ok (.ifCond .eq 8, 3) := by decide +kernel
theorem dX11_court_177 : decode cX11_court 177 = .ok (.iload 4, 2) := by decide +kernel
theorem dX11_court_179 : decode cX11_court 179 = .ok (.goto 4, 3) := by decide +kernel
theorem dX11_court_182 : decode cX11_court 182 = .ok (.iload_n 3, 1) := by decide +kernel
theorem dX11_court_183 : decode cX11_court 183 = .ok (.ireturn, 1) := by decide +kernel
theorem dX11_cheap_0 : decode cX11_cheap 0 = .ok (.aload_n 0, 1) := by decide +kernel
theorem dX11_cheap_1 : decode cX11_cheap 1 = .ok (.aload_n 0, 1) := by decide +kernel
theorem dX11_cheap_2 : decode cX11_cheap 2 = .ok (.iload_n 1, 1) := by decide +kernel
theorem dX11_cheap_3 : decode cX11_cheap 3 = .ok (.invokevirtual 277, 3) := by decide +kernel
theorem dX11_cheap_6 : decode cX11_cheap 6 = .ok (.ifCond .ne 7, 3) := by decide +kernel
theorem dX11_cheap_9 : decode cX11_cheap 9 = .ok (.iconst 1, 1) := by decide +kernel
theorem dX11_cheap_10 : decode cX11_cheap 10 = .ok (.goto 29, 3) := by decide +kernel
theorem dX11_cheap_13 : decode cX11_cheap 13 = .ok (.iload_n 2, 1) := by decide +kernel
theorem dX11_cheap_14 : decode cX11_cheap 14 = .ok (.iconst 1, 1) := by decide +kernel
theorem dX11_cheap_15 : decode cX11_cheap 15 = .ok (.bipush 20, 2) := by decide +kernel
theorem dX11_cheap_17 : decode cX11_cheap 17 = .ok (.invokestatic 72, 3) := by decide +kernel
theorem dX11_cheap_20 : decode cX11_cheap 20 = .ok (.ifCond .eq 14, 3) := by decide +kernel
theorem dX11_cheap_23 : decode cX11_cheap 23 = .ok (.iload_n 3, 1) := by decide +kernel
theorem dX11_cheap_24 : decode cX11_cheap 24 = .ok (.iconst (-1), 1) := by decide +kernel
theorem dX11_cheap_25 : decode cX11_cheap 25 = .ok (.iload_n 2, 1) := by decide +kernel
theorem dX11_cheap_26 : decode cX11_cheap 26 = .ok (.iconst 1, 1) := by decide +kernel
theorem dX11_cheap_27 : decode cX11_cheap 27 = .ok (.isub, 1) := by decide +kernel
theorem dX11_cheap_28 : decode cX11_cheap 28 = .ok (.invokestatic 72, 3) := by decide +kernel
theorem dX11_cheap_31 : decode cX11_cheap 31 = .ok (.ifCond .ne 7, 3) := by decide +kernel
theorem dX11_cheap_34 : decode cX11_cheap 34 = .ok (.iconst 2, 1) := by decide +kernel
theorem dX11_cheap_35 : decode cX11_cheap 35 = .ok (.goto 4, 3) := by decide +kernel
theorem dX11_cheap_38 : decode cX11_cheap 38 = .ok (.iconst 0, 1) := by decide +kernel
theorem dX11_cheap_39 : decode cX11_cheap 39 = .ok (.putfield 69, 3) := by decide +kernel
theorem dX11_cheap_42 : decode cX11_cheap 42 = .ok (.aload_n 0, 1) := by decide +kernel
theorem dX11_cheap_43 : decode cX11_cheap 43 = .ok (.getfield 69, 3) := by decide +kernel
theorem dX11_cheap_46 : decode cX11_cheap 46 = .ok (.ifCond .le 5, 3) := by decide +kernel
theorem dX11_cheap_49 : decode cX11_cheap 49 = .ok (.iconst 0, 1) := by decide +kernel
theorem dX11_cheap_50 : decode cX11_cheap 50 = .ok (.ireturn, 1) := by decide +kernel
theorem dX11_cheap_51 : decode cX11_cheap 51 = .ok (.iconst 0, 1) := by decide +kernel
theorem dX11_cheap_52 : decode cX11_cheap 52 = .ok (.istore 4, 2) := by decide +kernel
theorem dX11_cheap_54 : decode cX11_cheap 54 = .ok (.iload 4, 2) := by decide +kernel
theorem dX11_cheap_56 : decode cX11_cheap 56 = .ok (.sipush 168, 3) := by decide +kernel
theorem dX11_cheap_59 : decode cX11_cheap 59 = .ok (.if_icmp .ge 87, 3) := by decide +kernel
theorem dX11_cheap_62 : decode cX11_cheap 62 = .ok (.aload_n 0, 1) := by decide +kernel
theorem dX11_cheap_63 : decode cX11_cheap 63 = .ok (.getfield 35, 3) := by decide +kernel
theorem dX11_cheap_66 : decode cX11_cheap 66 = .ok (.iload 4, 2) := by decide +kernel
theorem dX11_cheap_68 : decode cX11_cheap 68 = .ok (.iconst 0, 1) := by decide +kernel
theorem dX11_cheap_69 : decode cX11_cheap 69 = .ok (.bastore, 1) := by decide +kernel
theorem dX11_cheap_70 : decode cX11_cheap 70 = .ok (.aload_n 0, 1) := by decide +kernel
theorem dX11_cheap_71 : decode cX11_cheap 71 = .ok (.getfield 32, 3) := by decide +kernel
theorem dX11_cheap_74 : decode cX11_cheap 74 = .ok (.iload 4, 2) := by decide +kernel
theorem dX11_cheap_76 : decode cX11_cheap 76 = .ok (.iconst (-1), 1) := by decide +kernel
theorem dX11_cheap_77 : decode cX11_cheap 77 = .ok (.iastore, 1) := by decide +kernel
theorem dX11_cheap_78 : decode cX11_cheap 78 = .ok (.aload_n 0, 1) := by decide +kernel
theorem dX11_cheap_79 : decode cX11_cheap 79 = .ok (.iload_n 1, 1) := by decide +kernel
theorem dX11_cheap_80 : decode cX11_cheap 80 = .ok (.invokevirtual 80, 3) := by decide +kernel
theorem dX11_cheap_83 : decode cX11_cheap 83 = .ok (.ifCond .ne 57, 3) := by decide +kernel
theorem dX11_cheap_86 : decode cX11_cheap 86 = .ok (.aload_n 0, 1) := by decide +kernel
theorem dX11_cheap_87 : decode cX11_cheap 87 = .ok (.iload 4, 2) := by decide +kernel
theorem dX11_cheap_89 : decode cX11_cheap 89 = .ok (.iconst 0, 1) := by decide +kernel
theorem dX11_cheap_90 : decode cX11_cheap 90 = .ok (.invokevirtual 84, 3) := by decide +kernel
theorem dX11_cheap_93 : decode cX11_cheap 93 = .ok (.iconst (-1), 1) := by decide +kernel
theorem dX11_cheap_94 : decode cX11_cheap 94 = .ok (.if_icmp .ne 46, 3) := by decide +kernel
theorem dX11_cheap_97 : decode cX11_cheap 97 = .ok (.aload_n 0, 1) := by decide +kernel
theorem dX11_cheap_98 : decode cX11_cheap 98 = .ok (.iload 4, 2) := by decide +kernel
theorem dX11_cheap_100 : decode cX11_cheap 100 = .ok (.iconst 3, 1) := by decide +kernel
theorem dX11_cheap_101 : decode cX11_cheap 101 = .ok (.invokevirtual 84, 3) := by decide +kernel
theorem dX11_cheap_104 : decode cX11_cheap 104 = .ok (.iconst 1, 1) := by decide +kernel
theorem dX11_cheap_105 : decode cX11_cheap 105 = .ok (.if_icmp .ne 6, 3) := by decide +kernel
theorem dX11_cheap_108 : decode cX11_cheap 108 = .ok (.goto 32, 3) := by decide +kernel
theorem dX11_cheap_111 : decode cX11_cheap 111 = .ok (.aload_n 0, 1) := by decide +kernel
theorem dX11_cheap_112 : decode cX11_cheap 112 = .ok (.iload_n 1, 1) := by decide +kernel
theorem dX11_cheap_113 : decode cX11_cheap 113 = .ok (.iload 4, 2) := by decide +kernel
theorem dX11_cheap_115 : decode cX11_cheap 115 = .ok (.invokevirtual 270, 3) := by decide +kernel
theorem dX11_cheap_118 : decode cX11_cheap 118 = .ok (.aload_n 0, 1) := by decide +kernel
theorem dX11_cheap_119 : decode cX11_cheap 119 = .ok (.getfield 32, 3) := by decide +kernel
theorem dX11_cheap_122 : decode cX11_cheap 122 = .ok (.iload 4, 2) := by decide +kernel
theorem dX11_cheap_124 : decode cX11_cheap 124 = .ok (.aload_n 0, 1) := by decide +kernel
theorem dX11_cheap_125 : decode cX11_cheap 125 = .ok (.getfield 257, 3) := by decide +kernel
theorem dX11_cheap_128 : decode cX11_cheap 128 = .ok (.ifCond .eq 7, 3) := by decide +kernel
theorem dX11_cheap_131 : decode cX11_cheap 131 = .ok (.iconst (-1), 1) := by decide +kernel
theorem dX11_cheap_132 : decode cX11_cheap 132 = .ok (.goto 7, 3) := by decide +kernel
theorem dX11_cheap_135 : decode cX11_cheap 135 = .ok (.aload_n 0, 1) := by decide +kernel
theorem dX11_cheap_136 : decode cX11_cheap 136 = .ok (.getfield 260, 3) := by decide +kernel
theorem dX11_cheap_139 : decode cX11_cheap 139 = .ok (.iastore, 1) := by decide +kernel
theorem dX11_cheap_140 : decode cX11_cheap 140 = .ok (.iinc 4 1, 3) := by decide +kernel
theorem dX11_cheap_143 : decode cX11_cheap 143 = .ok (.goto (-89), 3) := by decide +kernel
theorem dX11_cheap_146 : decode cX11_cheap 146 = .ok (.iconst 0, 1) := by decide +kernel
theorem dX11_cheap_147 : decode cX11_cheap 147 = .ok (.istore 4, 2) := by decide +kernel
theorem dX11_cheap_149 : decode cX11_cheap 149 = .ok (.iconst 0, 1) := by decide +kernel
theorem dX11_cheap_150 : decode cX11_cheap 150 = .ok (.istore 5, 2) := by decide +kernel
theorem dX11_cheap_152 : decode cX11_cheap 152 = .ok (.iload 5, 2) := by decide +kernel
theorem dX11_cheap_154 : decode cX11_cheap 154 = .ok (.iload_n 2, 1) := by decide +kernel
theorem dX11_cheap_155 : decode cX11_cheap 155 = .ok (.if_icmp .ge 105, 3) := by decide +kernel
theorem dX11_cheap_158 : decode cX11_cheap 158 = .ok (.iconst (-1), 1) := by decide +kernel
theorem dX11_cheap_159 : decode cX11_cheap 159 = .ok (.istore 6, 2) := by decide +kernel
theorem dX11_cheap_161 : decode cX11_cheap 161 = .ok (.iconst 0, 1) := by decide +kernel
theorem dX11_cheap_162 : decode cX11_cheap 162 = .ok (.istore 7, 2) := by decide +kernel
theorem dX11_cheap_164 : decode cX11_cheap 164 = .ok (.iload 7, 2) := by decide +kernel
theorem dX11_cheap_166 : decode cX11_cheap 166 = .ok (.sipush 168, 3) := by decide +kernel
theorem dX11_cheap_169 : decode cX11_cheap 169 = .ok (.if_icmp .ge 57, 3) := by decide +kernel
theorem dX11_cheap_172 : decode cX11_cheap 172 = .ok (.aload_n 0, 1) := by decide +kernel
theorem dX11_cheap_173 : decode cX11_cheap 173 = .ok (.getfield 35, 3) := by decide +kernel
theorem dX11_cheap_176 : decode cX11_cheap 176 = .ok (.iload 7, 2) := by decide +kernel
theorem dX11_cheap_178 : decode cX11_cheap 178 = .ok (.baload, 1) := by decide +kernel
theorem dX11_cheap_179 : decode cX11_cheap 179 = .ok (.ifCond .ne 41, 3) := by decide +kernel
theorem dX11_cheap_182 : decode cX11_cheap 182 = .ok (.aload_n 0, 1) := by decide +kernel
theorem dX11_cheap_183 : decode cX11_cheap 183 = .ok (.getfield 32, 3) := by decide +kernel
theorem dX11_cheap_186 : decode cX11_cheap 186 = .ok (.iload 7, 2) := by decide +kernel
theorem dX11_cheap_188 : decode cX11_cheap 188 = .ok (.iaload, 1) := by decide +kernel
theorem dX11_cheap_189 : decode cX11_cheap 189 = .ok (.iconst (-1), 1) := by decide +kernel
theorem dX11_cheap_190 : decode cX11_cheap 190 = .ok (.if_icmp .eq 30, 3) := by decide +kernel
theorem dX11_cheap_193 : decode cX11_cheap 193 = .ok (.iload 6, 2) := by decide +kernel
theorem dX11_cheap_195 : decode cX11_cheap 195 = .ok (.iconst (-1), 1) := by decide +kernel
theorem dX11_cheap_196 : decode cX11_cheap 196 = .ok (.if_icmp .eq 20, 3) := by decide +kernel
theorem dX11_cheap_199 : decode cX11_cheap 199 = .ok (.aload_n 0, 1) := by decide +kernel
theorem dX11_cheap_200 : decode cX11_cheap 200 = .ok (.getfield 32, 3) := by decide +kernel
theorem dX11_cheap_203 : decode cX11_cheap 203 = .ok (.iload 7, 2) := by decide +kernel
theorem dX11_cheap_205 : decode cX11_cheap 205 = .ok (.iaload, 1) := by decide +kernel
theorem dX11_cheap_206 : decode cX11_cheap 206 = .ok (.aload_n 0, 1) := by decide +kernel
theorem dX11_cheap_207 : decode cX11_cheap 207 = .ok (.getfield 32, 3) := by decide +kernel
theorem dX11_cheap_210 : decode cX11_cheap 210 = .ok (.iload 6, 2) := by decide +kernel
theorem dX11_cheap_212 : decode cX11_cheap 212 = .ok (.iaload, 1) := by decide +kernel
theorem dX11_cheap_213 : decode cX11_cheap 213 = .ok (.if_icmp .ge 7, 3) := by decide +kernel
theorem dX11_cheap_216 : decode cX11_cheap 216 = .ok (.iload 7, 2) := by decide +kernel
theorem dX11_cheap_218 : decode cX11_cheap 218 = .ok (.istore 6, 2) := by decide +kernel
theorem dX11_cheap_220 : decode cX11_cheap 220 = .ok (.iinc 7 1, 3) := by decide +kernel
theorem dX11_cheap_223 : decode cX11_cheap 223 = .ok (.goto (-59), 3) := by decide +kernel
theorem dX11_cheap_226 : decode cX11_cheap 226 = .ok (.iload 6, 2) := by decide +kernel
theorem dX11_cheap_228 : decode cX11_cheap 228 = .ok (.iconst (-1), 1) := by decide +kernel
theorem dX11_cheap_229 : decode cX11_cheap 229 = .ok (.if_icmp .ne 5, 3) := by decide +kernel
theorem dX11_cheap_232 : decode cX11_cheap 232 = .ok (.iconst (-1), 1) := by decide +kernel
theorem dX11_cheap_233 : decode cX11_cheap 233 = .ok (.ireturn, 1) := by decide +kernel
theorem dX11_cheap_234 : decode cX11_cheap 234 = .ok (.aload_n 0, 1) := by decide +kernel
theorem dX11_cheap_235 : decode cX11_cheap 235 = .ok (.getfield 35, 3) := by decide +kernel
theorem dX11_cheap_238 : decode cX11_cheap 238 = .ok (.iload 6, 2) := by decide +kernel
theorem dX11_cheap_240 : decode cX11_cheap 240 = .ok (.iconst 1, 1) := by decide +kernel
theorem dX11_cheap_241 : decode cX11_cheap 241 = .ok (.bastore, 1) := by decide +kernel
theorem dX11_cheap_242 : decode cX11_cheap 242 = .ok (.iload 4, 2) := by decide +kernel
theorem dX11_cheap_244 : decode cX11_cheap 244 = .ok (.aload_n 0, 1) := by decide +kernel
theorem dX11_cheap_245 : decode cX11_cheap 245 = .ok (.getfield 32, 3) := by decide +kernel
theorem dX11_cheap_248 : decode cX11_cheap 248 = .ok (.iload 6, 2) := by decide +kernel
theorem dX11_cheap_250 : decode cX11_cheap 250 = .ok (.iaload, 1) := by decide +kernel
theorem dX11_cheap_251 : decode cX11_cheap 251 = .ok (.iadd, 1) := by decide +kernel
theorem dX11_cheap_252 : decode cX11_cheap 252 = .ok (.istore 4, 2) := by decide +kernel
theorem dX11_cheap_254 : decode cX11_cheap 254 = .ok (.iinc 5 1, 3) := by decide +kernel
theorem dX11_cheap_257 : decode cX11_cheap 257 = .ok (.goto (-105), 3) := by decide +kernel
theorem dX11_cheap_260 : decode cX11_cheap 260 = .ok (.iload_n 3, 1) := by decide +kernel
theorem dX11_cheap_261 : decode cX11_cheap 261 = .ok (.iconst (-1), 1) := by decide +kernel
theorem dX11_cheap_262 : decode cX11_cheap 262 = .ok (.if_icmp .ne 6, 3) := by decide +kernel
theorem dX11_cheap_265 : decode cX11_cheap 265 = .ok (.iload 4, 2) := by decide +kernel
theorem dX11_cheap_267 : decode cX11_cheap 267 = .ok (.ireturn, 1) := by decide +kernel
theorem dX11_cheap_268 : decode cX11_cheap 268 = .ok (.iload_n 3, 1) := by decide +kernel
theorem dX11_cheap_269 : decode cX11_cheap 269 = .ok (.istore 5, 2) := by decide +kernel
theorem dX11_cheap_271 : decode cX11_cheap 271 = .ok (.iconst 0, 1) := by decide +kernel
theorem dX11_cheap_272 : decode cX11_cheap 272 = .ok (.istore 6, 2) := by decide +kernel
theorem dX11_cheap_274 : decode cX11_cheap 274 = .ok (.aload_n 0, 1) := by decide +kernel
theorem dX11_cheap_275 : decode cX11_cheap 275 = .ok (.getfield 35, 3) := by decide +kernel
theorem dX11_cheap_278 : decode cX11_cheap 278 = .ok (.iload 6, 2) := by decide +kernel
theorem dX11_cheap_280 : decode cX11_cheap 280 = .ok (.baload, 1) := by decide +kernel
theorem dX11_cheap_281 : decode cX11_cheap 281 = .ok (.ifCond .eq 8, 3) := by decide +kernel
theorem dX11_cheap_284 : decode cX11_cheap 284 = .ok (.iload 5, 2) := by decide +kernel
theorem dX11_cheap_286 : decode cX11_cheap 286 = .ok (.ifCond .le 29, 3) := by decide +kernel
theorem dX11_cheap_289 : decode cX11_cheap 289 = .ok (.iload 5, 2) := by decide +kernel
theorem dX11_cheap_291 : decode cX11_cheap 291 = .ok (.aload_n 0, 1) := by decide +kernel
theorem dX11_cheap_292 : decode cX11_cheap 292 = .ok (.getfield 35, 3) := by decide +kernel
theorem dX11_cheap_295 : decode cX11_cheap 295 = .ok (.iload 6, 2) := by decide +kernel
theorem dX11_cheap_297 : decode cX11_cheap 297 = .ok (.baload, 1) := by decide +kernel
theorem dX11_cheap_298 : decode cX11_cheap 298 = .ok (.ifCond .eq 7, 3) := by decide +kernel
theorem dX11_cheap_301 : decode cX11_cheap 301 = .ok (.iconst 1, 1) := by decide +kernel
theorem dX11_cheap_302 : decode cX11_cheap 302 = .ok (.goto 4, 3) := by decide +kernel
theorem dX11_cheap_305 : decode cX11_cheap 305 = .ok (.iconst 0, 1) := by decide +kernel
theorem dX11_cheap_306 : decode cX11_cheap 306 = .ok (.isub, 1) := by decide +kernel
theorem dX11_cheap_307 : decode cX11_cheap 307 = .ok (.istore 5, 2) := by decide +kernel
theorem dX11_cheap_309 : decode cX11_cheap 309 = .ok (.iinc 6 1, 3) := by decide +kernel
theorem dX11_cheap_312 : decode cX11_cheap 312 = .ok (.goto (-38), 3) := by decide +kernel
theorem dX11_cheap_315 : decode cX11_cheap 315 = .ok (.iload 6, 2) := by decide +kernel
theorem dX11_cheap_317 : decode cX11_cheap 317 = .ok (.ireturn, 1) := by decide +kernel
theorem dX11_mostGiven_0 : decode cX11_mostGiven 0 = .ok (.sipush 9999, 3) := by decide +kernel
theorem dX11_mostGiven_3 : decode cX11_mostGiven 3 = .ok (.istore_n 1, 1) := by decide +kernel
theorem dX11_mostGiven_4 : decode cX11_mostGiven 4 = .ok (.iconst 0, 1) := by decide +kernel
theorem dX11_mostGiven_5 : decode cX11_mostGiven 5 = .ok (.istore_n 2, 1) := by decide +kernel
theorem dX11_mostGiven_6 : decode cX11_mostGiven 6 = .ok (.iload_n 2, 1) := by decide +kernel
theorem dX11_mostGiven_7 : decode cX11_mostGiven 7 = .ok (.iconst 1, 1) := by decide +kernel
theorem dX11_mostGiven_8 : decode cX11_mostGiven 8 = .ok (.aload_n 0, 1) := by decide +kernel
theorem dX11_mostGiven_9 : decode cX11_mostGiven 9 = .ok (.getfield 7, 3) := by decide +kernel
theorem dX11_mostGiven_12 : decode cX11_mostGiven 12 = .ok (.bipush 9, 2) := by decide +kernel
theorem dX11_mostGiven_14 : decode cX11_mostGiven 14 = .ok (.iaload, 1) := by decide +kernel
theorem dX11_mostGiven_15 : decode cX11_mostGiven 15 = .ok (.ishl, 1) := by decide +kernel
theorem dX11_mostGiven_16 : decode cX11_mostGiven 16 = .ok (.if_icmp .ge 66, 3) := by decide +kernel
theorem dX11_mostGiven_19 : decode cX11_mostGiven 19 = .ok (.aload_n 0, 1) := by decide +kernel
theorem dX11_mostGiven_20 : decode cX11_mostGiven 20 = .ok (.getfield 42, 3) := by decide +kernel
theorem dX11_mostGiven_23 : decode cX11_mostGiven 23 = .ok (.iload_n 2, 1) := by decide +kernel
theorem dX11_mostGiven_24 : decode cX11_mostGiven 24 = .ok (.iaload, 1) := by decide +kernel
theorem dX11_mostGiven_25 : decode cX11_mostGiven 25 = .ok (.istore_n 3, 1) := by decide +kernel
theorem dX11_mostGiven_26 : decode cX11_mostGiven 26 = .ok (.iconst 0, 1) := by decide +kernel
theorem dX11_mostGiven_27 : decode cX11_mostGiven 27 = .ok (.istore 4, 2) := by decide +kernel
theorem dX11_mostGiven_29 : decode cX11_mostGiven 29 = .ok (.iload 4, 2) := by decide +kernel
theorem dX11_mostGiven_31 : decode cX11_mostGiven 31 = .ok (.aload_n 0, 1) := by decide +kernel
theorem dX11_mostGiven_32 : decode cX11_mostGiven 32 = .ok (.getfield 7, 3) := by decide +kernel
theorem dX11_mostGiven_35 : decode cX11_mostGiven 35 = .ok (.bipush 9, 2) := by decide +kernel
theorem dX11_mostGiven_37 : decode cX11_mostGiven 37 = .ok (.iaload, 1) := by decide +kernel
theorem dX11_mostGiven_38 : decode cX11_mostGiven 38 = .ok (.if_icmp .ge 32, 3) := by decide +kernel
theorem dX11_mostGiven_41 : decode cX11_mostGiven 41 = .ok (.iload_n 3, 1) := by decide +kernel
theorem dX11_mostGiven_42 : decode cX11_mostGiven 42 = .ok (.iload_n 2, 1) := by decide +kernel
theorem dX11_mostGiven_43 : decode cX11_mostGiven 43 = .ok (.iload 4, 2) := by decide +kernel
theorem dX11_mostGiven_45 : decode cX11_mostGiven 45 = .ok (.invokestatic 340, 3) := by decide +kernel
theorem dX11_mostGiven_48 : decode cX11_mostGiven 48 = .ok (.ifCond .eq 7, 3) := by decide +kernel
theorem dX11_mostGiven_51 : decode cX11_mostGiven 51 = .ok (.iconst 0, 1) := by decide +kernel
theorem dX11_mostGiven_52 : decode cX11_mostGiven 52 = .ok (.goto 10, 3) := by decide +kernel
theorem dX11_mostGiven_55 : decode cX11_mostGiven 55 = .ok (.aload_n 0, 1) := by decide +kernel
theorem dX11_mostGiven_56 : decode cX11_mostGiven 56 = .ok (.getfield 45, 3) := by decide +kernel
theorem dX11_mostGiven_59 : decode cX11_mostGiven 59 = .ok (.iload 4, 2) := by decide +kernel
theorem dX11_mostGiven_61 : decode cX11_mostGiven 61 = .ok (.iaload, 1) := by decide +kernel
theorem dX11_mostGiven_62 : decode cX11_mostGiven 62 = .ok (.iadd, 1) := by decide +kernel
theorem dX11_mostGiven_63 : decode cX11_mostGiven 63 = .ok (.istore_n 3, 1) := by decide +kernel
theorem dX11_mostGiven_64 : decode cX11_mostGiven 64 = .ok (.iinc 4 1, 3) := by decide +kernel
theorem dX11_mostGiven_67 : decode cX11_mostGiven 67 = .ok (.goto (-38), 3) := by decide +kernel
theorem dX11_mostGiven_70 : decode cX11_mostGiven 70 = .ok (.iload_n 1, 1) := by decide +kernel
theorem dX11_mostGiven_71 : decode cX11_mostGiven 71 = .ok (.iload_n 3, 1) := by decide +kernel
theorem dX11_mostGiven_72 : decode cX11_mostGiven 72 = .ok (.invokestatic 292, 3) := by decide +kernel
theorem dX11_mostGiven_75 : decode cX11_mostGiven 75 = .ok (.istore_n 1, 1) := by decide +kernel
theorem dX11_mostGiven_76 : decode cX11_mostGiven 76 = .ok (.iinc 2 1, 3) := by decide +kernel
theorem dX11_mostGiven_79 : decode cX11_mostGiven 79 = .ok (.goto (-73), 3) := by decide +kernel
theorem dX11_mostGiven_82 : decode cX11_mostGiven 82 = .ok (.iload_n 1, 1) := by decide +kernel
theorem dX11_mostGiven_83 : decode cX11_mostGiven 83 = .ok (.ireturn, 1) := by decide +kernel
theorem dX11_counts_0 : decode cX11_counts 0 = .ok (.iconst 0, 1) := by decide +kernel
theorem dX11_counts_1 : decode cX11_counts 1 = .ok (.istore_n 3, 1) := by decide +kernel
theorem dX11_counts_2 : decode cX11_counts 2 = .ok (.iload_n 3, 1) := by decide +kernel
theorem dX11_counts_3 : decode cX11_counts 3 = .ok (.sipush 256, 3) := by decide +kernel
theorem dX11_counts_6 : decode cX11_counts 6 = .ok (.if_icmp .ge 34, 3) := by decide +kernel
theorem dX11_counts_9 : decode cX11_counts 9 = .ok (.aload_n 0, 1) := by decide +kernel
theorem dX11_counts_10 : decode cX11_counts 10 = .ok (.getfield 42, 3) := by decide +kernel
theorem dX11_counts_13 : decode cX11_counts 13 = .ok (.iload_n 3, 1) := by decide +kernel
theorem dX11_counts_14 : decode cX11_counts 14 = .ok (.dup2, 1) := by decide +kernel
theorem dX11_counts_15 : decode cX11_counts 15 = .ok (.iaload, 1) := by decide +kernel
theorem dX11_counts_16 : decode cX11_counts 16 = .ok (.iload_n 3, 1) := by decide +kernel
theorem dX11_counts_17 : decode cX11_counts 17 = .ok (.aload_n 0, 1) := by decide +kernel
theorem dX11_counts_18 : decode cX11_counts 18 = .ok (.getfield 39, 3) := by decide +kernel
theorem dX11_counts_21 : decode cX11_counts 21 = .ok (.iload_n 1, 1) := by decide +kernel
theorem dX11_counts_22 : decode cX11_counts 22 = .ok (.iaload, 1) := by decide +kernel
theorem dX11_counts_23 : decode cX11_counts 23 = .ok (.iand, 1) := by decide +kernel
theorem dX11_counts_24 : decode cX11_counts 24 = .ok (.ifCond .eq 7, 3) := by decide +kernel
theorem dX11_counts_27 : decode cX11_counts 27 = .ok (.iload_n 2, 1) := by decide +kernel
theorem dX11_counts_28 : decode cX11_counts 28 = .ok (.goto 4, 3) := by decide +kernel
theorem dX11_counts_31 : decode cX11_counts 31 = .ok (.iconst 0, 1) := by decide +kernel
theorem dX11_counts_32 : decode cX11_counts 32 = .ok (.iadd, 1) := by decide +kernel
theorem dX11_counts_33 : decode cX11_counts 33 = .ok (.iastore, 1) := by decide +kernel
theorem dX11_counts_34 : decode cX11_counts 34 = .ok (.iinc 3 1, 3) := by decide +kernel
theorem dX11_counts_37 : decode cX11_counts 37 = .ok (.goto (-35), 3) := by decide +kernel
theorem dX11_counts_40 : decode cX11_counts 40 = .ok (.return_, 1) := by decide +kernel
theorem dX11_isFor_0 : decode cX11_isFor 0 = .ok (.bipush 56, 2) := by decide +kernel
theorem dX11_isFor_2 : decode cX11_isFor 2 = .ok (.iconst 4, 1) := by decide +kernel
theorem dX11_isFor_3 : decode cX11_isFor 3 = .ok (.iload_n 1, 1) := by decide +kernel
theorem dX11_isFor_4 : decode cX11_isFor 4 = .ok (.imul, 1) := by decide +kernel
theorem dX11_isFor_5 : decode cX11_isFor 5 = .ok (.iadd, 1) := by decide +kernel
theorem dX11_isFor_6 : decode cX11_isFor 6 = .ok (.istore_n 3, 1) := by decide +kernel
theorem dX11_isFor_7 : decode cX11_isFor 7 = .ok (.aload_n 0, 1) := by decide +kernel
theorem dX11_isFor_8 : decode cX11_isFor 8 = .ok (.iload_n 2, 1) := by decide +kernel
theorem dX11_isFor_9 : decode cX11_isFor 9 = .ok (.iconst 0, 1) := by decide +kernel
theorem dX11_isFor_10 : decode cX11_isFor 10 = .ok (.invokevirtual 84, 3) := by decide +kernel
theorem dX11_isFor_13 : decode cX11_isFor 13 = .ok (.iconst (-1), 1) := by decide +kernel
theorem dX11_isFor_14 : decode cX11_isFor 14 = .ok (.if_icmp .ne 39, 3) := by decide +kernel
theorem dX11_isFor_17 : decode cX11_isFor 17 = .ok (.aload_n 0, 1) := by decide +kernel
theorem dX11_isFor_18 : decode cX11_isFor 18 = .ok (.iload_n 2, 1) := by decide +kernel
theorem dX11_isFor_19 : decode cX11_isFor 19 = .ok (.iconst 3, 1) := by decide +kernel
theorem dX11_isFor_20 : decode cX11_isFor 20 = .ok (.invokevirtual 84, 3) := by decide +kernel
theorem dX11_isFor_23 : decode cX11_isFor 23 = .ok (.iconst 1, 1) := by decide +kernel
theorem dX11_isFor_24 : decode cX11_isFor 24 = .ok (.if_icmp .eq 29, 3) := by decide +kernel
theorem dX11_isFor_27 : decode cX11_isFor 27 = .ok (.iload_n 2, 1) := by decide +kernel
theorem dX11_isFor_28 : decode cX11_isFor 28 = .ok (.bipush 24, 2) := by decide +kernel
theorem dX11_isFor_30 : decode cX11_isFor 30 = .ok (.irem, 1) := by decide +kernel
theorem dX11_isFor_31 : decode cX11_isFor 31 = .ok (.aload_n 0, 1) := by decide +kernel
theorem dX11_isFor_32 : decode cX11_isFor 32 = .ok (.getfield 7, 3) := by decide +kernel
theorem dX11_isFor_35 : decode cX11_isFor 35 = .ok (.iload_n 3, 1) := by decide +kernel
theorem dX11_isFor_36 : decode cX11_isFor 36 = .ok (.iconst 2, 1) := by decide +kernel
theorem dX11_isFor_37 : decode cX11_isFor 37 = .ok (.iadd, 1) := by decide +kernel
theorem dX11_isFor_38 : decode cX11_isFor 38 = .ok (.iaload, 1) := by decide +kernel
theorem dX11_isFor_39 : decode cX11_isFor 39 = .ok (.aload_n 0, 1) := by decide +kernel
theorem dX11_isFor_40 : decode cX11_isFor 40 = .ok (.getfield 7, 3) := by decide +kernel
theorem dX11_isFor_43 : decode cX11_isFor 43 = .ok (.iload_n 3, 1) := by decide +kernel
theorem dX11_isFor_44 : decode cX11_isFor 44 = .ok (.iconst 3, 1) := by decide +kernel
theorem dX11_isFor_45 : decode cX11_isFor 45 = .ok (.iadd, 1) := by decide +kernel
theorem dX11_isFor_46 : decode cX11_isFor 46 = .ok (.iaload, 1) := by decide +kernel
theorem dX11_isFor_47 : decode cX11_isFor 47 = .ok (.invokestatic 72, 3) := by decide +kernel
theorem dX11_isFor_50 : decode cX11_isFor 50 = .ok (.ifCond .ne 5, 3) := by decide +kernel
theorem dX11_isFor_53 : decode cX11_isFor 53 = .ok (.iconst 0, 1) := by decide +kernel
theorem dX11_isFor_54 : decode cX11_isFor 54 = .ok (.ireturn, 1) := by decide +kernel
theorem dX11_isFor_55 : decode cX11_isFor 55 = .ok (.aload_n 0, 1) := by decide +kernel
theorem dX11_isFor_56 : decode cX11_isFor 56 = .ok (.aload_n 0, 1) := by decide +kernel
theorem dX11_isFor_57 : decode cX11_isFor 57 = .ok (.getfield 7, 3) := by decide +kernel
theorem dX11_isFor_60 : decode cX11_isFor 60 = .ok (.iload_n 3, 1) := by decide +kernel
theorem dX11_isFor_61 : decode cX11_isFor 61 = .ok (.iaload, 1) := by decide +kernel
theorem dX11_isFor_62 : decode cX11_isFor 62 = .ok (.iload_n 2, 1) := by decide +kernel
theorem dX11_isFor_63 : decode cX11_isFor 63 = .ok (.invokevirtual 314, 3) := by decide +kernel
theorem dX11_isFor_66 : decode cX11_isFor 66 = .ok (.ifCond .ne 7, 3) := by decide +kernel
theorem dX11_isFor_69 : decode cX11_isFor 69 = .ok (.iconst 1, 1) := by decide +kernel
theorem dX11_isFor_70 : decode cX11_isFor 70 = .ok (.goto 4, 3) := by decide +kernel
theorem dX11_isFor_73 : decode cX11_isFor 73 = .ok (.iconst 0, 1) := by decide +kernel
theorem dX11_isFor_74 : decode cX11_isFor 74 = .ok (.ireturn, 1) := by decide +kernel
theorem dX11_fits_0 : decode cX11_fits 0 = .ok (.iconst 0, 1) := by decide +kernel
theorem dX11_fits_1 : decode cX11_fits 1 = .ok (.istore_n 1, 1) := by decide +kernel
theorem dX11_fits_2 : decode cX11_fits 2 = .ok (.iload_n 1, 1) := by decide +kernel
theorem dX11_fits_3 : decode cX11_fits 3 = .ok (.sipush 256, 3) := by decide +kernel
theorem dX11_fits_6 : decode cX11_fits 6 = .ok (.if_icmp .ge 16, 3) := by decide +kernel
theorem dX11_fits_9 : decode cX11_fits 9 = .ok (.aload_n 0, 1) := by decide +kernel
theorem dX11_fits_10 : decode cX11_fits 10 = .ok (.getfield 42, 3) := by decide +kernel
theorem dX11_fits_13 : decode cX11_fits 13 = .ok (.iload_n 1, 1) := by decide +kernel
theorem dX11_fits_14 : decode cX11_fits 14 = .ok (.iconst 0, 1) := by decide +kernel
theorem dX11_fits_15 : decode cX11_fits 15 = .ok (.iastore, 1) := by decide +kernel
theorem dX11_fits_16 : decode cX11_fits 16 = .ok (.iinc 1 1, 3) := by decide +kernel
theorem dX11_fits_19 : decode cX11_fits 19 = .ok (.goto (-17), 3) := by decide +kernel
theorem dX11_fits_22 : decode cX11_fits 22 = .ok (.iconst 0, 1) := by decide +kernel
theorem dX11_fits_23 : decode cX11_fits 23 = .ok (.istore_n 1, 1) := by decide +kernel
theorem dX11_fits_24 : decode cX11_fits 24 = .ok (.iload_n 1, 1) := by decide +kernel
theorem dX11_fits_25 : decode cX11_fits 25 = .ok (.aload_n 0, 1) := by decide +kernel
theorem dX11_fits_26 : decode cX11_fits 26 = .ok (.getfield 7, 3) := by decide +kernel
theorem dX11_fits_29 : decode cX11_fits 29 = .ok (.bipush 9, 2) := by decide +kernel
theorem dX11_fits_31 : decode cX11_fits 31 = .ok (.iaload, 1) := by decide +kernel
theorem dX11_fits_32 : decode cX11_fits 32 = .ok (.if_icmp .ge 28, 3) := by decide +kernel
theorem dX11_fits_35 : decode cX11_fits 35 = .ok (.aload_n 0, 1) := by decide +kernel
theorem dX11_fits_36 : decode cX11_fits 36 = .ok (.getfield 45, 3) := by decide +kernel
theorem dX11_fits_39 : decode cX11_fits 39 = .ok (.iload_n 1, 1) := by decide +kernel
theorem dX11_fits_40 : decode cX11_fits 40 = .ok (.aload_n 0, 1) := by decide +kernel
theorem dX11_fits_41 : decode cX11_fits 41 = .ok (.getfield 7, 3) := by decide +kernel
theorem dX11_fits_44 : decode cX11_fits 44 = .ok (.bipush 56, 2) := by decide +kernel
theorem dX11_fits_46 : decode cX11_fits 46 = .ok (.iconst 4, 1) := by decide +kernel
theorem dX11_fits_47 : decode cX11_fits 47 = .ok (.iload_n 1, 1) := by decide +kernel
theorem dX11_fits_48 : decode cX11_fits 48 = .ok (.imul, 1) := by decide +kernel
theorem dX11_fits_49 : decode cX11_fits 49 = .ok (.iadd, 1) := by decide +kernel
theorem dX11_fits_50 : decode cX11_fits 50 = .ok (.iconst 1, 1) := by decide +kernel
theorem dX11_fits_51 : decode cX11_fits 51 = .ok (.iadd, 1) := by decide +kernel
theorem dX11_fits_52 : decode cX11_fits 52 = .ok (.iaload, 1) := by decide +kernel
theorem dX11_fits_53 : decode cX11_fits 53 = .ok (.iastore, 1) := by decide +kernel
theorem dX11_fits_54 : decode cX11_fits 54 = .ok (.iinc 1 1, 3) := by decide +kernel
theorem dX11_fits_57 : decode cX11_fits 57 = .ok (.goto (-33), 3) := by decide +kernel
theorem dX11_fits_60 : decode cX11_fits 60 = .ok (.iconst 0, 1) := by decide +kernel
theorem dX11_fits_61 : decode cX11_fits 61 = .ok (.istore_n 1, 1) := by decide +kernel
theorem dX11_fits_62 : decode cX11_fits 62 = .ok (.iload_n 1, 1) := by decide +kernel
theorem dX11_fits_63 : decode cX11_fits 63 = .ok (.sipush 168, 3) := by decide +kernel
theorem dX11_fits_66 : decode cX11_fits 66 = .ok (.if_icmp .ge 75, 3) := by decide +kernel
theorem dX11_fits_69 : decode cX11_fits 69 = .ok (.aload_n 0, 1) := by decide +kernel
theorem dX11_fits_70 : decode cX11_fits 70 = .ok (.getfield 39, 3) := by decide +kernel
theorem dX11_fits_73 : decode cX11_fits 73 = .ok (.iload_n 1, 1) := by decide +kernel
theorem dX11_fits_74 : decode cX11_fits 74 = .ok (.iconst 0, 1) := by decide +kernel
theorem dX11_fits_75 : decode cX11_fits 75 = .ok (.iastore, 1) := by decide +kernel
theorem dX11_fits_76 : decode cX11_fits 76 = .ok (.iconst 0, 1) := by decide +kernel
theorem dX11_fits_77 : decode cX11_fits 77 = .ok (.istore_n 2, 1) := by decide +kernel
theorem dX11_fits_78 : decode cX11_fits 78 = .ok (.iload_n 2, 1) := by decide +kernel
theorem dX11_fits_79 : decode cX11_fits 79 = .ok (.aload_n 0, 1) := by decide +kernel
theorem dX11_fits_80 : decode cX11_fits 80 = .ok (.getfield 7, 3) := by decide +kernel
theorem dX11_fits_83 : decode cX11_fits 83 = .ok (.bipush 9, 2) := by decide +kernel
theorem dX11_fits_85 : decode cX11_fits 85 = .ok (.iaload, 1) := by decide +kernel
theorem dX11_fits_86 : decode cX11_fits 86 = .ok (.if_icmp .ge 43, 3) := by decide +kernel
theorem dX11_fits_89 : decode cX11_fits 89 = .ok (.aload_n 0, 1) := by decide +kernel
theorem dX11_fits_90 : decode cX11_fits 90 = .ok (.getfield 39, 3) := by decide +kernel
theorem dX11_fits_93 : decode cX11_fits 93 = .ok (.iload_n 1, 1) := by decide +kernel
theorem dX11_fits_94 : decode cX11_fits 94 = .ok (.aload_n 0, 1) := by decide +kernel
theorem dX11_fits_95 : decode cX11_fits 95 = .ok (.iload_n 2, 1) := by decide +kernel
theorem dX11_fits_96 : decode cX11_fits 96 = .ok (.iload_n 1, 1) := by decide +kernel
theorem dX11_fits_97 : decode cX11_fits 97 = .ok (.invokevirtual 343, 3) := by decide +kernel
theorem dX11_fits_100 : decode cX11_fits 100 = .ok (.ifCond .eq 16, 3) := by decide +kernel
theorem dX11_fits_103 : decode cX11_fits 103 = .ok (.aload_n 0, 1) := by decide +kernel
theorem dX11_fits_104 : decode cX11_fits 104 = .ok (.getfield 39, 3) := by decide +kernel
theorem dX11_fits_107 : decode cX11_fits 107 = .ok (.iload_n 1, 1) := by decide +kernel
theorem dX11_fits_108 : decode cX11_fits 108 = .ok (.iaload, 1) := by decide +kernel
theorem dX11_fits_109 : decode cX11_fits 109 = .ok (.iconst 1, 1) := by decide +kernel
theorem dX11_fits_110 : decode cX11_fits 110 = .ok (.iload_n 2, 1) := by decide +kernel
theorem dX11_fits_111 : decode cX11_fits 111 = .ok (.ishl, 1) := by decide +kernel
theorem dX11_fits_112 : decode cX11_fits 112 = .ok (.ior, 1) := by decide +kernel
theorem dX11_fits_113 : decode cX11_fits 113 = .ok (.goto 9, 3) := by decide +kernel
theorem dX11_fits_116 : decode cX11_fits 116 = .ok (.aload_n 0, 1) := by decide +kernel
theorem dX11_fits_117 : decode cX11_fits 117 = .ok (.getfield 39, 3) := by decide +kernel
theorem dX11_fits_120 : decode cX11_fits 120 = .ok (.iload_n 1, 1) := by decide +kernel
theorem dX11_fits_121 : decode cX11_fits 121 = .ok (.iaload, 1) := by decide +kernel
theorem dX11_fits_122 : decode cX11_fits 122 = .ok (.iastore, 1) := by decide +kernel
theorem dX11_fits_123 : decode cX11_fits 123 = .ok (.iinc 2 1, 3) := by decide +kernel
theorem dX11_fits_126 : decode cX11_fits 126 = .ok (.goto (-48), 3) := by decide +kernel
theorem dX11_fits_129 : decode cX11_fits 129 = .ok (.aload_n 0, 1) := by decide +kernel
theorem dX11_fits_130 : decode cX11_fits 130 = .ok (.iload_n 1, 1) := by decide +kernel
theorem dX11_fits_131 : decode cX11_fits 131 = .ok (.iconst 1, 1) := by decide +kernel
theorem dX11_fits_132 : decode cX11_fits 132 = .ok (.invokevirtual 346, 3) := by decide +kernel
theorem dX11_fits_135 : decode cX11_fits 135 = .ok (.iinc 1 1, 3) := by decide +kernel
theorem dX11_fits_138 : decode cX11_fits 138 = .ok (.goto (-76), 3) := by decide +kernel
theorem dX11_fits_141 : decode cX11_fits 141 = .ok (.aload_n 0, 1) := by decide +kernel
theorem dX11_fits_142 : decode cX11_fits 142 = .ok (.aload_n 0, 1) := by decide +kernel
theorem dX11_fits_143 : decode cX11_fits 143 = .ok (.invokevirtual 349, 3) := by decide +kernel
theorem dX11_fits_146 : decode cX11_fits 146 = .ok (.putfield 352, 3) := by decide +kernel
theorem dX11_fits_149 : decode cX11_fits 149 = .ok (.aload_n 0, 1) := by decide +kernel
theorem dX11_fits_150 : decode cX11_fits 150 = .ok (.getfield 352, 3) := by decide +kernel
theorem dX11_fits_153 : decode cX11_fits 153 = .ok (.istore_n 1, 1) := by decide +kernel
theorem dX11_fits_154 : decode cX11_fits 154 = .ok (.iconst 0, 1) := by decide +kernel
theorem dX11_fits_155 : decode cX11_fits 155 = .ok (.istore_n 2, 1) := by decide +kernel
theorem dX11_fits_156 : decode cX11_fits 156 = .ok (.iload_n 2, 1) := by decide +kernel
theorem dX11_fits_157 : decode cX11_fits 157 = .ok (.sipush 168, 3) := by decide +kernel
theorem dX11_fits_160 : decode cX11_fits 160 = .ok (.if_icmp .ge 134, 3) := by decide +kernel
theorem dX11_fits_163 : decode cX11_fits 163 = .ok (.aload_n 0, 1) := by decide +kernel
theorem dX11_fits_164 : decode cX11_fits 164 = .ok (.getfield 48, 3) := by decide +kernel
theorem dX11_fits_167 : decode cX11_fits 167 = .ok (.iload_n 2, 1) := by decide +kernel
theorem dX11_fits_168 : decode cX11_fits 168 = .ok (.iconst (-1), 1) := by decide +kernel
theorem dX11_fits_169 : decode cX11_fits 169 = .ok (.iastore, 1) := by decide +kernel
theorem dX11_fits_170 : decode cX11_fits 170 = .ok (.aload_n 0, 1) := by decide +kernel
theorem dX11_fits_171 : decode cX11_fits 171 = .ok (.iload_n 2, 1) := by decide +kernel
theorem dX11_fits_172 : decode cX11_fits 172 = .ok (.iconst (-1), 1) := by decide +kernel
theorem dX11_fits_173 : decode cX11_fits 173 = .ok (.invokevirtual 346, 3) := by decide +kernel
theorem dX11_fits_176 : decode cX11_fits 176 = .ok (.iconst 0, 1) := by decide +kernel
theorem dX11_fits_177 : decode cX11_fits 177 = .ok (.istore_n 3, 1) := by decide +kernel
theorem dX11_fits_178 : decode cX11_fits 178 = .ok (.iload_n 3, 1) := by decide +kernel
theorem dX11_fits_179 : decode cX11_fits 179 = .ok (.aload_n 0, 1) := by decide +kernel
theorem dX11_fits_180 : decode cX11_fits 180 = .ok (.getfield 7, 3) := by decide +kernel
theorem dX11_fits_183 : decode cX11_fits 183 = .ok (.bipush 9, 2) := by decide +kernel
theorem dX11_fits_185 : decode cX11_fits 185 = .ok (.iaload, 1) := by decide +kernel
theorem dX11_fits_186 : decode cX11_fits 186 = .ok (.if_icmp .ge 84, 3) := by decide +kernel
theorem dX11_fits_189 : decode cX11_fits 189 = .ok (.aload_n 0, 1) := by decide +kernel
theorem dX11_fits_190 : decode cX11_fits 190 = .ok (.getfield 48, 3) := by decide +kernel
theorem dX11_fits_193 : decode cX11_fits 193 = .ok (.iload_n 2, 1) := by decide +kernel
theorem dX11_fits_194 : decode cX11_fits 194 = .ok (.iaload, 1) := by decide +kernel
theorem dX11_fits_195 : decode cX11_fits 195 = .ok (.iconst (-1), 1) := by decide +kernel
theorem dX11_fits_196 : decode cX11_fits 196 = .ok (.if_icmp .ne 74, 3) := by decide +kernel
theorem dX11_fits_199 : decode cX11_fits 199 = .ok (.aload_n 0, 1) := by decide +kernel
theorem dX11_fits_200 : decode cX11_fits 200 = .ok (.getfield 39, 3) := by decide +kernel
theorem dX11_fits_203 : decode cX11_fits 203 = .ok (.iload_n 2, 1) := by decide +kernel
theorem dX11_fits_204 : decode cX11_fits 204 = .ok (.iaload, 1) := by decide +kernel
theorem dX11_fits_205 : decode cX11_fits 205 = .ok (.iload_n 3, 1) := by decide +kernel
theorem dX11_fits_206 : decode cX11_fits 206 = .ok (.invokestatic 340, 3) := by decide +kernel
theorem dX11_fits_209 : decode cX11_fits 209 = .ok (.ifCond .eq 55, 3) := by decide +kernel
theorem dX11_fits_212 : decode cX11_fits 212 = .ok (.aload_n 0, 1) := by decide +kernel
theorem dX11_fits_213 : decode cX11_fits 213 = .ok (.getfield 45, 3) := by decide +kernel
theorem dX11_fits_216 : decode cX11_fits 216 = .ok (.iload_n 3, 1) := by decide +kernel
theorem dX11_fits_217 : decode cX11_fits 217 = .ok (.iaload, 1) := by decide +kernel
theorem dX11_fits_218 : decode cX11_fits 218 = .ok (.ifCond .ne 6, 3) := by decide +kernel
theorem dX11_fits_221 : decode cX11_fits 221 = .ok (.goto 43, 3) := by decide +kernel
theorem dX11_fits_224 : decode cX11_fits 224 = .ok (.aload_n 0, 1) := by decide +kernel
theorem dX11_fits_225 : decode cX11_fits 225 = .ok (.getfield 45, 3) := by decide +kernel
theorem dX11_fits_228 : decode cX11_fits 228 = .ok (.iload_n 3, 1) := by decide +kernel
theorem dX11_fits_229 : decode cX11_fits 229 = .ok (.dup2, 1) := by decide +kernel
theorem dX11_fits_230 : decode cX11_fits 230 = .ok (.iaload, 1) := by decide +kernel
theorem dX11_fits_231 : decode cX11_fits 231 = .ok (.iconst 1, 1) := by decide +kernel
theorem dX11_fits_232 : decode cX11_fits 232 = .ok (.isub, 1) := by decide +kernel
theorem dX11_fits_233 : decode cX11_fits 233 = .ok (.iastore, 1) := by decide +kernel
theorem dX11_fits_234 : decode cX11_fits 234 = .ok (.aload_n 0, 1) := by decide +kernel
theorem dX11_fits_235 : decode cX11_fits 235 = .ok (.invokevirtual 349, 3) := by decide +kernel
theorem dX11_fits_238 : decode cX11_fits 238 = .ok (.iload_n 1, 1) := by decide +kernel
theorem dX11_fits_239 : decode cX11_fits 239 = .ok (.iconst 1, 1) := by decide +kernel
theorem dX11_fits_240 : decode cX11_fits 240 = .ok (.isub, 1) := by decide +kernel
theorem dX11_fits_241 : decode cX11_fits 241 = .ok (.if_icmp .ne 13, 3) := by decide +kernel
theorem dX11_fits_244 : decode cX11_fits 244 = .ok (.aload_n 0, 1) := by decide +kernel
theorem dX11_fits_245 : decode cX11_fits 245 = .ok (.getfield 48, 3) := by decide +kernel
theorem dX11_fits_248 : decode cX11_fits 248 = .ok (.iload_n 2, 1) := by decide +kernel
theorem dX11_fits_249 : decode cX11_fits 249 = .ok (.iload_n 3, 1) := by decide +kernel
theorem dX11_fits_250 : decode cX11_fits 250 = .ok (.iastore, 1) := by decide +kernel
theorem dX11_fits_251 : decode cX11_fits 251 = .ok (.goto 13, 3) := by decide +kernel
theorem dX11_fits_254 : decode cX11_fits 254 = .ok (.aload_n 0, 1) := by decide +kernel
theorem dX11_fits_255 : decode cX11_fits 255 = .ok (.getfield 45, 3) := by decide +kernel
theorem dX11_fits_258 : decode cX11_fits 258 = .ok (.iload_n 3, 1) := by decide +kernel
theorem dX11_fits_259 : decode cX11_fits 259 = .ok (.dup2, 1) := by decide +kernel
theorem dX11_fits_260 : decode cX11_fits 260 = .ok (.iaload, 1) := by decide +kernel
theorem dX11_fits_261 : decode cX11_fits 261 = .ok (.iconst 1, 1) := by decide +kernel
theorem dX11_fits_262 : decode cX11_fits 262 = .ok (.iadd, 1) := by decide +kernel
theorem dX11_fits_263 : decode cX11_fits 263 = .ok (.iastore, 1) := by decide +kernel
theorem dX11_fits_264 : decode cX11_fits 264 = .ok (.iinc 3 1, 3) := by decide +kernel
theorem dX11_fits_267 : decode cX11_fits 267 = .ok (.goto (-89), 3) := by decide +kernel
theorem dX11_fits_270 : decode cX11_fits 270 = .ok (.iload_n 1, 1) := by decide +kernel
theorem dX11_fits_271 : decode cX11_fits 271 = .ok (.aload_n 0, 1) := by decide +kernel
theorem dX11_fits_272 : decode cX11_fits 272 = .ok (.getfield 48, 3) := by decide +kernel
theorem dX11_fits_275 : decode cX11_fits 275 = .ok (.iload_n 2, 1) := by decide +kernel
theorem dX11_fits_276 : decode cX11_fits 276 = .ok (.iaload, 1) := by decide +kernel
theorem dX11_fits_277 : decode cX11_fits 277 = .ok (.iconst (-1), 1) := by decide +kernel
theorem dX11_fits_278 : decode cX11_fits 278 = .ok (.if_icmp .ne 7, 3) := by decide +kernel
theorem dX11_fits_281 : decode cX11_fits 281 = .ok (.iconst 0, 1) := by decide +kernel
theorem dX11_fits_282 : decode cX11_fits 282 = .ok (.goto 4, 3) := by decide +kernel
theorem dX11_fits_285 : decode cX11_fits 285 = .ok (.iconst 1, 1) := by decide +kernel
theorem dX11_fits_286 : decode cX11_fits 286 = .ok (.isub, 1) := by decide +kernel
theorem dX11_fits_287 : decode cX11_fits 287 = .ok (.istore_n 1, 1) := by decide +kernel
theorem dX11_fits_288 : decode cX11_fits 288 = .ok (.iinc 2 1, 3) := by decide +kernel
theorem dX11_fits_291 : decode cX11_fits 291 = .ok (.goto (-135), 3) := by decide +kernel
theorem dX11_fits_294 : decode cX11_fits 294 = .ok (.return_, 1) := by decide +kernel
theorem dX11_fitted_0 : decode cX11_fitted 0 = .ok (.aload_n 0, 1) := by decide +kernel
theorem dX11_fitted_1 : decode cX11_fitted 1 = .ok (.iconst 0, 1) := by decide +kernel
theorem dX11_fitted_2 : decode cX11_fitted 2 = .ok (.putfield 69, 3) := by decide +kernel
theorem dX11_fitted_5 : decode cX11_fitted 5 = .ok (.aload_n 0, 1) := by decide +kernel
theorem dX11_fitted_6 : decode cX11_fitted 6 = .ok (.invokevirtual 355, 3) := by decide +kernel
theorem dX11_fitted_9 : decode cX11_fitted 9 = .ok (.iconst 0, 1) := by decide +kernel
theorem dX11_fitted_10 : decode cX11_fitted 10 = .ok (.istore_n 2, 1) := by decide +kernel
theorem dX11_fitted_11 : decode cX11_fitted 11 = .ok (.iconst 0, 1) := by decide +kernel
theorem dX11_fitted_12 : decode cX11_fitted 12 = .ok (.istore_n 3, 1) := by decide +kernel
theorem dX11_fitted_13 : decode cX11_fitted 13 = .ok (.iload_n 3, 1) := by decide +kernel
theorem dX11_fitted_14 : decode cX11_fitted 14 = .ok (.aload_n 0, 1) := by decide +kernel
theorem dX11_fitted_15 : decode cX11_fitted 15 = .ok (.getfield 7, 3) := by decide +kernel
theorem dX11_fitted_18 : decode cX11_fitted 18 = .ok (.bipush 9, 2) := by decide +kernel
theorem dX11_fitted_20 : decode cX11_fitted 20 = .ok (.iaload, 1) := by decide +kernel
theorem dX11_fitted_21 : decode cX11_fitted 21 = .ok (.if_icmp .ge 25, 3) := by decide +kernel
theorem dX11_fitted_24 : decode cX11_fitted 24 = .ok (.iload_n 2, 1) := by decide +kernel
theorem dX11_fitted_25 : decode cX11_fitted 25 = .ok (.aload_n 0, 1) := by decide +kernel
theorem dX11_fitted_26 : decode cX11_fitted 26 = .ok (.getfield 7, 3) := by decide +kernel
theorem dX11_fitted_29 : decode cX11_fitted 29 = .ok (.bipush 56, 2) := by decide +kernel
theorem dX11_fitted_31 : decode cX11_fitted 31 = .ok (.iconst 4, 1) := by decide +kernel
theorem dX11_fitted_32 : decode cX11_fitted 32 = .ok (.iload_n 3, 1) := by decide +kernel
theorem dX11_fitted_33 : decode cX11_fitted 33 = .ok (.imul, 1) := by decide +kernel
theorem dX11_fitted_34 : decode cX11_fitted 34 = .ok (.iadd, 1) := by decide +kernel
theorem dX11_fitted_35 : decode cX11_fitted 35 = .ok (.iconst 1, 1) := by decide +kernel
theorem dX11_fitted_36 : decode cX11_fitted 36 = .ok (.iadd, 1) := by decide +kernel
theorem dX11_fitted_37 : decode cX11_fitted 37 = .ok (.iaload, 1) := by decide +kernel
theorem dX11_fitted_38 : decode cX11_fitted 38 = .ok (.iadd, 1) := by decide +kernel
theorem dX11_fitted_39 : decode cX11_fitted 39 = .ok (.istore_n 2, 1) := by decide +kernel
theorem dX11_fitted_40 : decode cX11_fitted 40 = .ok (.iinc 3 1, 3) := by decide +kernel
theorem dX11_fitted_43 : decode cX11_fitted 43 = .ok (.goto (-30), 3) := by decide +kernel
theorem dX11_fitted_46 : decode cX11_fitted 46 = .ok (.iload_n 1, 1) := by decide +kernel
theorem dX11_fitted_47 : decode cX11_fitted 47 = .ok (.ifCond .ne 10, 3) := by decide +kernel
theorem dX11_fitted_50 : decode cX11_fitted 50 = .ok (.aload_n 0, 1) := by decide +kernel
theorem dX11_fitted_51 : decode cX11_fitted 51 = .ok (.getfield 352, 3) := by decide +kernel
theorem dX11_fitted_54 : decode cX11_fitted 54 = .ok (.goto 16, 3) := by decide +kernel
theorem dX11_fitted_57 : decode cX11_fitted 57 = .ok (.aload_n 0, 1) := by decide +kernel
theorem dX11_fitted_58 : decode cX11_fitted 58 = .ok (.getfield 352, 3) := by decide +kernel
theorem dX11_fitted_61 : decode cX11_fitted 61 = .ok (.iload_n 2, 1) := by decide +kernel
theorem dX11_fitted_62 : decode cX11_fitted 62 = .ok (.if_icmp .ne 7, 3) := by decide +kernel
theorem dX11_fitted_65 : decode cX11_fitted 65 = .ok (.iconst 1, 1) := by decide +kernel
theorem dX11_fitted_66 : decode cX11_fitted 66 = .ok (.goto 4, 3) := by decide +kernel
theorem dX11_fitted_69 : decode cX11_fitted 69 = .ok (.iconst 0, 1) := by decide +kernel
theorem dX11_fitted_70 : decode cX11_fitted 70 = .ok (.ireturn, 1) := by decide +kernel
theorem dX11_given_0 : decode cX11_given 0 = .ok (.aload_n 0, 1) := by decide +kernel
theorem dX11_given_1 : decode cX11_given 1 = .ok (.iload_n 1, 1) := by decide +kernel
theorem dX11_given_2 : decode cX11_given 2 = .ok (.invokestatic 289, 3) := by decide +kernel
theorem dX11_given_5 : decode cX11_given 5 = .ok (.ifCond .ne 7, 3) := by decide +kernel
theorem dX11_given_8 : decode cX11_given 8 = .ok (.iconst 1, 1) := by decide +kernel
theorem dX11_given_9 : decode cX11_given 9 = .ok (.goto 4, 3) := by decide +kernel
theorem dX11_given_12 : decode cX11_given 12 = .ok (.iconst 0, 1) := by decide +kernel
theorem dX11_given_13 : decode cX11_given 13 = .ok (.putfield 69, 3) := by decide +kernel
theorem dX11_given_16 : decode cX11_given 16 = .ok (.aload_n 0, 1) := by decide +kernel
theorem dX11_given_17 : decode cX11_given 17 = .ok (.getfield 69, 3) := by decide +kernel
theorem dX11_given_20 : decode cX11_given 20 = .ok (.ifCond .le 5, 3) := by decide +kernel
theorem dX11_given_23 : decode cX11_given 23 = .ok (.iconst 0, 1) := by decide +kernel
theorem dX11_given_24 : decode cX11_given 24 = .ok (.ireturn, 1) := by decide +kernel
theorem dX11_given_25 : decode cX11_given 25 = .ok (.aload_n 0, 1) := by decide +kernel
theorem dX11_given_26 : decode cX11_given 26 = .ok (.invokevirtual 355, 3) := by decide +kernel
theorem dX11_given_29 : decode cX11_given 29 = .ok (.aload_n 0, 1) := by decide +kernel
theorem dX11_given_30 : decode cX11_given 30 = .ok (.getfield 48, 3) := by decide +kernel
theorem dX11_given_33 : decode cX11_given 33 = .ok (.iload_n 1, 1) := by decide +kernel
theorem dX11_given_34 : decode cX11_given 34 = .ok (.iaload, 1) := by decide +kernel
theorem dX11_given_35 : decode cX11_given 35 = .ok (.ireturn, 1) := by decide +kernel
theorem dX11_valuesOf_0 : decode cX11_valuesOf 0 = .ok (.iconst 0, 1) := by decide +kernel
theorem dX11_valuesOf_1 : decode cX11_valuesOf 1 = .ok (.istore_n 3, 1) := by decide +kernel
theorem dX11_valuesOf_2 : decode cX11_valuesOf 2 = .ok (.iconst 0, 1) := by decide +kernel
theorem dX11_valuesOf_3 : decode cX11_valuesOf 3 = .ok (.istore 4, 2) := by decide +kernel
theorem dX11_valuesOf_5 : decode cX11_valuesOf 5 = .ok (.iload 4, 2) := by decide +kernel
theorem dX11_valuesOf_7 : decode cX11_valuesOf 7 = .ok (.sipush 168, 3) := by decide +kernel
theorem dX11_valuesOf_10 : decode cX11_valuesOf 10 = .ok (.if_icmp .ge 34, 3) := by decide +kernel
theorem dX11_valuesOf_13 : decode cX11_valuesOf 13 = .ok (.iload_n 3, 1) := by decide +kernel
theorem dX11_valuesOf_14 : decode cX11_valuesOf 14 = .ok (.aload_n 0, 1) := by decide +kernel
theorem dX11_valuesOf_15 : decode cX11_valuesOf 15 = .ok (.iload 4, 2) := by decide +kernel
theorem dX11_valuesOf_17 : decode cX11_valuesOf 17 = .ok (.iconst 1, 1) := by decide +kernel
theorem dX11_valuesOf_18 : decode cX11_valuesOf 18 = .ok (.invokevirtual 84, 3) := by decide +kernel
theorem dX11_valuesOf_21 : decode cX11_valuesOf 21 = .ok (.iload_n 2, 1) := by decide +kernel
theorem dX11_valuesOf_22 : decode cX11_valuesOf 22 = .ok (.if_icmp .ne 13, 3) := by decide +kernel
theorem dX11_valuesOf_25 : decode cX11_valuesOf 25 = .ok (.aload_n 0, 1) := by decide +kernel
theorem dX11_valuesOf_26 : decode cX11_valuesOf 26 = .ok (.iload_n 1, 1) := by decide +kernel
theorem dX11_valuesOf_27 : decode cX11_valuesOf 27 = .ok (.iload 4, 2) := by decide +kernel
theorem dX11_valuesOf_29 : decode cX11_valuesOf 29 = .ok (.invokevirtual 358, 3) := by decide +kernel
theorem dX11_valuesOf_32 : decode cX11_valuesOf 32 = .ok (.goto 4, 3) := by decide +kernel
theorem dX11_valuesOf_35 : decode cX11_valuesOf 35 = .ok (.iconst 0, 1) := by decide +kernel
theorem dX11_valuesOf_36 : decode cX11_valuesOf 36 = .ok (.iadd, 1) := by decide +kernel
theorem dX11_valuesOf_37 : decode cX11_valuesOf 37 = .ok (.istore_n 3, 1) := by decide +kernel
theorem dX11_valuesOf_38 : decode cX11_valuesOf 38 = .ok (.iinc 4 1, 3) := by decide +kernel
theorem dX11_valuesOf_41 : decode cX11_valuesOf 41 = .ok (.goto (-36), 3) := by decide +kernel
theorem dX11_valuesOf_44 : decode cX11_valuesOf 44 = .ok (.iload_n 3, 1) := by decide +kernel
theorem dX11_valuesOf_45 : decode cX11_valuesOf 45 = .ok (.ireturn, 1) := by decide +kernel
theorem dX11_envies_0 : decode cX11_envies 0 = .ok (.aload_n 0, 1) := by decide +kernel
theorem dX11_envies_1 : decode cX11_envies 1 = .ok (.aload_n 0, 1) := by decide +kernel
theorem dX11_envies_2 : decode cX11_envies 2 = .ok (.iload_n 1, 1) := by decide +kernel
theorem dX11_envies_3 : decode cX11_envies 3 = .ok (.invokevirtual 277, 3) := by decide +kernel
theorem dX11_envies_6 : decode cX11_envies 6 = .ok (.ifCond .ne 7, 3) := by decide +kernel
theorem dX11_envies_9 : decode cX11_envies 9 = .ok (.iconst 1, 1) := by decide +kernel
theorem dX11_envies_10 : decode cX11_envies 10 = .ok (.goto 4, 3) := by decide +kernel
theorem dX11_envies_13 : decode cX11_envies 13 = .ok (.iconst 0, 1) := by decide +kernel
theorem dX11_envies_14 : decode cX11_envies 14 = .ok (.putfield 69, 3) := by decide +kernel
theorem dX11_envies_17 : decode cX11_envies 17 = .ok (.aload_n 0, 1) := by decide +kernel
theorem dX11_envies_18 : decode cX11_envies 18 = .ok (.getfield 69, 3) := by decide +kernel
theorem dX11_envies_21 : decode cX11_envies 21 = .ok (.ifCond .gt 11, 3) := by decide +kernel
theorem dX11_envies_24 : decode cX11_envies 24 = .ok (.aload_n 0, 1) := by decide +kernel
theorem dX11_envies_25 : decode cX11_envies 25 = .ok (.iload_n 1, 1) := by decide +kernel
theorem dX11_envies_26 : decode cX11_envies 26 = .ok (.invokevirtual 80, 3) := by decide +kernel
theorem dX11_envies_29 : decode cX11_envies 29 = .ok (.ifCond .eq 5, 3) := by decide +kernel
theorem dX11_envies_32 : decode cX11_envies 32 = .ok (.iconst 0, 1) := by decide +kernel
theorem dX11_envies_33 : decode cX11_envies 33 = .ok (.ireturn, 1) := by decide +kernel
theorem dX11_envies_34 : decode cX11_envies 34 = .ok (.aload_n 0, 1) := by decide +kernel
theorem dX11_envies_35 : decode cX11_envies 35 = .ok (.iload_n 1, 1) := by decide +kernel
theorem dX11_envies_36 : decode cX11_envies 36 = .ok (.iload_n 1, 1) := by decide +kernel
theorem dX11_envies_37 : decode cX11_envies 37 = .ok (.invokevirtual 361, 3) := by decide +kernel
theorem dX11_envies_40 : decode cX11_envies 40 = .ok (.istore_n 2, 1) := by decide +kernel
theorem dX11_envies_41 : decode cX11_envies 41 = .ok (.iconst 0, 1) := by decide +kernel
theorem dX11_envies_42 : decode cX11_envies 42 = .ok (.istore_n 3, 1) := by decide +kernel
theorem dX11_envies_43 : decode cX11_envies 43 = .ok (.iconst 0, 1) := by decide +kernel
theorem dX11_envies_44 : decode cX11_envies 44 = .ok (.istore 4, 2) := by decide +kernel
theorem dX11_envies_46 : decode cX11_envies 46 = .ok (.iload 4, 2) := by decide +kernel
theorem dX11_envies_48 : decode cX11_envies 48 = .ok (.aload_n 0, 1) := by decide +kernel
theorem dX11_envies_49 : decode cX11_envies 49 = .ok (.getfield 7, 3) := by decide +kernel
theorem dX11_envies_52 : decode cX11_envies 52 = .ok (.iconst 1, 1) := by decide +kernel
theorem dX11_envies_53 : decode cX11_envies 53 = .ok (.iaload, 1) := by decide +kernel
theorem dX11_envies_54 : decode cX11_envies 54 = .ok (.if_icmp .ge 46, 3) := by decide +kernel
theorem dX11_envies_57 : decode cX11_envies 57 = .ok (.iload 4, 2) := by decide +kernel
theorem dX11_envies_59 : decode cX11_envies 59 = .ok (.iload_n 1, 1) := by decide +kernel
theorem dX11_envies_60 : decode cX11_envies 60 = .ok (.if_icmp .eq 32, 3) := by decide +kernel
theorem dX11_envies_63 : decode cX11_envies 63 = .ok (.aload_n 0, 1) := by decide +kernel
theorem dX11_envies_64 : decode cX11_envies 64 = .ok (.iload 4, 2) := by decide +kernel
theorem dX11_envies_66 : decode cX11_envies 66 = .ok (.invokevirtual 80, 3) := by decide +kernel
theorem dX11_envies_69 : decode cX11_envies 69 = .ok (.ifCond .ne 23, 3) := by decide +kernel
theorem dX11_envies_72 : decode cX11_envies 72 = .ok (.aload_n 0, 1) := by decide +kernel
theorem dX11_envies_73 : decode cX11_envies 73 = .ok (.iload_n 1, 1) := by decide +kernel
theorem dX11_envies_74 : decode cX11_envies 74 = .ok (.iload 4, 2) := by decide +kernel
theorem dX11_envies_76 : decode cX11_envies 76 = .ok (.invokevirtual 361, 3) := by decide +kernel
theorem dX11_envies_79 : decode cX11_envies 79 = .ok (.iload_n 2, 1) := by decide +kernel
theorem dX11_envies_80 : decode cX11_envies 80 = .ok (.if_icmp .le 12, 3) := by decide +kernel
theorem dX11_envies_83 : decode cX11_envies 83 = .ok (.iload_n 3, 1) := by decide +kernel
theorem dX11_envies_84 : decode cX11_envies 84 = .ok (.iconst 1, 1) := by decide +kernel
theorem dX11_envies_85 : decode cX11_envies 85 = .ok (.iload 4, 2) := by decide +kernel
theorem dX11_envies_87 : decode cX11_envies 87 = .ok (.ishl, 1) := by decide +kernel
theorem dX11_envies_88 : decode cX11_envies 88 = .ok (.ior, 1) := by decide +kernel
theorem dX11_envies_89 : decode cX11_envies 89 = .ok (.goto 4, 3) := by decide +kernel
theorem dX11_envies_92 : decode cX11_envies 92 = .ok (.iload_n 3, 1) := by decide +kernel
theorem dX11_envies_93 : decode cX11_envies 93 = .ok (.istore_n 3, 1) := by decide +kernel
theorem dX11_envies_94 : decode cX11_envies 94 = .ok (.iinc 4 1, 3) := by decide +kernel
theorem dX11_envies_97 : decode cX11_envies 97 = .ok (.goto (-51), 3) := by decide +kernel
theorem dX11_envies_100 : decode cX11_envies 100 = .ok (.iload_n 3, 1) := by decide +kernel
theorem dX11_envies_101 : decode cX11_envies 101 = .ok (.ireturn, 1) := by decide +kernel
theorem dX11_isFair_0 : decode cX11_isFair 0 = .ok (.iconst 0, 1) := by decide +kernel
theorem dX11_isFair_1 : decode cX11_isFair 1 = .ok (.istore_n 2, 1) := by decide +kernel
theorem dX11_isFair_2 : decode cX11_isFair 2 = .ok (.iload_n 2, 1) := by decide +kernel
theorem dX11_isFair_3 : decode cX11_isFair 3 = .ok (.iload_n 1, 1) := by decide +kernel
theorem dX11_isFair_4 : decode cX11_isFair 4 = .ok (.if_icmp .ge 112, 3) := by decide +kernel
theorem dX11_isFair_7 : decode cX11_isFair 7 = .ok (.iconst 0, 1) := by decide +kernel
theorem dX11_isFair_8 : decode cX11_isFair 8 = .ok (.istore_n 3, 1) := by decide +kernel
theorem dX11_isFair_9 : decode cX11_isFair 9 = .ok (.iload_n 3, 1) := by decide +kernel
theorem dX11_isFair_10 : decode cX11_isFair 10 = .ok (.iload_n 1, 1) := by decide +kernel
theorem dX11_isFair_11 : decode cX11_isFair 11 = .ok (.if_icmp .ge 99, 3) := by decide +kernel
theorem dX11_isFair_14 : decode cX11_isFair 14 = .ok (.iconst 0, 1) := by decide +kernel
theorem dX11_isFair_15 : decode cX11_isFair 15 = .ok (.istore 4, 2) := by decide +kernel
theorem dX11_isFair_17 : decode cX11_isFair 17 = .ok (.iconst 0, 1) := by decide +kernel
theorem dX11_isFair_18 : decode cX11_isFair 18 = .ok (.istore 5, 2) := by decide +kernel
theorem dX11_isFair_20 : decode cX11_isFair 20 = .ok (.iload 5, 2) := by decide +kernel
theorem dX11_isFair_22 : decode cX11_isFair 22 = .ok (.bipush 6, 2) := by decide +kernel
theorem dX11_isFair_24 : decode cX11_isFair 24 = .ok (.if_icmp .ge 68, 3) := by decide +kernel
theorem dX11_isFair_27 : decode cX11_isFair 27 = .ok (.iload 4, 2) := by decide +kernel
theorem dX11_isFair_29 : decode cX11_isFair 29 = .ok (.aload_n 0, 1) := by decide +kernel
theorem dX11_isFair_30 : decode cX11_isFair 30 = .ok (.getfield 60, 3) := by decide +kernel
theorem dX11_isFair_33 : decode cX11_isFair 33 = .ok (.iload 5, 2) := by decide +kernel
theorem dX11_isFair_35 : decode cX11_isFair 35 = .ok (.iaload, 1) := by decide +kernel
theorem dX11_isFair_36 : decode cX11_isFair 36 = .ok (.iload_n 3, 1) := by decide +kernel
theorem dX11_isFair_37 : decode cX11_isFair 37 = .ok (.if_icmp .ne 18, 3) := by decide +kernel
theorem dX11_isFair_40 : decode cX11_isFair 40 = .ok (.aload_n 0, 1) := by decide +kernel
theorem dX11_isFair_41 : decode cX11_isFair 41 = .ok (.getfield 57, 3) := by decide +kernel
theorem dX11_isFair_44 : decode cX11_isFair 44 = .ok (.bipush 6, 2) := by decide +kernel
theorem dX11_isFair_46 : decode cX11_isFair 46 = .ok (.iload_n 2, 1) := by decide +kernel
theorem dX11_isFair_47 : decode cX11_isFair 47 = .ok (.imul, 1) := by decide +kernel
theorem dX11_isFair_48 : decode cX11_isFair 48 = .ok (.iload 5, 2) := by decide +kernel
theorem dX11_isFair_50 : decode cX11_isFair 50 = .ok (.iadd, 1) := by decide +kernel
theorem dX11_isFair_51 : decode cX11_isFair 51 = .ok (.iaload, 1) := by decide +kernel
theorem dX11_isFair_52 : decode cX11_isFair 52 = .ok (.goto 31, 3) := by decide +kernel
theorem dX11_isFair_55 : decode cX11_isFair 55 = .ok (.aload_n 0, 1) := by decide +kernel
theorem dX11_isFair_56 : decode cX11_isFair 56 = .ok (.getfield 60, 3) := by decide +kernel
theorem dX11_isFair_59 : decode cX11_isFair 59 = .ok (.iload 5, 2) := by decide +kernel
theorem dX11_isFair_61 : decode cX11_isFair 61 = .ok (.iaload, 1) := by decide +kernel
theorem dX11_isFair_62 : decode cX11_isFair 62 = .ok (.iload_n 2, 1) := by decide +kernel
theorem dX11_isFair_63 : decode cX11_isFair 63 = .ok (.if_icmp .ne 19, 3) := by decide +kernel
theorem dX11_isFair_66 : decode cX11_isFair 66 = .ok (.aload_n 0, 1) := by decide +kernel
theorem dX11_isFair_67 : decode cX11_isFair 67 = .ok (.getfield 57, 3) := by decide +kernel
theorem dX11_isFair_70 : decode cX11_isFair 70 = .ok (.bipush 6, 2) := by decide +kernel
theorem dX11_isFair_72 : decode cX11_isFair 72 = .ok (.iload_n 2, 1) := by decide +kernel
theorem dX11_isFair_73 : decode cX11_isFair 73 = .ok (.imul, 1) := by decide +kernel
theorem dX11_isFair_74 : decode cX11_isFair 74 = .ok (.iload 5, 2) := by decide +kernel
theorem dX11_isFair_76 : decode cX11_isFair 76 = .ok (.iadd, 1) := by decide +kernel
theorem dX11_isFair_77 : decode cX11_isFair 77 = .ok (.iaload, 1) := by decide +kernel
theorem dX11_isFair_78 : decode cX11_isFair 78 = .ok (.ineg, 1) := by decide +kernel
theorem dX11_isFair_79 : decode cX11_isFair 79 = .ok (.goto 4, 3) := by decide +kernel
theorem dX11_isFair_82 : decode cX11_isFair 82 = .ok (.iconst 0, 1) := by decide +kernel
theorem dX11_isFair_83 : decode cX11_isFair 83 = .ok (.iadd, 1) := by decide +kernel
theorem dX11_isFair_84 : decode cX11_isFair 84 = .ok (.istore 4, 2) := by decide +kernel
theorem dX11_isFair_86 : decode cX11_isFair 86 = .ok (.iinc 5 1, 3) := by decide +kernel
theorem dX11_isFair_89 : decode cX11_isFair 89 = .ok (.goto (-69), 3) := by decide +kernel
theorem dX11_isFair_92 : decode cX11_isFair 92 = .ok (.iload_n 3, 1) := by decide +kernel
theorem dX11_isFair_93 : decode cX11_isFair 93 = .ok (.iload_n 2, 1) := by decide +kernel
theorem dX11_isFair_94 : decode cX11_isFair 94 = .ok (.if_icmp .eq 10, 3) := by decide +kernel
theorem dX11_isFair_97 : decode cX11_isFair 97 = .ok (.iload 4, 2) := by decide +kernel
theorem dX11_isFair_99 : decode cX11_isFair 99 = .ok (.ifCond .le 5, 3) := by decide +kernel
theorem dX11_isFair_102 : decode cX11_isFair 102 = .ok (.iconst 0, 1) := by decide +kernel
theorem dX11_isFair_103 : decode cX11_isFair 103 = .ok (.ireturn, 1) := by decide +kernel
theorem dX11_isFair_104 : decode cX11_isFair 104 = .ok (.iinc 3 1, 3) := by decide +kernel
theorem dX11_isFair_107 : decode cX11_isFair 107 = .ok (.goto (-98), 3) := by decide +kernel
theorem dX11_isFair_110 : decode cX11_isFair 110 = .ok (.iinc 2 1, 3) := by decide +kernel
theorem dX11_isFair_113 : decode cX11_isFair 113 = .ok (.goto (-111), 3) := by decide +kernel
theorem dX11_isFair_116 : decode cX11_isFair 116 = .ok (.iconst 1, 1) := by decide +kernel
theorem dX11_isFair_117 : decode cX11_isFair 117 = .ok (.ireturn, 1) := by decide +kernel
theorem dX11_fair_0 : decode cX11_fair 0 = .ok (.aload_n 0, 1) := by decide +kernel
theorem dX11_fair_1 : decode cX11_fair 1 = .ok (.iload_n 1, 1) := by decide +kernel
theorem dX11_fair_2 : decode cX11_fair 2 = .ok (.iconst 0, 1) := by decide +kernel
theorem dX11_fair_3 : decode cX11_fair 3 = .ok (.bipush 6, 2) := by decide +kernel
theorem dX11_fair_5 : decode cX11_fair 5 = .ok (.invokestatic 72, 3) := by decide +kernel
theorem dX11_fair_8 : decode cX11_fair 8 = .ok (.ifCond .eq 19, 3) := by decide +kernel
theorem dX11_fair_11 : decode cX11_fair 11 = .ok (.iload_n 3, 1) := by decide +kernel
theorem dX11_fair_12 : decode cX11_fair 12 = .ok (.iconst (-1), 1) := by decide +kernel
theorem dX11_fair_13 : decode cX11_fair 13 = .ok (.if_icmp .eq 18, 3) := by decide +kernel
theorem dX11_fair_16 : decode cX11_fair 16 = .ok (.iload_n 3, 1) := by decide +kernel
theorem dX11_fair_17 : decode cX11_fair 17 = .ok (.bipush 12, 2) := by decide +kernel
theorem dX11_fair_19 : decode cX11_fair 19 = .ok (.bipush 17, 2) := by decide +kernel
theorem dX11_fair_21 : decode cX11_fair 21 = .ok (.invokestatic 72, 3) := by decide +kernel
theorem dX11_fair_24 : decode cX11_fair 24 = .ok (.ifCond .ne 7, 3) := by decide +kernel
theorem dX11_fair_27 : decode cX11_fair 27 = .ok (.iconst 1, 1) := by decide +kernel
theorem dX11_fair_28 : decode cX11_fair 28 = .ok (.goto 4, 3) := by decide +kernel
theorem dX11_fair_31 : decode cX11_fair 31 = .ok (.iconst 0, 1) := by decide +kernel
theorem dX11_fair_32 : decode cX11_fair 32 = .ok (.putfield 69, 3) := by decide +kernel
theorem dX11_fair_35 : decode cX11_fair 35 = .ok (.aload_n 0, 1) := by decide +kernel
theorem dX11_fair_36 : decode cX11_fair 36 = .ok (.getfield 69, 3) := by decide +kernel
theorem dX11_fair_39 : decode cX11_fair 39 = .ok (.ifCond .le 5, 3) := by decide +kernel
theorem dX11_fair_42 : decode cX11_fair 42 = .ok (.iconst 0, 1) := by decide +kernel
theorem dX11_fair_43 : decode cX11_fair 43 = .ok (.ireturn, 1) := by decide +kernel
theorem dX11_fair_44 : decode cX11_fair 44 = .ok (.iconst 0, 1) := by decide +kernel
theorem dX11_fair_45 : decode cX11_fair 45 = .ok (.istore 4, 2) := by decide +kernel
theorem dX11_fair_47 : decode cX11_fair 47 = .ok (.iconst 0, 1) := by decide +kernel
theorem dX11_fair_48 : decode cX11_fair 48 = .ok (.istore 5, 2) := by decide +kernel
theorem dX11_fair_50 : decode cX11_fair 50 = .ok (.iload 5, 2) := by decide +kernel
theorem dX11_fair_52 : decode cX11_fair 52 = .ok (.aload_n 0, 1) := by decide +kernel
theorem dX11_fair_53 : decode cX11_fair 53 = .ok (.getfield 7, 3) := by decide +kernel
theorem dX11_fair_56 : decode cX11_fair 56 = .ok (.iconst 1, 1) := by decide +kernel
theorem dX11_fair_57 : decode cX11_fair 57 = .ok (.iaload, 1) := by decide +kernel
theorem dX11_fair_58 : decode cX11_fair 58 = .ok (.if_icmp .ge 51, 3) := by decide +kernel
theorem dX11_fair_61 : decode cX11_fair 61 = .ok (.iload_n 2, 1) := by decide +kernel
theorem dX11_fair_62 : decode cX11_fair 62 = .ok (.iload 5, 2) := by decide +kernel
theorem dX11_fair_64 : decode cX11_fair 64 = .ok (.invokestatic 340, 3) := by decide +kernel
theorem dX11_fair_67 : decode cX11_fair 67 = .ok (.ifCond .eq 36, 3) := by decide +kernel
theorem dX11_fair_70 : decode cX11_fair 70 = .ok (.aload_n 0, 1) := by decide +kernel
theorem dX11_fair_71 : decode cX11_fair 71 = .ok (.iload 5, 2) := by decide +kernel
theorem dX11_fair_73 : decode cX11_fair 73 = .ok (.invokevirtual 80, 3) := by decide +kernel
theorem dX11_fair_76 : decode cX11_fair 76 = .ok (.ifCond .eq 6, 3) := by decide +kernel
theorem dX11_fair_79 : decode cX11_fair 79 = .ok (.goto 24, 3) := by decide +kernel
theorem dX11_fair_82 : decode cX11_fair 82 = .ok (.iload 4, 2) := by decide +kernel
theorem dX11_fair_84 : decode cX11_fair 84 = .ok (.iconst 3, 1) := by decide +kernel
theorem dX11_fair_85 : decode cX11_fair 85 = .ok (.if_icmp .ne 6, 3) := by decide +kernel
theorem dX11_fair_88 : decode cX11_fair 88 = .ok (.bipush (-2), 2) := by decide +kernel
theorem dX11_fair_90 : decode cX11_fair 90 = .ok (.ireturn, 1) := by decide +kernel
theorem dX11_fair_91 : decode cX11_fair 91 = .ok (.aload_n 0, 1) := by decide +kernel
theorem dX11_fair_92 : decode cX11_fair 92 = .ok (.getfield 66, 3) := by decide +kernel
theorem dX11_fair_95 : decode cX11_fair 95 = .ok (.iload 4, 2) := by decide +kernel
theorem dX11_fair_97 : decode cX11_fair 97 = .ok (.iload 5, 2) := by decide +kernel
theorem dX11_fair_99 : decode cX11_fair 99 = .ok (.iastore, 1) := by decide +kernel
theorem dX11_fair_100 : decode cX11_fair 100 = .ok (.iinc 4 1, 3) := by decide +kernel
theorem dX11_fair_103 : decode cX11_fair 103 = .ok (.iinc 5 1, 3) := by decide +kernel
theorem dX11_fair_106 : decode cX11_fair 106 = .ok (.goto (-56), 3) := by decide +kernel
theorem dX11_fair_109 : decode cX11_fair 109 = .ok (.iload 4, 2) := by decide +kernel
theorem dX11_fair_111 : decode cX11_fair 111 = .ok (.iconst 2, 1) := by decide +kernel
theorem dX11_fair_112 : decode cX11_fair 112 = .ok (.if_icmp .ge 6, 3) := by decide +kernel
theorem dX11_fair_115 : decode cX11_fair 115 = .ok (.bipush (-2), 2) := by decide +kernel
theorem dX11_fair_117 : decode cX11_fair 117 = .ok (.ireturn, 1) := by decide +kernel
theorem dX11_fair_118 : decode cX11_fair 118 = .ok (.iconst 0, 1) := by decide +kernel
theorem dX11_fair_119 : decode cX11_fair 119 = .ok (.istore 5, 2) := by decide +kernel
theorem dX11_fair_121 : decode cX11_fair 121 = .ok (.iload 5, 2) := by decide +kernel
theorem dX11_fair_123 : decode cX11_fair 123 = .ok (.iload 4, 2) := by decide +kernel
theorem dX11_fair_125 : decode cX11_fair 125 = .ok (.if_icmp .ge 59, 3) := by decide +kernel
theorem dX11_fair_128 : decode cX11_fair 128 = .ok (.iconst 0, 1) := by decide +kernel
theorem dX11_fair_129 : decode cX11_fair 129 = .ok (.istore 6, 2) := by decide +kernel
theorem dX11_fair_131 : decode cX11_fair 131 = .ok (.iload 6, 2) := by decide +kernel
theorem dX11_fair_133 : decode cX11_fair 133 = .ok (.bipush 6, 2) := by decide +kernel
theorem dX11_fair_135 : decode cX11_fair 135 = .ok (.if_icmp .ge 43, 3) := by decide +kernel
theorem dX11_fair_138 : decode cX11_fair 138 = .ok (.aload_n 0, 1) := by decide +kernel
theorem dX11_fair_139 : decode cX11_fair 139 = .ok (.getfield 57, 3) := by decide +kernel
theorem dX11_fair_142 : decode cX11_fair 142 = .ok (.bipush 6, 2) := by decide +kernel
theorem dX11_fair_144 : decode cX11_fair 144 = .ok (.iload 5, 2) := by decide +kernel
theorem dX11_fair_146 : decode cX11_fair 146 = .ok (.imul, 1) := by decide +kernel
theorem dX11_fair_147 : decode cX11_fair 147 = .ok (.iload 6, 2) := by decide +kernel
theorem dX11_fair_149 : decode cX11_fair 149 = .ok (.iadd, 1) := by decide +kernel
theorem dX11_fair_150 : decode cX11_fair 150 = .ok (.aload_n 0, 1) := by decide +kernel
theorem dX11_fair_151 : decode cX11_fair 151 = .ok (.aload_n 0, 1) := by decide +kernel
theorem dX11_fair_152 : decode cX11_fair 152 = .ok (.getfield 66, 3) := by decide +kernel
theorem dX11_fair_155 : decode cX11_fair 155 = .ok (.iload 5, 2) := by decide +kernel
theorem dX11_fair_157 : decode cX11_fair 157 = .ok (.iaload, 1) := by decide +kernel
theorem dX11_fair_158 : decode cX11_fair 158 = .ok (.bipush 24, 2) := by decide +kernel
theorem dX11_fair_160 : decode cX11_fair 160 = .ok (.iload_n 1, 1) := by decide +kernel
theorem dX11_fair_161 : decode cX11_fair 161 = .ok (.imul, 1) := by decide +kernel
theorem dX11_fair_162 : decode cX11_fair 162 = .ok (.bipush 12, 2) := by decide +kernel
theorem dX11_fair_164 : decode cX11_fair 164 = .ok (.iadd, 1) := by decide +kernel
theorem dX11_fair_165 : decode cX11_fair 165 = .ok (.iload 6, 2) := by decide +kernel
theorem dX11_fair_167 : decode cX11_fair 167 = .ok (.iadd, 1) := by decide +kernel
theorem dX11_fair_168 : decode cX11_fair 168 = .ok (.invokevirtual 358, 3) := by decide +kernel
theorem dX11_fair_171 : decode cX11_fair 171 = .ok (.iastore, 1) := by decide +kernel
theorem dX11_fair_172 : decode cX11_fair 172 = .ok (.iinc 6 1, 3) := by decide +kernel
theorem dX11_fair_175 : decode cX11_fair 175 = .ok (.goto (-44), 3) := by decide +kernel
theorem dX11_fair_178 : decode cX11_fair 178 = .ok (.iinc 5 1, 3) := by decide +kernel
theorem dX11_fair_181 : decode cX11_fair 181 = .ok (.goto (-60), 3) := by decide +kernel
theorem dX11_fair_184 : decode cX11_fair 184 = .ok (.iconst 1, 1) := by decide +kernel
theorem dX11_fair_185 : decode cX11_fair 185 = .ok (.istore 5, 2) := by decide +kernel
theorem dX11_fair_187 : decode cX11_fair 187 = .ok (.iconst 0, 1) := by decide +kernel
theorem dX11_fair_188 : decode cX11_fair 188 = .ok (.istore 6, 2) := by decide +kernel
theorem dX11_fair_190 : decode cX11_fair 190 = .ok (.iload 6, 2) := by decide +kernel
theorem dX11_fair_192 : decode cX11_fair 192 = .ok (.bipush 6, 2) := by decide +kernel
theorem dX11_fair_194 : decode cX11_fair 194 = .ok (.if_icmp .ge 16, 3) := by decide +kernel
theorem dX11_fair_197 : decode cX11_fair 197 = .ok (.iload 5, 2) := by decide +kernel
theorem dX11_fair_199 : decode cX11_fair 199 = .ok (.iload 4, 2) := by decide +kernel
theorem dX11_fair_201 : decode cX11_fair 201 = .ok (.imul, 1) := by decide +kernel
theorem dX11_fair_202 : decode cX11_fair 202 = .ok (.istore 5, 2) := by decide +kernel
theorem dX11_fair_204 : decode cX11_fair 204 = .ok (.iinc 6 1, 3) := by decide +kernel
theorem dX11_fair_207 : decode cX11_fair 207 = .ok (.goto (-17), 3) := by decide +kernel
theorem dX11_fair_210 : decode cX11_fair 210 = .ok (.iconst 0, 1) := by decide +kernel
theorem dX11_fair_211 : decode cX11_fair 211 = .ok (.istore 6, 2) := by decide +kernel
theorem dX11_fair_213 : decode cX11_fair 213 = .ok (.iconst 0, 1) := by decide +kernel
theorem dX11_fair_214 : decode cX11_fair 214 = .ok (.istore 7, 2) := by decide +kernel
theorem dX11_fair_216 : decode cX11_fair 216 = .ok (.iload 7, 2) := by decide +kernel
theorem dX11_fair_218 : decode cX11_fair 218 = .ok (.iload 5, 2) := by decide +kernel
theorem dX11_fair_220 : decode cX11_fair 220 = .ok (.if_icmp .ge 101, 3) := by decide +kernel
theorem dX11_fair_223 : decode cX11_fair 223 = .ok (.iload 7, 2) := by decide +kernel
theorem dX11_fair_225 : decode cX11_fair 225 = .ok (.istore 8, 2) := by decide +kernel
theorem dX11_fair_227 : decode cX11_fair 227 = .ok (.iconst 5, 1) := by decide +kernel
theorem dX11_fair_228 : decode cX11_fair 228 = .ok (.istore 9, 2) := by decide +kernel
theorem dX11_fair_230 : decode cX11_fair 230 = .ok (.iload 9, 2) := by decide +kernel
theorem dX11_fair_232 : decode cX11_fair 232 = .ok (.ifCond .lt 28, 3) := by decide +kernel
theorem dX11_fair_235 : decode cX11_fair 235 = .ok (.aload_n 0, 1) := by decide +kernel
theorem dX11_fair_236 : decode cX11_fair 236 = .ok (.getfield 60, 3) := by decide +kernel
theorem dX11_fair_239 : decode cX11_fair 239 = .ok (.iload 9, 2) := by decide +kernel
theorem dX11_fair_241 : decode cX11_fair 241 = .ok (.iload 8, 2) := by decide +kernel
theorem dX11_fair_243 : decode cX11_fair 243 = .ok (.iload 4, 2) := by decide +kernel
theorem dX11_fair_245 : decode cX11_fair 245 = .ok (.irem, 1) := by decide +kernel
theorem dX11_fair_246 : decode cX11_fair 246 = .ok (.iastore, 1) := by decide +kernel
theorem dX11_fair_247 : decode cX11_fair 247 = .ok (.iload 8, 2) := by decide +kernel
theorem dX11_fair_249 : decode cX11_fair 249 = .ok (.iload 4, 2) := by decide +kernel
theorem dX11_fair_251 : decode cX11_fair 251 = .ok (.idiv, 1) := by decide +kernel
theorem dX11_fair_252 : decode cX11_fair 252 = .ok (.istore 8, 2) := by decide +kernel
theorem dX11_fair_254 : decode cX11_fair 254 = .ok (.iinc 9 (-1), 3) := by decide +kernel
theorem dX11_fair_257 : decode cX11_fair 257 = .ok (.goto (-27), 3) := by decide +kernel
theorem dX11_fair_260 : decode cX11_fair 260 = .ok (.aload_n 0, 1) := by decide +kernel
theorem dX11_fair_261 : decode cX11_fair 261 = .ok (.iload 4, 2) := by decide +kernel
theorem dX11_fair_263 : decode cX11_fair 263 = .ok (.invokevirtual 364, 3) := by decide +kernel
theorem dX11_fair_266 : decode cX11_fair 266 = .ok (.ifCond .ne 6, 3) := by decide +kernel
theorem dX11_fair_269 : decode cX11_fair 269 = .ok (.goto 46, 3) := by decide +kernel
theorem dX11_fair_272 : decode cX11_fair 272 = .ok (.iconst 0, 1) := by decide +kernel
theorem dX11_fair_273 : decode cX11_fair 273 = .ok (.istore 9, 2) := by decide +kernel
theorem dX11_fair_275 : decode cX11_fair 275 = .ok (.iload 9, 2) := by decide +kernel
theorem dX11_fair_277 : decode cX11_fair 277 = .ok (.bipush 6, 2) := by decide +kernel
theorem dX11_fair_279 : decode cX11_fair 279 = .ok (.if_icmp .ge 33, 3) := by decide +kernel
theorem dX11_fair_282 : decode cX11_fair 282 = .ok (.iload 6, 2) := by decide +kernel
theorem dX11_fair_284 : decode cX11_fair 284 = .ok (.ifCond .ne 28, 3) := by decide +kernel
theorem dX11_fair_287 : decode cX11_fair 287 = .ok (.aload_n 0, 1) := by decide +kernel
theorem dX11_fair_288 : decode cX11_fair 288 = .ok (.getfield 63, 3) := by decide +kernel
theorem dX11_fair_291 : decode cX11_fair 291 = .ok (.iload 9, 2) := by decide +kernel
theorem dX11_fair_293 : decode cX11_fair 293 = .ok (.aload_n 0, 1) := by decide +kernel
theorem dX11_fair_294 : decode cX11_fair 294 = .ok (.getfield 66, 3) := by decide +kernel
theorem dX11_fair_297 : decode cX11_fair 297 = .ok (.aload_n 0, 1) := by decide +kernel
theorem dX11_fair_298 : decode cX11_fair 298 = .ok (.getfield 60, 3) := by decide +kernel
theorem dX11_fair_301 : decode cX11_fair 301 = .ok (.iload 9, 2) := by decide +kernel
theorem dX11_fair_303 : decode cX11_fair 303 = .ok (.iaload, 1) := by decide +kernel
theorem dX11_fair_304 : decode cX11_fair 304 = .ok (.iaload, 1) := by decide +kernel
theorem dX11_fair_305 : decode cX11_fair 305 = .ok (.iastore, 1) := by decide +kernel
theorem dX11_fair_306 : decode cX11_fair 306 = .ok (.iinc 9 1, 3) := by decide +kernel
theorem dX11_fair_309 : decode cX11_fair 309 = .ok (.goto (-34), 3) := by decide +kernel
theorem dX11_fair_312 : decode cX11_fair 312 = .ok (.iinc 6 1, 3) := by decide +kernel
theorem dX11_fair_315 : decode cX11_fair 315 = .ok (.iinc 7 1, 3) := by decide +kernel
theorem dX11_fair_318 : decode cX11_fair 318 = .ok (.goto (-102), 3) := by decide +kernel
theorem dX11_fair_321 : decode cX11_fair 321 = .ok (.iload_n 3, 1) := by decide +kernel
theorem dX11_fair_322 : decode cX11_fair 322 = .ok (.iconst (-1), 1) := by decide +kernel
theorem dX11_fair_323 : decode cX11_fair 323 = .ok (.if_icmp .ne 8, 3) := by decide +kernel
theorem dX11_fair_326 : decode cX11_fair 326 = .ok (.iload 6, 2) := by decide +kernel
theorem dX11_fair_328 : decode cX11_fair 328 = .ok (.goto 21, 3) := by decide +kernel
theorem dX11_fair_331 : decode cX11_fair 331 = .ok (.iload 6, 2) := by decide +kernel
theorem dX11_fair_333 : decode cX11_fair 333 = .ok (.ifCond .ne 7, 3) := by decide +kernel
theorem dX11_fair_336 : decode cX11_fair 336 = .ok (.iconst (-1), 1) := by decide +kernel
theorem dX11_fair_337 : decode cX11_fair 337 = .ok (.goto 12, 3) := by decide +kernel
theorem dX11_fair_340 : decode cX11_fair 340 = .ok (.aload_n 0, 1) := by decide +kernel
theorem dX11_fair_341 : decode cX11_fair 341 = .ok (.getfield 63, 3) := by decide +kernel
theorem dX11_fair_344 : decode cX11_fair 344 = .ok (.iload_n 3, 1) := by decide +kernel
theorem dX11_fair_345 : decode cX11_fair 345 = .ok (.bipush 12, 2) := by decide +kernel
theorem dX11_fair_347 : decode cX11_fair 347 = .ok (.isub, 1) := by decide +kernel
theorem dX11_fair_348 : decode cX11_fair 348 = .ok (.iaload, 1) := by decide +kernel
theorem dX11_fair_349 : decode cX11_fair 349 = .ok (.ireturn, 1) := by decide +kernel
theorem dX11_pointsTo_0 : decode cX11_pointsTo 0 = .ok (.iconst (-1), 1) := by decide +kernel
theorem dX11_pointsTo_1 : decode cX11_pointsTo 1 = .ok (.istore_n 2, 1) := by decide +kernel
theorem dX11_pointsTo_2 : decode cX11_pointsTo 2 = .ok (.iconst 0, 1) := by decide +kernel
theorem dX11_pointsTo_3 : decode cX11_pointsTo 3 = .ok (.istore_n 3, 1) := by decide +kernel
theorem dX11_pointsTo_4 : decode cX11_pointsTo 4 = .ok (.iload_n 3, 1) := by decide +kernel
theorem dX11_pointsTo_5 : decode cX11_pointsTo 5 = .ok (.sipush 168, 3) := by decide +kernel
theorem dX11_pointsTo_8 : decode cX11_pointsTo 8 = .ok (.if_icmp .ge 43, 3) := by decide +kernel
theorem dX11_pointsTo_11 : decode cX11_pointsTo 11 = .ok (.aload_n 0, 1) := by decide +kernel
theorem dX11_pointsTo_12 : decode cX11_pointsTo 12 = .ok (.iload_n 3, 1) := by decide +kernel
theorem dX11_pointsTo_13 : decode cX11_pointsTo 13 = .ok (.iconst 0, 1) := by decide +kernel
theorem dX11_pointsTo_14 : decode cX11_pointsTo 14 = .ok (.invokevirtual 84, 3) := by decide +kernel
theorem dX11_pointsTo_17 : decode cX11_pointsTo 17 = .ok (.iload_n 1, 1) := by decide +kernel
theorem dX11_pointsTo_18 : decode cX11_pointsTo 18 = .ok (.if_icmp .eq 6, 3) := by decide +kernel
theorem dX11_pointsTo_21 : decode cX11_pointsTo 21 = .ok (.goto 24, 3) := by decide +kernel
theorem dX11_pointsTo_24 : decode cX11_pointsTo 24 = .ok (.aload_n 0, 1) := by decide +kernel
theorem dX11_pointsTo_25 : decode cX11_pointsTo 25 = .ok (.iload_n 1, 1) := by decide +kernel
theorem dX11_pointsTo_26 : decode cX11_pointsTo 26 = .ok (.iload_n 3, 1) := by decide +kernel
theorem dX11_pointsTo_27 : decode cX11_pointsTo 27 = .ok (.invokevirtual 358, 3) := by decide +kernel
theorem dX11_pointsTo_30 : decode cX11_pointsTo 30 = .ok (.istore 4, 2) := by decide +kernel
theorem dX11_pointsTo_32 : decode cX11_pointsTo 32 = .ok (.iload 4, 2) := by decide +kernel
theorem dX11_pointsTo_34 : decode cX11_pointsTo 34 = .ok (.iload_n 2, 1) := by decide +kernel
theorem dX11_pointsTo_35 : decode cX11_pointsTo 35 = .ok (.if_icmp .le 8, 3) := by decide +kernel
theorem dX11_pointsTo_38 : decode cX11_pointsTo 38 = .ok (.iload 4, 2) := by decide +kernel
theorem dX11_pointsTo_40 : decode cX11_pointsTo 40 = .ok (.goto 4, 3) := by decide +kernel
theorem dX11_pointsTo_43 : decode cX11_pointsTo 43 = .ok (.iload_n 2, 1) := by decide +kernel
theorem dX11_pointsTo_44 : decode cX11_pointsTo 44 = .ok (.istore_n 2, 1) := by decide +kernel
theorem dX11_pointsTo_45 : decode cX11_pointsTo 45 = .ok (.iinc 3 1, 3) := by decide +kernel
theorem dX11_pointsTo_48 : decode cX11_pointsTo 48 = .ok (.goto (-44), 3) := by decide +kernel
theorem dX11_pointsTo_51 : decode cX11_pointsTo 51 = .ok (.iload_n 2, 1) := by decide +kernel
theorem dX11_pointsTo_52 : decode cX11_pointsTo 52 = .ok (.iconst (-1), 1) := by decide +kernel
theorem dX11_pointsTo_53 : decode cX11_pointsTo 53 = .ok (.if_icmp .ne 5, 3) := by decide +kernel
theorem dX11_pointsTo_56 : decode cX11_pointsTo 56 = .ok (.iconst (-1), 1) := by decide +kernel
theorem dX11_pointsTo_57 : decode cX11_pointsTo 57 = .ok (.ireturn, 1) := by decide +kernel
theorem dX11_pointsTo_58 : decode cX11_pointsTo 58 = .ok (.iconst (-1), 1) := by decide +kernel
theorem dX11_pointsTo_59 : decode cX11_pointsTo 59 = .ok (.istore_n 3, 1) := by decide +kernel
theorem dX11_pointsTo_60 : decode cX11_pointsTo 60 = .ok (.iload_n 2, 1) := by decide +kernel
theorem dX11_pointsTo_61 : decode cX11_pointsTo 61 = .ok (.istore 4, 2) := by decide +kernel
theorem dX11_pointsTo_63 : decode cX11_pointsTo 63 = .ok (.iconst 0, 1) := by decide +kernel
theorem dX11_pointsTo_64 : decode cX11_pointsTo 64 = .ok (.istore 5, 2) := by decide +kernel
theorem dX11_pointsTo_66 : decode cX11_pointsTo 66 = .ok (.iload 5, 2) := by decide +kernel
theorem dX11_pointsTo_68 : decode cX11_pointsTo 68 = .ok (.sipush 168, 3) := by decide +kernel
theorem dX11_pointsTo_71 : decode cX11_pointsTo 71 = .ok (.if_icmp .ge 78, 3) := by decide +kernel
theorem dX11_pointsTo_74 : decode cX11_pointsTo 74 = .ok (.aload_n 0, 1) := by decide +kernel
theorem dX11_pointsTo_75 : decode cX11_pointsTo 75 = .ok (.iload 5, 2) := by decide +kernel
theorem dX11_pointsTo_77 : decode cX11_pointsTo 77 = .ok (.iconst 0, 1) := by decide +kernel
theorem dX11_pointsTo_78 : decode cX11_pointsTo 78 = .ok (.invokevirtual 84, 3) := by decide +kernel
theorem dX11_pointsTo_81 : decode cX11_pointsTo 81 = .ok (.iconst (-1), 1) := by decide +kernel
theorem dX11_pointsTo_82 : decode cX11_pointsTo 82 = .ok (.if_icmp .eq 61, 3) := by decide +kernel
theorem dX11_pointsTo_85 : decode cX11_pointsTo 85 = .ok (.aload_n 0, 1) := by decide +kernel
theorem dX11_pointsTo_86 : decode cX11_pointsTo 86 = .ok (.iload 5, 2) := by decide +kernel
theorem dX11_pointsTo_88 : decode cX11_pointsTo 88 = .ok (.iconst 0, 1) := by decide +kernel
theorem dX11_pointsTo_89 : decode cX11_pointsTo 89 = .ok (.invokevirtual 84, 3) := by decide +kernel
theorem dX11_pointsTo_92 : decode cX11_pointsTo 92 = .ok (.iload_n 1, 1) := by decide +kernel
theorem dX11_pointsTo_93 : decode cX11_pointsTo 93 = .ok (.if_icmp .eq 50, 3) := by decide +kernel
theorem dX11_pointsTo_96 : decode cX11_pointsTo 96 = .ok (.aload_n 0, 1) := by decide +kernel
theorem dX11_pointsTo_97 : decode cX11_pointsTo 97 = .ok (.iload 5, 2) := by decide +kernel
theorem dX11_pointsTo_99 : decode cX11_pointsTo 99 = .ok (.invokevirtual 311, 3) := by decide +kernel
theorem dX11_pointsTo_102 : decode cX11_pointsTo 102 = .ok (.ifCond .eq 6, 3) := by decide +kernel
theorem dX11_pointsTo_105 : decode cX11_pointsTo 105 = .ok (.goto 38, 3) := by decide +kernel
theorem dX11_pointsTo_108 : decode cX11_pointsTo 108 = .ok (.aload_n 0, 1) := by decide +kernel
theorem dX11_pointsTo_109 : decode cX11_pointsTo 109 = .ok (.iload_n 1, 1) := by decide +kernel
theorem dX11_pointsTo_110 : decode cX11_pointsTo 110 = .ok (.iload 5, 2) := by decide +kernel
theorem dX11_pointsTo_112 : decode cX11_pointsTo 112 = .ok (.invokevirtual 270, 3) := by decide +kernel
theorem dX11_pointsTo_115 : decode cX11_pointsTo 115 = .ok (.aload_n 0, 1) := by decide +kernel
theorem dX11_pointsTo_116 : decode cX11_pointsTo 116 = .ok (.getfield 257, 3) := by decide +kernel
theorem dX11_pointsTo_119 : decode cX11_pointsTo 119 = .ok (.ifCond .ne 24, 3) := by decide +kernel
theorem dX11_pointsTo_122 : decode cX11_pointsTo 122 = .ok (.aload_n 0, 1) := by decide +kernel
theorem dX11_pointsTo_123 : decode cX11_pointsTo 123 = .ok (.getfield 262, 3) := by decide +kernel
theorem dX11_pointsTo_126 : decode cX11_pointsTo 126 = .ok (.iload 4, 2) := by decide +kernel
theorem dX11_pointsTo_128 : decode cX11_pointsTo 128 = .ok (.if_icmp .gt 6, 3) := by decide +kernel
theorem dX11_pointsTo_131 : decode cX11_pointsTo 131 = .ok (.goto 12, 3) := by decide +kernel
theorem dX11_pointsTo_134 : decode cX11_pointsTo 134 = .ok (.aload_n 0, 1) := by decide +kernel
theorem dX11_pointsTo_135 : decode cX11_pointsTo 135 = .ok (.getfield 262, 3) := by decide +kernel
theorem dX11_pointsTo_138 : decode cX11_pointsTo 138 = .ok (.istore 4, 2) := by decide +kernel
theorem dX11_pointsTo_140 : decode cX11_pointsTo 140 = .ok (.iload 5, 2) := by decide +kernel
theorem dX11_pointsTo_142 : decode cX11_pointsTo 142 = .ok (.istore_n 3, 1) := by decide +kernel
theorem dX11_pointsTo_143 : decode cX11_pointsTo 143 = .ok (.iinc 5 1, 3) := by decide +kernel
theorem dX11_pointsTo_146 : decode cX11_pointsTo 146 = .ok (.goto (-80), 3) := by decide +kernel
theorem dX11_pointsTo_149 : decode cX11_pointsTo 149 = .ok (.iload_n 3, 1) := by decide +kernel
theorem dX11_pointsTo_150 : decode cX11_pointsTo 150 = .ok (.ireturn, 1) := by decide +kernel
theorem dX11_rings_0 : decode cX11_rings 0 = .ok (.iload_n 1, 1) := by decide +kernel
theorem dX11_rings_1 : decode cX11_rings 1 = .ok (.istore_n 2, 1) := by decide +kernel
theorem dX11_rings_2 : decode cX11_rings 2 = .ok (.iconst 0, 1) := by decide +kernel
theorem dX11_rings_3 : decode cX11_rings 3 = .ok (.istore_n 3, 1) := by decide +kernel
theorem dX11_rings_4 : decode cX11_rings 4 = .ok (.iload_n 3, 1) := by decide +kernel
theorem dX11_rings_5 : decode cX11_rings 5 = .ok (.aload_n 0, 1) := by decide +kernel
theorem dX11_rings_6 : decode cX11_rings 6 = .ok (.getfield 7, 3) := by decide +kernel
theorem dX11_rings_9 : decode cX11_rings 9 = .ok (.iconst 1, 1) := by decide +kernel
theorem dX11_rings_10 : decode cX11_rings 10 = .ok (.iaload, 1) := by decide +kernel
theorem dX11_rings_11 : decode cX11_rings 11 = .ok (.if_icmp .ge 56, 3) := by decide +kernel
theorem dX11_rings_14 : decode cX11_rings 14 = .ok (.aload_n 0, 1) := by decide +kernel
theorem dX11_rings_15 : decode cX11_rings 15 = .ok (.iload_n 2, 1) := by decide +kernel
theorem dX11_rings_16 : decode cX11_rings 16 = .ok (.invokevirtual 367, 3) := by decide +kernel
theorem dX11_rings_19 : decode cX11_rings 19 = .ok (.istore 4, 2) := by decide +kernel
theorem dX11_rings_21 : decode cX11_rings 21 = .ok (.iload 4, 2) := by decide +kernel
theorem dX11_rings_23 : decode cX11_rings 23 = .ok (.iconst (-1), 1) := by decide +kernel
theorem dX11_rings_24 : decode cX11_rings 24 = .ok (.if_icmp .ne 5, 3) := by decide +kernel
theorem dX11_rings_27 : decode cX11_rings 27 = .ok (.iconst (-1), 1) := by decide +kernel
theorem dX11_rings_28 : decode cX11_rings 28 = .ok (.ireturn, 1) := by decide +kernel
theorem dX11_rings_29 : decode cX11_rings 29 = .ok (.aload_n 0, 1) := by decide +kernel
theorem dX11_rings_30 : decode cX11_rings 30 = .ok (.getfield 51, 3) := by decide +kernel
theorem dX11_rings_33 : decode cX11_rings 33 = .ok (.iload_n 3, 1) := by decide +kernel
theorem dX11_rings_34 : decode cX11_rings 34 = .ok (.iload_n 2, 1) := by decide +kernel
theorem dX11_rings_35 : decode cX11_rings 35 = .ok (.iastore, 1) := by decide +kernel
theorem dX11_rings_36 : decode cX11_rings 36 = .ok (.aload_n 0, 1) := by decide +kernel
theorem dX11_rings_37 : decode cX11_rings 37 = .ok (.getfield 54, 3) := by decide +kernel
theorem dX11_rings_40 : decode cX11_rings 40 = .ok (.iload_n 3, 1) := by decide +kernel
theorem dX11_rings_41 : decode cX11_rings 41 = .ok (.iload 4, 2) := by decide +kernel
theorem dX11_rings_43 : decode cX11_rings 43 = .ok (.iastore, 1) := by decide +kernel
theorem dX11_rings_44 : decode cX11_rings 44 = .ok (.aload_n 0, 1) := by decide +kernel
theorem dX11_rings_45 : decode cX11_rings 45 = .ok (.iload 4, 2) := by decide +kernel
theorem dX11_rings_47 : decode cX11_rings 47 = .ok (.iconst 0, 1) := by decide +kernel
theorem dX11_rings_48 : decode cX11_rings 48 = .ok (.invokevirtual 84, 3) := by decide +kernel
theorem dX11_rings_51 : decode cX11_rings 51 = .ok (.istore_n 2, 1) := by decide +kernel
theorem dX11_rings_52 : decode cX11_rings 52 = .ok (.iload_n 2, 1) := by decide +kernel
theorem dX11_rings_53 : decode cX11_rings 53 = .ok (.iload_n 1, 1) := by decide +kernel
theorem dX11_rings_54 : decode cX11_rings 54 = .ok (.if_icmp .ne 7, 3) := by decide +kernel
theorem dX11_rings_57 : decode cX11_rings 57 = .ok (.iload_n 3, 1) := by decide +kernel
theorem dX11_rings_58 : decode cX11_rings 58 = .ok (.iconst 1, 1) := by decide +kernel
theorem dX11_rings_59 : decode cX11_rings 59 = .ok (.iadd, 1) := by decide +kernel
theorem dX11_rings_60 : decode cX11_rings 60 = .ok (.ireturn, 1) := by decide +kernel
theorem dX11_rings_61 : decode cX11_rings 61 = .ok (.iinc 3 1, 3) := by decide +kernel
theorem dX11_rings_64 : decode cX11_rings 64 = .ok (.goto (-60), 3) := by decide +kernel
theorem dX11_rings_67 : decode cX11_rings 67 = .ok (.iconst (-1), 1) := by decide +kernel
theorem dX11_rings_68 : decode cX11_rings 68 = .ok (.ireturn, 1) := by decide +kernel
theorem dX11_ring_0 : decode cX11_ring 0 = .ok (.aload_n 0, 1) := by decide +kernel
theorem dX11_ring_1 : decode cX11_ring 1 = .ok (.aload_n 0, 1) := by decide +kernel
theorem dX11_ring_2 : decode cX11_ring 2 = .ok (.iload_n 1, 1) := by decide +kernel
theorem dX11_ring_3 : decode cX11_ring 3 = .ok (.invokevirtual 277, 3) := by decide +kernel
theorem dX11_ring_6 : decode cX11_ring 6 = .ok (.ifCond .ne 7, 3) := by decide +kernel
theorem dX11_ring_9 : decode cX11_ring 9 = .ok (.iconst 1, 1) := by decide +kernel
theorem dX11_ring_10 : decode cX11_ring 10 = .ok (.goto 13, 3) := by decide +kernel
theorem dX11_ring_13 : decode cX11_ring 13 = .ok (.iload_n 2, 1) := by decide +kernel
theorem dX11_ring_14 : decode cX11_ring 14 = .ok (.iconst (-1), 1) := by decide +kernel
theorem dX11_ring_15 : decode cX11_ring 15 = .ok (.if_icmp .ge 7, 3) := by decide +kernel
theorem dX11_ring_18 : decode cX11_ring 18 = .ok (.iconst 2, 1) := by decide +kernel
theorem dX11_ring_19 : decode cX11_ring 19 = .ok (.goto 4, 3) := by decide +kernel
theorem dX11_ring_22 : decode cX11_ring 22 = .ok (.iconst 0, 1) := by decide +kernel
theorem dX11_ring_23 : decode cX11_ring 23 = .ok (.putfield 69, 3) := by decide +kernel
theorem dX11_ring_26 : decode cX11_ring 26 = .ok (.aload_n 0, 1) := by decide +kernel
theorem dX11_ring_27 : decode cX11_ring 27 = .ok (.getfield 69, 3) := by decide +kernel
theorem dX11_ring_30 : decode cX11_ring 30 = .ok (.ifCond .le 5, 3) := by decide +kernel
theorem dX11_ring_33 : decode cX11_ring 33 = .ok (.iconst 0, 1) := by decide +kernel
theorem dX11_ring_34 : decode cX11_ring 34 = .ok (.ireturn, 1) := by decide +kernel
theorem dX11_ring_35 : decode cX11_ring 35 = .ok (.aload_n 0, 1) := by decide +kernel
theorem dX11_ring_36 : decode cX11_ring 36 = .ok (.iload_n 1, 1) := by decide +kernel
theorem dX11_ring_37 : decode cX11_ring 37 = .ok (.invokevirtual 370, 3) := by decide +kernel
theorem dX11_ring_40 : decode cX11_ring 40 = .ok (.istore_n 3, 1) := by decide +kernel
theorem dX11_ring_41 : decode cX11_ring 41 = .ok (.iload_n 2, 1) := by decide +kernel
theorem dX11_ring_42 : decode cX11_ring 42 = .ok (.iconst (-1), 1) := by decide +kernel
theorem dX11_ring_43 : decode cX11_ring 43 = .ok (.if_icmp .ne 7, 3) := by decide +kernel
theorem dX11_ring_46 : decode cX11_ring 46 = .ok (.iload_n 3, 1) := by decide +kernel
theorem dX11_ring_47 : decode cX11_ring 47 = .ok (.goto 18, 3) := by decide +kernel
theorem dX11_ring_50 : decode cX11_ring 50 = .ok (.iload_n 2, 1) := by decide +kernel
theorem dX11_ring_51 : decode cX11_ring 51 = .ok (.iload_n 3, 1) := by decide +kernel
theorem dX11_ring_52 : decode cX11_ring 52 = .ok (.if_icmp .ge 12, 3) := by decide +kernel
theorem dX11_ring_55 : decode cX11_ring 55 = .ok (.aload_n 0, 1) := by decide +kernel
theorem dX11_ring_56 : decode cX11_ring 56 = .ok (.getfield 54, 3) := by decide +kernel
theorem dX11_ring_59 : decode cX11_ring 59 = .ok (.iload_n 2, 1) := by decide +kernel
theorem dX11_ring_60 : decode cX11_ring 60 = .ok (.iaload, 1) := by decide +kernel
theorem dX11_ring_61 : decode cX11_ring 61 = .ok (.goto 4, 3) := by decide +kernel
theorem dX11_ring_64 : decode cX11_ring 64 = .ok (.iconst (-1), 1) := by decide +kernel
theorem dX11_ring_65 : decode cX11_ring 65 = .ok (.ireturn, 1) := by decide +kernel
theorem dX11_turn_0 : decode cX11_turn 0 = .ok (.aload_n 0, 1) := by decide +kernel
theorem dX11_turn_1 : decode cX11_turn 1 = .ok (.aload_n 0, 1) := by decide +kernel
theorem dX11_turn_2 : decode cX11_turn 2 = .ok (.iload_n 1, 1) := by decide +kernel
theorem dX11_turn_3 : decode cX11_turn 3 = .ok (.invokevirtual 277, 3) := by decide +kernel
theorem dX11_turn_6 : decode cX11_turn 6 = .ok (.ifCond .ne 7, 3) := by decide +kernel
theorem dX11_turn_9 : decode cX11_turn 9 = .ok (.iconst 1, 1) := by decide +kernel
theorem dX11_turn_10 : decode cX11_turn 10 = .ok (.goto 17, 3) := by decide +kernel
theorem dX11_turn_13 : decode cX11_turn 13 = .ok (.aload_n 0, 1) := by decide +kernel
theorem dX11_turn_14 : decode cX11_turn 14 = .ok (.iload_n 1, 1) := by decide +kernel
theorem dX11_turn_15 : decode cX11_turn 15 = .ok (.invokevirtual 370, 3) := by decide +kernel
theorem dX11_turn_18 : decode cX11_turn 18 = .ok (.iconst (-1), 1) := by decide +kernel
theorem dX11_turn_19 : decode cX11_turn 19 = .ok (.if_icmp .ne 7, 3) := by decide +kernel
theorem dX11_turn_22 : decode cX11_turn 22 = .ok (.iconst 2, 1) := by decide +kernel
theorem dX11_turn_23 : decode cX11_turn 23 = .ok (.goto 4, 3) := by decide +kernel
theorem dX11_turn_26 : decode cX11_turn 26 = .ok (.iconst 0, 1) := by decide +kernel
theorem dX11_turn_27 : decode cX11_turn 27 = .ok (.putfield 69, 3) := by decide +kernel
theorem dX11_turn_30 : decode cX11_turn 30 = .ok (.aload_n 0, 1) := by decide +kernel
theorem dX11_turn_31 : decode cX11_turn 31 = .ok (.getfield 69, 3) := by decide +kernel
theorem dX11_turn_34 : decode cX11_turn 34 = .ok (.ifCond .le 5, 3) := by decide +kernel
theorem dX11_turn_37 : decode cX11_turn 37 = .ok (.iconst 0, 1) := by decide +kernel
theorem dX11_turn_38 : decode cX11_turn 38 = .ok (.ireturn, 1) := by decide +kernel
theorem dX11_turn_39 : decode cX11_turn 39 = .ok (.aload_n 0, 1) := by decide +kernel
theorem dX11_turn_40 : decode cX11_turn 40 = .ok (.invokevirtual 305, 3) := by decide +kernel
theorem dX11_turn_43 : decode cX11_turn 43 = .ok (.aload_n 0, 1) := by decide +kernel
theorem dX11_turn_44 : decode cX11_turn 44 = .ok (.iload_n 1, 1) := by decide +kernel
theorem dX11_turn_45 : decode cX11_turn 45 = .ok (.invokevirtual 370, 3) := by decide +kernel
theorem dX11_turn_48 : decode cX11_turn 48 = .ok (.istore_n 2, 1) := by decide +kernel
theorem dX11_turn_49 : decode cX11_turn 49 = .ok (.iconst 0, 1) := by decide +kernel
theorem dX11_turn_50 : decode cX11_turn 50 = .ok (.istore_n 3, 1) := by decide +kernel
theorem dX11_turn_51 : decode cX11_turn 51 = .ok (.iload_n 3, 1) := by decide +kernel
theorem dX11_turn_52 : decode cX11_turn 52 = .ok (.iload_n 2, 1) := by decide +kernel
theorem dX11_turn_53 : decode cX11_turn 53 = .ok (.if_icmp .ge 48, 3) := by decide +kernel
theorem dX11_turn_56 : decode cX11_turn 56 = .ok (.aload_n 0, 1) := by decide +kernel
theorem dX11_turn_57 : decode cX11_turn 57 = .ok (.aload_n 0, 1) := by decide +kernel
theorem dX11_turn_58 : decode cX11_turn 58 = .ok (.getfield 54, 3) := by decide +kernel
theorem dX11_turn_61 : decode cX11_turn 61 = .ok (.iload_n 3, 1) := by decide +kernel
theorem dX11_turn_62 : decode cX11_turn 62 = .ok (.iaload, 1) := by decide +kernel
theorem dX11_turn_63 : decode cX11_turn 63 = .ok (.aload_n 0, 1) := by decide +kernel
theorem dX11_turn_64 : decode cX11_turn 64 = .ok (.getfield 51, 3) := by decide +kernel
theorem dX11_turn_67 : decode cX11_turn 67 = .ok (.iload_n 3, 1) := by decide +kernel
theorem dX11_turn_68 : decode cX11_turn 68 = .ok (.iaload, 1) := by decide +kernel
theorem dX11_turn_69 : decode cX11_turn 69 = .ok (.aload_n 0, 1) := by decide +kernel
theorem dX11_turn_70 : decode cX11_turn 70 = .ok (.getfield 51, 3) := by decide +kernel
theorem dX11_turn_73 : decode cX11_turn 73 = .ok (.iload_n 3, 1) := by decide +kernel
theorem dX11_turn_74 : decode cX11_turn 74 = .ok (.iaload, 1) := by decide +kernel
theorem dX11_turn_75 : decode cX11_turn 75 = .ok (.invokevirtual 149, 3) := by decide +kernel
theorem dX11_turn_78 : decode cX11_turn 78 = .ok (.aload_n 0, 1) := by decide +kernel
theorem dX11_turn_79 : decode cX11_turn 79 = .ok (.aload_n 0, 1) := by decide +kernel
theorem dX11_turn_80 : decode cX11_turn 80 = .ok (.getfield 54, 3) := by decide +kernel
theorem dX11_turn_83 : decode cX11_turn 83 = .ok (.iload_n 3, 1) := by decide +kernel
theorem dX11_turn_84 : decode cX11_turn 84 = .ok (.iaload, 1) := by decide +kernel
theorem dX11_turn_85 : decode cX11_turn 85 = .ok (.aload_n 0, 1) := by decide +kernel
theorem dX11_turn_86 : decode cX11_turn 86 = .ok (.getfield 51, 3) := by decide +kernel
theorem dX11_turn_89 : decode cX11_turn 89 = .ok (.iload_n 3, 1) := by decide +kernel
theorem dX11_turn_90 : decode cX11_turn 90 = .ok (.iaload, 1) := by decide +kernel
theorem dX11_turn_91 : decode cX11_turn 91 = .ok (.iconst 4, 1) := by decide +kernel
theorem dX11_turn_92 : decode cX11_turn 92 = .ok (.invokevirtual 298, 3) := by decide +kernel
theorem dX11_turn_95 : decode cX11_turn 95 = .ok (.iinc 3 1, 3) := by decide +kernel
theorem dX11_turn_98 : decode cX11_turn 98 = .ok (.goto (-47), 3) := by decide +kernel
theorem dX11_turn_101 : decode cX11_turn 101 = .ok (.iload_n 2, 1) := by decide +kernel
theorem dX11_turn_102 : decode cX11_turn 102 = .ok (.ireturn, 1) := by decide +kernel
theorem dX11_family_0 : decode cX11_family 0 = .ok (.iload_n 1, 1) := by decide +kernel
theorem dX11_family_1 : decode cX11_family 1 = .ok (.istore_n 2, 1) := by decide +kernel
theorem dX11_family_2 : decode cX11_family 2 = .ok (.iconst 0, 1) := by decide +kernel
theorem dX11_family_3 : decode cX11_family 3 = .ok (.istore_n 3, 1) := by decide +kernel
theorem dX11_family_4 : decode cX11_family 4 = .ok (.iload_n 3, 1) := by decide +kernel
theorem dX11_family_5 : decode cX11_family 5 = .ok (.aload_n 0, 1) := by decide +kernel
theorem dX11_family_6 : decode cX11_family 6 = .ok (.getfield 7, 3) := by decide +kernel
theorem dX11_family_9 : decode cX11_family 9 = .ok (.iconst 1, 1) := by decide +kernel
theorem dX11_family_10 : decode cX11_family 10 = .ok (.iaload, 1) := by decide +kernel
theorem dX11_family_11 : decode cX11_family 11 = .ok (.if_icmp .ge 40, 3) := by decide +kernel
theorem dX11_family_14 : decode cX11_family 14 = .ok (.aload_n 0, 1) := by decide +kernel
theorem dX11_family_15 : decode cX11_family 15 = .ok (.iload_n 3, 1) := by decide +kernel
theorem dX11_family_16 : decode cX11_family 16 = .ok (.invokevirtual 80, 3) := by decide +kernel
theorem dX11_family_19 : decode cX11_family 19 = .ok (.ifCond .eq 24, 3) := by decide +kernel
theorem dX11_family_22 : decode cX11_family 22 = .ok (.iload_n 1, 1) := by decide +kernel
theorem dX11_family_23 : decode cX11_family 23 = .ok (.aload_n 0, 1) := by decide +kernel
theorem dX11_family_24 : decode cX11_family 24 = .ok (.iload_n 3, 1) := by decide +kernel
theorem dX11_family_25 : decode cX11_family 25 = .ok (.iconst 3, 1) := by decide +kernel
theorem dX11_family_26 : decode cX11_family 26 = .ok (.invokevirtual 76, 3) := by decide +kernel
theorem dX11_family_29 : decode cX11_family 29 = .ok (.invokestatic 340, 3) := by decide +kernel
theorem dX11_family_32 : decode cX11_family 32 = .ok (.ifCond .eq 11, 3) := by decide +kernel
theorem dX11_family_35 : decode cX11_family 35 = .ok (.iload_n 2, 1) := by decide +kernel
theorem dX11_family_36 : decode cX11_family 36 = .ok (.iconst 1, 1) := by decide +kernel
theorem dX11_family_37 : decode cX11_family 37 = .ok (.iload_n 3, 1) := by decide +kernel
theorem dX11_family_38 : decode cX11_family 38 = .ok (.ishl, 1) := by decide +kernel
theorem dX11_family_39 : decode cX11_family 39 = .ok (.ior, 1) := by decide +kernel
theorem dX11_family_40 : decode cX11_family 40 = .ok (.goto 4, 3) := by decide +kernel
theorem dX11_family_43 : decode cX11_family 43 = .ok (.iload_n 2, 1) := by decide +kernel
theorem dX11_family_44 : decode cX11_family 44 = .ok (.istore_n 2, 1) := by decide +kernel
theorem dX11_family_45 : decode cX11_family 45 = .ok (.iinc 3 1, 3) := by decide +kernel
theorem dX11_family_48 : decode cX11_family 48 = .ok (.goto (-44), 3) := by decide +kernel
theorem dX11_family_51 : decode cX11_family 51 = .ok (.iload_n 2, 1) := by decide +kernel
theorem dX11_family_52 : decode cX11_family 52 = .ok (.ireturn, 1) := by decide +kernel
theorem dX11_tells_0 : decode cX11_tells 0 = .ok (.aload_n 0, 1) := by decide +kernel
theorem dX11_tells_1 : decode cX11_tells 1 = .ok (.getfield 7, 3) := by decide +kernel
theorem dX11_tells_4 : decode cX11_tells 4 = .ok (.iconst 5, 1) := by decide +kernel
theorem dX11_tells_5 : decode cX11_tells 5 = .ok (.iaload, 1) := by decide +kernel
theorem dX11_tells_6 : decode cX11_tells 6 = .ok (.iload_n 2, 1) := by decide +kernel
theorem dX11_tells_7 : decode cX11_tells 7 = .ok (.iadd, 1) := by decide +kernel
theorem dX11_tells_8 : decode cX11_tells 8 = .ok (.sipush 168, 3) := by decide +kernel
theorem dX11_tells_11 : decode cX11_tells 11 = .ok (.irem, 1) := by decide +kernel
theorem dX11_tells_12 : decode cX11_tells 12 = .ok (.istore_n 3, 1) := by decide +kernel
theorem dX11_tells_13 : decode cX11_tells 13 = .ok (.aload_n 0, 1) := by decide +kernel
theorem dX11_tells_14 : decode cX11_tells 14 = .ok (.iload_n 3, 1) := by decide +kernel
theorem dX11_tells_15 : decode cX11_tells 15 = .ok (.iconst 1, 1) := by decide +kernel
theorem dX11_tells_16 : decode cX11_tells 16 = .ok (.iadd, 1) := by decide +kernel
theorem dX11_tells_17 : decode cX11_tells 17 = .ok (.invokevirtual 264, 3) := by decide +kernel
theorem dX11_tells_20 : decode cX11_tells 20 = .ok (.istore 4, 2) := by decide +kernel
theorem dX11_tells_22 : decode cX11_tells 22 = .ok (.aload_n 0, 1) := by decide +kernel
theorem dX11_tells_23 : decode cX11_tells 23 = .ok (.iload_n 3, 1) := by decide +kernel
theorem dX11_tells_24 : decode cX11_tells 24 = .ok (.invokevirtual 264, 3) := by decide +kernel
theorem dX11_tells_27 : decode cX11_tells 27 = .ok (.iconst (-1), 1) := by decide +kernel
theorem dX11_tells_28 : decode cX11_tells 28 = .ok (.if_icmp .eq 19, 3) := by decide +kernel
theorem dX11_tells_31 : decode cX11_tells 31 = .ok (.iload_n 1, 1) := by decide +kernel
theorem dX11_tells_32 : decode cX11_tells 32 = .ok (.aload_n 0, 1) := by decide +kernel
theorem dX11_tells_33 : decode cX11_tells 33 = .ok (.iload_n 3, 1) := by decide +kernel
theorem dX11_tells_34 : decode cX11_tells 34 = .ok (.invokevirtual 264, 3) := by decide +kernel
theorem dX11_tells_37 : decode cX11_tells 37 = .ok (.invokestatic 340, 3) := by decide +kernel
theorem dX11_tells_40 : decode cX11_tells 40 = .ok (.ifCond .eq 7, 3) := by decide +kernel
theorem dX11_tells_43 : decode cX11_tells 43 = .ok (.iconst 1, 1) := by decide +kernel
theorem dX11_tells_44 : decode cX11_tells 44 = .ok (.goto 4, 3) := by decide +kernel
theorem dX11_tells_47 : decode cX11_tells 47 = .ok (.iconst 0, 1) := by decide +kernel
theorem dX11_tells_48 : decode cX11_tells 48 = .ok (.istore 5, 2) := by decide +kernel
theorem dX11_tells_50 : decode cX11_tells 50 = .ok (.iload 5, 2) := by decide +kernel
theorem dX11_tells_52 : decode cX11_tells 52 = .ok (.ifCond .eq 22, 3) := by decide +kernel
theorem dX11_tells_55 : decode cX11_tells 55 = .ok (.iload 4, 2) := by decide +kernel
theorem dX11_tells_57 : decode cX11_tells 57 = .ok (.iconst (-1), 1) := by decide +kernel
theorem dX11_tells_58 : decode cX11_tells 58 = .ok (.if_icmp .eq 16, 3) := by decide +kernel
theorem dX11_tells_61 : decode cX11_tells 61 = .ok (.aload_n 0, 1) := by decide +kernel
theorem dX11_tells_62 : decode cX11_tells 62 = .ok (.iload_n 1, 1) := by decide +kernel
theorem dX11_tells_63 : decode cX11_tells 63 = .ok (.iconst 1, 1) := by decide +kernel
theorem dX11_tells_64 : decode cX11_tells 64 = .ok (.iload 4, 2) := by decide +kernel
theorem dX11_tells_66 : decode cX11_tells 66 = .ok (.ishl, 1) := by decide +kernel
theorem dX11_tells_67 : decode cX11_tells 67 = .ok (.ior, 1) := by decide +kernel
theorem dX11_tells_68 : decode cX11_tells 68 = .ok (.invokevirtual 373, 3) := by decide +kernel
theorem dX11_tells_71 : decode cX11_tells 71 = .ok (.goto 4, 3) := by decide +kernel
theorem dX11_tells_74 : decode cX11_tells 74 = .ok (.iload_n 1, 1) := by decide +kernel
theorem dX11_tells_75 : decode cX11_tells 75 = .ok (.ireturn, 1) := by decide +kernel
theorem dX11_soonest_0 : decode cX11_soonest 0 = .ok (.aload_n 0, 1) := by decide +kernel
theorem dX11_soonest_1 : decode cX11_soonest 1 = .ok (.aload_n 0, 1) := by decide +kernel
theorem dX11_soonest_2 : decode cX11_soonest 2 = .ok (.iload_n 1, 1) := by decide +kernel
theorem dX11_soonest_3 : decode cX11_soonest 3 = .ok (.invokevirtual 277, 3) := by decide +kernel
theorem dX11_soonest_6 : decode cX11_soonest 6 = .ok (.ifCond .eq 11, 3) := by decide +kernel
theorem dX11_soonest_9 : decode cX11_soonest 9 = .ok (.aload_n 0, 1) := by decide +kernel
theorem dX11_soonest_10 : decode cX11_soonest 10 = .ok (.iload_n 2, 1) := by decide +kernel
theorem dX11_soonest_11 : decode cX11_soonest 11 = .ok (.invokevirtual 277, 3) := by decide +kernel
theorem dX11_soonest_14 : decode cX11_soonest 14 = .ok (.ifCond .ne 7, 3) := by decide +kernel
theorem dX11_soonest_17 : decode cX11_soonest 17 = .ok (.iconst 1, 1) := by decide +kernel
theorem dX11_soonest_18 : decode cX11_soonest 18 = .ok (.goto 4, 3) := by decide +kernel
theorem dX11_soonest_21 : decode cX11_soonest 21 = .ok (.iconst 0, 1) := by decide +kernel
theorem dX11_soonest_22 : decode cX11_soonest 22 = .ok (.putfield 69, 3) := by decide +kernel
theorem dX11_soonest_25 : decode cX11_soonest 25 = .ok (.aload_n 0, 1) := by decide +kernel
theorem dX11_soonest_26 : decode cX11_soonest 26 = .ok (.getfield 69, 3) := by decide +kernel
theorem dX11_soonest_29 : decode cX11_soonest 29 = .ok (.ifCond .le 5, 3) := by decide +kernel
theorem dX11_soonest_32 : decode cX11_soonest 32 = .ok (.iconst 0, 1) := by decide +kernel
theorem dX11_soonest_33 : decode cX11_soonest 33 = .ok (.ireturn, 1) := by decide +kernel
theorem dX11_soonest_34 : decode cX11_soonest 34 = .ok (.aload_n 0, 1) := by decide +kernel
theorem dX11_soonest_35 : decode cX11_soonest 35 = .ok (.iconst 1, 1) := by decide +kernel
theorem dX11_soonest_36 : decode cX11_soonest 36 = .ok (.aload_n 0, 1) := by decide +kernel
theorem dX11_soonest_37 : decode cX11_soonest 37 = .ok (.iload_n 1, 1) := by decide +kernel
theorem dX11_soonest_38 : decode cX11_soonest 38 = .ok (.invokevirtual 87, 3) := by decide +kernel
theorem dX11_soonest_41 : decode cX11_soonest 41 = .ok (.ishl, 1) := by decide +kernel
theorem dX11_soonest_42 : decode cX11_soonest 42 = .ok (.invokevirtual 373, 3) := by decide +kernel
theorem dX11_soonest_45 : decode cX11_soonest 45 = .ok (.istore_n 3, 1) := by decide +kernel
theorem dX11_soonest_46 : decode cX11_soonest 46 = .ok (.iconst 0, 1) := by decide +kernel
theorem dX11_soonest_47 : decode cX11_soonest 47 = .ok (.istore 4, 2) := by decide +kernel
theorem dX11_soonest_49 : decode cX11_soonest 49 = .ok (.iload 4, 2) := by decide +kernel
theorem dX11_soonest_51 : decode cX11_soonest 51 = .ok (.sipush 336, 3) := by decide +kernel
theorem dX11_soonest_54 : decode cX11_soonest 54 = .ok (.if_icmp .ge 25, 3) := by decide +kernel
theorem dX11_soonest_57 : decode cX11_soonest 57 = .ok (.iload_n 3, 1) := by decide +kernel
theorem dX11_soonest_58 : decode cX11_soonest 58 = .ok (.iload_n 2, 1) := by decide +kernel
theorem dX11_soonest_59 : decode cX11_soonest 59 = .ok (.invokestatic 340, 3) := by decide +kernel
theorem dX11_soonest_62 : decode cX11_soonest 62 = .ok (.ifCond .ne 17, 3) := by decide +kernel
theorem dX11_soonest_65 : decode cX11_soonest 65 = .ok (.aload_n 0, 1) := by decide +kernel
theorem dX11_soonest_66 : decode cX11_soonest 66 = .ok (.iload_n 3, 1) := by decide +kernel
theorem dX11_soonest_67 : decode cX11_soonest 67 = .ok (.iload 4, 2) := by decide +kernel
theorem dX11_soonest_69 : decode cX11_soonest 69 = .ok (.invokevirtual 376, 3) := by decide +kernel
theorem dX11_soonest_72 : decode cX11_soonest 72 = .ok (.istore_n 3, 1) := by decide +kernel
theorem dX11_soonest_73 : decode cX11_soonest 73 = .ok (.iinc 4 1, 3) := by decide +kernel
theorem dX11_soonest_76 : decode cX11_soonest 76 = .ok (.goto (-27), 3) := by decide +kernel
theorem dX11_soonest_79 : decode cX11_soonest 79 = .ok (.iload_n 3, 1) := by decide +kernel
theorem dX11_soonest_80 : decode cX11_soonest 80 = .ok (.iload_n 2, 1) := by decide +kernel
theorem dX11_soonest_81 : decode cX11_soonest 81 = .ok (.invokestatic 340, 3) := by decide +kernel
theorem dX11_soonest_84 : decode cX11_soonest 84 = .ok (.ifCond .eq 8, 3) := by decide +kernel
theorem dX11_soonest_87 : decode cX11_soonest 87 = .ok (.iload 4, 2) := by decide +kernel
theorem dX11_soonest_89 : decode cX11_soonest 89 = .ok (.goto 4, 3) := by decide +kernel
theorem dX11_soonest_92 : decode cX11_soonest 92 = .ok (.iconst (-1), 1) := by decide +kernel
theorem dX11_soonest_93 : decode cX11_soonest 93 = .ok (.ireturn, 1) := by decide +kernel
theorem dX11_heard_0 : decode cX11_heard 0 = .ok (.aload_n 0, 1) := by decide +kernel
theorem dX11_heard_1 : decode cX11_heard 1 = .ok (.aload_n 0, 1) := by decide +kernel
theorem dX11_heard_2 : decode cX11_heard 2 = .ok (.iload_n 1, 1) := by decide +kernel
theorem dX11_heard_3 : decode cX11_heard 3 = .ok (.invokevirtual 277, 3) := by decide +kernel
theorem dX11_heard_6 : decode cX11_heard 6 = .ok (.ifCond .ne 7, 3) := by decide +kernel
theorem dX11_heard_9 : decode cX11_heard 9 = .ok (.iconst 1, 1) := by decide +kernel
theorem dX11_heard_10 : decode cX11_heard 10 = .ok (.goto 19, 3) := by decide +kernel
theorem dX11_heard_13 : decode cX11_heard 13 = .ok (.iload_n 2, 1) := by decide +kernel
theorem dX11_heard_14 : decode cX11_heard 14 = .ok (.iconst 0, 1) := by decide +kernel
theorem dX11_heard_15 : decode cX11_heard 15 = .ok (.sipush 336, 3) := by decide +kernel
theorem dX11_heard_18 : decode cX11_heard 18 = .ok (.invokestatic 72, 3) := by decide +kernel
theorem dX11_heard_21 : decode cX11_heard 21 = .ok (.ifCond .ne 7, 3) := by decide +kernel
theorem dX11_heard_24 : decode cX11_heard 24 = .ok (.iconst 2, 1) := by decide +kernel
theorem dX11_heard_25 : decode cX11_heard 25 = .ok (.goto 4, 3) := by decide +kernel
theorem dX11_heard_28 : decode cX11_heard 28 = .ok (.iconst 0, 1) := by decide +kernel
theorem dX11_heard_29 : decode cX11_heard 29 = .ok (.putfield 69, 3) := by decide +kernel
theorem dX11_heard_32 : decode cX11_heard 32 = .ok (.aload_n 0, 1) := by decide +kernel
theorem dX11_heard_33 : decode cX11_heard 33 = .ok (.getfield 69, 3) := by decide +kernel
theorem dX11_heard_36 : decode cX11_heard 36 = .ok (.ifCond .le 5, 3) := by decide +kernel
theorem dX11_heard_39 : decode cX11_heard 39 = .ok (.iconst 0, 1) := by decide +kernel
theorem dX11_heard_40 : decode cX11_heard 40 = .ok (.ireturn, 1) := by decide +kernel
theorem dX11_heard_41 : decode cX11_heard 41 = .ok (.aload_n 0, 1) := by decide +kernel
theorem dX11_heard_42 : decode cX11_heard 42 = .ok (.iconst 1, 1) := by decide +kernel
theorem dX11_heard_43 : decode cX11_heard 43 = .ok (.aload_n 0, 1) := by decide +kernel
theorem dX11_heard_44 : decode cX11_heard 44 = .ok (.iload_n 1, 1) := by decide +kernel
theorem dX11_heard_45 : decode cX11_heard 45 = .ok (.invokevirtual 87, 3) := by decide +kernel
theorem dX11_heard_48 : decode cX11_heard 48 = .ok (.ishl, 1) := by decide +kernel
theorem dX11_heard_49 : decode cX11_heard 49 = .ok (.invokevirtual 373, 3) := by decide +kernel
theorem dX11_heard_52 : decode cX11_heard 52 = .ok (.istore_n 3, 1) := by decide +kernel
theorem dX11_heard_53 : decode cX11_heard 53 = .ok (.iconst 0, 1) := by decide +kernel
theorem dX11_heard_54 : decode cX11_heard 54 = .ok (.istore 4, 2) := by decide +kernel
theorem dX11_heard_56 : decode cX11_heard 56 = .ok (.iload 4, 2) := by decide +kernel
theorem dX11_heard_58 : decode cX11_heard 58 = .ok (.iload_n 2, 1) := by decide +kernel
theorem dX11_heard_59 : decode cX11_heard 59 = .ok (.if_icmp .ge 17, 3) := by decide +kernel
theorem dX11_heard_62 : decode cX11_heard 62 = .ok (.aload_n 0, 1) := by decide +kernel
theorem dX11_heard_63 : decode cX11_heard 63 = .ok (.iload_n 3, 1) := by decide +kernel
theorem dX11_heard_64 : decode cX11_heard 64 = .ok (.iload 4, 2) := by decide +kernel
theorem dX11_heard_66 : decode cX11_heard 66 = .ok (.invokevirtual 376, 3) := by decide +kernel
theorem dX11_heard_69 : decode cX11_heard 69 = .ok (.istore_n 3, 1) := by decide +kernel
theorem dX11_heard_70 : decode cX11_heard 70 = .ok (.iinc 4 1, 3) := by decide +kernel
theorem dX11_heard_73 : decode cX11_heard 73 = .ok (.goto (-17), 3) := by decide +kernel
theorem dX11_heard_76 : decode cX11_heard 76 = .ok (.iload_n 3, 1) := by decide +kernel
theorem dX11_heard_77 : decode cX11_heard 77 = .ok (.ireturn, 1) := by decide +kernel
theorem dX11_roomsFor_0 : decode cX11_roomsFor 0 = .ok (.aload_n 0, 1) := by decide +kernel
theorem dX11_roomsFor_1 : decode cX11_roomsFor 1 = .ok (.aload_n 0, 1) := by decide +kernel
theorem dX11_roomsFor_2 : decode cX11_roomsFor 2 = .ok (.iload_n 1, 1) := by decide +kernel
theorem dX11_roomsFor_3 : decode cX11_roomsFor 3 = .ok (.invokevirtual 277, 3) := by decide +kernel
theorem dX11_roomsFor_6 : decode cX11_roomsFor 6 = .ok (.ifCond .ne 7, 3) := by decide +kernel
theorem dX11_roomsFor_9 : decode cX11_roomsFor 9 = .ok (.iconst 1, 1) := by decide +kernel
theorem dX11_roomsFor_10 : decode cX11_roomsFor 10 = .ok (.goto 18, 3) := by decide +kernel
theorem dX11_roomsFor_13 : decode cX11_roomsFor 13 = .ok (.iload_n 2, 1) := by decide +kernel
theorem dX11_roomsFor_14 : decode cX11_roomsFor 14 = .ok (.iconst 1, 1) := by decide +kernel
theorem dX11_roomsFor_15 : decode cX11_roomsFor 15 = .ok (.bipush 24, 2) := by decide +kernel
theorem dX11_roomsFor_17 : decode cX11_roomsFor 17 = .ok (.invokestatic 72, 3) := by decide +kernel
theorem dX11_roomsFor_20 : decode cX11_roomsFor 20 = .ok (.ifCond .ne 7, 3) := by decide +kernel
theorem dX11_roomsFor_23 : decode cX11_roomsFor 23 = .ok (.iconst 2, 1) := by decide +kernel
theorem dX11_roomsFor_24 : decode cX11_roomsFor 24 = .ok (.goto 4, 3) := by decide +kernel
theorem dX11_roomsFor_27 : decode cX11_roomsFor 27 = .ok (.iconst 0, 1) := by decide +kernel
theorem dX11_roomsFor_28 : decode cX11_roomsFor 28 = .ok (.putfield 69, 3) := by decide +kernel
theorem dX11_roomsFor_31 : decode cX11_roomsFor 31 = .ok (.aload_n 0, 1) := by decide +kernel
theorem dX11_roomsFor_32 : decode cX11_roomsFor 32 = .ok (.getfield 69, 3) := by decide +kernel
theorem dX11_roomsFor_35 : decode cX11_roomsFor 35 = .ok (.ifCond .le 5, 3) := by decide +kernel
theorem dX11_roomsFor_38 : decode cX11_roomsFor 38 = .ok (.iconst 0, 1) := by decide +kernel
theorem dX11_roomsFor_39 : decode cX11_roomsFor 39 = .ok (.ireturn, 1) := by decide +kernel
theorem dX11_roomsFor_40 : decode cX11_roomsFor 40 = .ok (.iconst 0, 1) := by decide +kernel
theorem dX11_roomsFor_41 : decode cX11_roomsFor 41 = .ok (.istore 4, 2) := by decide +kernel
theorem dX11_roomsFor_43 : decode cX11_roomsFor 43 = .ok (.iload 4, 2) := by decide +kernel
theorem dX11_roomsFor_45 : decode cX11_roomsFor 45 = .ok (.sipush 168, 3) := by decide +kernel
theorem dX11_roomsFor_48 : decode cX11_roomsFor 48 = .ok (.if_icmp .ge 87, 3) := by decide +kernel
theorem dX11_roomsFor_51 : decode cX11_roomsFor 51 = .ok (.aload_n 0, 1) := by decide +kernel
theorem dX11_roomsFor_52 : decode cX11_roomsFor 52 = .ok (.iload_n 1, 1) := by decide +kernel
theorem dX11_roomsFor_53 : decode cX11_roomsFor 53 = .ok (.invokevirtual 80, 3) := by decide +kernel
theorem dX11_roomsFor_56 : decode cX11_roomsFor 56 = .ok (.ifCond .ne 27, 3) := by decide +kernel
theorem dX11_roomsFor_59 : decode cX11_roomsFor 59 = .ok (.aload_n 0, 1) := by decide +kernel
theorem dX11_roomsFor_60 : decode cX11_roomsFor 60 = .ok (.iload 4, 2) := by decide +kernel
theorem dX11_roomsFor_62 : decode cX11_roomsFor 62 = .ok (.iconst 3, 1) := by decide +kernel
theorem dX11_roomsFor_63 : decode cX11_roomsFor 63 = .ok (.invokevirtual 84, 3) := by decide +kernel
theorem dX11_roomsFor_66 : decode cX11_roomsFor 66 = .ok (.ifCond .ne 17, 3) := by decide +kernel
theorem dX11_roomsFor_69 : decode cX11_roomsFor 69 = .ok (.aload_n 0, 1) := by decide +kernel
theorem dX11_roomsFor_70 : decode cX11_roomsFor 70 = .ok (.iload_n 1, 1) := by decide +kernel
theorem dX11_roomsFor_71 : decode cX11_roomsFor 71 = .ok (.iload 4, 2) := by decide +kernel
theorem dX11_roomsFor_73 : decode cX11_roomsFor 73 = .ok (.invokevirtual 314, 3) := by decide +kernel
theorem dX11_roomsFor_76 : decode cX11_roomsFor 76 = .ok (.ifCond .ne 7, 3) := by decide +kernel
theorem dX11_roomsFor_79 : decode cX11_roomsFor 79 = .ok (.iconst 1, 1) := by decide +kernel
theorem dX11_roomsFor_80 : decode cX11_roomsFor 80 = .ok (.goto 4, 3) := by decide +kernel
theorem dX11_roomsFor_83 : decode cX11_roomsFor 83 = .ok (.iconst 0, 1) := by decide +kernel
theorem dX11_roomsFor_84 : decode cX11_roomsFor 84 = .ok (.istore 5, 2) := by decide +kernel
theorem dX11_roomsFor_86 : decode cX11_roomsFor 86 = .ok (.aload_n 0, 1) := by decide +kernel
theorem dX11_roomsFor_87 : decode cX11_roomsFor 87 = .ok (.getfield 32, 3) := by decide +kernel
theorem dX11_roomsFor_90 : decode cX11_roomsFor 90 = .ok (.iload 4, 2) := by decide +kernel
theorem dX11_roomsFor_92 : decode cX11_roomsFor 92 = .ok (.iload 5, 2) := by decide +kernel
theorem dX11_roomsFor_94 : decode cX11_roomsFor 94 = .ok (.ifCond .ne 7, 3) := by decide +kernel
theorem dX11_roomsFor_97 : decode cX11_roomsFor 97 = .ok (.iconst (-1), 1) := by decide +kernel
theorem dX11_roomsFor_98 : decode cX11_roomsFor 98 = .ok (.goto 30, 3) := by decide +kernel
theorem dX11_roomsFor_101 : decode cX11_roomsFor 101 = .ok (.aload_n 0, 1) := by decide +kernel
theorem dX11_roomsFor_102 : decode cX11_roomsFor 102 = .ok (.iload 4, 2) := by decide +kernel
theorem dX11_roomsFor_104 : decode cX11_roomsFor 104 = .ok (.iconst 0, 1) := by decide +kernel
theorem dX11_roomsFor_105 : decode cX11_roomsFor 105 = .ok (.invokevirtual 84, 3) := by decide +kernel
theorem dX11_roomsFor_108 : decode cX11_roomsFor 108 = .ok (.iconst (-1), 1) := by decide +kernel
theorem dX11_roomsFor_109 : decode cX11_roomsFor 109 = .ok (.if_icmp .eq 14, 3) := by decide +kernel
theorem dX11_roomsFor_112 : decode cX11_roomsFor 112 = .ok (.aload_n 0, 1) := by decide +kernel
theorem dX11_roomsFor_113 : decode cX11_roomsFor 113 = .ok (.iload 4, 2) := by decide +kernel
theorem dX11_roomsFor_115 : decode cX11_roomsFor 115 = .ok (.iconst 0, 1) := by decide +kernel
theorem dX11_roomsFor_116 : decode cX11_roomsFor 116 = .ok (.invokevirtual 84, 3) := by decide +kernel
theorem dX11_roomsFor_119 : decode cX11_roomsFor 119 = .ok (.iload_n 1, 1) := by decide +kernel
theorem dX11_roomsFor_120 : decode cX11_roomsFor 120 = .ok (.if_icmp .ne 7, 3) := by decide +kernel
theorem dX11_roomsFor_123 : decode cX11_roomsFor 123 = .ok (.iconst 0, 1) := by decide +kernel
theorem dX11_roomsFor_124 : decode cX11_roomsFor 124 = .ok (.goto 4, 3) := by decide +kernel
theorem dX11_roomsFor_127 : decode cX11_roomsFor 127 = .ok (.iconst 1, 1) := by decide +kernel
theorem dX11_roomsFor_128 : decode cX11_roomsFor 128 = .ok (.iastore, 1) := by decide +kernel
theorem dX11_roomsFor_129 : decode cX11_roomsFor 129 = .ok (.iinc 4 1, 3) := by decide +kernel
theorem dX11_roomsFor_132 : decode cX11_roomsFor 132 = .ok (.goto (-89), 3) := by decide +kernel
theorem dX11_roomsFor_135 : decode cX11_roomsFor 135 = .ok (.iconst (-1), 1) := by decide +kernel
theorem dX11_roomsFor_136 : decode cX11_roomsFor 136 = .ok (.istore 4, 2) := by decide +kernel
theorem dX11_roomsFor_138 : decode cX11_roomsFor 138 = .ok (.iconst (-1), 1) := by decide +kernel
theorem dX11_roomsFor_139 : decode cX11_roomsFor 139 = .ok (.istore 5, 2) := by decide +kernel
theorem dX11_roomsFor_141 : decode cX11_roomsFor 141 = .ok (.iconst 0, 1) := by decide +kernel
theorem dX11_roomsFor_142 : decode cX11_roomsFor 142 = .ok (.istore 6, 2) := by decide +kernel
theorem dX11_roomsFor_144 : decode cX11_roomsFor 144 = .ok (.iload 6, 2) := by decide +kernel
theorem dX11_roomsFor_146 : decode cX11_roomsFor 146 = .ok (.sipush 168, 3) := by decide +kernel
theorem dX11_roomsFor_149 : decode cX11_roomsFor 149 = .ok (.if_icmp .ge 108, 3) := by decide +kernel
theorem dX11_roomsFor_152 : decode cX11_roomsFor 152 = .ok (.iconst 0, 1) := by decide +kernel
theorem dX11_roomsFor_153 : decode cX11_roomsFor 153 = .ok (.istore 7, 2) := by decide +kernel
theorem dX11_roomsFor_155 : decode cX11_roomsFor 155 = .ok (.iconst 1, 1) := by decide +kernel
theorem dX11_roomsFor_156 : decode cX11_roomsFor 156 = .ok (.istore 8, 2) := by decide +kernel
theorem dX11_roomsFor_158 : decode cX11_roomsFor 158 = .ok (.iconst 0, 1) := by decide +kernel
theorem dX11_roomsFor_159 : decode cX11_roomsFor 159 = .ok (.istore 9, 2) := by decide +kernel
theorem dX11_roomsFor_161 : decode cX11_roomsFor 161 = .ok (.iload 9, 2) := by decide +kernel
theorem dX11_roomsFor_163 : decode cX11_roomsFor 163 = .ok (.iload_n 2, 1) := by decide +kernel
theorem dX11_roomsFor_164 : decode cX11_roomsFor 164 = .ok (.if_icmp .ge 58, 3) := by decide +kernel
theorem dX11_roomsFor_167 : decode cX11_roomsFor 167 = .ok (.iload 8, 2) := by decide +kernel
theorem dX11_roomsFor_169 : decode cX11_roomsFor 169 = .ok (.ifCond .eq 25, 3) := by decide +kernel
theorem dX11_roomsFor_172 : decode cX11_roomsFor 172 = .ok (.aload_n 0, 1) := by decide +kernel
theorem dX11_roomsFor_173 : decode cX11_roomsFor 173 = .ok (.getfield 32, 3) := by decide +kernel
theorem dX11_roomsFor_176 : decode cX11_roomsFor 176 = .ok (.iload 6, 2) := by decide +kernel
theorem dX11_roomsFor_178 : decode cX11_roomsFor 178 = .ok (.iload 9, 2) := by decide +kernel
theorem dX11_roomsFor_180 : decode cX11_roomsFor 180 = .ok (.iadd, 1) := by decide +kernel
theorem dX11_roomsFor_181 : decode cX11_roomsFor 181 = .ok (.sipush 168, 3) := by decide +kernel
theorem dX11_roomsFor_184 : decode cX11_roomsFor 184 = .ok (.irem, 1) := by decide +kernel
theorem dX11_roomsFor_185 : decode cX11_roomsFor 185 = .ok (.iaload, 1) := by decide +kernel
theorem dX11_roomsFor_186 : decode cX11_roomsFor 186 = .ok (.iconst (-1), 1) := by decide +kernel
theorem dX11_roomsFor_187 : decode cX11_roomsFor 187 = .ok (.if_icmp .eq 7, 3) := by decide +kernel
theorem dX11_roomsFor_190 : decode cX11_roomsFor 190 = .ok (.iconst 1, 1) := by decide +kernel
theorem dX11_roomsFor_191 : decode cX11_roomsFor 191 = .ok (.goto 4, 3) := by decide +kernel
theorem dX11_roomsFor_194 : decode cX11_roomsFor 194 = .ok (.iconst 0, 1) := by decide +kernel
theorem dX11_roomsFor_195 : decode cX11_roomsFor 195 = .ok (.istore 8, 2) := by decide +kernel
theorem dX11_roomsFor_197 : decode cX11_roomsFor 197 = .ok (.iload 7, 2) := by decide +kernel
theorem dX11_roomsFor_199 : decode cX11_roomsFor 199 = .ok (.aload_n 0, 1) := by decide +kernel
theorem dX11_roomsFor_200 : decode cX11_roomsFor 200 = .ok (.getfield 32, 3) := by decide +kernel
theorem dX11_roomsFor_203 : decode cX11_roomsFor 203 = .ok (.iload 6, 2) := by decide +kernel
theorem dX11_roomsFor_205 : decode cX11_roomsFor 205 = .ok (.iload 9, 2) := by decide +kernel
theorem dX11_roomsFor_207 : decode cX11_roomsFor 207 = .ok (.iadd, 1) := by decide +kernel
theorem dX11_roomsFor_208 : decode cX11_roomsFor 208 = .ok (.sipush 168, 3) := by decide +kernel
theorem dX11_roomsFor_211 : decode cX11_roomsFor 211 = .ok (.irem, 1) := by decide +kernel
theorem dX11_roomsFor_212 : decode cX11_roomsFor 212 = .ok (.iaload, 1) := by decide +kernel
theorem dX11_roomsFor_213 : decode cX11_roomsFor 213 = .ok (.iadd, 1) := by decide +kernel
theorem dX11_roomsFor_214 : decode cX11_roomsFor 214 = .ok (.istore 7, 2) := by decide +kernel
theorem dX11_roomsFor_216 : decode cX11_roomsFor 216 = .ok (.iinc 9 1, 3) := by decide +kernel
theorem dX11_roomsFor_219 : decode cX11_roomsFor 219 = .ok (.goto (-58), 3) := by decide +kernel
theorem dX11_roomsFor_222 : decode cX11_roomsFor 222 = .ok (.iload 8, 2) := by decide +kernel
theorem dX11_roomsFor_224 : decode cX11_roomsFor 224 = .ok (.ifCond .eq 27, 3) := by decide +kernel
theorem dX11_roomsFor_227 : decode cX11_roomsFor 227 = .ok (.iload 5, 2) := by decide +kernel
theorem dX11_roomsFor_229 : decode cX11_roomsFor 229 = .ok (.iconst (-1), 1) := by decide +kernel
theorem dX11_roomsFor_230 : decode cX11_roomsFor 230 = .ok (.if_icmp .eq 13, 3) := by decide +kernel
theorem dX11_roomsFor_233 : decode cX11_roomsFor 233 = .ok (.iload 7, 2) := by decide +kernel
theorem dX11_roomsFor_235 : decode cX11_roomsFor 235 = .ok (.iload 4, 2) := by decide +kernel
theorem dX11_roomsFor_237 : decode cX11_roomsFor 237 = .ok (.if_icmp .lt 6, 3) := by decide +kernel
theorem dX11_roomsFor_240 : decode cX11_roomsFor 240 = .ok (.goto 11, 3) := by decide +kernel
theorem dX11_roomsFor_243 : decode cX11_roomsFor 243 = .ok (.iload 7, 2) := by decide +kernel
theorem dX11_roomsFor_245 : decode cX11_roomsFor 245 = .ok (.istore 4, 2) := by decide +kernel
theorem dX11_roomsFor_247 : decode cX11_roomsFor 247 = .ok (.iload 6, 2) := by decide +kernel
theorem dX11_roomsFor_249 : decode cX11_roomsFor 249 = .ok (.istore 5, 2) := by decide +kernel
theorem dX11_roomsFor_251 : decode cX11_roomsFor 251 = .ok (.iinc 6 1, 3) := by decide +kernel
theorem dX11_roomsFor_254 : decode cX11_roomsFor 254 = .ok (.goto (-110), 3) := by decide +kernel
theorem dX11_roomsFor_257 : decode cX11_roomsFor 257 = .ok (.iload_n 3, 1) := by decide +kernel
theorem dX11_roomsFor_258 : decode cX11_roomsFor 258 = .ok (.ifCond .eq 8, 3) := by decide +kernel
theorem dX11_roomsFor_261 : decode cX11_roomsFor 261 = .ok (.iload 5, 2) := by decide +kernel
theorem dX11_roomsFor_263 : decode cX11_roomsFor 263 = .ok (.goto 5, 3) := by decide +kernel
theorem dX11_roomsFor_266 : decode cX11_roomsFor 266 = .ok (.iload 4, 2) := by decide +kernel
theorem dX11_roomsFor_268 : decode cX11_roomsFor 268 = .ok (.ireturn, 1) := by decide +kernel
theorem dX11_thieves_0 : decode cX11_thieves 0 = .ok (.aload_n 0, 1) := by decide +kernel
theorem dX11_thieves_1 : decode cX11_thieves 1 = .ok (.getfield 91, 3) := by decide +kernel
theorem dX11_thieves_4 : decode cX11_thieves 4 = .ok (.istore_n 1, 1) := by decide +kernel
theorem dX11_thieves_5 : decode cX11_thieves 5 = .ok (.aload_n 0, 1) := by decide +kernel
theorem dX11_thieves_6 : decode cX11_thieves 6 = .ok (.iconst 0, 1) := by decide +kernel
theorem dX11_thieves_7 : decode cX11_thieves 7 = .ok (.putfield 91, 3) := by decide +kernel
theorem dX11_thieves_10 : decode cX11_thieves 10 = .ok (.iload_n 1, 1) := by decide +kernel
theorem dX11_thieves_11 : decode cX11_thieves 11 = .ok (.ifCond .le 7, 3) := by decide +kernel
theorem dX11_thieves_14 : decode cX11_thieves 14 = .ok (.iconst 1, 1) := by decide +kernel
theorem dX11_thieves_15 : decode cX11_thieves 15 = .ok (.goto 4, 3) := by decide +kernel
theorem dX11_thieves_18 : decode cX11_thieves 18 = .ok (.iconst 0, 1) := by decide +kernel
theorem dX11_thieves_19 : decode cX11_thieves 19 = .ok (.istore_n 2, 1) := by decide +kernel
theorem dX11_thieves_20 : decode cX11_thieves 20 = .ok (.iconst 0, 1) := by decide +kernel
theorem dX11_thieves_21 : decode cX11_thieves 21 = .ok (.istore_n 3, 1) := by decide +kernel
theorem dX11_thieves_22 : decode cX11_thieves 22 = .ok (.iload_n 3, 1) := by decide +kernel
theorem dX11_thieves_23 : decode cX11_thieves 23 = .ok (.iload_n 1, 1) := by decide +kernel
theorem dX11_thieves_24 : decode cX11_thieves 24 = .ok (.if_icmp .ge 31, 3) := by decide +kernel
theorem dX11_thieves_27 : decode cX11_thieves 27 = .ok (.iload_n 2, 1) := by decide +kernel
theorem dX11_thieves_28 : decode cX11_thieves 28 = .ok (.ifCond .eq 19, 3) := by decide +kernel
theorem dX11_thieves_31 : decode cX11_thieves 31 = .ok (.aload_n 0, 1) := by decide +kernel
theorem dX11_thieves_32 : decode cX11_thieves 32 = .ok (.getfield 22, 3) := by decide +kernel
theorem dX11_thieves_35 : decode cX11_thieves 35 = .ok (.iload_n 3, 1) := by decide +kernel
theorem dX11_thieves_36 : decode cX11_thieves 36 = .ok (.iaload, 1) := by decide +kernel
theorem dX11_thieves_37 : decode cX11_thieves 37 = .ok (.invokestatic 289, 3) := by decide +kernel
theorem dX11_thieves_40 : decode cX11_thieves 40 = .ok (.ifCond .eq 7, 3) := by decide +kernel
theorem dX11_thieves_43 : decode cX11_thieves 43 = .ok (.iconst 1, 1) := by decide +kernel
theorem dX11_thieves_44 : decode cX11_thieves 44 = .ok (.goto 4, 3) := by decide +kernel
theorem dX11_thieves_47 : decode cX11_thieves 47 = .ok (.iconst 0, 1) := by decide +kernel
theorem dX11_thieves_48 : decode cX11_thieves 48 = .ok (.istore_n 2, 1) := by decide +kernel
theorem dX11_thieves_49 : decode cX11_thieves 49 = .ok (.iinc 3 1, 3) := by decide +kernel
theorem dX11_thieves_52 : decode cX11_thieves 52 = .ok (.goto (-30), 3) := by decide +kernel
theorem dX11_thieves_55 : decode cX11_thieves 55 = .ok (.aload_n 0, 1) := by decide +kernel
theorem dX11_thieves_56 : decode cX11_thieves 56 = .ok (.iload_n 2, 1) := by decide +kernel
theorem dX11_thieves_57 : decode cX11_thieves 57 = .ok (.ifCond .eq 7, 3) := by decide +kernel
theorem dX11_thieves_60 : decode cX11_thieves 60 = .ok (.iconst 0, 1) := by decide +kernel
theorem dX11_thieves_61 : decode cX11_thieves 61 = .ok (.goto 4, 3) := by decide +kernel
theorem dX11_thieves_64 : decode cX11_thieves 64 = .ok (.iconst 1, 1) := by decide +kernel
theorem dX11_thieves_65 : decode cX11_thieves 65 = .ok (.putfield 69, 3) := by decide +kernel
theorem dX11_thieves_68 : decode cX11_thieves 68 = .ok (.aload_n 0, 1) := by decide +kernel
theorem dX11_thieves_69 : decode cX11_thieves 69 = .ok (.getfield 69, 3) := by decide +kernel
theorem dX11_thieves_72 : decode cX11_thieves 72 = .ok (.ifCond .le 5, 3) := by decide +kernel
theorem dX11_thieves_75 : decode cX11_thieves 75 = .ok (.iconst 0, 1) := by decide +kernel
theorem dX11_thieves_76 : decode cX11_thieves 76 = .ok (.ireturn, 1) := by decide +kernel
theorem dX11_thieves_77 : decode cX11_thieves 77 = .ok (.iconst 0, 1) := by decide +kernel
theorem dX11_thieves_78 : decode cX11_thieves 78 = .ok (.istore_n 3, 1) := by decide +kernel
theorem dX11_thieves_79 : decode cX11_thieves 79 = .ok (.iconst 0, 1) := by decide +kernel
theorem dX11_thieves_80 : decode cX11_thieves 80 = .ok (.istore 4, 2) := by decide +kernel
theorem dX11_thieves_82 : decode cX11_thieves 82 = .ok (.iload 4, 2) := by decide +kernel
theorem dX11_thieves_84 : decode cX11_thieves 84 = .ok (.aload_n 0, 1) := by decide +kernel
theorem dX11_thieves_85 : decode cX11_thieves 85 = .ok (.getfield 7, 3) := by decide +kernel
theorem dX11_thieves_88 : decode cX11_thieves 88 = .ok (.iconst 1, 1) := by decide +kernel
theorem dX11_thieves_89 : decode cX11_thieves 89 = .ok (.iaload, 1) := by decide +kernel
theorem dX11_thieves_90 : decode cX11_thieves 90 = .ok (.if_icmp .ge 120, 3) := by decide +kernel
theorem dX11_thieves_93 : decode cX11_thieves 93 = .ok (.aload_n 0, 1) := by decide +kernel
theorem dX11_thieves_94 : decode cX11_thieves 94 = .ok (.iload 4, 2) := by decide +kernel
theorem dX11_thieves_96 : decode cX11_thieves 96 = .ok (.invokevirtual 80, 3) := by decide +kernel
theorem dX11_thieves_99 : decode cX11_thieves 99 = .ok (.ifCond .ne 7, 3) := by decide +kernel
theorem dX11_thieves_102 : decode cX11_thieves 102 = .ok (.iconst 1, 1) := by decide +kernel
theorem dX11_thieves_103 : decode cX11_thieves 103 = .ok (.goto 4, 3) := by decide +kernel
theorem dX11_thieves_106 : decode cX11_thieves 106 = .ok (.iconst 0, 1) := by decide +kernel
theorem dX11_thieves_107 : decode cX11_thieves 107 = .ok (.istore 5, 2) := by decide +kernel
theorem dX11_thieves_109 : decode cX11_thieves 109 = .ok (.iconst 0, 1) := by decide +kernel
theorem dX11_thieves_110 : decode cX11_thieves 110 = .ok (.istore 6, 2) := by decide +kernel
theorem dX11_thieves_112 : decode cX11_thieves 112 = .ok (.iload 6, 2) := by decide +kernel
theorem dX11_thieves_114 : decode cX11_thieves 114 = .ok (.iload_n 1, 1) := by decide +kernel
theorem dX11_thieves_115 : decode cX11_thieves 115 = .ok (.if_icmp .ge 73, 3) := by decide +kernel
theorem dX11_thieves_118 : decode cX11_thieves 118 = .ok (.iload 5, 2) := by decide +kernel
theorem dX11_thieves_120 : decode cX11_thieves 120 = .ok (.ifCond .eq 59, 3) := by decide +kernel
theorem dX11_thieves_123 : decode cX11_thieves 123 = .ok (.aload_n 0, 1) := by decide +kernel
theorem dX11_thieves_124 : decode cX11_thieves 124 = .ok (.aload_n 0, 1) := by decide +kernel
theorem dX11_thieves_125 : decode cX11_thieves 125 = .ok (.getfield 22, 3) := by decide +kernel
theorem dX11_thieves_128 : decode cX11_thieves 128 = .ok (.iload 6, 2) := by decide +kernel
theorem dX11_thieves_130 : decode cX11_thieves 130 = .ok (.iaload, 1) := by decide +kernel
theorem dX11_thieves_131 : decode cX11_thieves 131 = .ok (.iconst 1, 1) := by decide +kernel
theorem dX11_thieves_132 : decode cX11_thieves 132 = .ok (.isub, 1) := by decide +kernel
theorem dX11_thieves_133 : decode cX11_thieves 133 = .ok (.invokevirtual 264, 3) := by decide +kernel
theorem dX11_thieves_136 : decode cX11_thieves 136 = .ok (.iload 4, 2) := by decide +kernel
theorem dX11_thieves_138 : decode cX11_thieves 138 = .ok (.if_icmp .eq 37, 3) := by decide +kernel
theorem dX11_thieves_141 : decode cX11_thieves 141 = .ok (.aload_n 0, 1) := by decide +kernel
theorem dX11_thieves_142 : decode cX11_thieves 142 = .ok (.aload_n 0, 1) := by decide +kernel
theorem dX11_thieves_143 : decode cX11_thieves 143 = .ok (.getfield 22, 3) := by decide +kernel
theorem dX11_thieves_146 : decode cX11_thieves 146 = .ok (.iload 6, 2) := by decide +kernel
theorem dX11_thieves_148 : decode cX11_thieves 148 = .ok (.iaload, 1) := by decide +kernel
theorem dX11_thieves_149 : decode cX11_thieves 149 = .ok (.invokevirtual 264, 3) := by decide +kernel
theorem dX11_thieves_152 : decode cX11_thieves 152 = .ok (.iload 4, 2) := by decide +kernel
theorem dX11_thieves_154 : decode cX11_thieves 154 = .ok (.if_icmp .eq 21, 3) := by decide +kernel
theorem dX11_thieves_157 : decode cX11_thieves 157 = .ok (.aload_n 0, 1) := by decide +kernel
theorem dX11_thieves_158 : decode cX11_thieves 158 = .ok (.aload_n 0, 1) := by decide +kernel
theorem dX11_thieves_159 : decode cX11_thieves 159 = .ok (.getfield 22, 3) := by decide +kernel
theorem dX11_thieves_162 : decode cX11_thieves 162 = .ok (.iload 6, 2) := by decide +kernel
theorem dX11_thieves_164 : decode cX11_thieves 164 = .ok (.iaload, 1) := by decide +kernel
theorem dX11_thieves_165 : decode cX11_thieves 165 = .ok (.iconst 1, 1) := by decide +kernel
theorem dX11_thieves_166 : decode cX11_thieves 166 = .ok (.iadd, 1) := by decide +kernel
theorem dX11_thieves_167 : decode cX11_thieves 167 = .ok (.invokevirtual 264, 3) := by decide +kernel
theorem dX11_thieves_170 : decode cX11_thieves 170 = .ok (.iload 4, 2) := by decide +kernel
theorem dX11_thieves_172 : decode cX11_thieves 172 = .ok (.if_icmp .ne 7, 3) := by decide +kernel
theorem dX11_thieves_175 : decode cX11_thieves 175 = .ok (.iconst 1, 1) := by decide +kernel
theorem dX11_thieves_176 : decode cX11_thieves 176 = .ok (.goto 4, 3) := by decide +kernel
theorem dX11_thieves_179 : decode cX11_thieves 179 = .ok (.iconst 0, 1) := by decide +kernel
theorem dX11_thieves_180 : decode cX11_thieves 180 = .ok (.istore 5, 2) := by decide +kernel
theorem dX11_thieves_182 : decode cX11_thieves 182 = .ok (.iinc 6 1, 3) := by decide +kernel
theorem dX11_thieves_185 : decode cX11_thieves 185 = .ok (.goto (-73), 3) := by decide +kernel
theorem dX11_thieves_188 : decode cX11_thieves 188 = .ok (.iload 5, 2) := by decide +kernel
theorem dX11_thieves_190 : decode cX11_thieves 190 = .ok (.ifCond .eq 12, 3) := by decide +kernel
theorem dX11_thieves_193 : decode cX11_thieves 193 = .ok (.iload_n 3, 1) := by decide +kernel
theorem dX11_thieves_194 : decode cX11_thieves 194 = .ok (.iconst 1, 1) := by decide +kernel
theorem dX11_thieves_195 : decode cX11_thieves 195 = .ok (.iload 4, 2) := by decide +kernel
theorem dX11_thieves_197 : decode cX11_thieves 197 = .ok (.ishl, 1) := by decide +kernel
theorem dX11_thieves_198 : decode cX11_thieves 198 = .ok (.ior, 1) := by decide +kernel
theorem dX11_thieves_199 : decode cX11_thieves 199 = .ok (.goto 4, 3) := by decide +kernel
theorem dX11_thieves_202 : decode cX11_thieves 202 = .ok (.iload_n 3, 1) := by decide +kernel
theorem dX11_thieves_203 : decode cX11_thieves 203 = .ok (.istore_n 3, 1) := by decide +kernel
theorem dX11_thieves_204 : decode cX11_thieves 204 = .ok (.iinc 4 1, 3) := by decide +kernel
theorem dX11_thieves_207 : decode cX11_thieves 207 = .ok (.goto (-125), 3) := by decide +kernel
theorem dX11_thieves_210 : decode cX11_thieves 210 = .ok (.iload_n 3, 1) := by decide +kernel
theorem dX11_thieves_211 : decode cX11_thieves 211 = .ok (.ireturn, 1) := by decide +kernel
theorem dX11_seen_0 : decode cX11_seen 0 = .ok (.aload_n 0, 1) := by decide +kernel
theorem dX11_seen_1 : decode cX11_seen 1 = .ok (.getfield 91, 3) := by decide +kernel
theorem dX11_seen_4 : decode cX11_seen 4 = .ok (.istore_n 1, 1) := by decide +kernel
theorem dX11_seen_5 : decode cX11_seen 5 = .ok (.aload_n 0, 1) := by decide +kernel
theorem dX11_seen_6 : decode cX11_seen 6 = .ok (.iconst 0, 1) := by decide +kernel
theorem dX11_seen_7 : decode cX11_seen 7 = .ok (.putfield 91, 3) := by decide +kernel
theorem dX11_seen_10 : decode cX11_seen 10 = .ok (.iload_n 1, 1) := by decide +kernel
theorem dX11_seen_11 : decode cX11_seen 11 = .ok (.iconst 2, 1) := by decide +kernel
theorem dX11_seen_12 : decode cX11_seen 12 = .ok (.irem, 1) := by decide +kernel
theorem dX11_seen_13 : decode cX11_seen 13 = .ok (.ifCond .ne 7, 3) := by decide +kernel
theorem dX11_seen_16 : decode cX11_seen 16 = .ok (.iconst 1, 1) := by decide +kernel
theorem dX11_seen_17 : decode cX11_seen 17 = .ok (.goto 4, 3) := by decide +kernel
theorem dX11_seen_20 : decode cX11_seen 20 = .ok (.iconst 0, 1) := by decide +kernel
theorem dX11_seen_21 : decode cX11_seen 21 = .ok (.istore_n 2, 1) := by decide +kernel
theorem dX11_seen_22 : decode cX11_seen 22 = .ok (.iconst 0, 1) := by decide +kernel
theorem dX11_seen_23 : decode cX11_seen 23 = .ok (.istore_n 3, 1) := by decide +kernel
theorem dX11_seen_24 : decode cX11_seen 24 = .ok (.iload_n 3, 1) := by decide +kernel
theorem dX11_seen_25 : decode cX11_seen 25 = .ok (.iconst 1, 1) := by decide +kernel
theorem dX11_seen_26 : decode cX11_seen 26 = .ok (.iadd, 1) := by decide +kernel
theorem dX11_seen_27 : decode cX11_seen 27 = .ok (.iload_n 1, 1) := by decide +kernel
theorem dX11_seen_28 : decode cX11_seen 28 = .ok (.if_icmp .ge 49, 3) := by decide +kernel
theorem dX11_seen_31 : decode cX11_seen 31 = .ok (.iload_n 2, 1) := by decide +kernel
theorem dX11_seen_32 : decode cX11_seen 32 = .ok (.ifCond .eq 37, 3) := by decide +kernel
theorem dX11_seen_35 : decode cX11_seen 35 = .ok (.aload_n 0, 1) := by decide +kernel
theorem dX11_seen_36 : decode cX11_seen 36 = .ok (.getfield 22, 3) := by decide +kernel
theorem dX11_seen_39 : decode cX11_seen 39 = .ok (.iload_n 3, 1) := by decide +kernel
theorem dX11_seen_40 : decode cX11_seen 40 = .ok (.iaload, 1) := by decide +kernel
theorem dX11_seen_41 : decode cX11_seen 41 = .ok (.invokestatic 289, 3) := by decide +kernel
theorem dX11_seen_44 : decode cX11_seen 44 = .ok (.ifCond .eq 25, 3) := by decide +kernel
theorem dX11_seen_47 : decode cX11_seen 47 = .ok (.aload_n 0, 1) := by decide +kernel
theorem dX11_seen_48 : decode cX11_seen 48 = .ok (.aload_n 0, 1) := by decide +kernel
theorem dX11_seen_49 : decode cX11_seen 49 = .ok (.getfield 22, 3) := by decide +kernel
theorem dX11_seen_52 : decode cX11_seen 52 = .ok (.iload_n 3, 1) := by decide +kernel
theorem dX11_seen_53 : decode cX11_seen 53 = .ok (.iconst 1, 1) := by decide +kernel
theorem dX11_seen_54 : decode cX11_seen 54 = .ok (.iadd, 1) := by decide +kernel
theorem dX11_seen_55 : decode cX11_seen 55 = .ok (.iaload, 1) := by decide +kernel
theorem dX11_seen_56 : decode cX11_seen 56 = .ok (.bipush 97, 2) := by decide +kernel
theorem dX11_seen_58 : decode cX11_seen 58 = .ok (.isub, 1) := by decide +kernel
theorem dX11_seen_59 : decode cX11_seen 59 = .ok (.invokevirtual 277, 3) := by decide +kernel
theorem dX11_seen_62 : decode cX11_seen 62 = .ok (.ifCond .eq 7, 3) := by decide +kernel
theorem dX11_seen_65 : decode cX11_seen 65 = .ok (.iconst 1, 1) := by decide +kernel
theorem dX11_seen_66 : decode cX11_seen 66 = .ok (.goto 4, 3) := by decide +kernel
theorem dX11_seen_69 : decode cX11_seen 69 = .ok (.iconst 0, 1) := by decide +kernel
theorem dX11_seen_70 : decode cX11_seen 70 = .ok (.istore_n 2, 1) := by decide +kernel
theorem dX11_seen_71 : decode cX11_seen 71 = .ok (.iinc 3 2, 3) := by decide +kernel
theorem dX11_seen_74 : decode cX11_seen 74 = .ok (.goto (-50), 3) := by decide +kernel
theorem dX11_seen_77 : decode cX11_seen 77 = .ok (.aload_n 0, 1) := by decide +kernel
theorem dX11_seen_78 : decode cX11_seen 78 = .ok (.iload_n 2, 1) := by decide +kernel
theorem dX11_seen_79 : decode cX11_seen 79 = .ok (.ifCond .eq 7, 3) := by decide +kernel
theorem dX11_seen_82 : decode cX11_seen 82 = .ok (.iconst 0, 1) := by decide +kernel
theorem dX11_seen_83 : decode cX11_seen 83 = .ok (.goto 4, 3) := by decide +kernel
theorem dX11_seen_86 : decode cX11_seen 86 = .ok (.iconst 1, 1) := by decide +kernel
theorem dX11_seen_87 : decode cX11_seen 87 = .ok (.putfield 69, 3) := by decide +kernel
theorem dX11_seen_90 : decode cX11_seen 90 = .ok (.aload_n 0, 1) := by decide +kernel
theorem dX11_seen_91 : decode cX11_seen 91 = .ok (.getfield 69, 3) := by decide +kernel
theorem dX11_seen_94 : decode cX11_seen 94 = .ok (.ifCond .le 5, 3) := by decide +kernel
theorem dX11_seen_97 : decode cX11_seen 97 = .ok (.iconst 0, 1) := by decide +kernel
theorem dX11_seen_98 : decode cX11_seen 98 = .ok (.ireturn, 1) := by decide +kernel
theorem dX11_seen_99 : decode cX11_seen 99 = .ok (.iconst 0, 1) := by decide +kernel
theorem dX11_seen_100 : decode cX11_seen 100 = .ok (.istore_n 3, 1) := by decide +kernel
theorem dX11_seen_101 : decode cX11_seen 101 = .ok (.iload_n 3, 1) := by decide +kernel
theorem dX11_seen_102 : decode cX11_seen 102 = .ok (.iload_n 1, 1) := by decide +kernel
theorem dX11_seen_103 : decode cX11_seen 103 = .ok (.if_icmp .ge 41, 3) := by decide +kernel
theorem dX11_seen_106 : decode cX11_seen 106 = .ok (.aload_n 0, 1) := by decide +kernel
theorem dX11_seen_107 : decode cX11_seen 107 = .ok (.aload_n 0, 1) := by decide +kernel
theorem dX11_seen_108 : decode cX11_seen 108 = .ok (.getfield 22, 3) := by decide +kernel
theorem dX11_seen_111 : decode cX11_seen 111 = .ok (.iload_n 3, 1) := by decide +kernel
theorem dX11_seen_112 : decode cX11_seen 112 = .ok (.iaload, 1) := by decide +kernel
theorem dX11_seen_113 : decode cX11_seen 113 = .ok (.invokevirtual 264, 3) := by decide +kernel
theorem dX11_seen_116 : decode cX11_seen 116 = .ok (.aload_n 0, 1) := by decide +kernel
theorem dX11_seen_117 : decode cX11_seen 117 = .ok (.aload_n 0, 1) := by decide +kernel
theorem dX11_seen_118 : decode cX11_seen 118 = .ok (.getfield 22, 3) := by decide +kernel
theorem dX11_seen_121 : decode cX11_seen 121 = .ok (.iload_n 3, 1) := by decide +kernel
theorem dX11_seen_122 : decode cX11_seen 122 = .ok (.iconst 1, 1) := by decide +kernel
theorem dX11_seen_123 : decode cX11_seen 123 = .ok (.iadd, 1) := by decide +kernel
theorem dX11_seen_124 : decode cX11_seen 124 = .ok (.iaload, 1) := by decide +kernel
theorem dX11_seen_125 : decode cX11_seen 125 = .ok (.bipush 97, 2) := by decide +kernel
theorem dX11_seen_127 : decode cX11_seen 127 = .ok (.isub, 1) := by decide +kernel
theorem dX11_seen_128 : decode cX11_seen 128 = .ok (.invokevirtual 87, 3) := by decide +kernel
theorem dX11_seen_131 : decode cX11_seen 131 = .ok (.if_icmp .eq 7, 3) := by decide +kernel
theorem dX11_seen_134 : decode cX11_seen 134 = .ok (.iload_n 3, 1) := by decide +kernel
theorem dX11_seen_135 : decode cX11_seen 135 = .ok (.iconst 2, 1) := by decide +kernel
theorem dX11_seen_136 : decode cX11_seen 136 = .ok (.idiv, 1) := by decide +kernel
theorem dX11_seen_137 : decode cX11_seen 137 = .ok (.ireturn, 1) := by decide +kernel
theorem dX11_seen_138 : decode cX11_seen 138 = .ok (.iinc 3 2, 3) := by decide +kernel
theorem dX11_seen_141 : decode cX11_seen 141 = .ok (.goto (-40), 3) := by decide +kernel
theorem dX11_seen_144 : decode cX11_seen 144 = .ok (.iconst (-1), 1) := by decide +kernel
theorem dX11_seen_145 : decode cX11_seen 145 = .ok (.ireturn, 1) := by decide +kernel
theorem dX11_livesAmong_0 : decode cX11_livesAmong 0 = .ok (.iconst 0, 1) := by decide +kernel
theorem dX11_livesAmong_1 : decode cX11_livesAmong 1 = .ok (.istore 4, 2) := by decide +kernel
theorem dX11_livesAmong_3 : decode cX11_livesAmong 3 = .ok (.iconst 0, 1) := by decide +kernel
theorem dX11_livesAmong_4 : decode cX11_livesAmong 4 = .ok (.istore 5, 2) := by decide +kernel
theorem dX11_livesAmong_6 : decode cX11_livesAmong 6 = .ok (.iload 5, 2) := by decide +kernel
theorem dX11_livesAmong_8 : decode cX11_livesAmong 8 = .ok (.iload_n 3, 1) := by decide +kernel
theorem dX11_livesAmong_9 : decode cX11_livesAmong 9 = .ok (.if_icmp .ge 39, 3) := by decide +kernel
theorem dX11_livesAmong_12 : decode cX11_livesAmong 12 = .ok (.iload 4, 2) := by decide +kernel
theorem dX11_livesAmong_14 : decode cX11_livesAmong 14 = .ok (.aload_n 0, 1) := by decide +kernel
theorem dX11_livesAmong_15 : decode cX11_livesAmong 15 = .ok (.iload_n 2, 1) := by decide +kernel
theorem dX11_livesAmong_16 : decode cX11_livesAmong 16 = .ok (.iload 5, 2) := by decide +kernel
theorem dX11_livesAmong_18 : decode cX11_livesAmong 18 = .ok (.iadd, 1) := by decide +kernel
theorem dX11_livesAmong_19 : decode cX11_livesAmong 19 = .ok (.sipush 168, 3) := by decide +kernel
theorem dX11_livesAmong_22 : decode cX11_livesAmong 22 = .ok (.irem, 1) := by decide +kernel
theorem dX11_livesAmong_23 : decode cX11_livesAmong 23 = .ok (.invokevirtual 264, 3) := by decide +kernel
theorem dX11_livesAmong_26 : decode cX11_livesAmong 26 = .ok (.aload_n 0, 1) := by decide +kernel
theorem dX11_livesAmong_27 : decode cX11_livesAmong 27 = .ok (.iload_n 1, 1) := by decide +kernel
theorem dX11_livesAmong_28 : decode cX11_livesAmong 28 = .ok (.invokevirtual 87, 3) := by decide +kernel
theorem dX11_livesAmong_31 : decode cX11_livesAmong 31 = .ok (.if_icmp .ne 7, 3) := by decide +kernel
theorem dX11_livesAmong_34 : decode cX11_livesAmong 34 = .ok (.iconst 1, 1) := by decide +kernel
theorem dX11_livesAmong_35 : decode cX11_livesAmong 35 = .ok (.goto 4, 3) := by decide +kernel
theorem dX11_livesAmong_38 : decode cX11_livesAmong 38 = .ok (.iconst 0, 1) := by decide +kernel
theorem dX11_livesAmong_39 : decode cX11_livesAmong 39 = .ok (.iadd, 1) := by decide +kernel
theorem dX11_livesAmong_40 : decode cX11_livesAmong 40 = .ok (.istore 4, 2) := by decide +kernel
theorem dX11_livesAmong_42 : decode cX11_livesAmong 42 = .ok (.iinc 5 1, 3) := by decide +kernel
theorem dX11_livesAmong_45 : decode cX11_livesAmong 45 = .ok (.goto (-39), 3) := by decide +kernel
theorem dX11_livesAmong_48 : decode cX11_livesAmong 48 = .ok (.iload 4, 2) := by decide +kernel
theorem dX11_livesAmong_50 : decode cX11_livesAmong 50 = .ok (.ireturn, 1) := by decide +kernel
theorem dX11_changed_0 : decode cX11_changed 0 = .ok (.aload_n 0, 1) := by decide +kernel
theorem dX11_changed_1 : decode cX11_changed 1 = .ok (.iload_n 1, 1) := by decide +kernel
theorem dX11_changed_2 : decode cX11_changed 2 = .ok (.invokestatic 289, 3) := by decide +kernel
theorem dX11_changed_5 : decode cX11_changed 5 = .ok (.ifCond .eq 16, 3) := by decide +kernel
theorem dX11_changed_8 : decode cX11_changed 8 = .ok (.iload_n 3, 1) := by decide +kernel
theorem dX11_changed_9 : decode cX11_changed 9 = .ok (.iconst (-1), 1) := by decide +kernel
theorem dX11_changed_10 : decode cX11_changed 10 = .ok (.if_icmp .eq 15, 3) := by decide +kernel
theorem dX11_changed_13 : decode cX11_changed 13 = .ok (.aload_n 0, 1) := by decide +kernel
theorem dX11_changed_14 : decode cX11_changed 14 = .ok (.iload_n 3, 1) := by decide +kernel
theorem dX11_changed_15 : decode cX11_changed 15 = .ok (.invokevirtual 277, 3) := by decide +kernel
theorem dX11_changed_18 : decode cX11_changed 18 = .ok (.ifCond .ne 7, 3) := by decide +kernel
theorem dX11_changed_21 : decode cX11_changed 21 = .ok (.iconst 1, 1) := by decide +kernel
theorem dX11_changed_22 : decode cX11_changed 22 = .ok (.goto 18, 3) := by decide +kernel
theorem dX11_changed_25 : decode cX11_changed 25 = .ok (.iload_n 2, 1) := by decide +kernel
theorem dX11_changed_26 : decode cX11_changed 26 = .ok (.iconst 1, 1) := by decide +kernel
theorem dX11_changed_27 : decode cX11_changed 27 = .ok (.bipush 12, 2) := by decide +kernel
theorem dX11_changed_29 : decode cX11_changed 29 = .ok (.invokestatic 72, 3) := by decide +kernel
theorem dX11_changed_32 : decode cX11_changed 32 = .ok (.ifCond .ne 7, 3) := by decide +kernel
theorem dX11_changed_35 : decode cX11_changed 35 = .ok (.iconst 2, 1) := by decide +kernel
theorem dX11_changed_36 : decode cX11_changed 36 = .ok (.goto 4, 3) := by decide +kernel
theorem dX11_changed_39 : decode cX11_changed 39 = .ok (.iconst 0, 1) := by decide +kernel
theorem dX11_changed_40 : decode cX11_changed 40 = .ok (.putfield 69, 3) := by decide +kernel
theorem dX11_changed_43 : decode cX11_changed 43 = .ok (.aload_n 0, 1) := by decide +kernel
theorem dX11_changed_44 : decode cX11_changed 44 = .ok (.getfield 69, 3) := by decide +kernel
theorem dX11_changed_47 : decode cX11_changed 47 = .ok (.ifCond .le 5, 3) := by decide +kernel
theorem dX11_changed_50 : decode cX11_changed 50 = .ok (.iconst 0, 1) := by decide +kernel
theorem dX11_changed_51 : decode cX11_changed 51 = .ok (.ireturn, 1) := by decide +kernel
theorem dX11_changed_52 : decode cX11_changed 52 = .ok (.iload_n 3, 1) := by decide +kernel
theorem dX11_changed_53 : decode cX11_changed 53 = .ok (.iconst (-1), 1) := by decide +kernel
theorem dX11_changed_54 : decode cX11_changed 54 = .ok (.if_icmp .eq 11, 3) := by decide +kernel
theorem dX11_changed_57 : decode cX11_changed 57 = .ok (.aload_n 0, 1) := by decide +kernel
theorem dX11_changed_58 : decode cX11_changed 58 = .ok (.iload_n 3, 1) := by decide +kernel
theorem dX11_changed_59 : decode cX11_changed 59 = .ok (.iload_n 1, 1) := by decide +kernel
theorem dX11_changed_60 : decode cX11_changed 60 = .ok (.iload_n 2, 1) := by decide +kernel
theorem dX11_changed_61 : decode cX11_changed 61 = .ok (.invokevirtual 379, 3) := by decide +kernel
theorem dX11_changed_64 : decode cX11_changed 64 = .ok (.ireturn, 1) := by decide +kernel
theorem dX11_changed_65 : decode cX11_changed 65 = .ok (.iconst (-1), 1) := by decide +kernel
theorem dX11_changed_66 : decode cX11_changed 66 = .ok (.istore 4, 2) := by decide +kernel
theorem dX11_changed_68 : decode cX11_changed 68 = .ok (.iconst 0, 1) := by decide +kernel
theorem dX11_changed_69 : decode cX11_changed 69 = .ok (.istore 5, 2) := by decide +kernel
theorem dX11_changed_71 : decode cX11_changed 71 = .ok (.iconst 0, 1) := by decide +kernel
theorem dX11_changed_72 : decode cX11_changed 72 = .ok (.istore 6, 2) := by decide +kernel
theorem dX11_changed_74 : decode cX11_changed 74 = .ok (.iload 6, 2) := by decide +kernel
theorem dX11_changed_76 : decode cX11_changed 76 = .ok (.aload_n 0, 1) := by decide +kernel
theorem dX11_changed_77 : decode cX11_changed 77 = .ok (.getfield 7, 3) := by decide +kernel
theorem dX11_changed_80 : decode cX11_changed 80 = .ok (.iconst 1, 1) := by decide +kernel
theorem dX11_changed_81 : decode cX11_changed 81 = .ok (.iaload, 1) := by decide +kernel
theorem dX11_changed_82 : decode cX11_changed 82 = .ok (.if_icmp .ge 39, 3) := by decide +kernel
theorem dX11_changed_85 : decode cX11_changed 85 = .ok (.aload_n 0, 1) := by decide +kernel
theorem dX11_changed_86 : decode cX11_changed 86 = .ok (.iload 6, 2) := by decide +kernel
theorem dX11_changed_88 : decode cX11_changed 88 = .ok (.iload_n 1, 1) := by decide +kernel
theorem dX11_changed_89 : decode cX11_changed 89 = .ok (.iload_n 2, 1) := by decide +kernel
theorem dX11_changed_90 : decode cX11_changed 90 = .ok (.invokevirtual 379, 3) := by decide +kernel
theorem dX11_changed_93 : decode cX11_changed 93 = .ok (.iload 5, 2) := by decide +kernel
theorem dX11_changed_95 : decode cX11_changed 95 = .ok (.if_icmp .gt 6, 3) := by decide +kernel
theorem dX11_changed_98 : decode cX11_changed 98 = .ok (.goto 17, 3) := by decide +kernel
theorem dX11_changed_101 : decode cX11_changed 101 = .ok (.aload_n 0, 1) := by decide +kernel
theorem dX11_changed_102 : decode cX11_changed 102 = .ok (.iload 6, 2) := by decide +kernel
theorem dX11_changed_104 : decode cX11_changed 104 = .ok (.iload_n 1, 1) := by decide +kernel
theorem dX11_changed_105 : decode cX11_changed 105 = .ok (.iload_n 2, 1) := by decide +kernel
theorem dX11_changed_106 : decode cX11_changed 106 = .ok (.invokevirtual 379, 3) := by decide +kernel
theorem dX11_changed_109 : decode cX11_changed 109 = .ok (.istore 5, 2) := by decide +kernel
theorem dX11_changed_111 : decode cX11_changed 111 = .ok (.iload 6, 2) := by decide +kernel
theorem dX11_changed_113 : decode cX11_changed 113 = .ok (.istore 4, 2) := by decide +kernel
theorem dX11_changed_115 : decode cX11_changed 115 = .ok (.iinc 6 1, 3) := by decide +kernel
theorem dX11_changed_118 : decode cX11_changed 118 = .ok (.goto (-44), 3) := by decide +kernel
theorem dX11_changed_121 : decode cX11_changed 121 = .ok (.iload 4, 2) := by decide +kernel
theorem dX11_changed_123 : decode cX11_changed 123 = .ok (.ireturn, 1) := by decide +kernel
theorem dX11_log_0 : decode cX11_log 0 = .ok (.aload_n 0, 1) := by decide +kernel
theorem dX11_log_1 : decode cX11_log 1 = .ok (.iload_n 2, 1) := by decide +kernel
theorem dX11_log_2 : decode cX11_log 2 = .ok (.iconst 0, 1) := by decide +kernel
theorem dX11_log_3 : decode cX11_log 3 = .ok (.iconst 3, 1) := by decide +kernel
theorem dX11_log_4 : decode cX11_log 4 = .ok (.invokestatic 72, 3) := by decide +kernel
theorem dX11_log_7 : decode cX11_log 7 = .ok (.ifCond .ne 7, 3) := by decide +kernel
theorem dX11_log_10 : decode cX11_log 10 = .ok (.iconst 1, 1) := by decide +kernel
theorem dX11_log_11 : decode cX11_log 11 = .ok (.goto 4, 3) := by decide +kernel
theorem dX11_log_14 : decode cX11_log 14 = .ok (.iconst 0, 1) := by decide +kernel
theorem dX11_log_15 : decode cX11_log 15 = .ok (.putfield 69, 3) := by decide +kernel
theorem dX11_log_18 : decode cX11_log 18 = .ok (.aload_n 0, 1) := by decide +kernel
theorem dX11_log_19 : decode cX11_log 19 = .ok (.getfield 69, 3) := by decide +kernel
theorem dX11_log_22 : decode cX11_log 22 = .ok (.ifCond .le 5, 3) := by decide +kernel
theorem dX11_log_25 : decode cX11_log 25 = .ok (.iconst 0, 1) := by decide +kernel
theorem dX11_log_26 : decode cX11_log 26 = .ok (.ireturn, 1) := by decide +kernel
theorem dX11_log_27 : decode cX11_log 27 = .ok (.iload_n 1, 1) := by decide +kernel
theorem dX11_log_28 : decode cX11_log 28 = .ok (.iconst 0, 1) := by decide +kernel
theorem dX11_log_29 : decode cX11_log 29 = .ok (.aload_n 0, 1) := by decide +kernel
theorem dX11_log_30 : decode cX11_log 30 = .ok (.getfield 7, 3) := by decide +kernel
theorem dX11_log_33 : decode cX11_log 33 = .ok (.bipush 10, 2) := by decide +kernel
theorem dX11_log_35 : decode cX11_log 35 = .ok (.iaload, 1) := by decide +kernel
theorem dX11_log_36 : decode cX11_log 36 = .ok (.iconst 1, 1) := by decide +kernel
theorem dX11_log_37 : decode cX11_log 37 = .ok (.isub, 1) := by decide +kernel
theorem dX11_log_38 : decode cX11_log 38 = .ok (.invokestatic 72, 3) := by decide +kernel
theorem dX11_log_41 : decode cX11_log 41 = .ok (.ifCond .eq 20, 3) := by decide +kernel
theorem dX11_log_44 : decode cX11_log 44 = .ok (.aload_n 0, 1) := by decide +kernel
theorem dX11_log_45 : decode cX11_log 45 = .ok (.getfield 7, 3) := by decide +kernel
theorem dX11_log_48 : decode cX11_log 48 = .ok (.sipush 760, 3) := by decide +kernel
theorem dX11_log_51 : decode cX11_log 51 = .ok (.iconst 4, 1) := by decide +kernel
theorem dX11_log_52 : decode cX11_log 52 = .ok (.iload_n 1, 1) := by decide +kernel
theorem dX11_log_53 : decode cX11_log 53 = .ok (.imul, 1) := by decide +kernel
theorem dX11_log_54 : decode cX11_log 54 = .ok (.iadd, 1) := by decide +kernel
theorem dX11_log_55 : decode cX11_log 55 = .ok (.iload_n 2, 1) := by decide +kernel
theorem dX11_log_56 : decode cX11_log 56 = .ok (.iadd, 1) := by decide +kernel
theorem dX11_log_57 : decode cX11_log 57 = .ok (.iaload, 1) := by decide +kernel
theorem dX11_log_58 : decode cX11_log 58 = .ok (.goto 4, 3) := by decide +kernel
theorem dX11_log_61 : decode cX11_log 61 = .ok (.iconst (-1), 1) := by decide +kernel
theorem dX11_log_62 : decode cX11_log 62 = .ok (.ireturn, 1) := by decide +kernel
theorem dX11_led_0 : decode cX11_led 0 = .ok (.aload_n 0, 1) := by decide +kernel
theorem dX11_led_1 : decode cX11_led 1 = .ok (.iload_n 1, 1) := by decide +kernel
theorem dX11_led_2 : decode cX11_led 2 = .ok (.invokestatic 289, 3) := by decide +kernel
theorem dX11_led_5 : decode cX11_led 5 = .ok (.ifCond .ne 7, 3) := by decide +kernel
theorem dX11_led_8 : decode cX11_led 8 = .ok (.iconst 1, 1) := by decide +kernel
theorem dX11_led_9 : decode cX11_led 9 = .ok (.goto 12, 3) := by decide +kernel
theorem dX11_led_12 : decode cX11_led 12 = .ok (.iload_n 2, 1) := by decide +kernel
theorem dX11_led_13 : decode cX11_led 13 = .ok (.ifCond .ge 7, 3) := by decide +kernel
theorem dX11_led_16 : decode cX11_led 16 = .ok (.iconst 2, 1) := by decide +kernel
theorem dX11_led_17 : decode cX11_led 17 = .ok (.goto 4, 3) := by decide +kernel
theorem dX11_led_20 : decode cX11_led 20 = .ok (.iconst 0, 1) := by decide +kernel
theorem dX11_led_21 : decode cX11_led 21 = .ok (.putfield 69, 3) := by decide +kernel
theorem dX11_led_24 : decode cX11_led 24 = .ok (.aload_n 0, 1) := by decide +kernel
theorem dX11_led_25 : decode cX11_led 25 = .ok (.getfield 69, 3) := by decide +kernel
theorem dX11_led_28 : decode cX11_led 28 = .ok (.ifCond .le 5, 3) := by decide +kernel
theorem dX11_led_31 : decode cX11_led 31 = .ok (.iconst 0, 1) := by decide +kernel
theorem dX11_led_32 : decode cX11_led 32 = .ok (.ireturn, 1) := by decide +kernel
theorem dX11_led_33 : decode cX11_led 33 = .ok (.iload_n 2, 1) := by decide +kernel
theorem dX11_led_34 : decode cX11_led 34 = .ok (.istore_n 3, 1) := by decide +kernel
theorem dX11_led_35 : decode cX11_led 35 = .ok (.iconst 0, 1) := by decide +kernel
theorem dX11_led_36 : decode cX11_led 36 = .ok (.istore 4, 2) := by decide +kernel
theorem dX11_led_38 : decode cX11_led 38 = .ok (.iload 4, 2) := by decide +kernel
theorem dX11_led_40 : decode cX11_led 40 = .ok (.aload_n 0, 1) := by decide +kernel
theorem dX11_led_41 : decode cX11_led 41 = .ok (.getfield 7, 3) := by decide +kernel
theorem dX11_led_44 : decode cX11_led 44 = .ok (.bipush 10, 2) := by decide +kernel
theorem dX11_led_46 : decode cX11_led 46 = .ok (.iaload, 1) := by decide +kernel
theorem dX11_led_47 : decode cX11_led 47 = .ok (.if_icmp .ge 54, 3) := by decide +kernel
theorem dX11_led_50 : decode cX11_led 50 = .ok (.aload_n 0, 1) := by decide +kernel
theorem dX11_led_51 : decode cX11_led 51 = .ok (.getfield 7, 3) := by decide +kernel
theorem dX11_led_54 : decode cX11_led 54 = .ok (.sipush 760, 3) := by decide +kernel
theorem dX11_led_57 : decode cX11_led 57 = .ok (.iconst 4, 1) := by decide +kernel
theorem dX11_led_58 : decode cX11_led 58 = .ok (.iload 4, 2) := by decide +kernel
theorem dX11_led_60 : decode cX11_led 60 = .ok (.imul, 1) := by decide +kernel
theorem dX11_led_61 : decode cX11_led 61 = .ok (.iadd, 1) := by decide +kernel
theorem dX11_led_62 : decode cX11_led 62 = .ok (.iconst 1, 1) := by decide +kernel
theorem dX11_led_63 : decode cX11_led 63 = .ok (.iadd, 1) := by decide +kernel
theorem dX11_led_64 : decode cX11_led 64 = .ok (.iaload, 1) := by decide +kernel
theorem dX11_led_65 : decode cX11_led 65 = .ok (.iload_n 1, 1) := by decide +kernel
theorem dX11_led_66 : decode cX11_led 66 = .ok (.if_icmp .eq 6, 3) := by decide +kernel
theorem dX11_led_69 : decode cX11_led 69 = .ok (.goto 26, 3) := by decide +kernel
theorem dX11_led_72 : decode cX11_led 72 = .ok (.iload_n 3, 1) := by decide +kernel
theorem dX11_led_73 : decode cX11_led 73 = .ok (.ifCond .ne 19, 3) := by decide +kernel
theorem dX11_led_76 : decode cX11_led 76 = .ok (.aload_n 0, 1) := by decide +kernel
theorem dX11_led_77 : decode cX11_led 77 = .ok (.getfield 7, 3) := by decide +kernel
theorem dX11_led_80 : decode cX11_led 80 = .ok (.sipush 760, 3) := by decide +kernel
theorem dX11_led_83 : decode cX11_led 83 = .ok (.iconst 4, 1) := by decide +kernel
theorem dX11_led_84 : decode cX11_led 84 = .ok (.iload 4, 2) := by decide +kernel
theorem dX11_led_86 : decode cX11_led 86 = .ok (.imul, 1) := by decide +kernel
theorem dX11_led_87 : decode cX11_led 87 = .ok (.iadd, 1) := by decide +kernel
theorem dX11_led_88 : decode cX11_led 88 = .ok (.iconst 2, 1) := by decide +kernel
theorem dX11_led_89 : decode cX11_led 89 = .ok (.iadd, 1) := by decide +kernel
theorem dX11_led_90 : decode cX11_led 90 = .ok (.iaload, 1) := by decide +kernel
theorem dX11_led_91 : decode cX11_led 91 = .ok (.ireturn, 1) := by decide +kernel
theorem dX11_led_92 : decode cX11_led 92 = .ok (.iinc 3 (-1), 3) := by decide +kernel
theorem dX11_led_95 : decode cX11_led 95 = .ok (.iinc 4 1, 3) := by decide +kernel
theorem dX11_led_98 : decode cX11_led 98 = .ok (.goto (-60), 3) := by decide +kernel
theorem dX11_led_101 : decode cX11_led 101 = .ok (.iconst (-1), 1) := by decide +kernel
theorem dX11_led_102 : decode cX11_led 102 = .ok (.ireturn, 1) := by decide +kernel
theorem dX11_seed_0 : decode cX11_seed 0 = .ok (.aload_n 0, 1) := by decide +kernel
theorem dX11_seed_1 : decode cX11_seed 1 = .ok (.iconst 0, 1) := by decide +kernel
theorem dX11_seed_2 : decode cX11_seed 2 = .ok (.putfield 69, 3) := by decide +kernel
theorem dX11_seed_5 : decode cX11_seed 5 = .ok (.aload_n 0, 1) := by decide +kernel
theorem dX11_seed_6 : decode cX11_seed 6 = .ok (.getfield 7, 3) := by decide +kernel
theorem dX11_seed_9 : decode cX11_seed 9 = .ok (.bipush 11, 2) := by decide +kernel
theorem dX11_seed_11 : decode cX11_seed 11 = .ok (.iaload, 1) := by decide +kernel
theorem dX11_seed_12 : decode cX11_seed 12 = .ok (.istore_n 2, 1) := by decide +kernel
theorem dX11_seed_13 : decode cX11_seed 13 = .ok (.aload_n 0, 1) := by decide +kernel
theorem dX11_seed_14 : decode cX11_seed 14 = .ok (.getfield 7, 3) := by decide +kernel
theorem dX11_seed_17 : decode cX11_seed 17 = .ok (.bipush 11, 2) := by decide +kernel
theorem dX11_seed_19 : decode cX11_seed 19 = .ok (.iload_n 1, 1) := by decide +kernel
theorem dX11_seed_20 : decode cX11_seed 20 = .ok (.iastore, 1) := by decide +kernel
theorem dX11_seed_21 : decode cX11_seed 21 = .ok (.iload_n 2, 1) := by decide +kernel
theorem dX11_seed_22 : decode cX11_seed 22 = .ok (.ireturn, 1) := by decide +kernel
theorem dX11_undo_0 : decode cX11_undo 0 = .ok (.aload_n 0, 1) := by decide +kernel
theorem dX11_undo_1 : decode cX11_undo 1 = .ok (.iconst 0, 1) := by decide +kernel
theorem dX11_undo_2 : decode cX11_undo 2 = .ok (.putfield 69, 3) := by decide +kernel
theorem dX11_undo_5 : decode cX11_undo 5 = .ok (.aload_n 0, 1) := by decide +kernel
theorem dX11_undo_6 : decode cX11_undo 6 = .ok (.getfield 202, 3) := by decide +kernel
theorem dX11_undo_9 : decode cX11_undo 9 = .ok (.ifCond .ne 5, 3) := by decide +kernel
theorem dX11_undo_12 : decode cX11_undo 12 = .ok (.iconst 0, 1) := by decide +kernel
theorem dX11_undo_13 : decode cX11_undo 13 = .ok (.ireturn, 1) := by decide +kernel
theorem dX11_undo_14 : decode cX11_undo 14 = .ok (.aload_n 0, 1) := by decide +kernel
theorem dX11_undo_15 : decode cX11_undo 15 = .ok (.dup, 1) := by decide +kernel
theorem dX11_undo_16 : decode cX11_undo 16 = .ok (.getfield 202, 3) := by decide +kernel
theorem dX11_undo_19 : decode cX11_undo 19 = .ok (.iconst 1, 1) := by decide +kernel
theorem dX11_undo_20 : decode cX11_undo 20 = .ok (.isub, 1) := by decide +kernel
theorem dX11_undo_21 : decode cX11_undo 21 = .ok (.putfield 202, 3) := by decide +kernel
theorem dX11_undo_24 : decode cX11_undo 24 = .ok (.iconst 0, 1) := by decide +kernel
theorem dX11_undo_25 : decode cX11_undo 25 = .ok (.istore_n 1, 1) := by decide +kernel
theorem dX11_undo_26 : decode cX11_undo 26 = .ok (.iload_n 1, 1) := by decide +kernel
theorem dX11_undo_27 : decode cX11_undo 27 = .ok (.sipush 1080, 3) := by decide +kernel
theorem dX11_undo_30 : decode cX11_undo 30 = .ok (.if_icmp .ge 30, 3) := by decide +kernel
theorem dX11_undo_33 : decode cX11_undo 33 = .ok (.aload_n 0, 1) := by decide +kernel
theorem dX11_undo_34 : decode cX11_undo 34 = .ok (.getfield 7, 3) := by decide +kernel
theorem dX11_undo_37 : decode cX11_undo 37 = .ok (.iload_n 1, 1) := by decide +kernel
theorem dX11_undo_38 : decode cX11_undo 38 = .ok (.aload_n 0, 1) := by decide +kernel
theorem dX11_undo_39 : decode cX11_undo 39 = .ok (.getfield 19, 3) := by decide +kernel
theorem dX11_undo_42 : decode cX11_undo 42 = .ok (.sipush 1080, 3) := by decide +kernel
theorem dX11_undo_45 : decode cX11_undo 45 = .ok (.aload_n 0, 1) := by decide +kernel
theorem dX11_undo_46 : decode cX11_undo 46 = .ok (.getfield 202, 3) := by decide +kernel
theorem dX11_undo_49 : decode cX11_undo 49 = .ok (.imul, 1) := by decide +kernel
theorem dX11_undo_50 : decode cX11_undo 50 = .ok (.iload_n 1, 1) := by decide +kernel
theorem dX11_undo_51 : decode cX11_undo 51 = .ok (.iadd, 1) := by decide +kernel
theorem dX11_undo_52 : decode cX11_undo 52 = .ok (.iaload, 1) := by decide +kernel
theorem dX11_undo_53 : decode cX11_undo 53 = .ok (.iastore, 1) := by decide +kernel
theorem dX11_undo_54 : decode cX11_undo 54 = .ok (.iinc 1 1, 3) := by decide +kernel
theorem dX11_undo_57 : decode cX11_undo 57 = .ok (.goto (-31), 3) := by decide +kernel
theorem dX11_undo_60 : decode cX11_undo 60 = .ok (.iconst 1, 1) := by decide +kernel
theorem dX11_undo_61 : decode cX11_undo 61 = .ok (.ireturn, 1) := by decide +kernel
theorem dX11_image_0 : decode cX11_image 0 = .ok (.aload_n 0, 1) := by decide +kernel
theorem dX11_image_1 : decode cX11_image 1 = .ok (.iconst 0, 1) := by decide +kernel
theorem dX11_image_2 : decode cX11_image 2 = .ok (.putfield 69, 3) := by decide +kernel
theorem dX11_image_5 : decode cX11_image 5 = .ok (.iconst 0, 1) := by decide +kernel
theorem dX11_image_6 : decode cX11_image 6 = .ok (.istore_n 1, 1) := by decide +kernel
theorem dX11_image_7 : decode cX11_image 7 = .ok (.iload_n 1, 1) := by decide +kernel
theorem dX11_image_8 : decode cX11_image 8 = .ok (.sipush 1480, 3) := by decide +kernel
theorem dX11_image_11 : decode cX11_image 11 = .ok (.if_icmp .ge 21, 3) := by decide +kernel
theorem dX11_image_14 : decode cX11_image 14 = .ok (.aload_n 0, 1) := by decide +kernel
theorem dX11_image_15 : decode cX11_image 15 = .ok (.getfield 13, 3) := by decide +kernel
theorem dX11_image_18 : decode cX11_image 18 = .ok (.iload_n 1, 1) := by decide +kernel
theorem dX11_image_19 : decode cX11_image 19 = .ok (.aload_n 0, 1) := by decide +kernel
theorem dX11_image_20 : decode cX11_image 20 = .ok (.getfield 7, 3) := by decide +kernel
theorem dX11_image_23 : decode cX11_image 23 = .ok (.iload_n 1, 1) := by decide +kernel
theorem dX11_image_24 : decode cX11_image 24 = .ok (.iaload, 1) := by decide +kernel
theorem dX11_image_25 : decode cX11_image 25 = .ok (.iastore, 1) := by decide +kernel
theorem dX11_image_26 : decode cX11_image 26 = .ok (.iinc 1 1, 3) := by decide +kernel
theorem dX11_image_29 : decode cX11_image 29 = .ok (.goto (-22), 3) := by decide +kernel
theorem dX11_image_32 : decode cX11_image 32 = .ok (.aload_n 0, 1) := by decide +kernel
theorem dX11_image_33 : decode cX11_image 33 = .ok (.iconst 1, 1) := by decide +kernel
theorem dX11_image_34 : decode cX11_image 34 = .ok (.putfield 382, 3) := by decide +kernel
theorem dX11_image_37 : decode cX11_image 37 = .ok (.return_, 1) := by decide +kernel
theorem dX11_back_0 : decode cX11_back 0 = .ok (.aload_n 0, 1) := by decide +kernel
theorem dX11_back_1 : decode cX11_back 1 = .ok (.iconst 0, 1) := by decide +kernel
theorem dX11_back_2 : decode cX11_back 2 = .ok (.putfield 69, 3) := by decide +kernel
theorem dX11_back_5 : decode cX11_back 5 = .ok (.aload_n 0, 1) := by decide +kernel
theorem dX11_back_6 : decode cX11_back 6 = .ok (.getfield 382, 3) := by decide +kernel
theorem dX11_back_9 : decode cX11_back 9 = .ok (.ifCond .ne 5, 3) := by decide +kernel
theorem dX11_back_12 : decode cX11_back 12 = .ok (.iconst 0, 1) := by decide +kernel
theorem dX11_back_13 : decode cX11_back 13 = .ok (.ireturn, 1) := by decide +kernel
theorem dX11_back_14 : decode cX11_back 14 = .ok (.iconst 0, 1) := by decide +kernel
theorem dX11_back_15 : decode cX11_back 15 = .ok (.istore_n 1, 1) := by decide +kernel
theorem dX11_back_16 : decode cX11_back 16 = .ok (.iload_n 1, 1) := by decide +kernel
theorem dX11_back_17 : decode cX11_back 17 = .ok (.sipush 1480, 3) := by decide +kernel
theorem dX11_back_20 : decode cX11_back 20 = .ok (.if_icmp .ge 21, 3) := by decide +kernel
theorem dX11_back_23 : decode cX11_back 23 = .ok (.aload_n 0, 1) := by decide +kernel
theorem dX11_back_24 : decode cX11_back 24 = .ok (.getfield 7, 3) := by decide +kernel
theorem dX11_back_27 : decode cX11_back 27 = .ok (.iload_n 1, 1) := by decide +kernel
theorem dX11_back_28 : decode cX11_back 28 = .ok (.aload_n 0, 1) := by decide +kernel
theorem dX11_back_29 : decode cX11_back 29 = .ok (.getfield 13, 3) := by decide +kernel
theorem dX11_back_32 : decode cX11_back 32 = .ok (.iload_n 1, 1) := by decide +kernel
theorem dX11_back_33 : decode cX11_back 33 = .ok (.iaload, 1) := by decide +kernel
theorem dX11_back_34 : decode cX11_back 34 = .ok (.iastore, 1) := by decide +kernel
theorem dX11_back_35 : decode cX11_back 35 = .ok (.iinc 1 1, 3) := by decide +kernel
theorem dX11_back_38 : decode cX11_back 38 = .ok (.goto (-22), 3) := by decide +kernel
theorem dX11_back_41 : decode cX11_back 41 = .ok (.aload_n 0, 1) := by decide +kernel
theorem dX11_back_42 : decode cX11_back 42 = .ok (.iconst 0, 1) := by decide +kernel
theorem dX11_back_43 : decode cX11_back 43 = .ok (.putfield 202, 3) := by decide +kernel
theorem dX11_back_46 : decode cX11_back 46 = .ok (.iconst 1, 1) := by decide +kernel
theorem dX11_back_47 : decode cX11_back 47 = .ok (.ireturn, 1) := by decide +kernel
theorem dX11_coinsNow_0 : decode cX11_coinsNow 0 = .ok (.iconst 0, 1) := by decide +kernel
theorem dX11_coinsNow_1 : decode cX11_coinsNow 1 = .ok (.istore_n 1, 1) := by decide +kernel
theorem dX11_coinsNow_2 : decode cX11_coinsNow 2 = .ok (.iconst 0, 1) := by decide +kernel
theorem dX11_coinsNow_3 : decode cX11_coinsNow 3 = .ok (.istore_n 2, 1) := by decide +kernel
theorem dX11_coinsNow_4 : decode cX11_coinsNow 4 = .ok (.iload_n 2, 1) := by decide +kernel
theorem dX11_coinsNow_5 : decode cX11_coinsNow 5 = .ok (.aload_n 0, 1) := by decide +kernel
theorem dX11_coinsNow_6 : decode cX11_coinsNow 6 = .ok (.getfield 7, 3) := by decide +kernel
theorem dX11_coinsNow_9 : decode cX11_coinsNow 9 = .ok (.iconst 1, 1) := by decide +kernel
theorem dX11_coinsNow_10 : decode cX11_coinsNow 10 = .ok (.iaload, 1) := by decide +kernel
theorem dX11_coinsNow_11 : decode cX11_coinsNow 11 = .ok (.if_icmp .ge 18, 3) := by decide +kernel
theorem dX11_coinsNow_14 : decode cX11_coinsNow 14 = .ok (.iload_n 1, 1) := by decide +kernel
theorem dX11_coinsNow_15 : decode cX11_coinsNow 15 = .ok (.aload_n 0, 1) := by decide +kernel
theorem dX11_coinsNow_16 : decode cX11_coinsNow 16 = .ok (.iload_n 2, 1) := by decide +kernel
theorem dX11_coinsNow_17 : decode cX11_coinsNow 17 = .ok (.iconst 0, 1) := by decide +kernel
theorem dX11_coinsNow_18 : decode cX11_coinsNow 18 = .ok (.invokevirtual 76, 3) := by decide +kernel
theorem dX11_coinsNow_21 : decode cX11_coinsNow 21 = .ok (.iadd, 1) := by decide +kernel
theorem dX11_coinsNow_22 : decode cX11_coinsNow 22 = .ok (.istore_n 1, 1) := by decide +kernel
theorem dX11_coinsNow_23 : decode cX11_coinsNow 23 = .ok (.iinc 2 1, 3) := by decide +kernel
theorem dX11_coinsNow_26 : decode cX11_coinsNow 26 = .ok (.goto (-22), 3) := by decide +kernel
theorem dX11_coinsNow_29 : decode cX11_coinsNow 29 = .ok (.iload_n 1, 1) := by decide +kernel
theorem dX11_coinsNow_30 : decode cX11_coinsNow 30 = .ok (.ireturn, 1) := by decide +kernel
theorem dX11_roomsNow_0 : decode cX11_roomsNow 0 = .ok (.iconst 0, 1) := by decide +kernel
theorem dX11_roomsNow_1 : decode cX11_roomsNow 1 = .ok (.istore_n 2, 1) := by decide +kernel
theorem dX11_roomsNow_2 : decode cX11_roomsNow 2 = .ok (.iconst 0, 1) := by decide +kernel
theorem dX11_roomsNow_3 : decode cX11_roomsNow 3 = .ok (.istore_n 3, 1) := by decide +kernel
theorem dX11_roomsNow_4 : decode cX11_roomsNow 4 = .ok (.iload_n 3, 1) := by decide +kernel
theorem dX11_roomsNow_5 : decode cX11_roomsNow 5 = .ok (.sipush 168, 3) := by decide +kernel
theorem dX11_roomsNow_8 : decode cX11_roomsNow 8 = .ok (.if_icmp .ge 85, 3) := by decide +kernel
theorem dX11_roomsNow_11 : decode cX11_roomsNow 11 = .ok (.iload_n 1, 1) := by decide +kernel
theorem dX11_roomsNow_12 : decode cX11_roomsNow 12 = .ok (.bipush 8, 2) := by decide +kernel
theorem dX11_roomsNow_14 : decode cX11_roomsNow 14 = .ok (.if_icmp .ne 21, 3) := by decide +kernel
theorem dX11_roomsNow_17 : decode cX11_roomsNow 17 = .ok (.iload_n 2, 1) := by decide +kernel
theorem dX11_roomsNow_18 : decode cX11_roomsNow 18 = .ok (.aload_n 0, 1) := by decide +kernel
theorem dX11_roomsNow_19 : decode cX11_roomsNow 19 = .ok (.iload_n 3, 1) := by decide +kernel
theorem dX11_roomsNow_20 : decode cX11_roomsNow 20 = .ok (.iconst 0, 1) := by decide +kernel
theorem dX11_roomsNow_21 : decode cX11_roomsNow 21 = .ok (.invokevirtual 84, 3) := by decide +kernel
theorem dX11_roomsNow_24 : decode cX11_roomsNow 24 = .ok (.iconst (-1), 1) := by decide +kernel
theorem dX11_roomsNow_25 : decode cX11_roomsNow 25 = .ok (.if_icmp .ne 7, 3) := by decide +kernel
theorem dX11_roomsNow_28 : decode cX11_roomsNow 28 = .ok (.iconst 1, 1) := by decide +kernel
theorem dX11_roomsNow_29 : decode cX11_roomsNow 29 = .ok (.goto 4, 3) := by decide +kernel
theorem dX11_roomsNow_32 : decode cX11_roomsNow 32 = .ok (.iconst 0, 1) := by decide +kernel
theorem dX11_roomsNow_33 : decode cX11_roomsNow 33 = .ok (.iadd, 1) := by decide +kernel
theorem dX11_roomsNow_34 : decode cX11_roomsNow 34 = .ok (.istore_n 2, 1) := by decide +kernel
theorem dX11_roomsNow_35 : decode cX11_roomsNow 35 = .ok (.iload_n 1, 1) := by decide +kernel
theorem dX11_roomsNow_36 : decode cX11_roomsNow 36 = .ok (.bipush 9, 2) := by decide +kernel
theorem dX11_roomsNow_38 : decode cX11_roomsNow 38 = .ok (.if_icmp .ne 19, 3) := by decide +kernel
theorem dX11_roomsNow_41 : decode cX11_roomsNow 41 = .ok (.iload_n 2, 1) := by decide +kernel
theorem dX11_roomsNow_42 : decode cX11_roomsNow 42 = .ok (.aload_n 0, 1) := by decide +kernel
theorem dX11_roomsNow_43 : decode cX11_roomsNow 43 = .ok (.iload_n 3, 1) := by decide +kernel
theorem dX11_roomsNow_44 : decode cX11_roomsNow 44 = .ok (.invokevirtual 311, 3) := by decide +kernel
theorem dX11_roomsNow_47 : decode cX11_roomsNow 47 = .ok (.ifCond .eq 7, 3) := by decide +kernel
theorem dX11_roomsNow_50 : decode cX11_roomsNow 50 = .ok (.iconst 1, 1) := by decide +kernel
theorem dX11_roomsNow_51 : decode cX11_roomsNow 51 = .ok (.goto 4, 3) := by decide +kernel
theorem dX11_roomsNow_54 : decode cX11_roomsNow 54 = .ok (.iconst 0, 1) := by decide +kernel
theorem dX11_roomsNow_55 : decode cX11_roomsNow 55 = .ok (.iadd, 1) := by decide +kernel
theorem dX11_roomsNow_56 : decode cX11_roomsNow 56 = .ok (.istore_n 2, 1) := by decide +kernel
theorem dX11_roomsNow_57 : decode cX11_roomsNow 57 = .ok (.iload_n 1, 1) := by decide +kernel
theorem dX11_roomsNow_58 : decode cX11_roomsNow 58 = .ok (.bipush 10, 2) := by decide +kernel
theorem dX11_roomsNow_60 : decode cX11_roomsNow 60 = .ok (.if_icmp .ne 12, 3) := by decide +kernel
theorem dX11_roomsNow_63 : decode cX11_roomsNow 63 = .ok (.iload_n 2, 1) := by decide +kernel
theorem dX11_roomsNow_64 : decode cX11_roomsNow 64 = .ok (.aload_n 0, 1) := by decide +kernel
theorem dX11_roomsNow_65 : decode cX11_roomsNow 65 = .ok (.iload_n 3, 1) := by decide +kernel
theorem dX11_roomsNow_66 : decode cX11_roomsNow 66 = .ok (.iconst 2, 1) := by decide +kernel
theorem dX11_roomsNow_67 : decode cX11_roomsNow 67 = .ok (.invokevirtual 84, 3) := by decide +kernel
theorem dX11_roomsNow_70 : decode cX11_roomsNow 70 = .ok (.iadd, 1) := by decide +kernel
theorem dX11_roomsNow_71 : decode cX11_roomsNow 71 = .ok (.istore_n 2, 1) := by decide +kernel
theorem dX11_roomsNow_72 : decode cX11_roomsNow 72 = .ok (.iload_n 1, 1) := by decide +kernel
theorem dX11_roomsNow_73 : decode cX11_roomsNow 73 = .ok (.bipush 14, 2) := by decide +kernel
theorem dX11_roomsNow_75 : decode cX11_roomsNow 75 = .ok (.if_icmp .ne 12, 3) := by decide +kernel
theorem dX11_roomsNow_78 : decode cX11_roomsNow 78 = .ok (.iload_n 2, 1) := by decide +kernel
theorem dX11_roomsNow_79 : decode cX11_roomsNow 79 = .ok (.aload_n 0, 1) := by decide +kernel
theorem dX11_roomsNow_80 : decode cX11_roomsNow 80 = .ok (.iload_n 3, 1) := by decide +kernel
theorem dX11_roomsNow_81 : decode cX11_roomsNow 81 = .ok (.iconst 3, 1) := by decide +kernel
theorem dX11_roomsNow_82 : decode cX11_roomsNow 82 = .ok (.invokevirtual 84, 3) := by decide +kernel
theorem dX11_roomsNow_85 : decode cX11_roomsNow 85 = .ok (.iadd, 1) := by decide +kernel
theorem dX11_roomsNow_86 : decode cX11_roomsNow 86 = .ok (.istore_n 2, 1) := by decide +kernel
theorem dX11_roomsNow_87 : decode cX11_roomsNow 87 = .ok (.iinc 3 1, 3) := by decide +kernel
theorem dX11_roomsNow_90 : decode cX11_roomsNow 90 = .ok (.goto (-86), 3) := by decide +kernel
theorem dX11_roomsNow_93 : decode cX11_roomsNow 93 = .ok (.iload_n 2, 1) := by decide +kernel
theorem dX11_roomsNow_94 : decode cX11_roomsNow 94 = .ok (.ireturn, 1) := by decide +kernel
theorem dX11_count_0 : decode cX11_count 0 = .ok (.aload_n 0, 1) := by decide +kernel
theorem dX11_count_1 : decode cX11_count 1 = .ok (.iconst 0, 1) := by decide +kernel
theorem dX11_count_2 : decode cX11_count 2 = .ok (.putfield 69, 3) := by decide +kernel
theorem dX11_count_5 : decode cX11_count 5 = .ok (.iload_n 1, 1) := by decide +kernel
theorem dX11_count_6 : decode cX11_count 6 = .ok (.bipush 8, 2) := by decide +kernel
theorem dX11_count_8 : decode cX11_count 8 = .ok (.if_icmp .eq 21, 3) := by decide +kernel
theorem dX11_count_11 : decode cX11_count 11 = .ok (.iload_n 1, 1) := by decide +kernel
theorem dX11_count_12 : decode cX11_count 12 = .ok (.bipush 9, 2) := by decide +kernel
theorem dX11_count_14 : decode cX11_count 14 = .ok (.if_icmp .eq 15, 3) := by decide +kernel
theorem dX11_count_17 : decode cX11_count 17 = .ok (.iload_n 1, 1) := by decide +kernel
theorem dX11_count_18 : decode cX11_count 18 = .ok (.bipush 10, 2) := by decide +kernel
theorem dX11_count_20 : decode cX11_count 20 = .ok (.if_icmp .eq 9, 3) := by decide +kernel
theorem dX11_count_23 : decode cX11_count 23 = .ok (.iload_n 1, 1) := by decide +kernel
theorem dX11_count_24 : decode cX11_count 24 = .ok (.bipush 14, 2) := by decide +kernel
theorem dX11_count_26 : decode cX11_count 26 = .ok (.if_icmp .ne 9, 3) := by decide +kernel
theorem dX11_count_29 : decode cX11_count 29 = .ok (.aload_n 0, 1) := by decide +kernel
theorem dX11_count_30 : decode cX11_count 30 = .ok (.iload_n 1, 1) := by decide +kernel
theorem dX11_count_31 : decode cX11_count 31 = .ok (.invokevirtual 385, 3) := by decide +kernel
theorem dX11_count_34 : decode cX11_count 34 = .ok (.ireturn, 1) := by decide +kernel
theorem dX11_count_35 : decode cX11_count 35 = .ok (.iload_n 1, 1) := by decide +kernel
theorem dX11_count_36 : decode cX11_count 36 = .ok (.ifCond .ne 12, 3) := by decide +kernel
theorem dX11_count_39 : decode cX11_count 39 = .ok (.aload_n 0, 1) := by decide +kernel
theorem dX11_count_40 : decode cX11_count 40 = .ok (.getfield 7, 3) := by decide +kernel
theorem dX11_count_43 : decode cX11_count 43 = .ok (.iconst 1, 1) := by decide +kernel
theorem dX11_count_44 : decode cX11_count 44 = .ok (.iaload, 1) := by decide +kernel
theorem dX11_count_45 : decode cX11_count 45 = .ok (.goto 165, 3) := by decide +kernel
theorem dX11_count_48 : decode cX11_count 48 = .ok (.iload_n 1, 1) := by decide +kernel
theorem dX11_count_49 : decode cX11_count 49 = .ok (.iconst 1, 1) := by decide +kernel
theorem dX11_count_50 : decode cX11_count 50 = .ok (.if_icmp .ne 12, 3) := by decide +kernel
theorem dX11_count_53 : decode cX11_count 53 = .ok (.aload_n 0, 1) := by decide +kernel
theorem dX11_count_54 : decode cX11_count 54 = .ok (.getfield 7, 3) := by decide +kernel
theorem dX11_count_57 : decode cX11_count 57 = .ok (.iconst 0, 1) := by decide +kernel
theorem dX11_count_58 : decode cX11_count 58 = .ok (.iaload, 1) := by decide +kernel
theorem dX11_count_59 : decode cX11_count 59 = .ok (.goto 151, 3) := by decide +kernel
theorem dX11_count_62 : decode cX11_count 62 = .ok (.iload_n 1, 1) := by decide +kernel
theorem dX11_count_63 : decode cX11_count 63 = .ok (.iconst 2, 1) := by decide +kernel
theorem dX11_count_64 : decode cX11_count 64 = .ok (.if_icmp .ne 12, 3) := by decide +kernel
theorem dX11_count_67 : decode cX11_count 67 = .ok (.aload_n 0, 1) := by decide +kernel
theorem dX11_count_68 : decode cX11_count 68 = .ok (.getfield 7, 3) := by decide +kernel
theorem dX11_count_71 : decode cX11_count 71 = .ok (.iconst 2, 1) := by decide +kernel
theorem dX11_count_72 : decode cX11_count 72 = .ok (.iaload, 1) := by decide +kernel
theorem dX11_count_73 : decode cX11_count 73 = .ok (.goto 137, 3) := by decide +kernel
theorem dX11_count_76 : decode cX11_count 76 = .ok (.iload_n 1, 1) := by decide +kernel
theorem dX11_count_77 : decode cX11_count 77 = .ok (.iconst 3, 1) := by decide +kernel
theorem dX11_count_78 : decode cX11_count 78 = .ok (.if_icmp .ne 12, 3) := by decide +kernel
theorem dX11_count_81 : decode cX11_count 81 = .ok (.aload_n 0, 1) := by decide +kernel
theorem dX11_count_82 : decode cX11_count 82 = .ok (.getfield 7, 3) := by decide +kernel
theorem dX11_count_85 : decode cX11_count 85 = .ok (.iconst 4, 1) := by decide +kernel
theorem dX11_count_86 : decode cX11_count 86 = .ok (.iaload, 1) := by decide +kernel
theorem dX11_count_87 : decode cX11_count 87 = .ok (.goto 123, 3) := by decide +kernel
theorem dX11_count_90 : decode cX11_count 90 = .ok (.iload_n 1, 1) := by decide +kernel
theorem dX11_count_91 : decode cX11_count 91 = .ok (.iconst 4, 1) := by decide +kernel
theorem dX11_count_92 : decode cX11_count 92 = .ok (.if_icmp .ne 12, 3) := by decide +kernel
theorem dX11_count_95 : decode cX11_count 95 = .ok (.aload_n 0, 1) := by decide +kernel
theorem dX11_count_96 : decode cX11_count 96 = .ok (.getfield 7, 3) := by decide +kernel
theorem dX11_count_99 : decode cX11_count 99 = .ok (.iconst 5, 1) := by decide +kernel
theorem dX11_count_100 : decode cX11_count 100 = .ok (.iaload, 1) := by decide +kernel
theorem dX11_count_101 : decode cX11_count 101 = .ok (.goto 109, 3) := by decide +kernel
theorem dX11_count_104 : decode cX11_count 104 = .ok (.iload_n 1, 1) := by decide +kernel
theorem dX11_count_105 : decode cX11_count 105 = .ok (.iconst 5, 1) := by decide +kernel
theorem dX11_count_106 : decode cX11_count 106 = .ok (.if_icmp .ne 13, 3) := by decide +kernel
theorem dX11_count_109 : decode cX11_count 109 = .ok (.aload_n 0, 1) := by decide +kernel
theorem dX11_count_110 : decode cX11_count 110 = .ok (.getfield 7, 3) := by decide +kernel
theorem dX11_count_113 : decode cX11_count 113 = .ok (.bipush 6, 2) := by decide +kernel
theorem dX11_count_115 : decode cX11_count 115 = .ok (.iaload, 1) := by decide +kernel
theorem dX11_count_116 : decode cX11_count 116 = .ok (.goto 94, 3) := by decide +kernel
theorem dX11_count_119 : decode cX11_count 119 = .ok (.iload_n 1, 1) := by decide +kernel
theorem dX11_count_120 : decode cX11_count 120 = .ok (.bipush 6, 2) := by decide +kernel
theorem dX11_count_122 : decode cX11_count 122 = .ok (.if_icmp .ne 10, 3) := by decide +kernel
theorem dX11_count_125 : decode cX11_count 125 = .ok (.aload_n 0, 1) := by decide +kernel
theorem dX11_count_126 : decode cX11_count 126 = .ok (.invokevirtual 388, 3) := by decide +kernel
theorem dX11_count_129 : decode cX11_count 129 = .ok (.goto 81, 3) := by decide +kernel
theorem dX11_count_132 : decode cX11_count 132 = .ok (.iload_n 1, 1) := by decide +kernel
theorem dX11_count_133 : decode cX11_count 133 = .ok (.bipush 7, 2) := by decide +kernel
theorem dX11_count_135 : decode cX11_count 135 = .ok (.if_icmp .ne 13, 3) := by decide +kernel
theorem dX11_count_138 : decode cX11_count 138 = .ok (.aload_n 0, 1) := by decide +kernel
theorem dX11_count_139 : decode cX11_count 139 = .ok (.getfield 7, 3) := by decide +kernel
theorem dX11_count_142 : decode cX11_count 142 = .ok (.bipush 7, 2) := by decide +kernel
theorem dX11_count_144 : decode cX11_count 144 = .ok (.iaload, 1) := by decide +kernel
theorem dX11_count_145 : decode cX11_count 145 = .ok (.goto 65, 3) := by decide +kernel
theorem dX11_count_148 : decode cX11_count 148 = .ok (.iload_n 1, 1) := by decide +kernel
theorem dX11_count_149 : decode cX11_count 149 = .ok (.bipush 11, 2) := by decide +kernel
theorem dX11_count_151 : decode cX11_count 151 = .ok (.if_icmp .ne 13, 3) := by decide +kernel
theorem dX11_count_154 : decode cX11_count 154 = .ok (.aload_n 0, 1) := by decide +kernel
theorem dX11_count_155 : decode cX11_count 155 = .ok (.getfield 7, 3) := by decide +kernel
theorem dX11_count_158 : decode cX11_count 158 = .ok (.bipush 9, 2) := by decide +kernel
theorem dX11_count_160 : decode cX11_count 160 = .ok (.iaload, 1) := by decide +kernel
theorem dX11_count_161 : decode cX11_count 161 = .ok (.goto 49, 3) := by decide +kernel
theorem dX11_count_164 : decode cX11_count 164 = .ok (.iload_n 1, 1) := by decide +kernel
theorem dX11_count_165 : decode cX11_count 165 = .ok (.bipush 12, 2) := by decide +kernel
theorem dX11_count_167 : decode cX11_count 167 = .ok (.if_icmp .ne 13, 3) := by decide +kernel
theorem dX11_count_170 : decode cX11_count 170 = .ok (.aload_n 0, 1) := by decide +kernel
theorem dX11_count_171 : decode cX11_count 171 = .ok (.getfield 7, 3) := by decide +kernel
theorem dX11_count_174 : decode cX11_count 174 = .ok (.bipush 8, 2) := by decide +kernel
theorem dX11_count_176 : decode cX11_count 176 = .ok (.iaload, 1) := by decide +kernel
theorem dX11_count_177 : decode cX11_count 177 = .ok (.goto 33, 3) := by decide +kernel
theorem dX11_count_180 : decode cX11_count 180 = .ok (.iload_n 1, 1) := by decide +kernel
theorem dX11_count_181 : decode cX11_count 181 = .ok (.bipush 13, 2) := by decide +kernel
theorem dX11_count_183 : decode cX11_count 183 = .ok (.if_icmp .ne 13, 3) := by decide +kernel
theorem dX11_count_186 : decode cX11_count 186 = .ok (.aload_n 0, 1) := by decide +kernel
theorem dX11_count_187 : decode cX11_count 187 = .ok (.getfield 7, 3) := by decide +kernel
theorem dX11_count_190 : decode cX11_count 190 = .ok (.bipush 10, 2) := by decide +kernel
theorem dX11_count_192 : decode cX11_count 192 = .ok (.iaload, 1) := by decide +kernel
theorem dX11_count_193 : decode cX11_count 193 = .ok (.goto 17, 3) := by decide +kernel
theorem dX11_count_196 : decode cX11_count 196 = .ok (.iload_n 1, 1) := by decide +kernel
theorem dX11_count_197 : decode cX11_count 197 = .ok (.bipush 15, 2) := by decide +kernel
theorem dX11_count_199 : decode cX11_count 199 = .ok (.if_icmp .ne 10, 3) := by decide +kernel
theorem dX11_count_202 : decode cX11_count 202 = .ok (.aload_n 0, 1) := by decide +kernel
theorem dX11_count_203 : decode cX11_count 203 = .ok (.getfield 202, 3) := by decide +kernel
theorem dX11_count_206 : decode cX11_count 206 = .ok (.goto 4, 3) := by decide +kernel
theorem dX11_count_209 : decode cX11_count 209 = .ok (.iconst (-1), 1) := by decide +kernel
theorem dX11_count_210 : decode cX11_count 210 = .ok (.ireturn, 1) := by decide +kernel
