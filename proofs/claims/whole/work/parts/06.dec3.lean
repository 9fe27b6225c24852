theorem dX11_init_0 : decode cX11_init 0 = .ok (.aload_n 0, 1) := by decide +kernel
theorem dX11_init_1 : decode cX11_init 1 = .ok (.invokespecial 1, 3) := by decide +kernel
theorem dX11_init_4 : decode cX11_init 4 = .ok (.aload_n 0, 1) := by decide +kernel
theorem dX11_init_5 : decode cX11_init 5 = .ok (.sipush 1480, 3) := by decide +kernel
theorem dX11_init_8 : decode cX11_init 8 = .ok (.newarray .int, 2) := by decide +kernel
theorem dX11_init_10 : decode cX11_init 10 = .ok (.putfield 7, 3) := by decide +kernel
theorem dX11_init_13 : decode cX11_init 13 = .ok (.aload_n 0, 1) := by decide +kernel
theorem dX11_init_14 : decode cX11_init 14 = .ok (.sipush 1480, 3) := by decide +kernel
theorem dX11_init_17 : decode cX11_init 17 = .ok (.newarray .int, 2) := by decide +kernel
theorem dX11_init_19 : decode cX11_init 19 = .ok (.putfield 13, 3) := by decide +kernel
theorem dX11_init_22 : decode cX11_init 22 = .ok (.aload_n 0, 1) := by decide +kernel
theorem dX11_init_23 : decode cX11_init 23 = .ok (.sipush 1080, 3) := by decide +kernel
theorem dX11_init_26 : decode cX11_init 26 = .ok (.newarray .int, 2) := by decide +kernel
theorem dX11_init_28 : decode cX11_init 28 = .ok (.putfield 16, 3) := by decide +kernel
theorem dX11_init_31 : decode cX11_init 31 = .ok (.aload_n 0, 1) := by decide +kernel
theorem dX11_init_32 : decode cX11_init 32 = .ok (.sipush 12960, 3) := by decide +kernel
theorem dX11_init_35 : decode cX11_init 35 = .ok (.newarray .int, 2) := by decide +kernel
theorem dX11_init_37 : decode cX11_init 37 = .ok (.putfield 19, 3) := by decide +kernel
theorem dX11_init_40 : decode cX11_init 40 = .ok (.aload_n 0, 1) := by decide +kernel
theorem dX11_init_41 : decode cX11_init 41 = .ok (.sipush 400, 3) := by decide +kernel
theorem dX11_init_44 : decode cX11_init 44 = .ok (.newarray .int, 2) := by decide +kernel
theorem dX11_init_46 : decode cX11_init 46 = .ok (.putfield 22, 3) := by decide +kernel
theorem dX11_init_49 : decode cX11_init 49 = .ok (.aload_n 0, 1) := by decide +kernel
theorem dX11_init_50 : decode cX11_init 50 = .ok (.iconst (-1), 1) := by decide +kernel
theorem dX11_init_51 : decode cX11_init 51 = .ok (.putfield 25, 3) := by decide +kernel
theorem dX11_init_54 : decode cX11_init 54 = .ok (.aload_n 0, 1) := by decide +kernel
theorem dX11_init_55 : decode cX11_init 55 = .ok (.bipush 6, 2) := by decide +kernel
theorem dX11_init_57 : decode cX11_init 57 = .ok (.newarray .int, 2) := by decide +kernel
theorem dX11_init_59 : decode cX11_init 59 = .ok (.putfield 29, 3) := by decide +kernel
theorem dX11_init_62 : decode cX11_init 62 = .ok (.aload_n 0, 1) := by decide +kernel
theorem dX11_init_63 : decode cX11_init 63 = .ok (.sipush 168, 3) := by decide +kernel
theorem dX11_init_66 : decode cX11_init 66 = .ok (.newarray .int, 2) := by decide +kernel
theorem dX11_init_68 : decode cX11_init 68 = .ok (.putfield 32, 3) := by decide +kernel
theorem dX11_init_71 : decode cX11_init 71 = .ok (.aload_n 0, 1) := by decide +kernel
theorem dX11_init_72 : decode cX11_init 72 = .ok (.sipush 168, 3) := by decide +kernel
theorem dX11_init_75 : decode cX11_init 75 = .ok (.newarray .boolean, 2) := by decide +kernel
theorem dX11_init_77 : decode cX11_init 77 = .ok (.putfield 35, 3) := by decide +kernel
theorem dX11_init_80 : decode cX11_init 80 = .ok (.aload_n 0, 1) := by decide +kernel
theorem dX11_init_81 : decode cX11_init 81 = .ok (.sipush 168, 3) := by decide +kernel
theorem dX11_init_84 : decode cX11_init 84 = .ok (.newarray .int, 2) := by decide +kernel
theorem dX11_init_86 : decode cX11_init 86 = .ok (.putfield 39, 3) := by decide +kernel
theorem dX11_init_89 : decode cX11_init 89 = .ok (.aload_n 0, 1) := by decide +kernel
theorem dX11_init_90 : decode cX11_init 90 = .ok (.sipush 256, 3) := by decide +kernel
theorem dX11_init_93 : decode cX11_init 93 = .ok (.newarray .int, 2) := by decide +kernel
theorem dX11_init_95 : decode cX11_init 95 = .ok (.putfield 42, 3) := by decide +kernel
theorem dX11_init_98 : decode cX11_init 98 = .ok (.aload_n 0, 1) := by decide +kernel
theorem dX11_init_99 : decode cX11_init 99 = .ok (.bipush 8, 2) := by decide +kernel
theorem dX11_init_101 : decode cX11_init 101 = .ok (.newarray .int, 2) := by decide +kernel
theorem dX11_init_103 : decode cX11_init 103 = .ok (.putfield 45, 3) := by decide +kernel
theorem dX11_init_106 : decode cX11_init 106 = .ok (.aload_n 0, 1) := by decide +kernel
theorem dX11_init_107 : decode cX11_init 107 = .ok (.sipush 168, 3) := by decide +kernel
theorem dX11_init_110 : decode cX11_init 110 = .ok (.newarray .int, 2) := by decide +kernel
theorem dX11_init_112 : decode cX11_init 112 = .ok (.putfield 48, 3) := by decide +kernel
theorem dX11_init_115 : decode cX11_init 115 = .ok (.aload_n 0, 1) := by decide +kernel
theorem dX11_init_116 : decode cX11_init 116 = .ok (.bipush 10, 2) := by decide +kernel
theorem dX11_init_118 : decode cX11_init 118 = .ok (.newarray .int, 2) := by decide +kernel
theorem dX11_init_120 : decode cX11_init 120 = .ok (.putfield 51, 3) := by decide +kernel
theorem dX11_init_123 : decode cX11_init 123 = .ok (.aload_n 0, 1) := by decide +kernel
theorem dX11_init_124 : decode cX11_init 124 = .ok (.bipush 10, 2) := by decide +kernel
theorem dX11_init_126 : decode cX11_init 126 = .ok (.newarray .int, 2) := by decide +kernel
theorem dX11_init_128 : decode cX11_init 128 = .ok (.putfield 54, 3) := by decide +kernel
theorem dX11_init_131 : decode cX11_init 131 = .ok (.aload_n 0, 1) := by decide +kernel
theorem dX11_init_132 : decode cX11_init 132 = .ok (.bipush 60, 2) := by decide +kernel
theorem dX11_init_134 : decode cX11_init 134 = .ok (.newarray .int, 2) := by decide +kernel
theorem dX11_init_136 : decode cX11_init 136 = .ok (.putfield 57, 3) := by decide +kernel
theorem dX11_init_139 : decode cX11_init 139 = .ok (.aload_n 0, 1) := by decide +kernel
theorem dX11_init_140 : decode cX11_init 140 = .ok (.bipush 6, 2) := by decide +kernel
theorem dX11_init_142 : decode cX11_init 142 = .ok (.newarray .int, 2) := by decide +kernel
theorem dX11_init_144 : decode cX11_init 144 = .ok (.putfield 60, 3) := by decide +kernel
theorem dX11_init_147 : decode cX11_init 147 = .ok (.aload_n 0, 1) := by decide +kernel
theorem dX11_init_148 : decode cX11_init 148 = .ok (.bipush 6, 2) := by decide +kernel
theorem dX11_init_150 : decode cX11_init 150 = .ok (.newarray .int, 2) := by decide +kernel
theorem dX11_init_152 : decode cX11_init 152 = .ok (.putfield 63, 3) := by decide +kernel
theorem dX11_init_155 : decode cX11_init 155 = .ok (.aload_n 0, 1) := by decide +kernel
theorem dX11_init_156 : decode cX11_init 156 = .ok (.iconst 3, 1) := by decide +kernel
theorem dX11_init_157 : decode cX11_init 157 = .ok (.newarray .int, 2) := by decide +kernel
theorem dX11_init_159 : decode cX11_init 159 = .ok (.putfield 66, 3) := by decide +kernel
theorem dX11_init_162 : decode cX11_init 162 = .ok (.aload_n 0, 1) := by decide +kernel
theorem dX11_init_163 : decode cX11_init 163 = .ok (.getfield 7, 3) := by decide +kernel
theorem dX11_init_166 : decode cX11_init 166 = .ok (.iconst 2, 1) := by decide +kernel
theorem dX11_init_167 : decode cX11_init 167 = .ok (.iconst (-1), 1) := by decide +kernel
theorem dX11_init_168 : decode cX11_init 168 = .ok (.iastore, 1) := by decide +kernel
theorem dX11_init_169 : decode cX11_init 169 = .ok (.aload_n 0, 1) := by decide +kernel
theorem dX11_init_170 : decode cX11_init 170 = .ok (.getfield 7, 3) := by decide +kernel
theorem dX11_init_173 : decode cX11_init 173 = .ok (.bipush 11, 2) := by decide +kernel
theorem dX11_init_175 : decode cX11_init 175 = .ok (.iconst 1, 1) := by decide +kernel
theorem dX11_init_176 : decode cX11_init 176 = .ok (.iastore, 1) := by decide +kernel
theorem dX11_init_177 : decode cX11_init 177 = .ok (.iconst 0, 1) := by decide +kernel
theorem dX11_init_178 : decode cX11_init 178 = .ok (.istore_n 1, 1) := by decide +kernel
theorem dX11_init_179 : decode cX11_init 179 = .ok (.iload_n 1, 1) := by decide +kernel
theorem dX11_init_180 : decode cX11_init 180 = .ok (.sipush 168, 3) := by decide +kernel
theorem dX11_init_183 : decode cX11_init 183 = .ok (.if_icmp .ge 37, 3) := by decide +kernel
theorem dX11_init_186 : decode cX11_init 186 = .ok (.aload_n 0, 1) := by decide +kernel
theorem dX11_init_187 : decode cX11_init 187 = .ok (.getfield 7, 3) := by decide +kernel
theorem dX11_init_190 : decode cX11_init 190 = .ok (.bipush 88, 2) := by decide +kernel
theorem dX11_init_192 : decode cX11_init 192 = .ok (.iconst 4, 1) := by decide +kernel
theorem dX11_init_193 : decode cX11_init 193 = .ok (.iload_n 1, 1) := by decide +kernel
theorem dX11_init_194 : decode cX11_init 194 = .ok (.imul, 1) := by decide +kernel
theorem dX11_init_195 : decode cX11_init 195 = .ok (.iadd, 1) := by decide +kernel
theorem dX11_init_196 : decode cX11_init 196 = .ok (.iconst 0, 1) := by decide +kernel
theorem dX11_init_197 : decode cX11_init 197 = .ok (.iadd, 1) := by decide +kernel
theorem dX11_init_198 : decode cX11_init 198 = .ok (.iconst (-1), 1) := by decide +kernel
theorem dX11_init_199 : decode cX11_init 199 = .ok (.iastore, 1) := by decide +kernel
theorem dX11_init_200 : decode cX11_init 200 = .ok (.aload_n 0, 1) := by decide +kernel
theorem dX11_init_201 : decode cX11_init 201 = .ok (.getfield 7, 3) := by decide +kernel
theorem dX11_init_204 : decode cX11_init 204 = .ok (.bipush 88, 2) := by decide +kernel
theorem dX11_init_206 : decode cX11_init 206 = .ok (.iconst 4, 1) := by decide +kernel
theorem dX11_init_207 : decode cX11_init 207 = .ok (.iload_n 1, 1) := by decide +kernel
theorem dX11_init_208 : decode cX11_init 208 = .ok (.imul, 1) := by decide +kernel
theorem dX11_init_209 : decode cX11_init 209 = .ok (.iadd, 1) := by decide +kernel
theorem dX11_init_210 : decode cX11_init 210 = .ok (.iconst 1, 1) := by decide +kernel
theorem dX11_init_211 : decode cX11_init 211 = .ok (.iadd, 1) := by decide +kernel
theorem dX11_init_212 : decode cX11_init 212 = .ok (.iconst (-1), 1) := by decide +kernel
theorem dX11_init_213 : decode cX11_init 213 = .ok (.iastore, 1) := by decide +kernel
theorem dX11_init_214 : decode cX11_init 214 = .ok (.iinc 1 1, 3) := by decide +kernel
theorem dX11_init_217 : decode cX11_init 217 = .ok (.goto (-38), 3) := by decide +kernel
theorem dX11_init_220 : decode cX11_init 220 = .ok (.return_, 1) := by decide +kernel
theorem dX11_thrown_0 : decode cX11_thrown 0 = .ok (.aload_n 0, 1) := by decide +kernel
theorem dX11_thrown_1 : decode cX11_thrown 1 = .ok (.getfield 69, 3) := by decide +kernel
theorem dX11_thrown_4 : decode cX11_thrown 4 = .ok (.ireturn, 1) := by decide +kernel
theorem dX11_isIn_0 : decode cX11_isIn 0 = .ok (.iload_n 0, 1) := by decide +kernel
theorem dX11_isIn_1 : decode cX11_isIn 1 = .ok (.iload_n 1, 1) := by decide +kernel
theorem dX11_isIn_2 : decode cX11_isIn 2 = .ok (.if_icmp .lt 12, 3) := by decide +kernel
theorem dX11_isIn_5 : decode cX11_isIn 5 = .ok (.iload_n 0, 1) := by decide +kernel
theorem dX11_isIn_6 : decode cX11_isIn 6 = .ok (.iload_n 2, 1) := by decide +kernel
theorem dX11_isIn_7 : decode cX11_isIn 7 = .ok (.if_icmp .gt 7, 3) := by decide +kernel
theorem dX11_isIn_10 : decode cX11_isIn 10 = .ok (.iconst 1, 1) := by decide +kernel
theorem dX11_isIn_11 : decode cX11_isIn 11 = .ok (.goto 4, 3) := by decide +kernel
theorem dX11_isIn_14 : decode cX11_isIn 14 = .ok (.iconst 0, 1) := by decide +kernel
theorem dX11_isIn_15 : decode cX11_isIn 15 = .ok (.ireturn, 1) := by decide +kernel
theorem dX11_lesser_0 : decode cX11_lesser 0 = .ok (.iload_n 0, 1) := by decide +kernel
theorem dX11_lesser_1 : decode cX11_lesser 1 = .ok (.iload_n 1, 1) := by decide +kernel
theorem dX11_lesser_2 : decode cX11_lesser 2 = .ok (.if_icmp .ge 7, 3) := by decide +kernel
theorem dX11_lesser_5 : decode cX11_lesser 5 = .ok (.iload_n 0, 1) := by decide +kernel
theorem dX11_lesser_6 : decode cX11_lesser 6 = .ok (.goto 4, 3) := by decide +kernel
theorem dX11_lesser_9 : decode cX11_lesser 9 = .ok (.iload_n 1, 1) := by decide +kernel
theorem dX11_lesser_10 : decode cX11_lesser 10 = .ok (.ireturn, 1) := by decide +kernel
theorem dX11_isOf_0 : decode cX11_isOf 0 = .ok (.iload_n 0, 1) := by decide +kernel
theorem dX11_isOf_1 : decode cX11_isOf 1 = .ok (.iload_n 1, 1) := by decide +kernel
theorem dX11_isOf_2 : decode cX11_isOf 2 = .ok (.ishr, 1) := by decide +kernel
theorem dX11_isOf_3 : decode cX11_isOf 3 = .ok (.iconst 1, 1) := by decide +kernel
theorem dX11_isOf_4 : decode cX11_isOf 4 = .ok (.iand, 1) := by decide +kernel
theorem dX11_isOf_5 : decode cX11_isOf 5 = .ok (.iconst 1, 1) := by decide +kernel
theorem dX11_isOf_6 : decode cX11_isOf 6 = .ok (.if_icmp .ne 7, 3) := by decide +kernel
theorem dX11_isOf_9 : decode cX11_isOf 9 = .ok (.iconst 1, 1) := by decide +kernel
theorem dX11_isOf_10 : decode cX11_isOf 10 = .ok (.goto 4, 3) := by decide +kernel
theorem dX11_isOf_13 : decode cX11_isOf 13 = .ok (.iconst 0, 1) := by decide +kernel
theorem dX11_isOf_14 : decode cX11_isOf 14 = .ok (.ireturn, 1) := by decide +kernel
theorem dX11_of_0 : decode cX11_of 0 = .ok (.aload_n 0, 1) := by decide +kernel
theorem dX11_of_1 : decode cX11_of 1 = .ok (.getfield 7, 3) := by decide +kernel
theorem dX11_of_4 : decode cX11_of 4 = .ok (.bipush 16, 2) := by decide +kernel
theorem dX11_of_6 : decode cX11_of 6 = .ok (.iconst 4, 1) := by decide +kernel
theorem dX11_of_7 : decode cX11_of 7 = .ok (.iload_n 1, 1) := by decide +kernel
theorem dX11_of_8 : decode cX11_of 8 = .ok (.imul, 1) := by decide +kernel
theorem dX11_of_9 : decode cX11_of 9 = .ok (.iadd, 1) := by decide +kernel
theorem dX11_of_10 : decode cX11_of 10 = .ok (.iload_n 2, 1) := by decide +kernel
theorem dX11_of_11 : decode cX11_of 11 = .ok (.iadd, 1) := by decide +kernel
theorem dX11_of_12 : decode cX11_of 12 = .ok (.iaload, 1) := by decide +kernel
theorem dX11_of_13 : decode cX11_of 13 = .ok (.ireturn, 1) := by decide +kernel
theorem dX11_ofRoom_0 : decode cX11_ofRoom 0 = .ok (.aload_n 0, 1) := by decide +kernel
theorem dX11_ofRoom_1 : decode cX11_ofRoom 1 = .ok (.getfield 7, 3) := by decide +kernel
theorem dX11_ofRoom_4 : decode cX11_ofRoom 4 = .ok (.bipush 88, 2) := by decide +kernel
theorem dX11_ofRoom_6 : decode cX11_ofRoom 6 = .ok (.iconst 4, 1) := by decide +kernel
theorem dX11_ofRoom_7 : decode cX11_ofRoom 7 = .ok (.iload_n 1, 1) := by decide +kernel
theorem dX11_ofRoom_8 : decode cX11_ofRoom 8 = .ok (.imul, 1) := by decide +kernel
theorem dX11_ofRoom_9 : decode cX11_ofRoom 9 = .ok (.iadd, 1) := by decide +kernel
theorem dX11_ofRoom_10 : decode cX11_ofRoom 10 = .ok (.iload_n 2, 1) := by decide +kernel
theorem dX11_ofRoom_11 : decode cX11_ofRoom 11 = .ok (.iadd, 1) := by decide +kernel
theorem dX11_ofRoom_12 : decode cX11_ofRoom 12 = .ok (.iaload, 1) := by decide +kernel
theorem dX11_ofRoom_13 : decode cX11_ofRoom 13 = .ok (.ireturn, 1) := by decide +kernel
theorem dX11_isTenant_0 : decode cX11_isTenant 0 = .ok (.iload_n 1, 1) := by decide +kernel
theorem dX11_isTenant_1 : decode cX11_isTenant 1 = .ok (.iconst 0, 1) := by decide +kernel
theorem dX11_isTenant_2 : decode cX11_isTenant 2 = .ok (.aload_n 0, 1) := by decide +kernel
theorem dX11_isTenant_3 : decode cX11_isTenant 3 = .ok (.getfield 7, 3) := by decide +kernel
theorem dX11_isTenant_6 : decode cX11_isTenant 6 = .ok (.iconst 1, 1) := by decide +kernel
theorem dX11_isTenant_7 : decode cX11_isTenant 7 = .ok (.iaload, 1) := by decide +kernel
theorem dX11_isTenant_8 : decode cX11_isTenant 8 = .ok (.iconst 1, 1) := by decide +kernel
theorem dX11_isTenant_9 : decode cX11_isTenant 9 = .ok (.isub, 1) := by decide +kernel
theorem dX11_isTenant_10 : decode cX11_isTenant 10 = .ok (.invokestatic 72, 3) := by decide +kernel
theorem dX11_isTenant_13 : decode cX11_isTenant 13 = .ok (.ireturn, 1) := by decide +kernel
theorem dX11_isRoom_0 : decode cX11_isRoom 0 = .ok (.iload_n 0, 1) := by decide +kernel
theorem dX11_isRoom_1 : decode cX11_isRoom 1 = .ok (.iconst 0, 1) := by decide +kernel
theorem dX11_isRoom_2 : decode cX11_isRoom 2 = .ok (.sipush 167, 3) := by decide +kernel
theorem dX11_isRoom_5 : decode cX11_isRoom 5 = .ok (.invokestatic 72, 3) := by decide +kernel
theorem dX11_isRoom_8 : decode cX11_isRoom 8 = .ok (.ireturn, 1) := by decide +kernel
theorem dX11_isChild_0 : decode cX11_isChild 0 = .ok (.aload_n 0, 1) := by decide +kernel
theorem dX11_isChild_1 : decode cX11_isChild 1 = .ok (.iload_n 1, 1) := by decide +kernel
theorem dX11_isChild_2 : decode cX11_isChild 2 = .ok (.iconst 3, 1) := by decide +kernel
theorem dX11_isChild_3 : decode cX11_isChild 3 = .ok (.invokevirtual 76, 3) := by decide +kernel
theorem dX11_isChild_6 : decode cX11_isChild 6 = .ok (.iconst (-1), 1) := by decide +kernel
theorem dX11_isChild_7 : decode cX11_isChild 7 = .ok (.if_icmp .eq 7, 3) := by decide +kernel
theorem dX11_isChild_10 : decode cX11_isChild 10 = .ok (.iconst 1, 1) := by decide +kernel
theorem dX11_isChild_11 : decode cX11_isChild 11 = .ok (.goto 4, 3) := by decide +kernel
theorem dX11_isChild_14 : decode cX11_isChild 14 = .ok (.iconst 0, 1) := by decide +kernel
theorem dX11_isChild_15 : decode cX11_isChild 15 = .ok (.ireturn, 1) := by decide +kernel
theorem dX11_adult_0 : decode cX11_adult 0 = .ok (.aload_n 0, 1) := by decide +kernel
theorem dX11_adult_1 : decode cX11_adult 1 = .ok (.iload_n 1, 1) := by decide +kernel
theorem dX11_adult_2 : decode cX11_adult 2 = .ok (.invokevirtual 80, 3) := by decide +kernel
theorem dX11_adult_5 : decode cX11_adult 5 = .ok (.ifCond .eq 12, 3) := by decide +kernel
theorem dX11_adult_8 : decode cX11_adult 8 = .ok (.aload_n 0, 1) := by decide +kernel
theorem dX11_adult_9 : decode cX11_adult 9 = .ok (.iload_n 1, 1) := by decide +kernel
theorem dX11_adult_10 : decode cX11_adult 10 = .ok (.iconst 3, 1) := by decide +kernel
theorem dX11_adult_11 : decode cX11_adult 11 = .ok (.invokevirtual 76, 3) := by decide +kernel
theorem dX11_adult_14 : decode cX11_adult 14 = .ok (.goto 4, 3) := by decide +kernel
theorem dX11_adult_17 : decode cX11_adult 17 = .ok (.iload_n 1, 1) := by decide +kernel
theorem dX11_adult_18 : decode cX11_adult 18 = .ok (.ireturn, 1) := by decide +kernel
theorem dX11_livesIn_0 : decode cX11_livesIn 0 = .ok (.aload_n 0, 1) := by decide +kernel
theorem dX11_livesIn_1 : decode cX11_livesIn 1 = .ok (.iload_n 1, 1) := by decide +kernel
theorem dX11_livesIn_2 : decode cX11_livesIn 2 = .ok (.sipush 168, 3) := by decide +kernel
theorem dX11_livesIn_5 : decode cX11_livesIn 5 = .ok (.iadd, 1) := by decide +kernel
theorem dX11_livesIn_6 : decode cX11_livesIn 6 = .ok (.sipush 168, 3) := by decide +kernel
theorem dX11_livesIn_9 : decode cX11_livesIn 9 = .ok (.irem, 1) := by decide +kernel
theorem dX11_livesIn_10 : decode cX11_livesIn 10 = .ok (.iconst 1, 1) := by decide +kernel
theorem dX11_livesIn_11 : decode cX11_livesIn 11 = .ok (.invokevirtual 84, 3) := by decide +kernel
theorem dX11_livesIn_14 : decode cX11_livesIn 14 = .ok (.ireturn, 1) := by decide +kernel
theorem dX11_isSublet_0 : decode cX11_isSublet 0 = .ok (.aload_n 0, 1) := by decide +kernel
theorem dX11_isSublet_1 : decode cX11_isSublet 1 = .ok (.iload_n 1, 1) := by decide +kernel
theorem dX11_isSublet_2 : decode cX11_isSublet 2 = .ok (.iconst 1, 1) := by decide +kernel
theorem dX11_isSublet_3 : decode cX11_isSublet 3 = .ok (.invokevirtual 84, 3) := by decide +kernel
theorem dX11_isSublet_6 : decode cX11_isSublet 6 = .ok (.aload_n 0, 1) := by decide +kernel
theorem dX11_isSublet_7 : decode cX11_isSublet 7 = .ok (.iload_n 1, 1) := by decide +kernel
theorem dX11_isSublet_8 : decode cX11_isSublet 8 = .ok (.iconst 0, 1) := by decide +kernel
theorem dX11_isSublet_9 : decode cX11_isSublet 9 = .ok (.invokevirtual 84, 3) := by decide +kernel
theorem dX11_isSublet_12 : decode cX11_isSublet 12 = .ok (.if_icmp .eq 7, 3) := by decide +kernel
theorem dX11_isSublet_15 : decode cX11_isSublet 15 = .ok (.iconst 1, 1) := by decide +kernel
theorem dX11_isSublet_16 : decode cX11_isSublet 16 = .ok (.goto 4, 3) := by decide +kernel
theorem dX11_isSublet_19 : decode cX11_isSublet 19 = .ok (.iconst 0, 1) := by decide +kernel
theorem dX11_isSublet_20 : decode cX11_isSublet 20 = .ok (.ireturn, 1) := by decide +kernel
theorem dX11_ownsOf_0 : decode cX11_ownsOf 0 = .ok (.iconst 0, 1) := by decide +kernel
theorem dX11_ownsOf_1 : decode cX11_ownsOf 1 = .ok (.istore_n 2, 1) := by decide +kernel
theorem dX11_ownsOf_2 : decode cX11_ownsOf 2 = .ok (.iconst 0, 1) := by decide +kernel
theorem dX11_ownsOf_3 : decode cX11_ownsOf 3 = .ok (.istore_n 3, 1) := by decide +kernel
theorem dX11_ownsOf_4 : decode cX11_ownsOf 4 = .ok (.iload_n 3, 1) := by decide +kernel
theorem dX11_ownsOf_5 : decode cX11_ownsOf 5 = .ok (.sipush 168, 3) := by decide +kernel
theorem dX11_ownsOf_8 : decode cX11_ownsOf 8 = .ok (.if_icmp .ge 27, 3) := by decide +kernel
theorem dX11_ownsOf_11 : decode cX11_ownsOf 11 = .ok (.iload_n 2, 1) := by decide +kernel
theorem dX11_ownsOf_12 : decode cX11_ownsOf 12 = .ok (.aload_n 0, 1) := by decide +kernel
theorem dX11_ownsOf_13 : decode cX11_ownsOf 13 = .ok (.iload_n 3, 1) := by decide +kernel
theorem dX11_ownsOf_14 : decode cX11_ownsOf 14 = .ok (.iconst 0, 1) := by decide +kernel
theorem dX11_ownsOf_15 : decode cX11_ownsOf 15 = .ok (.invokevirtual 84, 3) := by decide +kernel
theorem dX11_ownsOf_18 : decode cX11_ownsOf 18 = .ok (.iload_n 1, 1) := by decide +kernel
theorem dX11_ownsOf_19 : decode cX11_ownsOf 19 = .ok (.if_icmp .ne 7, 3) := by decide +kernel
theorem dX11_ownsOf_22 : decode cX11_ownsOf 22 = .ok (.iconst 1, 1) := by decide +kernel
theorem dX11_ownsOf_23 : decode cX11_ownsOf 23 = .ok (.goto 4, 3) := by decide +kernel
theorem dX11_ownsOf_26 : decode cX11_ownsOf 26 = .ok (.iconst 0, 1) := by decide +kernel
theorem dX11_ownsOf_27 : decode cX11_ownsOf 27 = .ok (.iadd, 1) := by decide +kernel
theorem dX11_ownsOf_28 : decode cX11_ownsOf 28 = .ok (.istore_n 2, 1) := by decide +kernel
theorem dX11_ownsOf_29 : decode cX11_ownsOf 29 = .ok (.iinc 3 1, 3) := by decide +kernel
theorem dX11_ownsOf_32 : decode cX11_ownsOf 32 = .ok (.goto (-28), 3) := by decide +kernel
theorem dX11_ownsOf_35 : decode cX11_ownsOf 35 = .ok (.iload_n 2, 1) := by decide +kernel
theorem dX11_ownsOf_36 : decode cX11_ownsOf 36 = .ok (.ireturn, 1) := by decide +kernel
theorem dX11_livesOf_0 : decode cX11_livesOf 0 = .ok (.iconst 0, 1) := by decide +kernel
theorem dX11_livesOf_1 : decode cX11_livesOf 1 = .ok (.istore_n 2, 1) := by decide +kernel
theorem dX11_livesOf_2 : decode cX11_livesOf 2 = .ok (.iconst 0, 1) := by decide +kernel
theorem dX11_livesOf_3 : decode cX11_livesOf 3 = .ok (.istore_n 3, 1) := by decide +kernel
theorem dX11_livesOf_4 : decode cX11_livesOf 4 = .ok (.iload_n 3, 1) := by decide +kernel
theorem dX11_livesOf_5 : decode cX11_livesOf 5 = .ok (.sipush 168, 3) := by decide +kernel
theorem dX11_livesOf_8 : decode cX11_livesOf 8 = .ok (.if_icmp .ge 31, 3) := by decide +kernel
theorem dX11_livesOf_11 : decode cX11_livesOf 11 = .ok (.iload_n 2, 1) := by decide +kernel
theorem dX11_livesOf_12 : decode cX11_livesOf 12 = .ok (.aload_n 0, 1) := by decide +kernel
theorem dX11_livesOf_13 : decode cX11_livesOf 13 = .ok (.iload_n 3, 1) := by decide +kernel
theorem dX11_livesOf_14 : decode cX11_livesOf 14 = .ok (.iconst 1, 1) := by decide +kernel
theorem dX11_livesOf_15 : decode cX11_livesOf 15 = .ok (.invokevirtual 84, 3) := by decide +kernel
theorem dX11_livesOf_18 : decode cX11_livesOf 18 = .ok (.aload_n 0, 1) := by decide +kernel
theorem dX11_livesOf_19 : decode cX11_livesOf 19 = .ok (.iload_n 1, 1) := by decide +kernel
theorem dX11_livesOf_20 : decode cX11_livesOf 20 = .ok (.invokevirtual 87, 3) := by decide +kernel
theorem dX11_livesOf_23 : decode cX11_livesOf 23 = .ok (.if_icmp .ne 7, 3) := by decide +kernel
theorem dX11_livesOf_26 : decode cX11_livesOf 26 = .ok (.iconst 1, 1) := by decide +kernel
theorem dX11_livesOf_27 : decode cX11_livesOf 27 = .ok (.goto 4, 3) := by decide +kernel
theorem dX11_livesOf_30 : decode cX11_livesOf 30 = .ok (.iconst 0, 1) := by decide +kernel
theorem dX11_livesOf_31 : decode cX11_livesOf 31 = .ok (.iadd, 1) := by decide +kernel
theorem dX11_livesOf_32 : decode cX11_livesOf 32 = .ok (.istore_n 2, 1) := by decide +kernel
theorem dX11_livesOf_33 : decode cX11_livesOf 33 = .ok (.iinc 3 1, 3) := by decide +kernel
theorem dX11_livesOf_36 : decode cX11_livesOf 36 = .ok (.goto (-32), 3) := by decide +kernel
theorem dX11_livesOf_39 : decode cX11_livesOf 39 = .ok (.iload_n 2, 1) := by decide +kernel
theorem dX11_livesOf_40 : decode cX11_livesOf 40 = .ok (.ireturn, 1) := by decide +kernel
theorem dX11_has_0 : decode cX11_has 0 = .ok (.aload_n 0, 1) := by decide +kernel
theorem dX11_has_1 : decode cX11_has 1 = .ok (.getfield 7, 3) := by decide +kernel
theorem dX11_has_4 : decode cX11_has 4 = .ok (.bipush 88, 2) := by decide +kernel
theorem dX11_has_6 : decode cX11_has 6 = .ok (.iconst 4, 1) := by decide +kernel
theorem dX11_has_7 : decode cX11_has 7 = .ok (.iload_n 1, 1) := by decide +kernel
theorem dX11_has_8 : decode cX11_has 8 = .ok (.imul, 1) := by decide +kernel
theorem dX11_has_9 : decode cX11_has 9 = .ok (.iadd, 1) := by decide +kernel
theorem dX11_has_10 : decode cX11_has 10 = .ok (.iconst 0, 1) := by decide +kernel
theorem dX11_has_11 : decode cX11_has 11 = .ok (.iadd, 1) := by decide +kernel
theorem dX11_has_12 : decode cX11_has 12 = .ok (.iload_n 2, 1) := by decide +kernel
theorem dX11_has_13 : decode cX11_has 13 = .ok (.iastore, 1) := by decide +kernel
theorem dX11_has_14 : decode cX11_has 14 = .ok (.aload_n 0, 1) := by decide +kernel
theorem dX11_has_15 : decode cX11_has 15 = .ok (.getfield 7, 3) := by decide +kernel
theorem dX11_has_18 : decode cX11_has 18 = .ok (.bipush 88, 2) := by decide +kernel
theorem dX11_has_20 : decode cX11_has 20 = .ok (.iconst 4, 1) := by decide +kernel
theorem dX11_has_21 : decode cX11_has 21 = .ok (.iload_n 1, 1) := by decide +kernel
theorem dX11_has_22 : decode cX11_has 22 = .ok (.imul, 1) := by decide +kernel
theorem dX11_has_23 : decode cX11_has 23 = .ok (.iadd, 1) := by decide +kernel
theorem dX11_has_24 : decode cX11_has 24 = .ok (.iconst 1, 1) := by decide +kernel
theorem dX11_has_25 : decode cX11_has 25 = .ok (.iadd, 1) := by decide +kernel
theorem dX11_has_26 : decode cX11_has 26 = .ok (.iload_n 3, 1) := by decide +kernel
theorem dX11_has_27 : decode cX11_has 27 = .ok (.iastore, 1) := by decide +kernel
theorem dX11_has_28 : decode cX11_has 28 = .ok (.return_, 1) := by decide +kernel
theorem dX11_feed_0 : decode cX11_feed 0 = .ok (.aload_n 0, 1) := by decide +kernel
theorem dX11_feed_1 : decode cX11_feed 1 = .ok (.iconst 0, 1) := by decide +kernel
theorem dX11_feed_2 : decode cX11_feed 2 = .ok (.putfield 69, 3) := by decide +kernel
theorem dX11_feed_5 : decode cX11_feed 5 = .ok (.aload_n 0, 1) := by decide +kernel
theorem dX11_feed_6 : decode cX11_feed 6 = .ok (.getfield 91, 3) := by decide +kernel
theorem dX11_feed_9 : decode cX11_feed 9 = .ok (.bipush 20, 2) := by decide +kernel
theorem dX11_feed_11 : decode cX11_feed 11 = .ok (.iadd, 1) := by decide +kernel
theorem dX11_feed_12 : decode cX11_feed 12 = .ok (.sipush 400, 3) := by decide +kernel
theorem dX11_feed_15 : decode cX11_feed 15 = .ok (.if_icmp .le 5, 3) := by decide +kernel
theorem dX11_feed_18 : decode cX11_feed 18 = .ok (.iconst (-1), 1) := by decide +kernel
theorem dX11_feed_19 : decode cX11_feed 19 = .ok (.ireturn, 1) := by decide +kernel
theorem dX11_feed_20 : decode cX11_feed 20 = .ok (.iconst 0, 1) := by decide +kernel
theorem dX11_feed_21 : decode cX11_feed 21 = .ok (.istore 6, 2) := by decide +kernel
theorem dX11_feed_23 : decode cX11_feed 23 = .ok (.iload 6, 2) := by decide +kernel
theorem dX11_feed_25 : decode cX11_feed 25 = .ok (.bipush 20, 2) := by decide +kernel
theorem dX11_feed_27 : decode cX11_feed 27 = .ok (.if_icmp .ge 93, 3) := by decide +kernel
theorem dX11_feed_30 : decode cX11_feed 30 = .ok (.iload 6, 2) := by decide +kernel
theorem dX11_feed_32 : decode cX11_feed 32 = .ok (.iconst 4, 1) := by decide +kernel
theorem dX11_feed_33 : decode cX11_feed 33 = .ok (.if_icmp .ge 7, 3) := by decide +kernel
theorem dX11_feed_36 : decode cX11_feed 36 = .ok (.iload_n 1, 1) := by decide +kernel
theorem dX11_feed_37 : decode cX11_feed 37 = .ok (.goto 39, 3) := by decide +kernel
theorem dX11_feed_40 : decode cX11_feed 40 = .ok (.iload 6, 2) := by decide +kernel
theorem dX11_feed_42 : decode cX11_feed 42 = .ok (.bipush 8, 2) := by decide +kernel
theorem dX11_feed_44 : decode cX11_feed 44 = .ok (.if_icmp .ge 7, 3) := by decide +kernel
theorem dX11_feed_47 : decode cX11_feed 47 = .ok (.iload_n 2, 1) := by decide +kernel
theorem dX11_feed_48 : decode cX11_feed 48 = .ok (.goto 28, 3) := by decide +kernel
theorem dX11_feed_51 : decode cX11_feed 51 = .ok (.iload 6, 2) := by decide +kernel
theorem dX11_feed_53 : decode cX11_feed 53 = .ok (.bipush 12, 2) := by decide +kernel
theorem dX11_feed_55 : decode cX11_feed 55 = .ok (.if_icmp .ge 7, 3) := by decide +kernel
theorem dX11_feed_58 : decode cX11_feed 58 = .ok (.iload_n 3, 1) := by decide +kernel
theorem dX11_feed_59 : decode cX11_feed 59 = .ok (.goto 17, 3) := by decide +kernel
theorem dX11_feed_62 : decode cX11_feed 62 = .ok (.iload 6, 2) := by decide +kernel
theorem dX11_feed_64 : decode cX11_feed 64 = .ok (.bipush 16, 2) := by decide +kernel
theorem dX11_feed_66 : decode cX11_feed 66 = .ok (.if_icmp .ge 8, 3) := by decide +kernel
theorem dX11_feed_69 : decode cX11_feed 69 = .ok (.iload 4, 2) := by decide +kernel
theorem dX11_feed_71 : decode cX11_feed 71 = .ok (.goto 5, 3) := by decide +kernel
theorem dX11_feed_74 : decode cX11_feed 74 = .ok (.iload 5, 2) := by decide +kernel
theorem dX11_feed_76 : decode cX11_feed 76 = .ok (.istore 7, 2) := by decide +kernel
theorem dX11_feed_78 : decode cX11_feed 78 = .ok (.aload_n 0, 1) := by decide +kernel
theorem dX11_feed_79 : decode cX11_feed 79 = .ok (.getfield 22, 3) := by decide +kernel
theorem dX11_feed_82 : decode cX11_feed 82 = .ok (.aload_n 0, 1) := by decide +kernel
theorem dX11_feed_83 : decode cX11_feed 83 = .ok (.getfield 91, 3) := by decide +kernel
theorem dX11_feed_86 : decode cX11_feed 86 = .ok (.iload 7, 2) := by decide +kernel
theorem dX11_feed_88 : decode cX11_feed 88 = .ok (.bipush 24, 2) := by decide +kernel
theorem dX11_feed_90 : decode cX11_feed 90 = .ok (.bipush 8, 2) := by decide +kernel
theorem dX11_feed_92 : decode cX11_feed 92 = .ok (.iload 6, 2) := by decide +kernel
theorem dX11_feed_94 : decode cX11_feed 94 = .ok (.iconst 4, 1) := by decide +kernel
theorem dX11_feed_95 : decode cX11_feed 95 = .ok (.irem, 1) := by decide +kernel
theorem dX11_feed_96 : decode cX11_feed 96 = .ok (.imul, 1) := by decide +kernel
theorem dX11_feed_97 : decode cX11_feed 97 = .ok (.isub, 1) := by decide +kernel
theorem dX11_feed_98 : decode cX11_feed 98 = .ok (.iushr, 1) := by decide +kernel
theorem dX11_feed_99 : decode cX11_feed 99 = .ok (.sipush 255, 3) := by decide +kernel
theorem dX11_feed_102 : decode cX11_feed 102 = .ok (.iand, 1) := by decide +kernel
theorem dX11_feed_103 : decode cX11_feed 103 = .ok (.iastore, 1) := by decide +kernel
theorem dX11_feed_104 : decode cX11_feed 104 = .ok (.aload_n 0, 1) := by decide +kernel
theorem dX11_feed_105 : decode cX11_feed 105 = .ok (.dup, 1) := by decide +kernel
theorem dX11_feed_106 : decode cX11_feed 106 = .ok (.getfield 91, 3) := by decide +kernel
theorem dX11_feed_109 : decode cX11_feed 109 = .ok (.iconst 1, 1) := by decide +kernel
theorem dX11_feed_110 : decode cX11_feed 110 = .ok (.iadd, 1) := by decide +kernel
theorem dX11_feed_111 : decode cX11_feed 111 = .ok (.putfield 91, 3) := by decide +kernel
theorem dX11_feed_114 : decode cX11_feed 114 = .ok (.iinc 6 1, 3) := by decide +kernel
theorem dX11_feed_117 : decode cX11_feed 117 = .ok (.goto (-94), 3) := by decide +kernel
theorem dX11_feed_120 : decode cX11_feed 120 = .ok (.aload_n 0, 1) := by decide +kernel
theorem dX11_feed_121 : decode cX11_feed 121 = .ok (.getfield 91, 3) := by decide +kernel
theorem dX11_feed_124 : decode cX11_feed 124 = .ok (.ireturn, 1) := by decide +kernel
theorem dX11_end_0 : decode cX11_end 0 = .ok (.aload_n 0, 1) := by decide +kernel
theorem dX11_end_1 : decode cX11_end 1 = .ok (.iconst 0, 1) := by decide +kernel
theorem dX11_end_2 : decode cX11_end 2 = .ok (.putfield 69, 3) := by decide +kernel
theorem dX11_end_5 : decode cX11_end 5 = .ok (.iload_n 1, 1) := by decide +kernel
theorem dX11_end_6 : decode cX11_end 6 = .ok (.iconst 0, 1) := by decide +kernel
theorem dX11_end_7 : decode cX11_end 7 = .ok (.aload_n 0, 1) := by decide +kernel
theorem dX11_end_8 : decode cX11_end 8 = .ok (.getfield 91, 3) := by decide +kernel
theorem dX11_end_11 : decode cX11_end 11 = .ok (.invokestatic 72, 3) := by decide +kernel
theorem dX11_end_14 : decode cX11_end 14 = .ok (.ifCond .ne 5, 3) := by decide +kernel
theorem dX11_end_17 : decode cX11_end 17 = .ok (.iconst 0, 1) := by decide +kernel
theorem dX11_end_18 : decode cX11_end 18 = .ok (.ireturn, 1) := by decide +kernel
theorem dX11_end_19 : decode cX11_end 19 = .ok (.aload_n 0, 1) := by decide +kernel
theorem dX11_end_20 : decode cX11_end 20 = .ok (.iload_n 1, 1) := by decide +kernel
theorem dX11_end_21 : decode cX11_end 21 = .ok (.putfield 91, 3) := by decide +kernel
theorem dX11_end_24 : decode cX11_end 24 = .ok (.iconst 1, 1) := by decide +kernel
theorem dX11_end_25 : decode cX11_end 25 = .ok (.ireturn, 1) := by decide +kernel
theorem dX11_letter_0 : decode cX11_letter 0 = .ok (.aload_n 0, 1) := by decide +kernel
theorem dX11_letter_1 : decode cX11_letter 1 = .ok (.getfield 94, 3) := by decide +kernel
theorem dX11_letter_4 : decode cX11_letter 4 = .ok (.iconst (-1), 1) := by decide +kernel
theorem dX11_letter_5 : decode cX11_letter 5 = .ok (.if_icmp .ne 12, 3) := by decide +kernel
theorem dX11_letter_8 : decode cX11_letter 8 = .ok (.aload_n 0, 1) := by decide +kernel
theorem dX11_letter_9 : decode cX11_letter 9 = .ok (.getfield 22, 3) := by decide +kernel
theorem dX11_letter_12 : decode cX11_letter 12 = .ok (.iload_n 1, 1) := by decide +kernel
theorem dX11_letter_13 : decode cX11_letter 13 = .ok (.iaload, 1) := by decide +kernel
theorem dX11_letter_14 : decode cX11_letter 14 = .ok (.goto 14, 3) := by decide +kernel
theorem dX11_letter_17 : decode cX11_letter 17 = .ok (.aload_n 0, 1) := by decide +kernel
theorem dX11_letter_18 : decode cX11_letter 18 = .ok (.getfield 7, 3) := by decide +kernel
theorem dX11_letter_21 : decode cX11_letter 21 = .ok (.aload_n 0, 1) := by decide +kernel
theorem dX11_letter_22 : decode cX11_letter 22 = .ok (.getfield 94, 3) := by decide +kernel
theorem dX11_letter_25 : decode cX11_letter 25 = .ok (.iload_n 1, 1) := by decide +kernel
theorem dX11_letter_26 : decode cX11_letter 26 = .ok (.iadd, 1) := by decide +kernel
theorem dX11_letter_27 : decode cX11_letter 27 = .ok (.iaload, 1) := by decide +kernel
theorem dX11_letter_28 : decode cX11_letter 28 = .ok (.ireturn, 1) := by decide +kernel
theorem dX11_skip_0 : decode cX11_skip 0 = .ok (.aload_n 0, 1) := by decide +kernel
theorem dX11_skip_1 : decode cX11_skip 1 = .ok (.getfield 97, 3) := by decide +kernel
theorem dX11_skip_4 : decode cX11_skip 4 = .ok (.aload_n 0, 1) := by decide +kernel
theorem dX11_skip_5 : decode cX11_skip 5 = .ok (.getfield 100, 3) := by decide +kernel
theorem dX11_skip_8 : decode cX11_skip 8 = .ok (.if_icmp .ge 29, 3) := by decide +kernel
theorem dX11_skip_11 : decode cX11_skip 11 = .ok (.aload_n 0, 1) := by decide +kernel
theorem dX11_skip_12 : decode cX11_skip 12 = .ok (.aload_n 0, 1) := by decide +kernel
theorem dX11_skip_13 : decode cX11_skip 13 = .ok (.getfield 97, 3) := by decide +kernel
theorem dX11_skip_16 : decode cX11_skip 16 = .ok (.invokevirtual 103, 3) := by decide +kernel
theorem dX11_skip_19 : decode cX11_skip 19 = .ok (.bipush 32, 2) := by decide +kernel
theorem dX11_skip_21 : decode cX11_skip 21 = .ok (.if_icmp .ne 16, 3) := by decide +kernel
theorem dX11_skip_24 : decode cX11_skip 24 = .ok (.aload_n 0, 1) := by decide +kernel
theorem dX11_skip_25 : decode cX11_skip 25 = .ok (.dup, 1) := by decide +kernel
theorem dX11_skip_26 : decode cX11_skip 26 = .ok (.getfield 97, 3) := by decide +kernel
theorem dX11_skip_29 : decode cX11_skip 29 = .ok (.iconst 1, 1) := by decide +kernel
theorem dX11_skip_30 : decode cX11_skip 30 = .ok (.iadd, 1) := by decide +kernel
theorem dX11_skip_31 : decode cX11_skip 31 = .ok (.putfield 97, 3) := by decide +kernel
theorem dX11_skip_34 : decode cX11_skip 34 = .ok (.goto (-34), 3) := by decide +kernel
theorem dX11_skip_37 : decode cX11_skip 37 = .ok (.return_, 1) := by decide +kernel
theorem dX11_isSign_0 : decode cX11_isSign 0 = .ok (.aload_n 0, 1) := by decide +kernel
theorem dX11_isSign_1 : decode cX11_isSign 1 = .ok (.invokevirtual 106, 3) := by decide +kernel
theorem dX11_isSign_4 : decode cX11_isSign 4 = .ok (.aload_n 0, 1) := by decide +kernel
theorem dX11_isSign_5 : decode cX11_isSign 5 = .ok (.getfield 97, 3) := by decide +kernel
theorem dX11_isSign_8 : decode cX11_isSign 8 = .ok (.aload_n 0, 1) := by decide +kernel
theorem dX11_isSign_9 : decode cX11_isSign 9 = .ok (.getfield 100, 3) := by decide +kernel
theorem dX11_isSign_12 : decode cX11_isSign 12 = .ok (.if_icmp .ge 19, 3) := by decide +kernel
theorem dX11_isSign_15 : decode cX11_isSign 15 = .ok (.aload_n 0, 1) := by decide +kernel
theorem dX11_isSign_16 : decode cX11_isSign 16 = .ok (.aload_n 0, 1) := by decide +kernel
theorem dX11_isSign_17 : decode cX11_isSign 17 = .ok (.getfield 97, 3) := by decide +kernel
theorem dX11_isSign_20 : decode cX11_isSign 20 = .ok (.invokevirtual 103, 3) := by decide +kernel
theorem dX11_isSign_23 : decode cX11_isSign 23 = .ok (.iload_n 1, 1) := by decide +kernel
theorem dX11_isSign_24 : decode cX11_isSign 24 = .ok (.if_icmp .ne 7, 3) := by decide +kernel
theorem dX11_isSign_27 : decode cX11_isSign 27 = .ok (.iconst 1, 1) := by decide +kernel
theorem dX11_isSign_28 : decode cX11_isSign 28 = .ok (.goto 4, 3) := by decide +kernel
theorem dX11_isSign_31 : decode cX11_isSign 31 = .ok (.iconst 0, 1) := by decide +kernel
theorem dX11_isSign_32 : decode cX11_isSign 32 = .ok (.ireturn, 1) := by decide +kernel
theorem dX11_has__0 : decode cX11_has_ 0 = .ok (.aload_n 0, 1) := by decide +kernel
theorem dX11_has__1 : decode cX11_has_ 1 = .ok (.invokevirtual 106, 3) := by decide +kernel
theorem dX11_has__4 : decode cX11_has_ 4 = .ok (.aload_n 0, 1) := by decide +kernel
theorem dX11_has__5 : decode cX11_has_ 5 = .ok (.getfield 97, 3) := by decide +kernel
theorem dX11_has__8 : decode cX11_has_ 8 = .ok (.istore_n 2, 1) := by decide +kernel
theorem dX11_has__9 : decode cX11_has_ 9 = .ok (.iload_n 2, 1) := by decide +kernel
theorem dX11_has__10 : decode cX11_has_ 10 = .ok (.aload_n 0, 1) := by decide +kernel
theorem dX11_has__11 : decode cX11_has_ 11 = .ok (.getfield 100, 3) := by decide +kernel
theorem dX11_has__14 : decode cX11_has_ 14 = .ok (.if_icmp .ge 24, 3) := by decide +kernel
theorem dX11_has__17 : decode cX11_has_ 17 = .ok (.aload_n 0, 1) := by decide +kernel
theorem dX11_has__18 : decode cX11_has_ 18 = .ok (.iload_n 2, 1) := by decide +kernel
theorem dX11_has__19 : decode cX11_has_ 19 = .ok (.invokevirtual 103, 3) := by decide +kernel
theorem dX11_has__22 : decode cX11_has_ 22 = .ok (.bipush 97, 2) := by decide +kernel
theorem dX11_has__24 : decode cX11_has_ 24 = .ok (.bipush 122, 2) := by decide +kernel
theorem dX11_has__26 : decode cX11_has_ 26 = .ok (.invokestatic 72, 3) := by decide +kernel
theorem dX11_has__29 : decode cX11_has_ 29 = .ok (.ifCond .eq 9, 3) := by decide +kernel
theorem dX11_has__32 : decode cX11_has_ 32 = .ok (.iinc 2 1, 3) := by decide +kernel
theorem dX11_has__35 : decode cX11_has_ 35 = .ok (.goto (-26), 3) := by decide +kernel
theorem dX11_has__38 : decode cX11_has_ 38 = .ok (.iload_n 2, 1) := by decide +kernel
theorem dX11_has__39 : decode cX11_has_ 39 = .ok (.aload_n 0, 1) := by decide +kernel
theorem dX11_has__40 : decode cX11_has_ 40 = .ok (.getfield 97, 3) := by decide +kernel
theorem dX11_has__43 : decode cX11_has_ 43 = .ok (.isub, 1) := by decide +kernel
theorem dX11_has__44 : decode cX11_has_ 44 = .ok (.aload_n 1, 1) := by decide +kernel
theorem dX11_has__45 : decode cX11_has_ 45 = .ok (.invokevirtual 109, 3) := by decide +kernel
theorem dX11_has__48 : decode cX11_has_ 48 = .ok (.if_icmp .eq 5, 3) := by decide +kernel
theorem dX11_has__51 : decode cX11_has_ 51 = .ok (.iconst 0, 1) := by decide +kernel
theorem dX11_has__52 : decode cX11_has_ 52 = .ok (.ireturn, 1) := by decide +kernel
theorem dX11_has__53 : decode cX11_has_ 53 = .ok (.iconst 0, 1) := by decide +kernel
theorem dX11_has__54 : decode cX11_has_ 54 = .ok (.istore_n 3, 1) := by decide +kernel
theorem dX11_has__55 : decode cX11_has_ 55 = .ok (.iload_n 3, 1) := by decide +kernel
theorem dX11_has__56 : decode cX11_has_ 56 = .ok (.aload_n 1, 1) := by decide +kernel
theorem dX11_has__57 : decode cX11_has_ 57 = .ok (.invokevirtual 109, 3) := by decide +kernel
theorem dX11_has__60 : decode cX11_has_ 60 = .ok (.if_icmp .ge 29, 3) := by decide +kernel
theorem dX11_has__63 : decode cX11_has_ 63 = .ok (.aload_n 0, 1) := by decide +kernel
theorem dX11_has__64 : decode cX11_has_ 64 = .ok (.aload_n 0, 1) := by decide +kernel
theorem dX11_has__65 : decode cX11_has_ 65 = .ok (.getfield 97, 3) := by decide +kernel
theorem dX11_has__68 : decode cX11_has_ 68 = .ok (.iload_n 3, 1) := by decide +kernel
theorem dX11_has__69 : decode cX11_has_ 69 = .ok (.iadd, 1) := by decide +kernel
theorem dX11_has__70 : decode cX11_has_ 70 = .ok (.invokevirtual 103, 3) := by decide +kernel
theorem dX11_has__73 : decode cX11_has_ 73 = .ok (.aload_n 1, 1) := by decide +kernel
theorem dX11_has__74 : decode cX11_has_ 74 = .ok (.iload_n 3, 1) := by decide +kernel
theorem dX11_has__75 : decode cX11_has_ 75 = .ok (.invokevirtual 115, 3) := by decide +kernel
theorem dX11_has__78 : decode cX11_has_ 78 = .ok (.if_icmp .eq 5, 3) := by decide +kernel
theorem dX11_has__81 : decode cX11_has_ 81 = .ok (.iconst 0, 1) := by decide +kernel
theorem dX11_has__82 : decode cX11_has_ 82 = .ok (.ireturn, 1) := by decide +kernel
theorem dX11_has__83 : decode cX11_has_ 83 = .ok (.iinc 3 1, 3) := by decide +kernel
theorem dX11_has__86 : decode cX11_has_ 86 = .ok (.goto (-31), 3) := by decide +kernel
theorem dX11_has__89 : decode cX11_has_ 89 = .ok (.aload_n 0, 1) := by decide +kernel
theorem dX11_has__90 : decode cX11_has_ 90 = .ok (.iload_n 2, 1) := by decide +kernel
theorem dX11_has__91 : decode cX11_has_ 91 = .ok (.putfield 97, 3) := by decide +kernel
theorem dX11_has__94 : decode cX11_has_ 94 = .ok (.iconst 1, 1) := by decide +kernel
theorem dX11_has__95 : decode cX11_has_ 95 = .ok (.ireturn, 1) := by decide +kernel
theorem dX11_wrong_0 : decode cX11_wrong 0 = .ok (.aload_n 0, 1) := by decide +kernel
theorem dX11_wrong_1 : decode cX11_wrong 1 = .ok (.getfield 25, 3) := by decide +kernel
theorem dX11_wrong_4 : decode cX11_wrong 4 = .ok (.iconst (-1), 1) := by decide +kernel
theorem dX11_wrong_5 : decode cX11_wrong 5 = .ok (.if_icmp .ne 8, 3) := by decide +kernel
theorem dX11_wrong_8 : decode cX11_wrong 8 = .ok (.aload_n 0, 1) := by decide +kernel
theorem dX11_wrong_9 : decode cX11_wrong 9 = .ok (.iload_n 1, 1) := by decide +kernel
theorem dX11_wrong_10 : decode cX11_wrong 10 = .ok (.putfield 25, 3) := by decide +kernel
theorem dX11_wrong_13 : decode cX11_wrong 13 = .ok (.return_, 1) := by decide +kernel
theorem dX11_must_0 : decode cX11_must 0 = .ok (.aload_n 0, 1) := by decide +kernel
theorem dX11_must_1 : decode cX11_must 1 = .ok (.getfield 25, 3) := by decide +kernel
theorem dX11_must_4 : decode cX11_must 4 = .ok (.iconst (-1), 1) := by decide +kernel
theorem dX11_must_5 : decode cX11_must 5 = .ok (.if_icmp .ne 19, 3) := by decide +kernel
theorem dX11_must_8 : decode cX11_must 8 = .ok (.aload_n 0, 1) := by decide +kernel
theorem dX11_must_9 : decode cX11_must 9 = .ok (.aload_n 1, 1) := by decide +kernel
theorem dX11_must_10 : decode cX11_must 10 = .ok (.invokevirtual 119, 3) := by decide +kernel
theorem dX11_must_13 : decode cX11_must 13 = .ok (.ifCond .ne 11, 3) := by decide +kernel
theorem dX11_must_16 : decode cX11_must 16 = .ok (.aload_n 0, 1) := by decide +kernel
theorem dX11_must_17 : decode cX11_must 17 = .ok (.aload_n 0, 1) := by decide +kernel
theorem dX11_must_18 : decode cX11_must 18 = .ok (.getfield 97, 3) := by decide +kernel
theorem dX11_must_21 : decode cX11_must 21 = .ok (.invokevirtual 123, 3) := by decide +kernel
theorem dX11_must_24 : decode cX11_must 24 = .ok (.return_, 1) := by decide +kernel
theorem dX11_place_0 : decode cX11_place 0 = .ok (.aload_n 0, 1) := by decide +kernel
theorem dX11_place_1 : decode cX11_place 1 = .ok (.invokevirtual 106, 3) := by decide +kernel
theorem dX11_place_4 : decode cX11_place 4 = .ok (.aload_n 0, 1) := by decide +kernel
theorem dX11_place_5 : decode cX11_place 5 = .ok (.getfield 97, 3) := by decide +kernel
theorem dX11_place_8 : decode cX11_place 8 = .ok (.ireturn, 1) := by decide +kernel
theorem dX11_figures_0 : decode cX11_figures 0 = .ok (.aload_n 0, 1) := by decide +kernel
theorem dX11_figures_1 : decode cX11_figures 1 = .ok (.getfield 25, 3) := by decide +kernel
theorem dX11_figures_4 : decode cX11_figures 4 = .ok (.iconst (-1), 1) := by decide +kernel
theorem dX11_figures_5 : decode cX11_figures 5 = .ok (.if_icmp .eq 5, 3) := by decide +kernel
theorem dX11_figures_8 : decode cX11_figures 8 = .ok (.iconst 0, 1) := by decide +kernel
theorem dX11_figures_9 : decode cX11_figures 9 = .ok (.ireturn, 1) := by decide +kernel
theorem dX11_figures_10 : decode cX11_figures 10 = .ok (.aload_n 0, 1) := by decide +kernel
theorem dX11_figures_11 : decode cX11_figures 11 = .ok (.invokevirtual 127, 3) := by decide +kernel
theorem dX11_figures_14 : decode cX11_figures 14 = .ok (.istore 4, 2) := by decide +kernel
theorem dX11_figures_16 : decode cX11_figures 16 = .ok (.iconst 0, 1) := by decide +kernel
theorem dX11_figures_17 : decode cX11_figures 17 = .ok (.istore 5, 2) := by decide +kernel
theorem dX11_figures_19 : decode cX11_figures 19 = .ok (.aload_n 0, 1) := by decide +kernel
theorem dX11_figures_20 : decode cX11_figures 20 = .ok (.getfield 97, 3) := by decide +kernel
theorem dX11_figures_23 : decode cX11_figures 23 = .ok (.aload_n 0, 1) := by decide +kernel
theorem dX11_figures_24 : decode cX11_figures 24 = .ok (.getfield 100, 3) := by decide +kernel
theorem dX11_figures_27 : decode cX11_figures 27 = .ok (.if_icmp .ge 64, 3) := by decide +kernel
theorem dX11_figures_30 : decode cX11_figures 30 = .ok (.aload_n 0, 1) := by decide +kernel
theorem dX11_figures_31 : decode cX11_figures 31 = .ok (.aload_n 0, 1) := by decide +kernel
theorem dX11_figures_32 : decode cX11_figures 32 = .ok (.getfield 97, 3) := by decide +kernel
theorem dX11_figures_35 : decode cX11_figures 35 = .ok (.invokevirtual 103, 3) := by decide +kernel
theorem dX11_figures_38 : decode cX11_figures 38 = .ok (.bipush 48, 2) := by decide +kernel
theorem dX11_figures_40 : decode cX11_figures 40 = .ok (.bipush 57, 2) := by decide +kernel
theorem dX11_figures_42 : decode cX11_figures 42 = .ok (.invokestatic 72, 3) := by decide +kernel
theorem dX11_figures_45 : decode cX11_figures 45 = .ok (.ifCond .eq 46, 3) := by decide +kernel
theorem dX11_figures_48 : decode cX11_figures 48 = .ok (.aload_n 0, 1) := by decide +kernel
theorem dX11_figures_49 : decode cX11_figures 49 = .ok (.getfield 97, 3) := by decide +kernel
theorem dX11_figures_52 : decode cX11_figures 52 = .ok (.iload 4, 2) := by decide +kernel
theorem dX11_figures_54 : decode cX11_figures 54 = .ok (.isub, 1) := by decide +kernel
theorem dX11_figures_55 : decode cX11_figures 55 = .ok (.iload_n 3, 1) := by decide +kernel
theorem dX11_figures_56 : decode cX11_figures 56 = .ok (.if_icmp .gt 35, 3) := by decide +kernel
theorem dX11_figures_59 : decode cX11_figures 59 = .ok (.bipush 10, 2) := by decide +kernel
theorem dX11_figures_61 : decode cX11_figures 61 = .ok (.iload 5, 2) := by decide +kernel
theorem dX11_figures_63 : decode cX11_figures 63 = .ok (.imul, 1) := by decide +kernel
theorem dX11_figures_64 : decode cX11_figures 64 = .ok (.aload_n 0, 1) := by decide +kernel
theorem dX11_figures_65 : decode cX11_figures 65 = .ok (.aload_n 0, 1) := by decide +kernel
theorem dX11_figures_66 : decode cX11_figures 66 = .ok (.getfield 97, 3) := by decide +kernel
theorem dX11_figures_69 : decode cX11_figures 69 = .ok (.invokevirtual 103, 3) := by decide +kernel
theorem dX11_figures_72 : decode cX11_figures 72 = .ok (.iadd, 1) := by decide +kernel
theorem dX11_figures_73 : decode cX11_figures 73 = .ok (.bipush 48, 2) := by decide +kernel
theorem dX11_figures_75 : decode cX11_figures 75 = .ok (.isub, 1) := by decide +kernel
theorem dX11_figures_76 : decode cX11_figures 76 = .ok (.istore 5, 2) := by decide +kernel
theorem dX11_figures_78 : decode cX11_figures 78 = .ok (.aload_n 0, 1) := by decide +kernel
theorem dX11_figures_79 : decode cX11_figures 79 = .ok (.dup, 1) := by decide +kernel
theorem dX11_figures_80 : decode cX11_figures 80 = .ok (.getfield 97, 3) := by decide +kernel
theorem dX11_figures_83 : decode cX11_figures 83 = .ok (.iconst 1, 1) := by decide +kernel
theorem dX11_figures_84 : decode cX11_figures 84 = .ok (.iadd, 1) := by decide +kernel
theorem dX11_figures_85 : decode cX11_figures 85 = .ok (.putfield 97, 3) := by decide +kernel
theorem dX11_figures_88 : decode cX11_figures 88 = .ok (.goto (-69), 3) := by decide +kernel
theorem dX11_figures_91 : decode cX11_figures 91 = .ok (.aload_n 0, 1) := by decide +kernel
theorem dX11_figures_92 : decode cX11_figures 92 = .ok (.getfield 97, 3) := by decide +kernel
theorem dX11_figures_95 : decode cX11_figures 95 = .ok (.iload 4, 2) := by decide +kernel
theorem dX11_figures_97 : decode cX11_figures 97 = .ok (.if_icmp .eq 26, 3) := by decide +kernel
theorem dX11_figures_100 : decode cX11_figures 100 = .ok (.aload_n 0, 1) := by decide +kernel
theorem dX11_figures_101 : decode cX11_figures 101 = .ok (.getfield 97, 3) := by decide +kernel
theorem dX11_figures_104 : decode cX11_figures 104 = .ok (.iload 4, 2) := by decide +kernel
theorem dX11_figures_106 : decode cX11_figures 106 = .ok (.isub, 1) := by decide +kernel
theorem dX11_figures_107 : decode cX11_figures 107 = .ok (.iload_n 3, 1) := by decide +kernel
theorem dX11_figures_108 : decode cX11_figures 108 = .ok (.if_icmp .gt 15, 3) := by decide +kernel
theorem dX11_figures_111 : decode cX11_figures 111 = .ok (.iload 5, 2) := by decide +kernel
theorem dX11_figures_113 : decode cX11_figures 113 = .ok (.iload_n 1, 1) := by decide +kernel
theorem dX11_figures_114 : decode cX11_figures 114 = .ok (.if_icmp .lt 9, 3) := by decide +kernel
theorem dX11_figures_117 : decode cX11_figures 117 = .ok (.iload 5, 2) := by decide +kernel
theorem dX11_figures_119 : decode cX11_figures 119 = .ok (.iload_n 2, 1) := by decide +kernel
theorem dX11_figures_120 : decode cX11_figures 120 = .ok (.if_icmp .le 9, 3) := by decide +kernel
theorem dX11_figures_123 : decode cX11_figures 123 = .ok (.aload_n 0, 1) := by decide +kernel
theorem dX11_figures_124 : decode cX11_figures 124 = .ok (.iload 4, 2) := by decide +kernel
theorem dX11_figures_126 : decode cX11_figures 126 = .ok (.invokevirtual 123, 3) := by decide +kernel
theorem dX11_figures_129 : decode cX11_figures 129 = .ok (.iload 5, 2) := by decide +kernel
theorem dX11_figures_131 : decode cX11_figures 131 = .ok (.ireturn, 1) := by decide +kernel
theorem dX11_tenantHere_0 : decode cX11_tenantHere 0 = .ok (.aload_n 0, 1) := by decide +kernel
theorem dX11_tenantHere_1 : decode cX11_tenantHere 1 = .ok (.invokevirtual 127, 3) := by decide +kernel
theorem dX11_tenantHere_4 : decode cX11_tenantHere 4 = .ok (.istore_n 1, 1) := by decide +kernel
theorem dX11_tenantHere_5 : decode cX11_tenantHere 5 = .ok (.aload_n 0, 1) := by decide +kernel
theorem dX11_tenantHere_6 : decode cX11_tenantHere 6 = .ok (.iconst 0, 1) := by decide +kernel
theorem dX11_tenantHere_7 : decode cX11_tenantHere 7 = .ok (.aload_n 0, 1) := by decide +kernel
theorem dX11_tenantHere_8 : decode cX11_tenantHere 8 = .ok (.getfield 7, 3) := by decide +kernel
theorem dX11_tenantHere_11 : decode cX11_tenantHere 11 = .ok (.iconst 1, 1) := by decide +kernel
theorem dX11_tenantHere_12 : decode cX11_tenantHere 12 = .ok (.iaload, 1) := by decide +kernel
theorem dX11_tenantHere_13 : decode cX11_tenantHere 13 = .ok (.iconst 1, 1) := by decide +kernel
theorem dX11_tenantHere_14 : decode cX11_tenantHere 14 = .ok (.isub, 1) := by decide +kernel
theorem dX11_tenantHere_15 : decode cX11_tenantHere 15 = .ok (.iconst 3, 1) := by decide +kernel
theorem dX11_tenantHere_16 : decode cX11_tenantHere 16 = .ok (.invokevirtual 130, 3) := by decide +kernel
theorem dX11_tenantHere_19 : decode cX11_tenantHere 19 = .ok (.istore_n 2, 1) := by decide +kernel
theorem dX11_tenantHere_20 : decode cX11_tenantHere 20 = .ok (.aload_n 0, 1) := by decide +kernel
theorem dX11_tenantHere_21 : decode cX11_tenantHere 21 = .ok (.getfield 25, 3) := by decide +kernel
theorem dX11_tenantHere_24 : decode cX11_tenantHere 24 = .ok (.iconst (-1), 1) := by decide +kernel
theorem dX11_tenantHere_25 : decode cX11_tenantHere 25 = .ok (.if_icmp .ne 16, 3) := by decide +kernel
theorem dX11_tenantHere_28 : decode cX11_tenantHere 28 = .ok (.aload_n 0, 1) := by decide +kernel
theorem dX11_tenantHere_29 : decode cX11_tenantHere 29 = .ok (.iload_n 2, 1) := by decide +kernel
theorem dX11_tenantHere_30 : decode cX11_tenantHere 30 = .ok (.invokevirtual 80, 3) := by decide +kernel
theorem dX11_tenantHere_33 : decode cX11_tenantHere 33 = .ok (.ifCond .eq 8, 3) := by decide +kernel
theorem dX11_tenantHere_36 : decode cX11_tenantHere 36 = .ok (.aload_n 0, 1) := by decide +kernel
theorem dX11_tenantHere_37 : decode cX11_tenantHere 37 = .ok (.iload_n 1, 1) := by decide +kernel
theorem dX11_tenantHere_38 : decode cX11_tenantHere 38 = .ok (.invokevirtual 123, 3) := by decide +kernel
theorem dX11_tenantHere_41 : decode cX11_tenantHere 41 = .ok (.iload_n 2, 1) := by decide +kernel
theorem dX11_tenantHere_42 : decode cX11_tenantHere 42 = .ok (.ireturn, 1) := by decide +kernel
theorem dX11_tenantLine_0 : decode cX11_tenantLine 0 = .ok (.aload_n 0, 1) := by decide +kernel
theorem dX11_tenantLine_1 : decode cX11_tenantLine 1 = .ok (.getfield 7, 3) := by decide +kernel
theorem dX11_tenantLine_4 : decode cX11_tenantLine 4 = .ok (.iconst 1, 1) := by decide +kernel
theorem dX11_tenantLine_5 : decode cX11_tenantLine 5 = .ok (.iaload, 1) := by decide +kernel
theorem dX11_tenantLine_6 : decode cX11_tenantLine 6 = .ok (.bipush 10, 2) := by decide +kernel
theorem dX11_tenantLine_8 : decode cX11_tenantLine 8 = .ok (.if_icmp .ne 8, 3) := by decide +kernel
theorem dX11_tenantLine_11 : decode cX11_tenantLine 11 = .ok (.aload_n 0, 1) := by decide +kernel
theorem dX11_tenantLine_12 : decode cX11_tenantLine 12 = .ok (.iload_n 1, 1) := by decide +kernel
theorem dX11_tenantLine_13 : decode cX11_tenantLine 13 = .ok (.invokevirtual 123, 3) := by decide +kernel
theorem dX11_tenantLine_16 : decode cX11_tenantLine 16 = .ok (.aload_n 0, 1) := by decide +kernel
theorem dX11_tenantLine_17 : decode cX11_tenantLine 17 = .ok (.iconst 0, 1) := by decide +kernel
theorem dX11_tenantLine_18 : decode cX11_tenantLine 18 = .ok (.sipush 9999, 3) := by decide +kernel
theorem dX11_tenantLine_21 : decode cX11_tenantLine 21 = .ok (.iconst 4, 1) := by decide +kernel
theorem dX11_tenantLine_22 : decode cX11_tenantLine 22 = .ok (.invokevirtual 130, 3) := by decide +kernel
theorem dX11_tenantLine_25 : decode cX11_tenantLine 25 = .ok (.istore_n 2, 1) := by decide +kernel
theorem dX11_tenantLine_26 : decode cX11_tenantLine 26 = .ok (.aload_n 0, 1) := by decide +kernel
theorem dX11_tenantLine_27 : decode cX11_tenantLine 27 = .ok (.ldc 134, 2) := by decide +kernel
theorem dX11_tenantLine_29 : decode cX11_tenantLine 29 = .ok (.invokevirtual 136, 3) := by decide +kernel
theorem dX11_tenantLine_32 : decode cX11_tenantLine 32 = .ok (.aload_n 0, 1) := by decide +kernel
theorem dX11_tenantLine_33 : decode cX11_tenantLine 33 = .ok (.iconst 0, 1) := by decide +kernel
theorem dX11_tenantLine_34 : decode cX11_tenantLine 34 = .ok (.bipush 23, 2) := by decide +kernel
theorem dX11_tenantLine_36 : decode cX11_tenantLine 36 = .ok (.iconst 3, 1) := by decide +kernel
theorem dX11_tenantLine_37 : decode cX11_tenantLine 37 = .ok (.invokevirtual 130, 3) := by decide +kernel
theorem dX11_tenantLine_40 : decode cX11_tenantLine 40 = .ok (.istore_n 3, 1) := by decide +kernel
theorem dX11_tenantLine_41 : decode cX11_tenantLine 41 = .ok (.aload_n 0, 1) := by decide +kernel
theorem dX11_tenantLine_42 : decode cX11_tenantLine 42 = .ok (.ldc 140, 2) := by decide +kernel
theorem dX11_tenantLine_44 : decode cX11_tenantLine 44 = .ok (.invokevirtual 136, 3) := by decide +kernel
theorem dX11_tenantLine_47 : decode cX11_tenantLine 47 = .ok (.aload_n 0, 1) := by decide +kernel
theorem dX11_tenantLine_48 : decode cX11_tenantLine 48 = .ok (.iload_n 3, 1) := by decide +kernel
theorem dX11_tenantLine_49 : decode cX11_tenantLine 49 = .ok (.bipush 23, 2) := by decide +kernel
theorem dX11_tenantLine_51 : decode cX11_tenantLine 51 = .ok (.iconst 3, 1) := by decide +kernel
theorem dX11_tenantLine_52 : decode cX11_tenantLine 52 = .ok (.invokevirtual 130, 3) := by decide +kernel
theorem dX11_tenantLine_55 : decode cX11_tenantLine 55 = .ok (.istore 4, 2) := by decide +kernel
theorem dX11_tenantLine_57 : decode cX11_tenantLine 57 = .ok (.aload_n 0, 1) := by decide +kernel
theorem dX11_tenantLine_58 : decode cX11_tenantLine 58 = .ok (.getfield 25, 3) := by decide +kernel
theorem dX11_tenantLine_61 : decode cX11_tenantLine 61 = .ok (.iconst (-1), 1) := by decide +kernel
theorem dX11_tenantLine_62 : decode cX11_tenantLine 62 = .ok (.if_icmp .ne 12, 3) := by decide +kernel
theorem dX11_tenantLine_65 : decode cX11_tenantLine 65 = .ok (.aload_n 0, 1) := by decide +kernel
theorem dX11_tenantLine_66 : decode cX11_tenantLine 66 = .ok (.iload_n 2, 1) := by decide +kernel
theorem dX11_tenantLine_67 : decode cX11_tenantLine 67 = .ok (.iload_n 3, 1) := by decide +kernel
theorem dX11_tenantLine_68 : decode cX11_tenantLine 68 = .ok (.iload 4, 2) := by decide +kernel
theorem dX11_tenantLine_70 : decode cX11_tenantLine 70 = .ok (.iconst (-1), 1) := by decide +kernel
theorem dX11_tenantLine_71 : decode cX11_tenantLine 71 = .ok (.invokevirtual 142, 3) := by decide +kernel
theorem dX11_tenantLine_74 : decode cX11_tenantLine 74 = .ok (.return_, 1) := by decide +kernel
theorem dX11_comes_0 : decode cX11_comes 0 = .ok (.bipush 16, 2) := by decide +kernel
theorem dX11_comes_2 : decode cX11_comes 2 = .ok (.iconst 4, 1) := by decide +kernel
theorem dX11_comes_3 : decode cX11_comes 3 = .ok (.aload_n 0, 1) := by decide +kernel
theorem dX11_comes_4 : decode cX11_comes 4 = .ok (.getfield 7, 3) := by decide +kernel
theorem dX11_comes_7 : decode cX11_comes 7 = .ok (.iconst 1, 1) := by decide +kernel
theorem dX11_comes_8 : decode cX11_comes 8 = .ok (.iaload, 1) := by decide +kernel
theorem dX11_comes_9 : decode cX11_comes 9 = .ok (.imul, 1) := by decide +kernel
theorem dX11_comes_10 : decode cX11_comes 10 = .ok (.iadd, 1) := by decide +kernel
theorem dX11_comes_11 : decode cX11_comes 11 = .ok (.istore 5, 2) := by decide +kernel
theorem dX11_comes_13 : decode cX11_comes 13 = .ok (.aload_n 0, 1) := by decide +kernel
theorem dX11_comes_14 : decode cX11_comes 14 = .ok (.getfield 7, 3) := by decide +kernel
theorem dX11_comes_17 : decode cX11_comes 17 = .ok (.iload 5, 2) := by decide +kernel
theorem dX11_comes_19 : decode cX11_comes 19 = .ok (.iconst 0, 1) := by decide +kernel
theorem dX11_comes_20 : decode cX11_comes 20 = .ok (.iadd, 1) := by decide +kernel
theorem dX11_comes_21 : decode cX11_comes 21 = .ok (.iload_n 1, 1) := by decide +kernel
theorem dX11_comes_22 : decode cX11_comes 22 = .ok (.iastore, 1) := by decide +kernel
theorem dX11_comes_23 : decode cX11_comes 23 = .ok (.aload_n 0, 1) := by decide +kernel
theorem dX11_comes_24 : decode cX11_comes 24 = .ok (.getfield 7, 3) := by decide +kernel
theorem dX11_comes_27 : decode cX11_comes 27 = .ok (.iload 5, 2) := by decide +kernel
theorem dX11_comes_29 : decode cX11_comes 29 = .ok (.iconst 1, 1) := by decide +kernel
theorem dX11_comes_30 : decode cX11_comes 30 = .ok (.iadd, 1) := by decide +kernel
theorem dX11_comes_31 : decode cX11_comes 31 = .ok (.iload_n 2, 1) := by decide +kernel
theorem dX11_comes_32 : decode cX11_comes 32 = .ok (.iastore, 1) := by decide +kernel
theorem dX11_comes_33 : decode cX11_comes 33 = .ok (.aload_n 0, 1) := by decide +kernel
theorem dX11_comes_34 : decode cX11_comes 34 = .ok (.getfield 7, 3) := by decide +kernel
theorem dX11_comes_37 : decode cX11_comes 37 = .ok (.iload 5, 2) := by decide +kernel
theorem dX11_comes_39 : decode cX11_comes 39 = .ok (.iconst 2, 1) := by decide +kernel
theorem dX11_comes_40 : decode cX11_comes 40 = .ok (.iadd, 1) := by decide +kernel
theorem dX11_comes_41 : decode cX11_comes 41 = .ok (.iload_n 3, 1) := by decide +kernel
theorem dX11_comes_42 : decode cX11_comes 42 = .ok (.iastore, 1) := by decide +kernel
theorem dX11_comes_43 : decode cX11_comes 43 = .ok (.aload_n 0, 1) := by decide +kernel
theorem dX11_comes_44 : decode cX11_comes 44 = .ok (.getfield 7, 3) := by decide +kernel
theorem dX11_comes_47 : decode cX11_comes 47 = .ok (.iload 5, 2) := by decide +kernel
theorem dX11_comes_49 : decode cX11_comes 49 = .ok (.iconst 3, 1) := by decide +kernel
theorem dX11_comes_50 : decode cX11_comes 50 = .ok (.iadd, 1) := by decide +kernel
theorem dX11_comes_51 : decode cX11_comes 51 = .ok (.iload 4, 2) := by decide +kernel
theorem dX11_comes_53 : decode cX11_comes 53 = .ok (.iastore, 1) := by decide +kernel
theorem dX11_comes_54 : decode cX11_comes 54 = .ok (.aload_n 0, 1) := by decide +kernel
theorem dX11_comes_55 : decode cX11_comes 55 = .ok (.getfield 7, 3) := by decide +kernel
theorem dX11_comes_58 : decode cX11_comes 58 = .ok (.bipush 7, 2) := by decide +kernel
theorem dX11_comes_60 : decode cX11_comes 60 = .ok (.dup2, 1) := by decide +kernel
theorem dX11_comes_61 : decode cX11_comes 61 = .ok (.iaload, 1) := by decide +kernel
theorem dX11_comes_62 : decode cX11_comes 62 = .ok (.iload_n 1, 1) := by decide +kernel
theorem dX11_comes_63 : decode cX11_comes 63 = .ok (.iadd, 1) := by decide +kernel
theorem dX11_comes_64 : decode cX11_comes 64 = .ok (.iastore, 1) := by decide +kernel
theorem dX11_comes_65 : decode cX11_comes 65 = .ok (.aload_n 0, 1) := by decide +kernel
theorem dX11_comes_66 : decode cX11_comes 66 = .ok (.getfield 7, 3) := by decide +kernel
theorem dX11_comes_69 : decode cX11_comes 69 = .ok (.iconst 1, 1) := by decide +kernel
theorem dX11_comes_70 : decode cX11_comes 70 = .ok (.dup2, 1) := by decide +kernel
theorem dX11_comes_71 : decode cX11_comes 71 = .ok (.iaload, 1) := by decide +kernel
theorem dX11_comes_72 : decode cX11_comes 72 = .ok (.iconst 1, 1) := by decide +kernel
theorem dX11_comes_73 : decode cX11_comes 73 = .ok (.iadd, 1) := by decide +kernel
theorem dX11_comes_74 : decode cX11_comes 74 = .ok (.iastore, 1) := by decide +kernel
theorem dX11_comes_75 : decode cX11_comes 75 = .ok (.return_, 1) := by decide +kernel
theorem dX11_letLine_0 : decode cX11_letLine 0 = .ok (.aload_n 0, 1) := by decide +kernel
theorem dX11_letLine_1 : decode cX11_letLine 1 = .ok (.iconst 0, 1) := by decide +kernel
theorem dX11_letLine_2 : decode cX11_letLine 2 = .ok (.bipush 6, 2) := by decide +kernel
theorem dX11_letLine_4 : decode cX11_letLine 4 = .ok (.iconst 3, 1) := by decide +kernel
theorem dX11_letLine_5 : decode cX11_letLine 5 = .ok (.invokevirtual 130, 3) := by decide +kernel
theorem dX11_letLine_8 : decode cX11_letLine 8 = .ok (.istore_n 1, 1) := by decide +kernel
theorem dX11_letLine_9 : decode cX11_letLine 9 = .ok (.aload_n 0, 1) := by decide +kernel
theorem dX11_letLine_10 : decode cX11_letLine 10 = .ok (.iconst 0, 1) := by decide +kernel
theorem dX11_letLine_11 : decode cX11_letLine 11 = .ok (.bipush 23, 2) := by decide +kernel
theorem dX11_letLine_13 : decode cX11_letLine 13 = .ok (.iconst 3, 1) := by decide +kernel
theorem dX11_letLine_14 : decode cX11_letLine 14 = .ok (.invokevirtual 130, 3) := by decide +kernel
theorem dX11_letLine_17 : decode cX11_letLine 17 = .ok (.istore_n 2, 1) := by decide +kernel
theorem dX11_letLine_18 : decode cX11_letLine 18 = .ok (.aload_n 0, 1) := by decide +kernel
theorem dX11_letLine_19 : decode cX11_letLine 19 = .ok (.ldc 140, 2) := by decide +kernel
theorem dX11_letLine_21 : decode cX11_letLine 21 = .ok (.invokevirtual 136, 3) := by decide +kernel
theorem dX11_letLine_24 : decode cX11_letLine 24 = .ok (.aload_n 0, 1) := by decide +kernel
theorem dX11_letLine_25 : decode cX11_letLine 25 = .ok (.invokevirtual 127, 3) := by decide +kernel
theorem dX11_letLine_28 : decode cX11_letLine 28 = .ok (.istore_n 3, 1) := by decide +kernel
theorem dX11_letLine_29 : decode cX11_letLine 29 = .ok (.aload_n 0, 1) := by decide +kernel
theorem dX11_letLine_30 : decode cX11_letLine 30 = .ok (.iload_n 2, 1) := by decide +kernel
theorem dX11_letLine_31 : decode cX11_letLine 31 = .ok (.bipush 23, 2) := by decide +kernel
theorem dX11_letLine_33 : decode cX11_letLine 33 = .ok (.iconst 3, 1) := by decide +kernel
theorem dX11_letLine_34 : decode cX11_letLine 34 = .ok (.invokevirtual 130, 3) := by decide +kernel
theorem dX11_letLine_37 : decode cX11_letLine 37 = .ok (.istore 4, 2) := by decide +kernel
theorem dX11_letLine_39 : decode cX11_letLine 39 = .ok (.iload_n 2, 1) := by decide +kernel
theorem dX11_letLine_40 : decode cX11_letLine 40 = .ok (.istore 5, 2) := by decide +kernel
theorem dX11_letLine_42 : decode cX11_letLine 42 = .ok (.iload 5, 2) := by decide +kernel
theorem dX11_letLine_44 : decode cX11_letLine 44 = .ok (.iload 4, 2) := by decide +kernel
theorem dX11_letLine_46 : decode cX11_letLine 46 = .ok (.if_icmp .gt 54, 3) := by decide +kernel
theorem dX11_letLine_49 : decode cX11_letLine 49 = .ok (.aload_n 0, 1) := by decide +kernel
theorem dX11_letLine_50 : decode cX11_letLine 50 = .ok (.getfield 25, 3) := by decide +kernel
theorem dX11_letLine_53 : decode cX11_letLine 53 = .ok (.iconst (-1), 1) := by decide +kernel
theorem dX11_letLine_54 : decode cX11_letLine 54 = .ok (.if_icmp .ne 46, 3) := by decide +kernel
theorem dX11_letLine_57 : decode cX11_letLine 57 = .ok (.aload_n 0, 1) := by decide +kernel
theorem dX11_letLine_58 : decode cX11_letLine 58 = .ok (.bipush 24, 2) := by decide +kernel
theorem dX11_letLine_60 : decode cX11_letLine 60 = .ok (.iload_n 1, 1) := by decide +kernel
theorem dX11_letLine_61 : decode cX11_letLine 61 = .ok (.imul, 1) := by decide +kernel
theorem dX11_letLine_62 : decode cX11_letLine 62 = .ok (.iload 5, 2) := by decide +kernel
theorem dX11_letLine_64 : decode cX11_letLine 64 = .ok (.iadd, 1) := by decide +kernel
theorem dX11_letLine_65 : decode cX11_letLine 65 = .ok (.iconst 0, 1) := by decide +kernel
theorem dX11_letLine_66 : decode cX11_letLine 66 = .ok (.invokevirtual 84, 3) := by decide +kernel
theorem dX11_letLine_69 : decode cX11_letLine 69 = .ok (.iconst (-1), 1) := by decide +kernel
theorem dX11_letLine_70 : decode cX11_letLine 70 = .ok (.if_icmp .ne 19, 3) := by decide +kernel
theorem dX11_letLine_73 : decode cX11_letLine 73 = .ok (.aload_n 0, 1) := by decide +kernel
theorem dX11_letLine_74 : decode cX11_letLine 74 = .ok (.bipush 24, 2) := by decide +kernel
theorem dX11_letLine_76 : decode cX11_letLine 76 = .ok (.iload_n 1, 1) := by decide +kernel
theorem dX11_letLine_77 : decode cX11_letLine 77 = .ok (.imul, 1) := by decide +kernel
theorem dX11_letLine_78 : decode cX11_letLine 78 = .ok (.iload 5, 2) := by decide +kernel
theorem dX11_letLine_80 : decode cX11_letLine 80 = .ok (.iadd, 1) := by decide +kernel
theorem dX11_letLine_81 : decode cX11_letLine 81 = .ok (.iconst 3, 1) := by decide +kernel
theorem dX11_letLine_82 : decode cX11_letLine 82 = .ok (.invokevirtual 84, 3) := by decide +kernel
theorem dX11_letLine_85 : decode cX11_letLine 85 = .ok (.iconst 1, 1) := by decide +kernel
theorem dX11_letLine_86 : decode cX11_letLine 86 = .ok (.if_icmp .ne 8, 3) := by decide +kernel
theorem dX11_letLine_89 : decode cX11_letLine 89 = .ok (.aload_n 0, 1) := by decide +kernel
theorem dX11_letLine_90 : decode cX11_letLine 90 = .ok (.iload_n 3, 1) := by decide +kernel
theorem dX11_letLine_91 : decode cX11_letLine 91 = .ok (.invokevirtual 123, 3) := by decide +kernel
theorem dX11_letLine_94 : decode cX11_letLine 94 = .ok (.iinc 5 1, 3) := by decide +kernel
theorem dX11_letLine_97 : decode cX11_letLine 97 = .ok (.goto (-55), 3) := by decide +kernel
theorem dX11_letLine_100 : decode cX11_letLine 100 = .ok (.aload_n 0, 1) := by decide +kernel
theorem dX11_letLine_101 : decode cX11_letLine 101 = .ok (.invokevirtual 146, 3) := by decide +kernel
theorem dX11_letLine_104 : decode cX11_letLine 104 = .ok (.istore 5, 2) := by decide +kernel
theorem dX11_letLine_106 : decode cX11_letLine 106 = .ok (.iload_n 2, 1) := by decide +kernel
theorem dX11_letLine_107 : decode cX11_letLine 107 = .ok (.istore 6, 2) := by decide +kernel
theorem dX11_letLine_109 : decode cX11_letLine 109 = .ok (.iload 6, 2) := by decide +kernel
theorem dX11_letLine_111 : decode cX11_letLine 111 = .ok (.iload 4, 2) := by decide +kernel
theorem dX11_letLine_113 : decode cX11_letLine 113 = .ok (.if_icmp .gt 32, 3) := by decide +kernel
theorem dX11_letLine_116 : decode cX11_letLine 116 = .ok (.aload_n 0, 1) := by decide +kernel
theorem dX11_letLine_117 : decode cX11_letLine 117 = .ok (.getfield 25, 3) := by decide +kernel
theorem dX11_letLine_120 : decode cX11_letLine 120 = .ok (.iconst (-1), 1) := by decide +kernel
theorem dX11_letLine_121 : decode cX11_letLine 121 = .ok (.if_icmp .ne 24, 3) := by decide +kernel
theorem dX11_letLine_124 : decode cX11_letLine 124 = .ok (.aload_n 0, 1) := by decide +kernel
theorem dX11_letLine_125 : decode cX11_letLine 125 = .ok (.bipush 24, 2) := by decide +kernel
theorem dX11_letLine_127 : decode cX11_letLine 127 = .ok (.iload_n 1, 1) := by decide +kernel
theorem dX11_letLine_128 : decode cX11_letLine 128 = .ok (.imul, 1) := by decide +kernel
theorem dX11_letLine_129 : decode cX11_letLine 129 = .ok (.iload 6, 2) := by decide +kernel
theorem dX11_letLine_131 : decode cX11_letLine 131 = .ok (.iadd, 1) := by decide +kernel
theorem dX11_letLine_132 : decode cX11_letLine 132 = .ok (.iload 5, 2) := by decide +kernel
theorem dX11_letLine_134 : decode cX11_letLine 134 = .ok (.iload 5, 2) := by decide +kernel
theorem dX11_letLine_136 : decode cX11_letLine 136 = .ok (.invokevirtual 149, 3) := by decide +kernel
theorem dX11_letLine_139 : decode cX11_letLine 139 = .ok (.iinc 6 1, 3) := by decide +kernel
theorem dX11_letLine_142 : decode cX11_letLine 142 = .ok (.goto (-33), 3) := by decide +kernel
theorem dX11_letLine_145 : decode cX11_letLine 145 = .ok (.return_, 1) := by decide +kernel
theorem dX11_townLine_0 : decode cX11_townLine 0 = .ok (.aload_n 0, 1) := by decide +kernel
theorem dX11_townLine_1 : decode cX11_townLine 1 = .ok (.invokevirtual 127, 3) := by decide +kernel
theorem dX11_townLine_4 : decode cX11_townLine 4 = .ok (.istore_n 1, 1) := by decide +kernel
theorem dX11_townLine_5 : decode cX11_townLine 5 = .ok (.aload_n 0, 1) := by decide +kernel
theorem dX11_townLine_6 : decode cX11_townLine 6 = .ok (.ldc 152, 2) := by decide +kernel
theorem dX11_townLine_8 : decode cX11_townLine 8 = .ok (.invokevirtual 119, 3) := by decide +kernel
theorem dX11_townLine_11 : decode cX11_townLine 11 = .ok (.ifCond .eq 11, 3) := by decide +kernel
theorem dX11_townLine_14 : decode cX11_townLine 14 = .ok (.aload_n 0, 1) := by decide +kernel
theorem dX11_townLine_15 : decode cX11_townLine 15 = .ok (.iload_n 1, 1) := by decide +kernel
theorem dX11_townLine_16 : decode cX11_townLine 16 = .ok (.invokevirtual 154, 3) := by decide +kernel
theorem dX11_townLine_19 : decode cX11_townLine 19 = .ok (.goto 336, 3) := by decide +kernel
theorem dX11_townLine_22 : decode cX11_townLine 22 = .ok (.aload_n 0, 1) := by decide +kernel
theorem dX11_townLine_23 : decode cX11_townLine 23 = .ok (.ldc 157, 2) := by decide +kernel
theorem dX11_townLine_25 : decode cX11_townLine 25 = .ok (.invokevirtual 119, 3) := by decide +kernel
theorem dX11_townLine_28 : decode cX11_townLine 28 = .ok (.ifCond .eq 49, 3) := by decide +kernel
theorem dX11_townLine_31 : decode cX11_townLine 31 = .ok (.aload_n 0, 1) := by decide +kernel
theorem dX11_townLine_32 : decode cX11_townLine 32 = .ok (.getfield 7, 3) := by decide +kernel
theorem dX11_townLine_35 : decode cX11_townLine 35 = .ok (.iconst 1, 1) := by decide +kernel
theorem dX11_townLine_36 : decode cX11_townLine 36 = .ok (.iaload, 1) := by decide +kernel
theorem dX11_townLine_37 : decode cX11_townLine 37 = .ok (.bipush 10, 2) := by decide +kernel
theorem dX11_townLine_39 : decode cX11_townLine 39 = .ok (.if_icmp .ne 8, 3) := by decide +kernel
theorem dX11_townLine_42 : decode cX11_townLine 42 = .ok (.aload_n 0, 1) := by decide +kernel
theorem dX11_townLine_43 : decode cX11_townLine 43 = .ok (.iload_n 1, 1) := by decide +kernel
theorem dX11_townLine_44 : decode cX11_townLine 44 = .ok (.invokevirtual 123, 3) := by decide +kernel
theorem dX11_townLine_47 : decode cX11_townLine 47 = .ok (.aload_n 0, 1) := by decide +kernel
theorem dX11_townLine_48 : decode cX11_townLine 48 = .ok (.ldc 159, 2) := by decide +kernel
theorem dX11_townLine_50 : decode cX11_townLine 50 = .ok (.invokevirtual 136, 3) := by decide +kernel
theorem dX11_townLine_53 : decode cX11_townLine 53 = .ok (.aload_n 0, 1) := by decide +kernel
theorem dX11_townLine_54 : decode cX11_townLine 54 = .ok (.invokevirtual 146, 3) := by decide +kernel
theorem dX11_townLine_57 : decode cX11_townLine 57 = .ok (.istore_n 2, 1) := by decide +kernel
theorem dX11_townLine_58 : decode cX11_townLine 58 = .ok (.aload_n 0, 1) := by decide +kernel
theorem dX11_townLine_59 : decode cX11_townLine 59 = .ok (.getfield 25, 3) := by decide +kernel
theorem dX11_townLine_62 : decode cX11_townLine 62 = .ok (.iconst (-1), 1) := by decide +kernel
theorem dX11_townLine_63 : decode cX11_townLine 63 = .ok (.if_icmp .ne 11, 3) := by decide +kernel
theorem dX11_townLine_66 : decode cX11_townLine 66 = .ok (.aload_n 0, 1) := by decide +kernel
theorem dX11_townLine_67 : decode cX11_townLine 67 = .ok (.iconst 0, 1) := by decide +kernel
theorem dX11_townLine_68 : decode cX11_townLine 68 = .ok (.iconst (-1), 1) := by decide +kernel
theorem dX11_townLine_69 : decode cX11_townLine 69 = .ok (.iconst (-1), 1) := by decide +kernel
theorem dX11_townLine_70 : decode cX11_townLine 70 = .ok (.iload_n 2, 1) := by decide +kernel
theorem dX11_townLine_71 : decode cX11_townLine 71 = .ok (.invokevirtual 142, 3) := by decide +kernel
theorem dX11_townLine_74 : decode cX11_townLine 74 = .ok (.goto 281, 3) := by decide +kernel
theorem dX11_townLine_77 : decode cX11_townLine 77 = .ok (.aload_n 0, 1) := by decide +kernel
theorem dX11_townLine_78 : decode cX11_townLine 78 = .ok (.ldc 160, 2) := by decide +kernel
theorem dX11_townLine_80 : decode cX11_townLine 80 = .ok (.invokevirtual 119, 3) := by decide +kernel
theorem dX11_townLine_83 : decode cX11_townLine 83 = .ok (.ifCond .eq 10, 3) := by decide +kernel
theorem dX11_townLine_86 : decode cX11_townLine 86 = .ok (.aload_n 0, 1) := by decide +kernel
theorem dX11_townLine_87 : decode cX11_townLine 87 = .ok (.invokevirtual 162, 3) := by decide +kernel
theorem dX11_townLine_90 : decode cX11_townLine 90 = .ok (.goto 265, 3) := by decide +kernel
theorem dX11_townLine_93 : decode cX11_townLine 93 = .ok (.aload_n 0, 1) := by decide +kernel
theorem dX11_townLine_94 : decode cX11_townLine 94 = .ok (.ldc 165, 2) := by decide +kernel
theorem dX11_townLine_96 : decode cX11_townLine 96 = .ok (.invokevirtual 119, 3) := by decide +kernel
theorem dX11_townLine_99 : decode cX11_townLine 99 = .ok (.ifCond .eq 62, 3) := by decide +kernel
theorem dX11_townLine_102 : decode cX11_townLine 102 = .ok (.aload_n 0, 1) := by decide +kernel
theorem dX11_townLine_103 : decode cX11_townLine 103 = .ok (.iconst 0, 1) := by decide +kernel
theorem dX11_townLine_104 : decode cX11_townLine 104 = .ok (.bipush 6, 2) := by decide +kernel
theorem dX11_townLine_106 : decode cX11_townLine 106 = .ok (.iconst 3, 1) := by decide +kernel
theorem dX11_townLine_107 : decode cX11_townLine 107 = .ok (.invokevirtual 130, 3) := by decide +kernel
theorem dX11_townLine_110 : decode cX11_townLine 110 = .ok (.istore_n 2, 1) := by decide +kernel
theorem dX11_townLine_111 : decode cX11_townLine 111 = .ok (.aload_n 0, 1) := by decide +kernel
theorem dX11_townLine_112 : decode cX11_townLine 112 = .ok (.iconst 0, 1) := by decide +kernel
theorem dX11_townLine_113 : decode cX11_townLine 113 = .ok (.bipush 23, 2) := by decide +kernel
theorem dX11_townLine_115 : decode cX11_townLine 115 = .ok (.iconst 3, 1) := by decide +kernel
theorem dX11_townLine_116 : decode cX11_townLine 116 = .ok (.invokevirtual 130, 3) := by decide +kernel
theorem dX11_townLine_119 : decode cX11_townLine 119 = .ok (.istore_n 3, 1) := by decide +kernel
theorem dX11_townLine_120 : decode cX11_townLine 120 = .ok (.aload_n 0, 1) := by decide +kernel
theorem dX11_townLine_121 : decode cX11_townLine 121 = .ok (.iconst 0, 1) := by decide +kernel
theorem dX11_townLine_122 : decode cX11_townLine 122 = .ok (.bipush 99, 2) := by decide +kernel
theorem dX11_townLine_124 : decode cX11_townLine 124 = .ok (.iconst 3, 1) := by decide +kernel
theorem dX11_townLine_125 : decode cX11_townLine 125 = .ok (.invokevirtual 130, 3) := by decide +kernel
theorem dX11_townLine_128 : decode cX11_townLine 128 = .ok (.istore 4, 2) := by decide +kernel
theorem dX11_townLine_130 : decode cX11_townLine 130 = .ok (.aload_n 0, 1) := by decide +kernel
theorem dX11_townLine_131 : decode cX11_townLine 131 = .ok (.getfield 25, 3) := by decide +kernel
theorem dX11_townLine_134 : decode cX11_townLine 134 = .ok (.iconst (-1), 1) := by decide +kernel
theorem dX11_townLine_135 : decode cX11_townLine 135 = .ok (.if_icmp .ne 23, 3) := by decide +kernel
theorem dX11_townLine_138 : decode cX11_townLine 138 = .ok (.aload_n 0, 1) := by decide +kernel
theorem dX11_townLine_139 : decode cX11_townLine 139 = .ok (.getfield 7, 3) := by decide +kernel
theorem dX11_townLine_142 : decode cX11_townLine 142 = .ok (.bipush 88, 2) := by decide +kernel
theorem dX11_townLine_144 : decode cX11_townLine 144 = .ok (.iconst 4, 1) := by decide +kernel
theorem dX11_townLine_145 : decode cX11_townLine 145 = .ok (.bipush 24, 2) := by decide +kernel
theorem dX11_townLine_147 : decode cX11_townLine 147 = .ok (.iload_n 2, 1) := by decide +kernel
theorem dX11_townLine_148 : decode cX11_townLine 148 = .ok (.imul, 1) := by decide +kernel
theorem dX11_townLine_149 : decode cX11_townLine 149 = .ok (.iload_n 3, 1) := by decide +kernel
theorem dX11_townLine_150 : decode cX11_townLine 150 = .ok (.iadd, 1) := by decide +kernel
theorem dX11_townLine_151 : decode cX11_townLine 151 = .ok (.imul, 1) := by decide +kernel
theorem dX11_townLine_152 : decode cX11_townLine 152 = .ok (.iadd, 1) := by decide +kernel
theorem dX11_townLine_153 : decode cX11_townLine 153 = .ok (.iconst 2, 1) := by decide +kernel
theorem dX11_townLine_154 : decode cX11_townLine 154 = .ok (.iadd, 1) := by decide +kernel
theorem dX11_townLine_155 : decode cX11_townLine 155 = .ok (.iload 4, 2) := by decide +kernel
theorem dX11_townLine_157 : decode cX11_townLine 157 = .ok (.iastore, 1) := by decide +kernel
theorem dX11_townLine_158 : decode cX11_townLine 158 = .ok (.goto 197, 3) := by decide +kernel
theorem dX11_townLine_161 : decode cX11_townLine 161 = .ok (.aload_n 0, 1) := by decide +kernel
theorem dX11_townLine_162 : decode cX11_townLine 162 = .ok (.ldc 167, 2) := by decide +kernel
theorem dX11_townLine_164 : decode cX11_townLine 164 = .ok (.invokevirtual 119, 3) := by decide +kernel
theorem dX11_townLine_167 : decode cX11_townLine 167 = .ok (.ifCond .eq 34, 3) := by decide +kernel
theorem dX11_townLine_170 : decode cX11_townLine 170 = .ok (.aload_n 0, 1) := by decide +kernel
theorem dX11_townLine_171 : decode cX11_townLine 171 = .ok (.iconst 0, 1) := by decide +kernel
theorem dX11_townLine_172 : decode cX11_townLine 172 = .ok (.invokevirtual 169, 3) := by decide +kernel
theorem dX11_townLine_175 : decode cX11_townLine 175 = .ok (.istore_n 2, 1) := by decide +kernel
theorem dX11_townLine_176 : decode cX11_townLine 176 = .ok (.aload_n 0, 1) := by decide +kernel
theorem dX11_townLine_177 : decode cX11_townLine 177 = .ok (.getfield 25, 3) := by decide +kernel
theorem dX11_townLine_180 : decode cX11_townLine 180 = .ok (.iconst (-1), 1) := by decide +kernel
theorem dX11_townLine_181 : decode cX11_townLine 181 = .ok (.if_icmp .ne 17, 3) := by decide +kernel
theorem dX11_townLine_184 : decode cX11_townLine 184 = .ok (.aload_n 0, 1) := by decide +kernel
theorem dX11_townLine_185 : decode cX11_townLine 185 = .ok (.getfield 7, 3) := by decide +kernel
theorem dX11_townLine_188 : decode cX11_townLine 188 = .ok (.bipush 88, 2) := by decide +kernel
theorem dX11_townLine_190 : decode cX11_townLine 190 = .ok (.iconst 4, 1) := by decide +kernel
theorem dX11_townLine_191 : decode cX11_townLine 191 = .ok (.iload_n 2, 1) := by decide +kernel
theorem dX11_townLine_192 : decode cX11_townLine 192 = .ok (.imul, 1) := by decide +kernel
theorem dX11_townLine_193 : decode cX11_townLine 193 = .ok (.iadd, 1) := by decide +kernel
theorem dX11_townLine_194 : decode cX11_townLine 194 = .ok (.iconst 3, 1) := by decide +kernel
theorem dX11_townLine_195 : decode cX11_townLine 195 = .ok (.iadd, 1) := by decide +kernel
theorem dX11_townLine_196 : decode cX11_townLine 196 = .ok (.iconst 1, 1) := by decide +kernel
theorem dX11_townLine_197 : decode cX11_townLine 197 = .ok (.iastore, 1) := by decide +kernel
theorem dX11_townLine_198 : decode cX11_townLine 198 = .ok (.goto 157, 3) := by decide +kernel
theorem dX11_townLine_201 : decode cX11_townLine 201 = .ok (.aload_n 0, 1) := by decide +kernel
theorem dX11_townLine_202 : decode cX11_townLine 202 = .ok (.ldc 173, 2) := by decide +kernel
theorem dX11_townLine_204 : decode cX11_townLine 204 = .ok (.invokevirtual 119, 3) := by decide +kernel
theorem dX11_townLine_207 : decode cX11_townLine 207 = .ok (.ifCond .eq 70, 3) := by decide +kernel
theorem dX11_townLine_210 : decode cX11_townLine 210 = .ok (.aload_n 0, 1) := by decide +kernel
theorem dX11_townLine_211 : decode cX11_townLine 211 = .ok (.iconst 1, 1) := by decide +kernel
theorem dX11_townLine_212 : decode cX11_townLine 212 = .ok (.invokevirtual 169, 3) := by decide +kernel
theorem dX11_townLine_215 : decode cX11_townLine 215 = .ok (.istore_n 2, 1) := by decide +kernel
theorem dX11_townLine_216 : decode cX11_townLine 216 = .ok (.aload_n 0, 1) := by decide +kernel
theorem dX11_townLine_217 : decode cX11_townLine 217 = .ok (.invokevirtual 127, 3) := by decide +kernel
theorem dX11_townLine_220 : decode cX11_townLine 220 = .ok (.istore_n 3, 1) := by decide +kernel
theorem dX11_townLine_221 : decode cX11_townLine 221 = .ok (.aload_n 0, 1) := by decide +kernel
theorem dX11_townLine_222 : decode cX11_townLine 222 = .ok (.invokevirtual 146, 3) := by decide +kernel
theorem dX11_townLine_225 : decode cX11_townLine 225 = .ok (.istore 4, 2) := by decide +kernel
theorem dX11_townLine_227 : decode cX11_townLine 227 = .ok (.aload_n 0, 1) := by decide +kernel
theorem dX11_townLine_228 : decode cX11_townLine 228 = .ok (.getfield 25, 3) := by decide +kernel
theorem dX11_townLine_231 : decode cX11_townLine 231 = .ok (.iconst (-1), 1) := by decide +kernel
theorem dX11_townLine_232 : decode cX11_townLine 232 = .ok (.if_icmp .ne 19, 3) := by decide +kernel
theorem dX11_townLine_235 : decode cX11_townLine 235 = .ok (.aload_n 0, 1) := by decide +kernel
theorem dX11_townLine_236 : decode cX11_townLine 236 = .ok (.iload_n 2, 1) := by decide +kernel
theorem dX11_townLine_237 : decode cX11_townLine 237 = .ok (.iconst 0, 1) := by decide +kernel
theorem dX11_townLine_238 : decode cX11_townLine 238 = .ok (.invokevirtual 84, 3) := by decide +kernel
theorem dX11_townLine_241 : decode cX11_townLine 241 = .ok (.iload 4, 2) := by decide +kernel
theorem dX11_townLine_243 : decode cX11_townLine 243 = .ok (.if_icmp .ne 8, 3) := by decide +kernel
theorem dX11_townLine_246 : decode cX11_townLine 246 = .ok (.aload_n 0, 1) := by decide +kernel
theorem dX11_townLine_247 : decode cX11_townLine 247 = .ok (.iload_n 3, 1) := by decide +kernel
theorem dX11_townLine_248 : decode cX11_townLine 248 = .ok (.invokevirtual 123, 3) := by decide +kernel
theorem dX11_townLine_251 : decode cX11_townLine 251 = .ok (.aload_n 0, 1) := by decide +kernel
theorem dX11_townLine_252 : decode cX11_townLine 252 = .ok (.getfield 25, 3) := by decide +kernel
theorem dX11_townLine_255 : decode cX11_townLine 255 = .ok (.iconst (-1), 1) := by decide +kernel
theorem dX11_townLine_256 : decode cX11_townLine 256 = .ok (.if_icmp .ne 18, 3) := by decide +kernel
theorem dX11_townLine_259 : decode cX11_townLine 259 = .ok (.aload_n 0, 1) := by decide +kernel
theorem dX11_townLine_260 : decode cX11_townLine 260 = .ok (.getfield 7, 3) := by decide +kernel
theorem dX11_townLine_263 : decode cX11_townLine 263 = .ok (.bipush 88, 2) := by decide +kernel
theorem dX11_townLine_265 : decode cX11_townLine 265 = .ok (.iconst 4, 1) := by decide +kernel
theorem dX11_townLine_266 : decode cX11_townLine 266 = .ok (.iload_n 2, 1) := by decide +kernel
theorem dX11_townLine_267 : decode cX11_townLine 267 = .ok (.imul, 1) := by decide +kernel
theorem dX11_townLine_268 : decode cX11_townLine 268 = .ok (.iadd, 1) := by decide +kernel
theorem dX11_townLine_269 : decode cX11_townLine 269 = .ok (.iconst 1, 1) := by decide +kernel
theorem dX11_townLine_270 : decode cX11_townLine 270 = .ok (.iadd, 1) := by decide +kernel
theorem dX11_townLine_271 : decode cX11_townLine 271 = .ok (.iload 4, 2) := by decide +kernel
theorem dX11_townLine_273 : decode cX11_townLine 273 = .ok (.iastore, 1) := by decide +kernel
theorem dX11_townLine_274 : decode cX11_townLine 274 = .ok (.goto 81, 3) := by decide +kernel
theorem dX11_townLine_277 : decode cX11_townLine 277 = .ok (.aload_n 0, 1) := by decide +kernel
theorem dX11_townLine_278 : decode cX11_townLine 278 = .ok (.ldc 175, 2) := by decide +kernel
theorem dX11_townLine_280 : decode cX11_townLine 280 = .ok (.invokevirtual 119, 3) := by decide +kernel
theorem dX11_townLine_283 : decode cX11_townLine 283 = .ok (.ifCond .eq 27, 3) := by decide +kernel
theorem dX11_townLine_286 : decode cX11_townLine 286 = .ok (.aload_n 0, 1) := by decide +kernel
theorem dX11_townLine_287 : decode cX11_townLine 287 = .ok (.getfield 7, 3) := by decide +kernel
theorem dX11_townLine_290 : decode cX11_townLine 290 = .ok (.bipush 9, 2) := by decide +kernel
theorem dX11_townLine_292 : decode cX11_townLine 292 = .ok (.iaload, 1) := by decide +kernel
theorem dX11_townLine_293 : decode cX11_townLine 293 = .ok (.bipush 8, 2) := by decide +kernel
theorem dX11_townLine_295 : decode cX11_townLine 295 = .ok (.if_icmp .ne 8, 3) := by decide +kernel
theorem dX11_townLine_298 : decode cX11_townLine 298 = .ok (.aload_n 0, 1) := by decide +kernel
theorem dX11_townLine_299 : decode cX11_townLine 299 = .ok (.iload_n 1, 1) := by decide +kernel
theorem dX11_townLine_300 : decode cX11_townLine 300 = .ok (.invokevirtual 123, 3) := by decide +kernel
theorem dX11_townLine_303 : decode cX11_townLine 303 = .ok (.aload_n 0, 1) := by decide +kernel
theorem dX11_townLine_304 : decode cX11_townLine 304 = .ok (.invokevirtual 177, 3) := by decide +kernel
theorem dX11_townLine_307 : decode cX11_townLine 307 = .ok (.goto 48, 3) := by decide +kernel
theorem dX11_townLine_310 : decode cX11_townLine 310 = .ok (.aload_n 0, 1) := by decide +kernel
theorem dX11_townLine_311 : decode cX11_townLine 311 = .ok (.ldc 180, 2) := by decide +kernel
theorem dX11_townLine_313 : decode cX11_townLine 313 = .ok (.invokevirtual 119, 3) := by decide +kernel
theorem dX11_townLine_316 : decode cX11_townLine 316 = .ok (.ifCond .eq 31, 3) := by decide +kernel
theorem dX11_townLine_319 : decode cX11_townLine 319 = .ok (.aload_n 0, 1) := by decide +kernel
theorem dX11_townLine_320 : decode cX11_townLine 320 = .ok (.iconst 0, 1) := by decide +kernel
theorem dX11_townLine_321 : decode cX11_townLine 321 = .ok (.bipush 100, 2) := by decide +kernel
theorem dX11_townLine_323 : decode cX11_townLine 323 = .ok (.iconst 3, 1) := by decide +kernel
theorem dX11_townLine_324 : decode cX11_townLine 324 = .ok (.invokevirtual 130, 3) := by decide +kernel
theorem dX11_townLine_327 : decode cX11_townLine 327 = .ok (.istore_n 2, 1) := by decide +kernel
theorem dX11_townLine_328 : decode cX11_townLine 328 = .ok (.aload_n 0, 1) := by decide +kernel
theorem dX11_townLine_329 : decode cX11_townLine 329 = .ok (.getfield 25, 3) := by decide +kernel
theorem dX11_townLine_332 : decode cX11_townLine 332 = .ok (.iconst (-1), 1) := by decide +kernel
theorem dX11_townLine_333 : decode cX11_townLine 333 = .ok (.if_icmp .ne 11, 3) := by decide +kernel
theorem dX11_townLine_336 : decode cX11_townLine 336 = .ok (.aload_n 0, 1) := by decide +kernel
theorem dX11_townLine_337 : decode cX11_townLine 337 = .ok (.getfield 7, 3) := by decide +kernel
theorem dX11_townLine_340 : decode cX11_townLine 340 = .ok (.bipush 8, 2) := by decide +kernel
theorem dX11_townLine_342 : decode cX11_townLine 342 = .ok (.iload_n 2, 1) := by decide +kernel
theorem dX11_townLine_343 : decode cX11_townLine 343 = .ok (.iastore, 1) := by decide +kernel
theorem dX11_townLine_344 : decode cX11_townLine 344 = .ok (.goto 11, 3) := by decide +kernel
theorem dX11_townLine_347 : decode cX11_townLine 347 = .ok (.aload_n 0, 1) := by decide +kernel
theorem dX11_townLine_348 : decode cX11_townLine 348 = .ok (.aload_n 0, 1) := by decide +kernel
theorem dX11_townLine_349 : decode cX11_townLine 349 = .ok (.getfield 97, 3) := by decide +kernel
theorem dX11_townLine_352 : decode cX11_townLine 352 = .ok (.invokevirtual 123, 3) := by decide +kernel
theorem dX11_townLine_355 : decode cX11_townLine 355 = .ok (.return_, 1) := by decide +kernel
theorem dX11_roomHere_0 : decode cX11_roomHere 0 = .ok (.aload_n 0, 1) := by decide +kernel
theorem dX11_roomHere_1 : decode cX11_roomHere 1 = .ok (.iconst 0, 1) := by decide +kernel
theorem dX11_roomHere_2 : decode cX11_roomHere 2 = .ok (.bipush 6, 2) := by decide +kernel
theorem dX11_roomHere_4 : decode cX11_roomHere 4 = .ok (.iconst 3, 1) := by decide +kernel
theorem dX11_roomHere_5 : decode cX11_roomHere 5 = .ok (.invokevirtual 130, 3) := by decide +kernel
theorem dX11_roomHere_8 : decode cX11_roomHere 8 = .ok (.istore_n 2, 1) := by decide +kernel
theorem dX11_roomHere_9 : decode cX11_roomHere 9 = .ok (.aload_n 0, 1) := by decide +kernel
theorem dX11_roomHere_10 : decode cX11_roomHere 10 = .ok (.invokevirtual 127, 3) := by decide +kernel
theorem dX11_roomHere_13 : decode cX11_roomHere 13 = .ok (.istore_n 3, 1) := by decide +kernel
theorem dX11_roomHere_14 : decode cX11_roomHere 14 = .ok (.aload_n 0, 1) := by decide +kernel
theorem dX11_roomHere_15 : decode cX11_roomHere 15 = .ok (.iconst 0, 1) := by decide +kernel
theorem dX11_roomHere_16 : decode cX11_roomHere 16 = .ok (.bipush 23, 2) := by decide +kernel
theorem dX11_roomHere_18 : decode cX11_roomHere 18 = .ok (.iconst 3, 1) := by decide +kernel
theorem dX11_roomHere_19 : decode cX11_roomHere 19 = .ok (.invokevirtual 130, 3) := by decide +kernel
theorem dX11_roomHere_22 : decode cX11_roomHere 22 = .ok (.istore 4, 2) := by decide +kernel
theorem dX11_roomHere_24 : decode cX11_roomHere 24 = .ok (.aload_n 0, 1) := by decide +kernel
theorem dX11_roomHere_25 : decode cX11_roomHere 25 = .ok (.getfield 25, 3) := by decide +kernel
theorem dX11_roomHere_28 : decode cX11_roomHere 28 = .ok (.iconst (-1), 1) := by decide +kernel
theorem dX11_roomHere_29 : decode cX11_roomHere 29 = .ok (.if_icmp .ne 33, 3) := by decide +kernel
theorem dX11_roomHere_32 : decode cX11_roomHere 32 = .ok (.aload_n 0, 1) := by decide +kernel
theorem dX11_roomHere_33 : decode cX11_roomHere 33 = .ok (.bipush 24, 2) := by decide +kernel
theorem dX11_roomHere_35 : decode cX11_roomHere 35 = .ok (.iload_n 2, 1) := by decide +kernel
theorem dX11_roomHere_36 : decode cX11_roomHere 36 = .ok (.imul, 1) := by decide +kernel
theorem dX11_roomHere_37 : decode cX11_roomHere 37 = .ok (.iload 4, 2) := by decide +kernel
theorem dX11_roomHere_39 : decode cX11_roomHere 39 = .ok (.iadd, 1) := by decide +kernel
theorem dX11_roomHere_40 : decode cX11_roomHere 40 = .ok (.iconst 0, 1) := by decide +kernel
theorem dX11_roomHere_41 : decode cX11_roomHere 41 = .ok (.invokevirtual 84, 3) := by decide +kernel
theorem dX11_roomHere_44 : decode cX11_roomHere 44 = .ok (.iconst (-1), 1) := by decide +kernel
theorem dX11_roomHere_45 : decode cX11_roomHere 45 = .ok (.if_icmp .eq 7, 3) := by decide +kernel
theorem dX11_roomHere_48 : decode cX11_roomHere 48 = .ok (.iconst 1, 1) := by decide +kernel
theorem dX11_roomHere_49 : decode cX11_roomHere 49 = .ok (.goto 4, 3) := by decide +kernel
theorem dX11_roomHere_52 : decode cX11_roomHere 52 = .ok (.iconst 0, 1) := by decide +kernel
theorem dX11_roomHere_53 : decode cX11_roomHere 53 = .ok (.iload_n 1, 1) := by decide +kernel
theorem dX11_roomHere_54 : decode cX11_roomHere 54 = .ok (.if_icmp .eq 8, 3) := by decide +kernel
theorem dX11_roomHere_57 : decode cX11_roomHere 57 = .ok (.aload_n 0, 1) := by decide +kernel
theorem dX11_roomHere_58 : decode cX11_roomHere 58 = .ok (.iload_n 3, 1) := by decide +kernel
theorem dX11_roomHere_59 : decode cX11_roomHere 59 = .ok (.invokevirtual 123, 3) := by decide +kernel
theorem dX11_roomHere_62 : decode cX11_roomHere 62 = .ok (.aload_n 0, 1) := by decide +kernel
theorem dX11_roomHere_63 : decode cX11_roomHere 63 = .ok (.getfield 25, 3) := by decide +kernel
theorem dX11_roomHere_66 : decode cX11_roomHere 66 = .ok (.iconst (-1), 1) := by decide +kernel
theorem dX11_roomHere_67 : decode cX11_roomHere 67 = .ok (.if_icmp .ne 13, 3) := by decide +kernel
theorem dX11_roomHere_70 : decode cX11_roomHere 70 = .ok (.bipush 24, 2) := by decide +kernel
theorem dX11_roomHere_72 : decode cX11_roomHere 72 = .ok (.iload_n 2, 1) := by decide +kernel
theorem dX11_roomHere_73 : decode cX11_roomHere 73 = .ok (.imul, 1) := by decide +kernel
theorem dX11_roomHere_74 : decode cX11_roomHere 74 = .ok (.iload 4, 2) := by decide +kernel
theorem dX11_roomHere_76 : decode cX11_roomHere 76 = .ok (.iadd, 1) := by decide +kernel
theorem dX11_roomHere_77 : decode cX11_roomHere 77 = .ok (.goto 4, 3) := by decide +kernel
theorem dX11_roomHere_80 : decode cX11_roomHere 80 = .ok (.iconst 0, 1) := by decide +kernel
theorem dX11_roomHere_81 : decode cX11_roomHere 81 = .ok (.ireturn, 1) := by decide +kernel
theorem dX11_wantLine_0 : decode cX11_wantLine 0 = .ok (.aload_n 0, 1) := by decide +kernel
theorem dX11_wantLine_1 : decode cX11_wantLine 1 = .ok (.invokevirtual 146, 3) := by decide +kernel
theorem dX11_wantLine_4 : decode cX11_wantLine 4 = .ok (.istore_n 1, 1) := by decide +kernel
theorem dX11_wantLine_5 : decode cX11_wantLine 5 = .ok (.aload_n 0, 1) := by decide +kernel
theorem dX11_wantLine_6 : decode cX11_wantLine 6 = .ok (.iconst 1, 1) := by decide +kernel
theorem dX11_wantLine_7 : decode cX11_wantLine 7 = .ok (.bipush 20, 2) := by decide +kernel
theorem dX11_wantLine_9 : decode cX11_wantLine 9 = .ok (.iconst 3, 1) := by decide +kernel
theorem dX11_wantLine_10 : decode cX11_wantLine 10 = .ok (.invokevirtual 130, 3) := by decide +kernel
theorem dX11_wantLine_13 : decode cX11_wantLine 13 = .ok (.istore_n 2, 1) := by decide +kernel
theorem dX11_wantLine_14 : decode cX11_wantLine 14 = .ok (.aload_n 0, 1) := by decide +kernel
theorem dX11_wantLine_15 : decode cX11_wantLine 15 = .ok (.ldc 182, 2) := by decide +kernel
theorem dX11_wantLine_17 : decode cX11_wantLine 17 = .ok (.invokevirtual 136, 3) := by decide +kernel
theorem dX11_wantLine_20 : decode cX11_wantLine 20 = .ok (.aload_n 0, 1) := by decide +kernel
theorem dX11_wantLine_21 : decode cX11_wantLine 21 = .ok (.iconst 0, 1) := by decide +kernel
theorem dX11_wantLine_22 : decode cX11_wantLine 22 = .ok (.bipush 23, 2) := by decide +kernel
theorem dX11_wantLine_24 : decode cX11_wantLine 24 = .ok (.iconst 3, 1) := by decide +kernel
theorem dX11_wantLine_25 : decode cX11_wantLine 25 = .ok (.invokevirtual 130, 3) := by decide +kernel
theorem dX11_wantLine_28 : decode cX11_wantLine 28 = .ok (.istore_n 3, 1) := by decide +kernel
theorem dX11_wantLine_29 : decode cX11_wantLine 29 = .ok (.aload_n 0, 1) := by decide +kernel
theorem dX11_wantLine_30 : decode cX11_wantLine 30 = .ok (.ldc 140, 2) := by decide +kernel
theorem dX11_wantLine_32 : decode cX11_wantLine 32 = .ok (.invokevirtual 136, 3) := by decide +kernel
theorem dX11_wantLine_35 : decode cX11_wantLine 35 = .ok (.aload_n 0, 1) := by decide +kernel
theorem dX11_wantLine_36 : decode cX11_wantLine 36 = .ok (.iload_n 3, 1) := by decide +kernel
theorem dX11_wantLine_37 : decode cX11_wantLine 37 = .ok (.bipush 23, 2) := by decide +kernel
theorem dX11_wantLine_39 : decode cX11_wantLine 39 = .ok (.iconst 3, 1) := by decide +kernel
theorem dX11_wantLine_40 : decode cX11_wantLine 40 = .ok (.invokevirtual 130, 3) := by decide +kernel
theorem dX11_wantLine_43 : decode cX11_wantLine 43 = .ok (.istore 4, 2) := by decide +kernel
theorem dX11_wantLine_45 : decode cX11_wantLine 45 = .ok (.aload_n 0, 1) := by decide +kernel
theorem dX11_wantLine_46 : decode cX11_wantLine 46 = .ok (.getfield 25, 3) := by decide +kernel
theorem dX11_wantLine_49 : decode cX11_wantLine 49 = .ok (.iconst (-1), 1) := by decide +kernel
theorem dX11_wantLine_50 : decode cX11_wantLine 50 = .ok (.if_icmp .eq 4, 3) := by decide +kernel
theorem dX11_wantLine_53 : decode cX11_wantLine 53 = .ok (.return_, 1) := by decide +kernel
theorem dX11_wantLine_54 : decode cX11_wantLine 54 = .ok (.bipush 56, 2) := by decide +kernel
theorem dX11_wantLine_56 : decode cX11_wantLine 56 = .ok (.iconst 4, 1) := by decide +kernel
theorem dX11_wantLine_57 : decode cX11_wantLine 57 = .ok (.aload_n 0, 1) := by decide +kernel
theorem dX11_wantLine_58 : decode cX11_wantLine 58 = .ok (.getfield 7, 3) := by decide +kernel
theorem dX11_wantLine_61 : decode cX11_wantLine 61 = .ok (.bipush 9, 2) := by decide +kernel
theorem dX11_wantLine_63 : decode cX11_wantLine 63 = .ok (.iaload, 1) := by decide +kernel
theorem dX11_wantLine_64 : decode cX11_wantLine 64 = .ok (.imul, 1) := by decide +kernel
theorem dX11_wantLine_65 : decode cX11_wantLine 65 = .ok (.iadd, 1) := by decide +kernel
theorem dX11_wantLine_66 : decode cX11_wantLine 66 = .ok (.istore 5, 2) := by decide +kernel
theorem dX11_wantLine_68 : decode cX11_wantLine 68 = .ok (.aload_n 0, 1) := by decide +kernel
theorem dX11_wantLine_69 : decode cX11_wantLine 69 = .ok (.getfield 7, 3) := by decide +kernel
theorem dX11_wantLine_72 : decode cX11_wantLine 72 = .ok (.iload 5, 2) := by decide +kernel
theorem dX11_wantLine_74 : decode cX11_wantLine 74 = .ok (.iload_n 1, 1) := by decide +kernel
theorem dX11_wantLine_75 : decode cX11_wantLine 75 = .ok (.iastore, 1) := by decide +kernel
theorem dX11_wantLine_76 : decode cX11_wantLine 76 = .ok (.aload_n 0, 1) := by decide +kernel
theorem dX11_wantLine_77 : decode cX11_wantLine 77 = .ok (.getfield 7, 3) := by decide +kernel
theorem dX11_wantLine_80 : decode cX11_wantLine 80 = .ok (.iload 5, 2) := by decide +kernel
theorem dX11_wantLine_82 : decode cX11_wantLine 82 = .ok (.iconst 1, 1) := by decide +kernel
theorem dX11_wantLine_83 : decode cX11_wantLine 83 = .ok (.iadd, 1) := by decide +kernel
theorem dX11_wantLine_84 : decode cX11_wantLine 84 = .ok (.iload_n 2, 1) := by decide +kernel
theorem dX11_wantLine_85 : decode cX11_wantLine 85 = .ok (.iastore, 1) := by decide +kernel
theorem dX11_wantLine_86 : decode cX11_wantLine 86 = .ok (.aload_n 0, 1) := by decide +kernel
theorem dX11_wantLine_87 : decode cX11_wantLine 87 = .ok (.getfield 7, 3) := by decide +kernel
theorem dX11_wantLine_90 : decode cX11_wantLine 90 = .ok (.iload 5, 2) := by decide +kernel
theorem dX11_wantLine_92 : decode cX11_wantLine 92 = .ok (.iconst 2, 1) := by decide +kernel
theorem dX11_wantLine_93 : decode cX11_wantLine 93 = .ok (.iadd, 1) := by decide +kernel
theorem dX11_wantLine_94 : decode cX11_wantLine 94 = .ok (.iload_n 3, 1) := by decide +kernel
theorem dX11_wantLine_95 : decode cX11_wantLine 95 = .ok (.iastore, 1) := by decide +kernel
theorem dX11_wantLine_96 : decode cX11_wantLine 96 = .ok (.aload_n 0, 1) := by decide +kernel
theorem dX11_wantLine_97 : decode cX11_wantLine 97 = .ok (.getfield 7, 3) := by decide +kernel
theorem dX11_wantLine_100 : decode cX11_wantLine 100 = .ok (.iload 5, 2) := by decide +kernel
theorem dX11_wantLine_102 : decode cX11_wantLine 102 = .ok (.iconst 3, 1) := by decide +kernel
theorem dX11_wantLine_103 : decode cX11_wantLine 103 = .ok (.iadd, 1) := by decide +kernel
theorem dX11_wantLine_104 : decode cX11_wantLine 104 = .ok (.iload 4, 2) := by decide +kernel
theorem dX11_wantLine_106 : decode cX11_wantLine 106 = .ok (.iastore, 1) := by decide +kernel
theorem dX11_wantLine_107 : decode cX11_wantLine 107 = .ok (.aload_n 0, 1) := by decide +kernel
theorem dX11_wantLine_108 : decode cX11_wantLine 108 = .ok (.getfield 7, 3) := by decide +kernel
theorem dX11_wantLine_111 : decode cX11_wantLine 111 = .ok (.bipush 9, 2) := by decide +kernel
theorem dX11_wantLine_113 : decode cX11_wantLine 113 = .ok (.dup2, 1) := by decide +kernel
theorem dX11_wantLine_114 : decode cX11_wantLine 114 = .ok (.iaload, 1) := by decide +kernel
theorem dX11_wantLine_115 : decode cX11_wantLine 115 = .ok (.iconst 1, 1) := by decide +kernel
theorem dX11_wantLine_116 : decode cX11_wantLine 116 = .ok (.iadd, 1) := by decide +kernel
theorem dX11_wantLine_117 : decode cX11_wantLine 117 = .ok (.iastore, 1) := by decide +kernel
theorem dX11_wantLine_118 : decode cX11_wantLine 118 = .ok (.return_, 1) := by decide +kernel
theorem dX11_begins_0 : decode cX11_begins 0 = .ok (.aload_n 0, 1) := by decide +kernel
theorem dX11_begins_1 : decode cX11_begins 1 = .ok (.iconst (-1), 1) := by decide +kernel
theorem dX11_begins_2 : decode cX11_begins 2 = .ok (.putfield 25, 3) := by decide +kernel
theorem dX11_begins_5 : decode cX11_begins 5 = .ok (.aload_n 0, 1) := by decide +kernel
theorem dX11_begins_6 : decode cX11_begins 6 = .ok (.iconst (-1), 1) := by decide +kernel
theorem dX11_begins_7 : decode cX11_begins 7 = .ok (.putfield 94, 3) := by decide +kernel
theorem dX11_begins_10 : decode cX11_begins 10 = .ok (.aload_n 0, 1) := by decide +kernel
theorem dX11_begins_11 : decode cX11_begins 11 = .ok (.aload_n 0, 1) := by decide +kernel
theorem dX11_begins_12 : decode cX11_begins 12 = .ok (.getfield 91, 3) := by decide +kernel
theorem dX11_begins_15 : decode cX11_begins 15 = .ok (.putfield 100, 3) := by decide +kernel
theorem dX11_begins_18 : decode cX11_begins 18 = .ok (.aload_n 0, 1) := by decide +kernel
theorem dX11_begins_19 : decode cX11_begins 19 = .ok (.iconst 0, 1) := by decide +kernel
theorem dX11_begins_20 : decode cX11_begins 20 = .ok (.putfield 91, 3) := by decide +kernel
theorem dX11_begins_23 : decode cX11_begins 23 = .ok (.aload_n 0, 1) := by decide +kernel
theorem dX11_begins_24 : decode cX11_begins 24 = .ok (.iconst 0, 1) := by decide +kernel
theorem dX11_begins_25 : decode cX11_begins 25 = .ok (.putfield 97, 3) := by decide +kernel
theorem dX11_begins_28 : decode cX11_begins 28 = .ok (.aload_n 0, 1) := by decide +kernel
theorem dX11_begins_29 : decode cX11_begins 29 = .ok (.iconst 0, 1) := by decide +kernel
theorem dX11_begins_30 : decode cX11_begins 30 = .ok (.putfield 184, 3) := by decide +kernel
theorem dX11_begins_33 : decode cX11_begins 33 = .ok (.return_, 1) := by decide +kernel
theorem dX11_read_0 : decode cX11_read 0 = .ok (.aload_n 0, 1) := by decide +kernel
theorem dX11_read_1 : decode cX11_read 1 = .ok (.invokevirtual 106, 3) := by decide +kernel
theorem dX11_read_4 : decode cX11_read 4 = .ok (.aload_n 0, 1) := by decide +kernel
theorem dX11_read_5 : decode cX11_read 5 = .ok (.getfield 97, 3) := by decide +kernel
theorem dX11_read_8 : decode cX11_read 8 = .ok (.aload_n 0, 1) := by decide +kernel
theorem dX11_read_9 : decode cX11_read 9 = .ok (.getfield 100, 3) := by decide +kernel
theorem dX11_read_12 : decode cX11_read 12 = .ok (.if_icmp .ge 7, 3) := by decide +kernel
theorem dX11_read_15 : decode cX11_read 15 = .ok (.iconst 1, 1) := by decide +kernel
theorem dX11_read_16 : decode cX11_read 16 = .ok (.goto 4, 3) := by decide +kernel
theorem dX11_read_19 : decode cX11_read 19 = .ok (.iconst 0, 1) := by decide +kernel
theorem dX11_read_20 : decode cX11_read 20 = .ok (.istore_n 2, 1) := by decide +kernel
theorem dX11_read_21 : decode cX11_read 21 = .ok (.iconst 0, 1) := by decide +kernel
theorem dX11_read_22 : decode cX11_read 22 = .ok (.istore_n 3, 1) := by decide +kernel
theorem dX11_read_23 : decode cX11_read 23 = .ok (.iload_n 2, 1) := by decide +kernel
theorem dX11_read_24 : decode cX11_read 24 = .ok (.ifCond .eq 120, 3) := by decide +kernel
theorem dX11_read_27 : decode cX11_read 27 = .ok (.aload_n 0, 1) := by decide +kernel
theorem dX11_read_28 : decode cX11_read 28 = .ok (.getfield 25, 3) := by decide +kernel
theorem dX11_read_31 : decode cX11_read 31 = .ok (.iconst (-1), 1) := by decide +kernel
theorem dX11_read_32 : decode cX11_read 32 = .ok (.if_icmp .ne 112, 3) := by decide +kernel
theorem dX11_read_35 : decode cX11_read 35 = .ok (.aload_n 0, 1) := by decide +kernel
theorem dX11_read_36 : decode cX11_read 36 = .ok (.invokevirtual 106, 3) := by decide +kernel
theorem dX11_read_39 : decode cX11_read 39 = .ok (.iload_n 3, 1) := by decide +kernel
theorem dX11_read_40 : decode cX11_read 40 = .ok (.iload_n 1, 1) := by decide +kernel
theorem dX11_read_41 : decode cX11_read 41 = .ok (.ifCond .eq 8, 3) := by decide +kernel
theorem dX11_read_44 : decode cX11_read 44 = .ok (.bipush 12, 2) := by decide +kernel
theorem dX11_read_46 : decode cX11_read 46 = .ok (.goto 5, 3) := by decide +kernel
theorem dX11_read_49 : decode cX11_read 49 = .ok (.bipush 14, 2) := by decide +kernel
theorem dX11_read_51 : decode cX11_read 51 = .ok (.if_icmp .ne 14, 3) := by decide +kernel
theorem dX11_read_54 : decode cX11_read 54 = .ok (.aload_n 0, 1) := by decide +kernel
theorem dX11_read_55 : decode cX11_read 55 = .ok (.aload_n 0, 1) := by decide +kernel
theorem dX11_read_56 : decode cX11_read 56 = .ok (.getfield 97, 3) := by decide +kernel
theorem dX11_read_59 : decode cX11_read 59 = .ok (.invokevirtual 123, 3) := by decide +kernel
theorem dX11_read_62 : decode cX11_read 62 = .ok (.goto 18, 3) := by decide +kernel
theorem dX11_read_65 : decode cX11_read 65 = .ok (.iload_n 1, 1) := by decide +kernel
theorem dX11_read_66 : decode cX11_read 66 = .ok (.ifCond .eq 10, 3) := by decide +kernel
theorem dX11_read_69 : decode cX11_read 69 = .ok (.aload_n 0, 1) := by decide +kernel
theorem dX11_read_70 : decode cX11_read 70 = .ok (.invokevirtual 187, 3) := by decide +kernel
theorem dX11_read_73 : decode cX11_read 73 = .ok (.goto 7, 3) := by decide +kernel
theorem dX11_read_76 : decode cX11_read 76 = .ok (.aload_n 0, 1) := by decide +kernel
theorem dX11_read_77 : decode cX11_read 77 = .ok (.invokevirtual 190, 3) := by decide +kernel
theorem dX11_read_80 : decode cX11_read 80 = .ok (.iinc 3 1, 3) := by decide +kernel
theorem dX11_read_83 : decode cX11_read 83 = .ok (.aload_n 0, 1) := by decide +kernel
theorem dX11_read_84 : decode cX11_read 84 = .ok (.invokevirtual 106, 3) := by decide +kernel
theorem dX11_read_87 : decode cX11_read 87 = .ok (.aload_n 0, 1) := by decide +kernel
theorem dX11_read_88 : decode cX11_read 88 = .ok (.getfield 25, 3) := by decide +kernel
theorem dX11_read_91 : decode cX11_read 91 = .ok (.iconst (-1), 1) := by decide +kernel
theorem dX11_read_92 : decode cX11_read 92 = .ok (.if_icmp .ne 14, 3) := by decide +kernel
theorem dX11_read_95 : decode cX11_read 95 = .ok (.aload_n 0, 1) := by decide +kernel
theorem dX11_read_96 : decode cX11_read 96 = .ok (.getfield 97, 3) := by decide +kernel
theorem dX11_read_99 : decode cX11_read 99 = .ok (.aload_n 0, 1) := by decide +kernel
theorem dX11_read_100 : decode cX11_read 100 = .ok (.getfield 100, 3) := by decide +kernel
theorem dX11_read_103 : decode cX11_read 103 = .ok (.if_icmp .ne 8, 3) := by decide +kernel
theorem dX11_read_106 : decode cX11_read 106 = .ok (.iconst 0, 1) := by decide +kernel
theorem dX11_read_107 : decode cX11_read 107 = .ok (.istore_n 2, 1) := by decide +kernel
theorem dX11_read_108 : decode cX11_read 108 = .ok (.goto (-85), 3) := by decide +kernel
theorem dX11_read_111 : decode cX11_read 111 = .ok (.aload_n 0, 1) := by decide +kernel
theorem dX11_read_112 : decode cX11_read 112 = .ok (.bipush 59, 2) := by decide +kernel
theorem dX11_read_114 : decode cX11_read 114 = .ok (.invokevirtual 193, 3) := by decide +kernel
theorem dX11_read_117 : decode cX11_read 117 = .ok (.ifCond .eq 16, 3) := by decide +kernel
theorem dX11_read_120 : decode cX11_read 120 = .ok (.aload_n 0, 1) := by decide +kernel
theorem dX11_read_121 : decode cX11_read 121 = .ok (.dup, 1) := by decide +kernel
theorem dX11_read_122 : decode cX11_read 122 = .ok (.getfield 97, 3) := by decide +kernel
theorem dX11_read_125 : decode cX11_read 125 = .ok (.iconst 1, 1) := by decide +kernel
theorem dX11_read_126 : decode cX11_read 126 = .ok (.iadd, 1) := by decide +kernel
theorem dX11_read_127 : decode cX11_read 127 = .ok (.putfield 97, 3) := by decide +kernel
theorem dX11_read_130 : decode cX11_read 130 = .ok (.goto (-107), 3) := by decide +kernel
theorem dX11_read_133 : decode cX11_read 133 = .ok (.aload_n 0, 1) := by decide +kernel
theorem dX11_read_134 : decode cX11_read 134 = .ok (.aload_n 0, 1) := by decide +kernel
theorem dX11_read_135 : decode cX11_read 135 = .ok (.getfield 97, 3) := by decide +kernel
theorem dX11_read_138 : decode cX11_read 138 = .ok (.invokevirtual 123, 3) := by decide +kernel
theorem dX11_read_141 : decode cX11_read 141 = .ok (.goto (-118), 3) := by decide +kernel
theorem dX11_read_144 : decode cX11_read 144 = .ok (.iload_n 3, 1) := by decide +kernel
theorem dX11_read_145 : decode cX11_read 145 = .ok (.ireturn, 1) := by decide +kernel
theorem dX11_town_0 : decode cX11_town 0 = .ok (.iconst 0, 1) := by decide +kernel
theorem dX11_town_1 : decode cX11_town 1 = .ok (.istore_n 1, 1) := by decide +kernel
theorem dX11_town_2 : decode cX11_town 2 = .ok (.iload_n 1, 1) := by decide +kernel
theorem dX11_town_3 : decode cX11_town 3 = .ok (.sipush 1080, 3) := by decide +kernel
theorem dX11_town_6 : decode cX11_town 6 = .ok (.if_icmp .ge 21, 3) := by decide +kernel
theorem dX11_town_9 : decode cX11_town 9 = .ok (.aload_n 0, 1) := by decide +kernel
theorem dX11_town_10 : decode cX11_town 10 = .ok (.getfield 16, 3) := by decide +kernel
theorem dX11_town_13 : decode cX11_town 13 = .ok (.iload_n 1, 1) := by decide +kernel
theorem dX11_town_14 : decode cX11_town 14 = .ok (.aload_n 0, 1) := by decide +kernel
theorem dX11_town_15 : decode cX11_town 15 = .ok (.getfield 7, 3) := by decide +kernel
theorem dX11_town_18 : decode cX11_town 18 = .ok (.iload_n 1, 1) := by decide +kernel
theorem dX11_town_19 : decode cX11_town 19 = .ok (.iaload, 1) := by decide +kernel
theorem dX11_town_20 : decode cX11_town 20 = .ok (.iastore, 1) := by decide +kernel
theorem dX11_town_21 : decode cX11_town 21 = .ok (.iinc 1 1, 3) := by decide +kernel
theorem dX11_town_24 : decode cX11_town 24 = .ok (.goto (-22), 3) := by decide +kernel
theorem dX11_town_27 : decode cX11_town 27 = .ok (.aload_n 0, 1) := by decide +kernel
theorem dX11_town_28 : decode cX11_town 28 = .ok (.invokevirtual 196, 3) := by decide +kernel
theorem dX11_town_31 : decode cX11_town 31 = .ok (.aload_n 0, 1) := by decide +kernel
theorem dX11_town_32 : decode cX11_town 32 = .ok (.iconst 0, 1) := by decide +kernel
theorem dX11_town_33 : decode cX11_town 33 = .ok (.invokevirtual 199, 3) := by decide +kernel
theorem dX11_town_36 : decode cX11_town 36 = .ok (.pop, 1) := by decide +kernel
theorem dX11_town_37 : decode cX11_town 37 = .ok (.aload_n 0, 1) := by decide +kernel
theorem dX11_town_38 : decode cX11_town 38 = .ok (.aload_n 0, 1) := by decide +kernel
theorem dX11_town_39 : decode cX11_town 39 = .ok (.getfield 25, 3) := by decide +kernel
theorem dX11_town_42 : decode cX11_town 42 = .ok (.iconst (-1), 1) := by decide +kernel
theorem dX11_town_43 : decode cX11_town 43 = .ok (.if_icmp .eq 7, 3) := by decide +kernel
theorem dX11_town_46 : decode cX11_town 46 = .ok (.iconst 1, 1) := by decide +kernel
theorem dX11_town_47 : decode cX11_town 47 = .ok (.goto 19, 3) := by decide +kernel
theorem dX11_town_50 : decode cX11_town 50 = .ok (.aload_n 0, 1) := by decide +kernel
theorem dX11_town_51 : decode cX11_town 51 = .ok (.getfield 7, 3) := by decide +kernel
theorem dX11_town_54 : decode cX11_town 54 = .ok (.iconst 0, 1) := by decide +kernel
theorem dX11_town_55 : decode cX11_town 55 = .ok (.iaload, 1) := by decide +kernel
theorem dX11_town_56 : decode cX11_town 56 = .ok (.bipush 12, 2) := by decide +kernel
theorem dX11_town_58 : decode cX11_town 58 = .ok (.if_icmp .ne 7, 3) := by decide +kernel
theorem dX11_town_61 : decode cX11_town 61 = .ok (.iconst 2, 1) := by decide +kernel
theorem dX11_town_62 : decode cX11_town 62 = .ok (.goto 4, 3) := by decide +kernel
theorem dX11_town_65 : decode cX11_town 65 = .ok (.iconst 0, 1) := by decide +kernel
theorem dX11_town_66 : decode cX11_town 66 = .ok (.putfield 69, 3) := by decide +kernel
theorem dX11_town_69 : decode cX11_town 69 = .ok (.aload_n 0, 1) := by decide +kernel
theorem dX11_town_70 : decode cX11_town 70 = .ok (.getfield 69, 3) := by decide +kernel
theorem dX11_town_73 : decode cX11_town 73 = .ok (.ifCond .le 32, 3) := by decide +kernel
theorem dX11_town_76 : decode cX11_town 76 = .ok (.iconst 0, 1) := by decide +kernel
theorem dX11_town_77 : decode cX11_town 77 = .ok (.istore_n 1, 1) := by decide +kernel
theorem dX11_town_78 : decode cX11_town 78 = .ok (.iload_n 1, 1) := by decide +kernel
theorem dX11_town_79 : decode cX11_town 79 = .ok (.sipush 1080, 3) := by decide +kernel
theorem dX11_town_82 : decode cX11_town 82 = .ok (.if_icmp .ge 21, 3) := by decide +kernel
theorem dX11_town_85 : decode cX11_town 85 = .ok (.aload_n 0, 1) := by decide +kernel
theorem dX11_town_86 : decode cX11_town 86 = .ok (.getfield 7, 3) := by decide +kernel
theorem dX11_town_89 : decode cX11_town 89 = .ok (.iload_n 1, 1) := by decide +kernel
theorem dX11_town_90 : decode cX11_town 90 = .ok (.aload_n 0, 1) := by decide +kernel
theorem dX11_town_91 : decode cX11_town 91 = .ok (.getfield 16, 3) := by decide +kernel
theorem dX11_town_94 : decode cX11_town 94 = .ok (.iload_n 1, 1) := by decide +kernel
theorem dX11_town_95 : decode cX11_town 95 = .ok (.iaload, 1) := by decide +kernel
theorem dX11_town_96 : decode cX11_town 96 = .ok (.iastore, 1) := by decide +kernel
theorem dX11_town_97 : decode cX11_town 97 = .ok (.iinc 1 1, 3) := by decide +kernel
theorem dX11_town_100 : decode cX11_town 100 = .ok (.goto (-22), 3) := by decide +kernel
theorem dX11_town_103 : decode cX11_town 103 = .ok (.iconst 0, 1) := by decide +kernel
theorem dX11_town_104 : decode cX11_town 104 = .ok (.ireturn, 1) := by decide +kernel
theorem dX11_town_105 : decode cX11_town 105 = .ok (.aload_n 0, 1) := by decide +kernel
theorem dX11_town_106 : decode cX11_town 106 = .ok (.getfield 7, 3) := by decide +kernel
theorem dX11_town_109 : decode cX11_town 109 = .ok (.iconst 0, 1) := by decide +kernel
theorem dX11_town_110 : decode cX11_town 110 = .ok (.dup2, 1) := by decide +kernel
theorem dX11_town_111 : decode cX11_town 111 = .ok (.iaload, 1) := by decide +kernel
theorem dX11_town_112 : decode cX11_town 112 = .ok (.iconst 1, 1) := by decide +kernel
theorem dX11_town_113 : decode cX11_town 113 = .ok (.iadd, 1) := by decide +kernel
theorem dX11_town_114 : decode cX11_town 114 = .ok (.iastore, 1) := by decide +kernel
theorem dX11_town_115 : decode cX11_town 115 = .ok (.aload_n 0, 1) := by decide +kernel
theorem dX11_town_116 : decode cX11_town 116 = .ok (.iconst 0, 1) := by decide +kernel
theorem dX11_town_117 : decode cX11_town 117 = .ok (.putfield 202, 3) := by decide +kernel
theorem dX11_town_120 : decode cX11_town 120 = .ok (.aload_n 0, 1) := by decide +kernel
theorem dX11_town_121 : decode cX11_town 121 = .ok (.getfield 7, 3) := by decide +kernel
theorem dX11_town_124 : decode cX11_town 124 = .ok (.iconst 0, 1) := by decide +kernel
theorem dX11_town_125 : decode cX11_town 125 = .ok (.iaload, 1) := by decide +kernel
theorem dX11_town_126 : decode cX11_town 126 = .ok (.ireturn, 1) := by decide +kernel
theorem dX11_part_0 : decode cX11_part 0 = .ok (.aload_n 0, 1) := by decide +kernel
theorem dX11_part_1 : decode cX11_part 1 = .ok (.getfield 25, 3) := by decide +kernel
theorem dX11_part_4 : decode cX11_part 4 = .ok (.iconst (-1), 1) := by decide +kernel
theorem dX11_part_5 : decode cX11_part 5 = .ok (.if_icmp .eq 5, 3) := by decide +kernel
theorem dX11_part_8 : decode cX11_part 8 = .ok (.iconst 0, 1) := by decide +kernel
theorem dX11_part_9 : decode cX11_part 9 = .ok (.ireturn, 1) := by decide +kernel
theorem dX11_part_10 : decode cX11_part 10 = .ok (.aload_n 0, 1) := by decide +kernel
theorem dX11_part_11 : decode cX11_part 11 = .ok (.invokevirtual 106, 3) := by decide +kernel
theorem dX11_part_14 : decode cX11_part 14 = .ok (.aload_n 0, 1) := by decide +kernel
theorem dX11_part_15 : decode cX11_part 15 = .ok (.getfield 97, 3) := by decide +kernel
theorem dX11_part_18 : decode cX11_part 18 = .ok (.aload_n 0, 1) := by decide +kernel
theorem dX11_part_19 : decode cX11_part 19 = .ok (.getfield 100, 3) := by decide +kernel
theorem dX11_part_22 : decode cX11_part 22 = .ok (.if_icmp .ge 31, 3) := by decide +kernel
theorem dX11_part_25 : decode cX11_part 25 = .ok (.aload_n 0, 1) := by decide +kernel
theorem dX11_part_26 : decode cX11_part 26 = .ok (.aload_n 0, 1) := by decide +kernel
theorem dX11_part_27 : decode cX11_part 27 = .ok (.getfield 97, 3) := by decide +kernel
theorem dX11_part_30 : decode cX11_part 30 = .ok (.invokevirtual 103, 3) := by decide +kernel
theorem dX11_part_33 : decode cX11_part 33 = .ok (.bipush 48, 2) := by decide +kernel
theorem dX11_part_35 : decode cX11_part 35 = .ok (.bipush 57, 2) := by decide +kernel
theorem dX11_part_37 : decode cX11_part 37 = .ok (.invokestatic 72, 3) := by decide +kernel
theorem dX11_part_40 : decode cX11_part 40 = .ok (.ifCond .eq 13, 3) := by decide +kernel
theorem dX11_part_43 : decode cX11_part 43 = .ok (.aload_n 0, 1) := by decide +kernel
theorem dX11_part_44 : decode cX11_part 44 = .ok (.iconst 0, 1) := by decide +kernel
theorem dX11_part_45 : decode cX11_part 45 = .ok (.sipush 999, 3) := by decide +kernel
theorem dX11_part_48 : decode cX11_part 48 = .ok (.iconst 3, 1) := by decide +kernel
theorem dX11_part_49 : decode cX11_part 49 = .ok (.invokevirtual 130, 3) := by decide +kernel
theorem dX11_part_52 : decode cX11_part 52 = .ok (.ireturn, 1) := by decide +kernel
theorem dX11_part_53 : decode cX11_part 53 = .ok (.aload_n 0, 1) := by decide +kernel
theorem dX11_part_54 : decode cX11_part 54 = .ok (.ldc 205, 2) := by decide +kernel
theorem dX11_part_56 : decode cX11_part 56 = .ok (.invokevirtual 119, 3) := by decide +kernel
theorem dX11_part_59 : decode cX11_part 59 = .ok (.ifCond .eq 7, 3) := by decide +kernel
theorem dX11_part_62 : decode cX11_part 62 = .ok (.iconst 0, 1) := by decide +kernel
theorem dX11_part_63 : decode cX11_part 63 = .ok (.goto 69, 3) := by decide +kernel
theorem dX11_part_66 : decode cX11_part 66 = .ok (.aload_n 0, 1) := by decide +kernel
theorem dX11_part_67 : decode cX11_part 67 = .ok (.ldc 207, 2) := by decide +kernel
theorem dX11_part_69 : decode cX11_part 69 = .ok (.invokevirtual 119, 3) := by decide +kernel
theorem dX11_part_72 : decode cX11_part 72 = .ok (.ifCond .eq 7, 3) := by decide +kernel
theorem dX11_part_75 : decode cX11_part 75 = .ok (.iconst 1, 1) := by decide +kernel
theorem dX11_part_76 : decode cX11_part 76 = .ok (.goto 56, 3) := by decide +kernel
theorem dX11_part_79 : decode cX11_part 79 = .ok (.aload_n 0, 1) := by decide +kernel
theorem dX11_part_80 : decode cX11_part 80 = .ok (.ldc 209, 2) := by decide +kernel
theorem dX11_part_82 : decode cX11_part 82 = .ok (.invokevirtual 119, 3) := by decide +kernel
theorem dX11_part_85 : decode cX11_part 85 = .ok (.ifCond .eq 7, 3) := by decide +kernel
theorem dX11_part_88 : decode cX11_part 88 = .ok (.iconst 2, 1) := by decide +kernel
theorem dX11_part_89 : decode cX11_part 89 = .ok (.goto 43, 3) := by decide +kernel
theorem dX11_part_92 : decode cX11_part 92 = .ok (.aload_n 0, 1) := by decide +kernel
theorem dX11_part_93 : decode cX11_part 93 = .ok (.ldc 211, 2) := by decide +kernel
theorem dX11_part_95 : decode cX11_part 95 = .ok (.invokevirtual 119, 3) := by decide +kernel
theorem dX11_part_98 : decode cX11_part 98 = .ok (.ifCond .eq 7, 3) := by decide +kernel
theorem dX11_part_101 : decode cX11_part 101 = .ok (.iconst 3, 1) := by decide +kernel
theorem dX11_part_102 : decode cX11_part 102 = .ok (.goto 30, 3) := by decide +kernel
theorem dX11_part_105 : decode cX11_part 105 = .ok (.aload_n 0, 1) := by decide +kernel
theorem dX11_part_106 : decode cX11_part 106 = .ok (.ldc 165, 2) := by decide +kernel
theorem dX11_part_108 : decode cX11_part 108 = .ok (.invokevirtual 119, 3) := by decide +kernel
theorem dX11_part_111 : decode cX11_part 111 = .ok (.ifCond .eq 7, 3) := by decide +kernel
theorem dX11_part_114 : decode cX11_part 114 = .ok (.iconst 4, 1) := by decide +kernel
theorem dX11_part_115 : decode cX11_part 115 = .ok (.goto 17, 3) := by decide +kernel
theorem dX11_part_118 : decode cX11_part 118 = .ok (.aload_n 0, 1) := by decide +kernel
theorem dX11_part_119 : decode cX11_part 119 = .ok (.ldc 213, 2) := by decide +kernel
theorem dX11_part_121 : decode cX11_part 121 = .ok (.invokevirtual 119, 3) := by decide +kernel
theorem dX11_part_124 : decode cX11_part 124 = .ok (.ifCond .eq 7, 3) := by decide +kernel
theorem dX11_part_127 : decode cX11_part 127 = .ok (.iconst 5, 1) := by decide +kernel
theorem dX11_part_128 : decode cX11_part 128 = .ok (.goto 4, 3) := by decide +kernel
theorem dX11_part_131 : decode cX11_part 131 = .ok (.iconst (-1), 1) := by decide +kernel
theorem dX11_part_132 : decode cX11_part 132 = .ok (.istore_n 1, 1) := by decide +kernel
theorem dX11_part_133 : decode cX11_part 133 = .ok (.iload_n 1, 1) := by decide +kernel
theorem dX11_part_134 : decode cX11_part 134 = .ok (.iconst (-1), 1) := by decide +kernel
theorem dX11_part_135 : decode cX11_part 135 = .ok (.if_icmp .ne 13, 3) := by decide +kernel
theorem dX11_part_138 : decode cX11_part 138 = .ok (.aload_n 0, 1) := by decide +kernel
theorem dX11_part_139 : decode cX11_part 139 = .ok (.aload_n 0, 1) := by decide +kernel
theorem dX11_part_140 : decode cX11_part 140 = .ok (.getfield 97, 3) := by decide +kernel
theorem dX11_part_143 : decode cX11_part 143 = .ok (.invokevirtual 123, 3) := by decide +kernel
theorem dX11_part_146 : decode cX11_part 146 = .ok (.iconst 0, 1) := by decide +kernel
theorem dX11_part_147 : decode cX11_part 147 = .ok (.ireturn, 1) := by decide +kernel
theorem dX11_part_148 : decode cX11_part 148 = .ok (.aload_n 0, 1) := by decide +kernel
theorem dX11_part_149 : decode cX11_part 149 = .ok (.getfield 29, 3) := by decide +kernel
theorem dX11_part_152 : decode cX11_part 152 = .ok (.iload_n 1, 1) := by decide +kernel
theorem dX11_part_153 : decode cX11_part 153 = .ok (.iaload, 1) := by decide +kernel
theorem dX11_part_154 : decode cX11_part 154 = .ok (.ireturn, 1) := by decide +kernel
theorem dX11_sum_0 : decode cX11_sum 0 = .ok (.aload_n 0, 1) := by decide +kernel
theorem dX11_sum_1 : decode cX11_sum 1 = .ok (.invokevirtual 215, 3) := by decide +kernel
theorem dX11_sum_4 : decode cX11_sum 4 = .ok (.istore_n 1, 1) := by decide +kernel
theorem dX11_sum_5 : decode cX11_sum 5 = .ok (.aload_n 0, 1) := by decide +kernel
theorem dX11_sum_6 : decode cX11_sum 6 = .ok (.getfield 25, 3) := by decide +kernel
theorem dX11_sum_9 : decode cX11_sum 9 = .ok (.iconst (-1), 1) := by decide +kernel
theorem dX11_sum_10 : decode cX11_sum 10 = .ok (.if_icmp .ne 32, 3) := by decide +kernel
theorem dX11_sum_13 : decode cX11_sum 13 = .ok (.aload_n 0, 1) := by decide +kernel
theorem dX11_sum_14 : decode cX11_sum 14 = .ok (.bipush 43, 2) := by decide +kernel
theorem dX11_sum_16 : decode cX11_sum 16 = .ok (.invokevirtual 193, 3) := by decide +kernel
theorem dX11_sum_19 : decode cX11_sum 19 = .ok (.ifCond .eq 23, 3) := by decide +kernel
theorem dX11_sum_22 : decode cX11_sum 22 = .ok (.aload_n 0, 1) := by decide +kernel
theorem dX11_sum_23 : decode cX11_sum 23 = .ok (.dup, 1) := by decide +kernel
theorem dX11_sum_24 : decode cX11_sum 24 = .ok (.getfield 97, 3) := by decide +kernel
theorem dX11_sum_27 : decode cX11_sum 27 = .ok (.iconst 1, 1) := by decide +kernel
theorem dX11_sum_28 : decode cX11_sum 28 = .ok (.iadd, 1) := by decide +kernel
theorem dX11_sum_29 : decode cX11_sum 29 = .ok (.putfield 97, 3) := by decide +kernel
theorem dX11_sum_32 : decode cX11_sum 32 = .ok (.iload_n 1, 1) := by decide +kernel
theorem dX11_sum_33 : decode cX11_sum 33 = .ok (.aload_n 0, 1) := by decide +kernel
theorem dX11_sum_34 : decode cX11_sum 34 = .ok (.invokevirtual 215, 3) := by decide +kernel
theorem dX11_sum_37 : decode cX11_sum 37 = .ok (.iadd, 1) := by decide +kernel
theorem dX11_sum_38 : decode cX11_sum 38 = .ok (.istore_n 1, 1) := by decide +kernel
theorem dX11_sum_39 : decode cX11_sum 39 = .ok (.goto (-34), 3) := by decide +kernel
theorem dX11_sum_42 : decode cX11_sum 42 = .ok (.iload_n 1, 1) := by decide +kernel
theorem dX11_sum_43 : decode cX11_sum 43 = .ok (.ireturn, 1) := by decide +kernel
theorem dX11_plain_0 : decode cX11_plain 0 = .ok (.aload_n 0, 1) := by decide +kernel
theorem dX11_plain_1 : decode cX11_plain 1 = .ok (.ldc 134, 2) := by decide +kernel
theorem dX11_plain_3 : decode cX11_plain 3 = .ok (.invokevirtual 119, 3) := by decide +kernel
theorem dX11_plain_6 : decode cX11_plain 6 = .ok (.ifCond .eq 8, 3) := by decide +kernel
theorem dX11_plain_9 : decode cX11_plain 9 = .ok (.aload_n 0, 1) := by decide +kernel
theorem dX11_plain_10 : decode cX11_plain 10 = .ok (.getfield 218, 3) := by decide +kernel
theorem dX11_plain_13 : decode cX11_plain 13 = .ok (.ireturn, 1) := by decide +kernel
theorem dX11_plain_14 : decode cX11_plain 14 = .ok (.aload_n 0, 1) := by decide +kernel
theorem dX11_plain_15 : decode cX11_plain 15 = .ok (.ldc 222, 2) := by decide +kernel
theorem dX11_plain_17 : decode cX11_plain 17 = .ok (.invokevirtual 119, 3) := by decide +kernel
theorem dX11_plain_20 : decode cX11_plain 20 = .ok (.ifCond .eq 8, 3) := by decide +kernel
theorem dX11_plain_23 : decode cX11_plain 23 = .ok (.aload_n 0, 1) := by decide +kernel
theorem dX11_plain_24 : decode cX11_plain 24 = .ok (.getfield 224, 3) := by decide +kernel
theorem dX11_plain_27 : decode cX11_plain 27 = .ok (.ireturn, 1) := by decide +kernel
theorem dX11_plain_28 : decode cX11_plain 28 = .ok (.aload_n 0, 1) := by decide +kernel
theorem dX11_plain_29 : decode cX11_plain 29 = .ok (.invokevirtual 227, 3) := by decide +kernel
theorem dX11_plain_32 : decode cX11_plain 32 = .ok (.istore_n 1, 1) := by decide +kernel
theorem dX11_plain_33 : decode cX11_plain 33 = .ok (.aload_n 0, 1) := by decide +kernel
theorem dX11_plain_34 : decode cX11_plain 34 = .ok (.getfield 25, 3) := by decide +kernel
theorem dX11_plain_37 : decode cX11_plain 37 = .ok (.iconst (-1), 1) := by decide +kernel
theorem dX11_plain_38 : decode cX11_plain 38 = .ok (.if_icmp .eq 5, 3) := by decide +kernel
theorem dX11_plain_41 : decode cX11_plain 41 = .ok (.iconst 0, 1) := by decide +kernel
theorem dX11_plain_42 : decode cX11_plain 42 = .ok (.ireturn, 1) := by decide +kernel
theorem dX11_plain_43 : decode cX11_plain 43 = .ok (.aload_n 0, 1) := by decide +kernel
theorem dX11_plain_44 : decode cX11_plain 44 = .ok (.bipush 60, 2) := by decide +kernel
theorem dX11_plain_46 : decode cX11_plain 46 = .ok (.invokevirtual 193, 3) := by decide +kernel
theorem dX11_plain_49 : decode cX11_plain 49 = .ok (.istore_n 2, 1) := by decide +kernel
theorem dX11_plain_50 : decode cX11_plain 50 = .ok (.iload_n 2, 1) := by decide +kernel
theorem dX11_plain_51 : decode cX11_plain 51 = .ok (.ifCond .ne 22, 3) := by decide +kernel
theorem dX11_plain_54 : decode cX11_plain 54 = .ok (.aload_n 0, 1) := by decide +kernel
theorem dX11_plain_55 : decode cX11_plain 55 = .ok (.bipush 62, 2) := by decide +kernel
theorem dX11_plain_57 : decode cX11_plain 57 = .ok (.invokevirtual 193, 3) := by decide +kernel
theorem dX11_plain_60 : decode cX11_plain 60 = .ok (.ifCond .ne 13, 3) := by decide +kernel
theorem dX11_plain_63 : decode cX11_plain 63 = .ok (.aload_n 0, 1) := by decide +kernel
theorem dX11_plain_64 : decode cX11_plain 64 = .ok (.aload_n 0, 1) := by decide +kernel
theorem dX11_plain_65 : decode cX11_plain 65 = .ok (.getfield 97, 3) := by decide +kernel
theorem dX11_plain_68 : decode cX11_plain 68 = .ok (.invokevirtual 123, 3) := by decide +kernel
theorem dX11_plain_71 : decode cX11_plain 71 = .ok (.iconst 0, 1) := by decide +kernel
theorem dX11_plain_72 : decode cX11_plain 72 = .ok (.ireturn, 1) := by decide +kernel
theorem dX11_plain_73 : decode cX11_plain 73 = .ok (.aload_n 0, 1) := by decide +kernel
theorem dX11_plain_74 : decode cX11_plain 74 = .ok (.dup, 1) := by decide +kernel
theorem dX11_plain_75 : decode cX11_plain 75 = .ok (.getfield 97, 3) := by decide +kernel
theorem dX11_plain_78 : decode cX11_plain 78 = .ok (.iconst 1, 1) := by decide +kernel
theorem dX11_plain_79 : decode cX11_plain 79 = .ok (.iadd, 1) := by decide +kernel
theorem dX11_plain_80 : decode cX11_plain 80 = .ok (.putfield 97, 3) := by decide +kernel
theorem dX11_plain_83 : decode cX11_plain 83 = .ok (.aload_n 0, 1) := by decide +kernel
theorem dX11_plain_84 : decode cX11_plain 84 = .ok (.invokevirtual 227, 3) := by decide +kernel
theorem dX11_plain_87 : decode cX11_plain 87 = .ok (.istore_n 3, 1) := by decide +kernel
theorem dX11_plain_88 : decode cX11_plain 88 = .ok (.iload_n 2, 1) := by decide +kernel
theorem dX11_plain_89 : decode cX11_plain 89 = .ok (.ifCond .eq 16, 3) := by decide +kernel
theorem dX11_plain_92 : decode cX11_plain 92 = .ok (.iload_n 1, 1) := by decide +kernel
theorem dX11_plain_93 : decode cX11_plain 93 = .ok (.iload_n 3, 1) := by decide +kernel
theorem dX11_plain_94 : decode cX11_plain 94 = .ok (.if_icmp .ge 7, 3) := by decide +kernel
theorem dX11_plain_97 : decode cX11_plain 97 = .ok (.iconst 1, 1) := by decide +kernel
theorem dX11_plain_98 : decode cX11_plain 98 = .ok (.goto 17, 3) := by decide +kernel
theorem dX11_plain_101 : decode cX11_plain 101 = .ok (.iconst 0, 1) := by decide +kernel
theorem dX11_plain_102 : decode cX11_plain 102 = .ok (.goto 13, 3) := by decide +kernel
theorem dX11_plain_105 : decode cX11_plain 105 = .ok (.iload_n 1, 1) := by decide +kernel
theorem dX11_plain_106 : decode cX11_plain 106 = .ok (.iload_n 3, 1) := by decide +kernel
theorem dX11_plain_107 : decode cX11_plain 107 = .ok (.if_icmp .le 7, 3) := by decide +kernel
theorem dX11_plain_110 : decode cX11_plain 110 = .ok (.iconst 1, 1) := by decide +kernel
theorem dX11_plain_111 : decode cX11_plain 111 = .ok (.goto 4, 3) := by decide +kernel
theorem dX11_plain_114 : decode cX11_plain 114 = .ok (.iconst 0, 1) := by decide +kernel
theorem dX11_plain_115 : decode cX11_plain 115 = .ok (.ireturn, 1) := by decide +kernel
theorem dX11_atom_0 : decode cX11_atom 0 = .ok (.aload_n 0, 1) := by decide +kernel
theorem dX11_atom_1 : decode cX11_atom 1 = .ok (.getfield 25, 3) := by decide +kernel
theorem dX11_atom_4 : decode cX11_atom 4 = .ok (.iconst (-1), 1) := by decide +kernel
theorem dX11_atom_5 : decode cX11_atom 5 = .ok (.if_icmp .eq 5, 3) := by decide +kernel
theorem dX11_atom_8 : decode cX11_atom 8 = .ok (.iconst 0, 1) := by decide +kernel
theorem dX11_atom_9 : decode cX11_atom 9 = .ok (.ireturn, 1) := by decide +kernel
theorem dX11_atom_10 : decode cX11_atom 10 = .ok (.aload_n 0, 1) := by decide +kernel
theorem dX11_atom_11 : decode cX11_atom 11 = .ok (.invokevirtual 127, 3) := by decide +kernel
theorem dX11_atom_14 : decode cX11_atom 14 = .ok (.istore_n 1, 1) := by decide +kernel
theorem dX11_atom_15 : decode cX11_atom 15 = .ok (.aload_n 0, 1) := by decide +kernel
theorem dX11_atom_16 : decode cX11_atom 16 = .ok (.ldc 230, 2) := by decide +kernel
theorem dX11_atom_18 : decode cX11_atom 18 = .ok (.invokevirtual 119, 3) := by decide +kernel
theorem dX11_atom_21 : decode cX11_atom 21 = .ok (.istore_n 2, 1) := by decide +kernel
theorem dX11_atom_22 : decode cX11_atom 22 = .ok (.iload_n 2, 1) := by decide +kernel
theorem dX11_atom_23 : decode cX11_atom 23 = .ok (.ifCond .ne 17, 3) := by decide +kernel
theorem dX11_atom_26 : decode cX11_atom 26 = .ok (.aload_n 0, 1) := by decide +kernel
theorem dX11_atom_27 : decode cX11_atom 27 = .ok (.bipush 40, 2) := by decide +kernel
theorem dX11_atom_29 : decode cX11_atom 29 = .ok (.invokevirtual 193, 3) := by decide +kernel
theorem dX11_atom_32 : decode cX11_atom 32 = .ok (.ifCond .ne 8, 3) := by decide +kernel
theorem dX11_atom_35 : decode cX11_atom 35 = .ok (.aload_n 0, 1) := by decide +kernel
theorem dX11_atom_36 : decode cX11_atom 36 = .ok (.invokevirtual 232, 3) := by decide +kernel
theorem dX11_atom_39 : decode cX11_atom 39 = .ok (.ireturn, 1) := by decide +kernel
theorem dX11_atom_40 : decode cX11_atom 40 = .ok (.aload_n 0, 1) := by decide +kernel
theorem dX11_atom_41 : decode cX11_atom 41 = .ok (.getfield 184, 3) := by decide +kernel
theorem dX11_atom_44 : decode cX11_atom 44 = .ok (.bipush 6, 2) := by decide +kernel
theorem dX11_atom_46 : decode cX11_atom 46 = .ok (.if_icmp .ne 10, 3) := by decide +kernel
theorem dX11_atom_49 : decode cX11_atom 49 = .ok (.aload_n 0, 1) := by decide +kernel
theorem dX11_atom_50 : decode cX11_atom 50 = .ok (.iload_n 1, 1) := by decide +kernel
theorem dX11_atom_51 : decode cX11_atom 51 = .ok (.invokevirtual 123, 3) := by decide +kernel
theorem dX11_atom_54 : decode cX11_atom 54 = .ok (.iconst 0, 1) := by decide +kernel
theorem dX11_atom_55 : decode cX11_atom 55 = .ok (.ireturn, 1) := by decide +kernel
theorem dX11_atom_56 : decode cX11_atom 56 = .ok (.aload_n 0, 1) := by decide +kernel
theorem dX11_atom_57 : decode cX11_atom 57 = .ok (.dup, 1) := by decide +kernel
theorem dX11_atom_58 : decode cX11_atom 58 = .ok (.getfield 184, 3) := by decide +kernel
theorem dX11_atom_61 : decode cX11_atom 61 = .ok (.iconst 1, 1) := by decide +kernel
theorem dX11_atom_62 : decode cX11_atom 62 = .ok (.iadd, 1) := by decide +kernel
theorem dX11_atom_63 : decode cX11_atom 63 = .ok (.putfield 184, 3) := by decide +kernel
theorem dX11_atom_66 : decode cX11_atom 66 = .ok (.iconst 0, 1) := by decide +kernel
theorem dX11_atom_67 : decode cX11_atom 67 = .ok (.istore_n 3, 1) := by decide +kernel
theorem dX11_atom_68 : decode cX11_atom 68 = .ok (.iload_n 2, 1) := by decide +kernel
theorem dX11_atom_69 : decode cX11_atom 69 = .ok (.ifCond .eq 19, 3) := by decide +kernel
theorem dX11_atom_72 : decode cX11_atom 72 = .ok (.aload_n 0, 1) := by decide +kernel
theorem dX11_atom_73 : decode cX11_atom 73 = .ok (.invokevirtual 236, 3) := by decide +kernel
theorem dX11_atom_76 : decode cX11_atom 76 = .ok (.ifCond .ne 7, 3) := by decide +kernel
theorem dX11_atom_79 : decode cX11_atom 79 = .ok (.iconst 1, 1) := by decide +kernel
theorem dX11_atom_80 : decode cX11_atom 80 = .ok (.goto 4, 3) := by decide +kernel
theorem dX11_atom_83 : decode cX11_atom 83 = .ok (.iconst 0, 1) := by decide +kernel
theorem dX11_atom_84 : decode cX11_atom 84 = .ok (.istore_n 3, 1) := by decide +kernel
theorem dX11_atom_85 : decode cX11_atom 85 = .ok (.goto 53, 3) := by decide +kernel
theorem dX11_atom_88 : decode cX11_atom 88 = .ok (.aload_n 0, 1) := by decide +kernel
theorem dX11_atom_89 : decode cX11_atom 89 = .ok (.dup, 1) := by decide +kernel
theorem dX11_atom_90 : decode cX11_atom 90 = .ok (.getfield 97, 3) := by decide +kernel
theorem dX11_atom_93 : decode cX11_atom 93 = .ok (.iconst 1, 1) := by decide +kernel
theorem dX11_atom_94 : decode cX11_atom 94 = .ok (.iadd, 1) := by decide +kernel
theorem dX11_atom_95 : decode cX11_atom 95 = .ok (.putfield 97, 3) := by decide +kernel
theorem dX11_atom_98 : decode cX11_atom 98 = .ok (.aload_n 0, 1) := by decide +kernel
theorem dX11_atom_99 : decode cX11_atom 99 = .ok (.invokevirtual 239, 3) := by decide +kernel
theorem dX11_atom_102 : decode cX11_atom 102 = .ok (.istore_n 3, 1) := by decide +kernel
theorem dX11_atom_103 : decode cX11_atom 103 = .ok (.aload_n 0, 1) := by decide +kernel
theorem dX11_atom_104 : decode cX11_atom 104 = .ok (.getfield 25, 3) := by decide +kernel
theorem dX11_atom_107 : decode cX11_atom 107 = .ok (.iconst (-1), 1) := by decide +kernel
theorem dX11_atom_108 : decode cX11_atom 108 = .ok (.if_icmp .ne 20, 3) := by decide +kernel
theorem dX11_atom_111 : decode cX11_atom 111 = .ok (.aload_n 0, 1) := by decide +kernel
theorem dX11_atom_112 : decode cX11_atom 112 = .ok (.bipush 41, 2) := by decide +kernel
theorem dX11_atom_114 : decode cX11_atom 114 = .ok (.invokevirtual 193, 3) := by decide +kernel
theorem dX11_atom_117 : decode cX11_atom 117 = .ok (.ifCond .ne 11, 3) := by decide +kernel
theorem dX11_atom_120 : decode cX11_atom 120 = .ok (.aload_n 0, 1) := by decide +kernel
theorem dX11_atom_121 : decode cX11_atom 121 = .ok (.aload_n 0, 1) := by decide +kernel
theorem dX11_atom_122 : decode cX11_atom 122 = .ok (.getfield 97, 3) := by decide +kernel
theorem dX11_atom_125 : decode cX11_atom 125 = .ok (.invokevirtual 123, 3) := by decide +kernel
theorem dX11_atom_128 : decode cX11_atom 128 = .ok (.aload_n 0, 1) := by decide +kernel
theorem dX11_atom_129 : decode cX11_atom 129 = .ok (.dup, 1) := by decide +kernel
theorem dX11_atom_130 : decode cX11_atom 130 = .ok (.getfield 97, 3) := by decide +kernel
theorem dX11_atom_133 : decode cX11_atom 133 = .ok (.iconst 1, 1) := by decide +kernel
theorem dX11_atom_134 : decode cX11_atom 134 = .ok (.iadd, 1) := by decide +kernel
theorem dX11_atom_135 : decode cX11_atom 135 = .ok (.putfield 97, 3) := by decide +kernel
theorem dX11_atom_138 : decode cX11_atom 138 = .ok (.aload_n 0, 1) := by decide +kernel
theorem dX11_atom_139 : decode cX11_atom 139 = .ok (.dup, 1) := by decide +kernel
theorem dX11_atom_140 : decode cX11_atom 140 = .ok (.getfield 184, 3) := by decide +kernel
theorem dX11_atom_143 : decode cX11_atom 143 = .ok (.iconst 1, 1) := by decide +kernel
theorem dX11_atom_144 : decode cX11_atom 144 = .ok (.isub, 1) := by decide +kernel
theorem dX11_atom_145 : decode cX11_atom 145 = .ok (.putfield 184, 3) := by decide +kernel
theorem dX11_atom_148 : decode cX11_atom 148 = .ok (.iload_n 3, 1) := by decide +kernel
theorem dX11_atom_149 : decode cX11_atom 149 = .ok (.ireturn, 1) := by decide +kernel
theorem dX11_every_0 : decode cX11_every 0 = .ok (.aload_n 0, 1) := by decide +kernel
theorem dX11_every_1 : decode cX11_every 1 = .ok (.invokevirtual 236, 3) := by decide +kernel
theorem dX11_every_4 : decode cX11_every 4 = .ok (.istore_n 1, 1) := by decide +kernel
theorem dX11_every_5 : decode cX11_every 5 = .ok (.aload_n 0, 1) := by decide +kernel
theorem dX11_every_6 : decode cX11_every 6 = .ok (.getfield 25, 3) := by decide +kernel
theorem dX11_every_9 : decode cX11_every 9 = .ok (.iconst (-1), 1) := by decide +kernel
theorem dX11_every_10 : decode cX11_every 10 = .ok (.if_icmp .ne 34, 3) := by decide +kernel
theorem dX11_every_13 : decode cX11_every 13 = .ok (.aload_n 0, 1) := by decide +kernel
theorem dX11_every_14 : decode cX11_every 14 = .ok (.ldc 242, 2) := by decide +kernel
theorem dX11_every_16 : decode cX11_every 16 = .ok (.invokevirtual 119, 3) := by decide +kernel
theorem dX11_every_19 : decode cX11_every 19 = .ok (.ifCond .eq 25, 3) := by decide +kernel
theorem dX11_every_22 : decode cX11_every 22 = .ok (.aload_n 0, 1) := by decide +kernel
theorem dX11_every_23 : decode cX11_every 23 = .ok (.invokevirtual 236, 3) := by decide +kernel
theorem dX11_every_26 : decode cX11_every 26 = .ok (.istore_n 2, 1) := by decide +kernel
theorem dX11_every_27 : decode cX11_every 27 = .ok (.iload_n 1, 1) := by decide +kernel
theorem dX11_every_28 : decode cX11_every 28 = .ok (.ifCond .eq 11, 3) := by decide +kernel
theorem dX11_every_31 : decode cX11_every 31 = .ok (.iload_n 2, 1) := by decide +kernel
theorem dX11_every_32 : decode cX11_every 32 = .ok (.ifCond .eq 7, 3) := by decide +kernel
theorem dX11_every_35 : decode cX11_every 35 = .ok (.iconst 1, 1) := by decide +kernel
theorem dX11_every_36 : decode cX11_every 36 = .ok (.goto 4, 3) := by decide +kernel
theorem dX11_every_39 : decode cX11_every 39 = .ok (.iconst 0, 1) := by decide +kernel
theorem dX11_every_40 : decode cX11_every 40 = .ok (.istore_n 1, 1) := by decide +kernel
theorem dX11_every_41 : decode cX11_every 41 = .ok (.goto (-36), 3) := by decide +kernel
theorem dX11_every_44 : decode cX11_every 44 = .ok (.iload_n 1, 1) := by decide +kernel
theorem dX11_every_45 : decode cX11_every 45 = .ok (.ireturn, 1) := by decide +kernel
theorem dX11_some_0 : decode cX11_some 0 = .ok (.aload_n 0, 1) := by decide +kernel
theorem dX11_some_1 : decode cX11_some 1 = .ok (.invokevirtual 244, 3) := by decide +kernel
theorem dX11_some_4 : decode cX11_some 4 = .ok (.istore_n 1, 1) := by decide +kernel
theorem dX11_some_5 : decode cX11_some 5 = .ok (.aload_n 0, 1) := by decide +kernel
theorem dX11_some_6 : decode cX11_some 6 = .ok (.getfield 25, 3) := by decide +kernel
theorem dX11_some_9 : decode cX11_some 9 = .ok (.iconst (-1), 1) := by decide +kernel
theorem dX11_some_10 : decode cX11_some 10 = .ok (.if_icmp .ne 34, 3) := by decide +kernel
theorem dX11_some_13 : decode cX11_some 13 = .ok (.aload_n 0, 1) := by decide +kernel
theorem dX11_some_14 : decode cX11_some 14 = .ok (.ldc 247, 2) := by decide +kernel
theorem dX11_some_16 : decode cX11_some 16 = .ok (.invokevirtual 119, 3) := by decide +kernel
theorem dX11_some_19 : decode cX11_some 19 = .ok (.ifCond .eq 25, 3) := by decide +kernel
theorem dX11_some_22 : decode cX11_some 22 = .ok (.aload_n 0, 1) := by decide +kernel
theorem dX11_some_23 : decode cX11_some 23 = .ok (.invokevirtual 244, 3) := by decide +kernel
theorem dX11_some_26 : decode cX11_some 26 = .ok (.istore_n 2, 1) := by decide +kernel
theorem dX11_some_27 : decode cX11_some 27 = .ok (.iload_n 1, 1) := by decide +kernel
theorem dX11_some_28 : decode cX11_some 28 = .ok (.ifCond .ne 7, 3) := by decide +kernel
theorem dX11_some_31 : decode cX11_some 31 = .ok (.iload_n 2, 1) := by decide +kernel
theorem dX11_some_32 : decode cX11_some 32 = .ok (.ifCond .eq 7, 3) := by decide +kernel
theorem dX11_some_35 : decode cX11_some 35 = .ok (.iconst 1, 1) := by decide +kernel
theorem dX11_some_36 : decode cX11_some 36 = .ok (.goto 4, 3) := by decide +kernel
theorem dX11_some_39 : decode cX11_some 39 = .ok (.iconst 0, 1) := by decide +kernel
theorem dX11_some_40 : decode cX11_some 40 = .ok (.istore_n 1, 1) := by decide +kernel
theorem dX11_some_41 : decode cX11_some 41 = .ok (.goto (-36), 3) := by decide +kernel
theorem dX11_some_44 : decode cX11_some 44 = .ok (.iload_n 1, 1) := by decide +kernel
theorem dX11_some_45 : decode cX11_some 45 = .ok (.ireturn, 1) := by decide +kernel
theorem dX11_lawLine_0 : decode cX11_lawLine 0 = .ok (.aload_n 0, 1) := by decide +kernel
theorem dX11_lawLine_1 : decode cX11_lawLine 1 = .ok (.ldc 249, 2) := by decide +kernel
theorem dX11_lawLine_3 : decode cX11_lawLine 3 = .ok (.invokevirtual 119, 3) := by decide +kernel
theorem dX11_lawLine_6 : decode cX11_lawLine 6 = .ok (.ifCond .eq 7, 3) := by decide +kernel
theorem dX11_lawLine_9 : decode cX11_lawLine 9 = .ok (.iconst 0, 1) := by decide +kernel
theorem dX11_lawLine_10 : decode cX11_lawLine 10 = .ok (.goto 30, 3) := by decide +kernel
theorem dX11_lawLine_13 : decode cX11_lawLine 13 = .ok (.aload_n 0, 1) := by decide +kernel
theorem dX11_lawLine_14 : decode cX11_lawLine 14 = .ok (.ldc 251, 2) := by decide +kernel
theorem dX11_lawLine_16 : decode cX11_lawLine 16 = .ok (.invokevirtual 119, 3) := by decide +kernel
theorem dX11_lawLine_19 : decode cX11_lawLine 19 = .ok (.ifCond .eq 7, 3) := by decide +kernel
theorem dX11_lawLine_22 : decode cX11_lawLine 22 = .ok (.iconst 1, 1) := by decide +kernel
theorem dX11_lawLine_23 : decode cX11_lawLine 23 = .ok (.goto 17, 3) := by decide +kernel
theorem dX11_lawLine_26 : decode cX11_lawLine 26 = .ok (.aload_n 0, 1) := by decide +kernel
theorem dX11_lawLine_27 : decode cX11_lawLine 27 = .ok (.ldc 253, 2) := by decide +kernel
theorem dX11_lawLine_29 : decode cX11_lawLine 29 = .ok (.invokevirtual 119, 3) := by decide +kernel
theorem dX11_lawLine_32 : decode cX11_lawLine 32 = .ok (.ifCond .eq 7, 3) := by decide +kernel
theorem dX11_lawLine_35 : decode cX11_lawLine 35 = .ok (.iconst 2, 1) := by decide +kernel
theorem dX11_lawLine_36 : decode cX11_lawLine 36 = .ok (.goto 4, 3) := by decide +kernel
theorem dX11_lawLine_39 : decode cX11_lawLine 39 = .ok (.iconst (-1), 1) := by decide +kernel
theorem dX11_lawLine_40 : decode cX11_lawLine 40 = .ok (.istore_n 1, 1) := by decide +kernel
theorem dX11_lawLine_41 : decode cX11_lawLine 41 = .ok (.iload_n 1, 1) := by decide +kernel
theorem dX11_lawLine_42 : decode cX11_lawLine 42 = .ok (.iconst (-1), 1) := by decide +kernel
theorem dX11_lawLine_43 : decode cX11_lawLine 43 = .ok (.if_icmp .ne 12, 3) := by decide +kernel
theorem dX11_lawLine_46 : decode cX11_lawLine 46 = .ok (.aload_n 0, 1) := by decide +kernel
theorem dX11_lawLine_47 : decode cX11_lawLine 47 = .ok (.aload_n 0, 1) := by decide +kernel
theorem dX11_lawLine_48 : decode cX11_lawLine 48 = .ok (.getfield 97, 3) := by decide +kernel
theorem dX11_lawLine_51 : decode cX11_lawLine 51 = .ok (.invokevirtual 123, 3) := by decide +kernel
theorem dX11_lawLine_54 : decode cX11_lawLine 54 = .ok (.return_, 1) := by decide +kernel
theorem dX11_lawLine_55 : decode cX11_lawLine 55 = .ok (.iload_n 1, 1) := by decide +kernel
theorem dX11_lawLine_56 : decode cX11_lawLine 56 = .ok (.ifCond .ne 7, 3) := by decide +kernel
theorem dX11_lawLine_59 : decode cX11_lawLine 59 = .ok (.iconst 0, 1) := by decide +kernel
theorem dX11_lawLine_60 : decode cX11_lawLine 60 = .ok (.goto 12, 3) := by decide +kernel
theorem dX11_lawLine_63 : decode cX11_lawLine 63 = .ok (.aload_n 0, 1) := by decide +kernel
theorem dX11_lawLine_64 : decode cX11_lawLine 64 = .ok (.iconst 0, 1) := by decide +kernel
theorem dX11_lawLine_65 : decode cX11_lawLine 65 = .ok (.sipush 999, 3) := by decide +kernel
theorem dX11_lawLine_68 : decode cX11_lawLine 68 = .ok (.iconst 3, 1) := by decide +kernel
theorem dX11_lawLine_69 : decode cX11_lawLine 69 = .ok (.invokevirtual 130, 3) := by decide +kernel
theorem dX11_lawLine_72 : decode cX11_lawLine 72 = .ok (.istore_n 2, 1) := by decide +kernel
theorem dX11_lawLine_73 : decode cX11_lawLine 73 = .ok (.aload_n 0, 1) := by decide +kernel
theorem dX11_lawLine_74 : decode cX11_lawLine 74 = .ok (.getfield 25, 3) := by decide +kernel
theorem dX11_lawLine_77 : decode cX11_lawLine 77 = .ok (.iconst (-1), 1) := by decide +kernel
theorem dX11_lawLine_78 : decode cX11_lawLine 78 = .ok (.if_icmp .eq 4, 3) := by decide +kernel
theorem dX11_lawLine_81 : decode cX11_lawLine 81 = .ok (.return_, 1) := by decide +kernel
theorem dX11_lawLine_82 : decode cX11_lawLine 82 = .ok (.aload_n 0, 1) := by decide +kernel
theorem dX11_lawLine_83 : decode cX11_lawLine 83 = .ok (.ldc 255, 2) := by decide +kernel
theorem dX11_lawLine_85 : decode cX11_lawLine 85 = .ok (.invokevirtual 119, 3) := by decide +kernel
theorem dX11_lawLine_88 : decode cX11_lawLine 88 = .ok (.ifCond .eq 10, 3) := by decide +kernel
theorem dX11_lawLine_91 : decode cX11_lawLine 91 = .ok (.aload_n 0, 1) := by decide +kernel
theorem dX11_lawLine_92 : decode cX11_lawLine 92 = .ok (.invokevirtual 239, 3) := by decide +kernel
theorem dX11_lawLine_95 : decode cX11_lawLine 95 = .ok (.ifCond .eq 7, 3) := by decide +kernel
theorem dX11_lawLine_98 : decode cX11_lawLine 98 = .ok (.iconst 1, 1) := by decide +kernel
theorem dX11_lawLine_99 : decode cX11_lawLine 99 = .ok (.goto 4, 3) := by decide +kernel
theorem dX11_lawLine_102 : decode cX11_lawLine 102 = .ok (.iconst 0, 1) := by decide +kernel
theorem dX11_lawLine_103 : decode cX11_lawLine 103 = .ok (.istore_n 3, 1) := by decide +kernel
theorem dX11_lawLine_104 : decode cX11_lawLine 104 = .ok (.aload_n 0, 1) := by decide +kernel
theorem dX11_lawLine_105 : decode cX11_lawLine 105 = .ok (.getfield 25, 3) := by decide +kernel
theorem dX11_lawLine_108 : decode cX11_lawLine 108 = .ok (.iconst (-1), 1) := by decide +kernel
theorem dX11_lawLine_109 : decode cX11_lawLine 109 = .ok (.if_icmp .ne 7, 3) := by decide +kernel
theorem dX11_lawLine_112 : decode cX11_lawLine 112 = .ok (.iload_n 3, 1) := by decide +kernel
theorem dX11_lawLine_113 : decode cX11_lawLine 113 = .ok (.ifCond .ne 4, 3) := by decide +kernel
theorem dX11_lawLine_116 : decode cX11_lawLine 116 = .ok (.return_, 1) := by decide +kernel
theorem dX11_lawLine_117 : decode cX11_lawLine 117 = .ok (.iload_n 1, 1) := by decide +kernel
theorem dX11_lawLine_118 : decode cX11_lawLine 118 = .ok (.ifCond .ne 11, 3) := by decide +kernel
theorem dX11_lawLine_121 : decode cX11_lawLine 121 = .ok (.aload_n 0, 1) := by decide +kernel
theorem dX11_lawLine_122 : decode cX11_lawLine 122 = .ok (.iconst 1, 1) := by decide +kernel
theorem dX11_lawLine_123 : decode cX11_lawLine 123 = .ok (.putfield 257, 3) := by decide +kernel
theorem dX11_lawLine_126 : decode cX11_lawLine 126 = .ok (.goto 31, 3) := by decide +kernel
theorem dX11_lawLine_129 : decode cX11_lawLine 129 = .ok (.iload_n 1, 1) := by decide +kernel
theorem dX11_lawLine_130 : decode cX11_lawLine 130 = .ok (.iconst 1, 1) := by decide +kernel
theorem dX11_lawLine_131 : decode cX11_lawLine 131 = .ok (.if_icmp .ne 16, 3) := by decide +kernel
theorem dX11_lawLine_134 : decode cX11_lawLine 134 = .ok (.aload_n 0, 1) := by decide +kernel
theorem dX11_lawLine_135 : decode cX11_lawLine 135 = .ok (.dup, 1) := by decide +kernel
theorem dX11_lawLine_136 : decode cX11_lawLine 136 = .ok (.getfield 260, 3) := by decide +kernel
theorem dX11_lawLine_139 : decode cX11_lawLine 139 = .ok (.iload_n 2, 1) := by decide +kernel
theorem dX11_lawLine_140 : decode cX11_lawLine 140 = .ok (.iadd, 1) := by decide +kernel
theorem dX11_lawLine_141 : decode cX11_lawLine 141 = .ok (.putfield 260, 3) := by decide +kernel
theorem dX11_lawLine_144 : decode cX11_lawLine 144 = .ok (.goto 13, 3) := by decide +kernel
theorem dX11_lawLine_147 : decode cX11_lawLine 147 = .ok (.aload_n 0, 1) := by decide +kernel
theorem dX11_lawLine_148 : decode cX11_lawLine 148 = .ok (.dup, 1) := by decide +kernel
theorem dX11_lawLine_149 : decode cX11_lawLine 149 = .ok (.getfield 262, 3) := by decide +kernel
theorem dX11_lawLine_152 : decode cX11_lawLine 152 = .ok (.iload_n 2, 1) := by decide +kernel
theorem dX11_lawLine_153 : decode cX11_lawLine 153 = .ok (.iadd, 1) := by decide +kernel
theorem dX11_lawLine_154 : decode cX11_lawLine 154 = .ok (.putfield 262, 3) := by decide +kernel
theorem dX11_lawLine_157 : decode cX11_lawLine 157 = .ok (.return_, 1) := by decide +kernel
theorem dX11_law_0 : decode cX11_law 0 = .ok (.aload_n 0, 1) := by decide +kernel
theorem dX11_law_1 : decode cX11_law 1 = .ok (.invokevirtual 196, 3) := by decide +kernel
theorem dX11_law_4 : decode cX11_law 4 = .ok (.aload_n 0, 1) := by decide +kernel
theorem dX11_law_5 : decode cX11_law 5 = .ok (.iconst 1, 1) := by decide +kernel
theorem dX11_law_6 : decode cX11_law 6 = .ok (.invokevirtual 199, 3) := by decide +kernel
theorem dX11_law_9 : decode cX11_law 9 = .ok (.istore_n 1, 1) := by decide +kernel
theorem dX11_law_10 : decode cX11_law 10 = .ok (.aload_n 0, 1) := by decide +kernel
theorem dX11_law_11 : decode cX11_law 11 = .ok (.aload_n 0, 1) := by decide +kernel
theorem dX11_law_12 : decode cX11_law 12 = .ok (.getfield 25, 3) := by decide +kernel
theorem dX11_law_15 : decode cX11_law 15 = .ok (.iconst (-1), 1) := by decide +kernel
theorem dX11_law_16 : decode cX11_law 16 = .ok (.if_icmp .eq 7, 3) := by decide +kernel
theorem dX11_law_19 : decode cX11_law 19 = .ok (.iconst 1, 1) := by decide +kernel
theorem dX11_law_20 : decode cX11_law 20 = .ok (.goto 4, 3) := by decide +kernel
theorem dX11_law_23 : decode cX11_law 23 = .ok (.iconst 0, 1) := by decide +kernel
theorem dX11_law_24 : decode cX11_law 24 = .ok (.putfield 69, 3) := by decide +kernel
theorem dX11_law_27 : decode cX11_law 27 = .ok (.aload_n 0, 1) := by decide +kernel
theorem dX11_law_28 : decode cX11_law 28 = .ok (.getfield 69, 3) := by decide +kernel
theorem dX11_law_31 : decode cX11_law 31 = .ok (.ifCond .le 5, 3) := by decide +kernel
theorem dX11_law_34 : decode cX11_law 34 = .ok (.iconst 0, 1) := by decide +kernel
theorem dX11_law_35 : decode cX11_law 35 = .ok (.ireturn, 1) := by decide +kernel
theorem dX11_law_36 : decode cX11_law 36 = .ok (.aload_n 0, 1) := by decide +kernel
theorem dX11_law_37 : decode cX11_law 37 = .ok (.getfield 7, 3) := by decide +kernel
theorem dX11_law_40 : decode cX11_law 40 = .ok (.iconst 2, 1) := by decide +kernel
theorem dX11_law_41 : decode cX11_law 41 = .ok (.iload_n 1, 1) := by decide +kernel
theorem dX11_law_42 : decode cX11_law 42 = .ok (.iastore, 1) := by decide +kernel
theorem dX11_law_43 : decode cX11_law 43 = .ok (.aload_n 0, 1) := by decide +kernel
theorem dX11_law_44 : decode cX11_law 44 = .ok (.getfield 7, 3) := by decide +kernel
theorem dX11_law_47 : decode cX11_law 47 = .ok (.iconst 3, 1) := by decide +kernel
theorem dX11_law_48 : decode cX11_law 48 = .ok (.aload_n 0, 1) := by decide +kernel
theorem dX11_law_49 : decode cX11_law 49 = .ok (.getfield 100, 3) := by decide +kernel
theorem dX11_law_52 : decode cX11_law 52 = .ok (.iastore, 1) := by decide +kernel
theorem dX11_law_53 : decode cX11_law 53 = .ok (.iconst 0, 1) := by decide +kernel
theorem dX11_law_54 : decode cX11_law 54 = .ok (.istore_n 2, 1) := by decide +kernel
theorem dX11_law_55 : decode cX11_law 55 = .ok (.iload_n 2, 1) := by decide +kernel
theorem dX11_law_56 : decode cX11_law 56 = .ok (.aload_n 0, 1) := by decide +kernel
theorem dX11_law_57 : decode cX11_law 57 = .ok (.getfield 100, 3) := by decide +kernel
theorem dX11_law_60 : decode cX11_law 60 = .ok (.if_icmp .ge 25, 3) := by decide +kernel
theorem dX11_law_63 : decode cX11_law 63 = .ok (.aload_n 0, 1) := by decide +kernel
theorem dX11_law_64 : decode cX11_law 64 = .ok (.getfield 7, 3) := by decide +kernel
theorem dX11_law_67 : decode cX11_law 67 = .ok (.sipush 1080, 3) := by decide +kernel
theorem dX11_law_70 : decode cX11_law 70 = .ok (.iload_n 2, 1) := by decide +kernel
theorem dX11_law_71 : decode cX11_law 71 = .ok (.iadd, 1) := by decide +kernel
theorem dX11_law_72 : decode cX11_law 72 = .ok (.aload_n 0, 1) := by decide +kernel
theorem dX11_law_73 : decode cX11_law 73 = .ok (.getfield 22, 3) := by decide +kernel
theorem dX11_law_76 : decode cX11_law 76 = .ok (.iload_n 2, 1) := by decide +kernel
theorem dX11_law_77 : decode cX11_law 77 = .ok (.iaload, 1) := by decide +kernel
theorem dX11_law_78 : decode cX11_law 78 = .ok (.iastore, 1) := by decide +kernel
theorem dX11_law_79 : decode cX11_law 79 = .ok (.iinc 2 1, 3) := by decide +kernel
theorem dX11_law_82 : decode cX11_law 82 = .ok (.goto (-27), 3) := by decide +kernel
theorem dX11_law_85 : decode cX11_law 85 = .ok (.aload_n 0, 1) := by decide +kernel
theorem dX11_law_86 : decode cX11_law 86 = .ok (.iconst 0, 1) := by decide +kernel
theorem dX11_law_87 : decode cX11_law 87 = .ok (.putfield 202, 3) := by decide +kernel
theorem dX11_law_90 : decode cX11_law 90 = .ok (.iload_n 1, 1) := by decide +kernel
theorem dX11_law_91 : decode cX11_law 91 = .ok (.ireturn, 1) := by decide +kernel
theorem dX11_fault_0 : decode cX11_fault 0 = .ok (.aload_n 0, 1) := by decide +kernel
theorem dX11_fault_1 : decode cX11_fault 1 = .ok (.iconst 0, 1) := by decide +kernel
theorem dX11_fault_2 : decode cX11_fault 2 = .ok (.putfield 69, 3) := by decide +kernel
theorem dX11_fault_5 : decode cX11_fault 5 = .ok (.aload_n 0, 1) := by decide +kernel
theorem dX11_fault_6 : decode cX11_fault 6 = .ok (.getfield 25, 3) := by decide +kernel
theorem dX11_fault_9 : decode cX11_fault 9 = .ok (.ireturn, 1) := by decide +kernel
theorem dX11_asks_0 : decode cX11_asks 0 = .ok (.iload_n 2, 1) := by decide +kernel
theorem dX11_asks_1 : decode cX11_asks 1 = .ok (.bipush 24, 2) := by decide +kernel
theorem dX11_asks_3 : decode cX11_asks 3 = .ok (.irem, 1) := by decide +kernel
theorem dX11_asks_4 : decode cX11_asks 4 = .ok (.istore_n 3, 1) := by decide +kernel
theorem dX11_asks_5 : decode cX11_asks 5 = .ok (.aload_n 0, 1) := by decide +kernel
theorem dX11_asks_6 : decode cX11_asks 6 = .ok (.iload_n 3, 1) := by decide +kernel
theorem dX11_asks_7 : decode cX11_asks 7 = .ok (.aload_n 0, 1) := by decide +kernel
theorem dX11_asks_8 : decode cX11_asks 8 = .ok (.iload_n 1, 1) := by decide +kernel
theorem dX11_asks_9 : decode cX11_asks 9 = .ok (.iconst 1, 1) := by decide +kernel
theorem dX11_asks_10 : decode cX11_asks 10 = .ok (.invokevirtual 76, 3) := by decide +kernel
theorem dX11_asks_13 : decode cX11_asks 13 = .ok (.if_icmp .lt 17, 3) := by decide +kernel
theorem dX11_asks_16 : decode cX11_asks 16 = .ok (.iload_n 3, 1) := by decide +kernel
theorem dX11_asks_17 : decode cX11_asks 17 = .ok (.aload_n 0, 1) := by decide +kernel
theorem dX11_asks_18 : decode cX11_asks 18 = .ok (.iload_n 1, 1) := by decide +kernel
theorem dX11_asks_19 : decode cX11_asks 19 = .ok (.iconst 2, 1) := by decide +kernel
theorem dX11_asks_20 : decode cX11_asks 20 = .ok (.invokevirtual 76, 3) := by decide +kernel
theorem dX11_asks_23 : decode cX11_asks 23 = .ok (.if_icmp .gt 7, 3) := by decide +kernel
theorem dX11_asks_26 : decode cX11_asks 26 = .ok (.iconst 1, 1) := by decide +kernel
theorem dX11_asks_27 : decode cX11_asks 27 = .ok (.goto 4, 3) := by decide +kernel
theorem dX11_asks_30 : decode cX11_asks 30 = .ok (.iconst 0, 1) := by decide +kernel
theorem dX11_asks_31 : decode cX11_asks 31 = .ok (.putfield 218, 3) := by decide +kernel
theorem dX11_asks_34 : decode cX11_asks 34 = .ok (.aload_n 0, 1) := by decide +kernel
theorem dX11_asks_35 : decode cX11_asks 35 = .ok (.iconst 0, 1) := by decide +kernel
theorem dX11_asks_36 : decode cX11_asks 36 = .ok (.putfield 257, 3) := by decide +kernel
theorem dX11_asks_39 : decode cX11_asks 39 = .ok (.aload_n 0, 1) := by decide +kernel
theorem dX11_asks_40 : decode cX11_asks 40 = .ok (.aload_n 0, 1) := by decide +kernel
theorem dX11_asks_41 : decode cX11_asks 41 = .ok (.getfield 7, 3) := by decide +kernel
theorem dX11_asks_44 : decode cX11_asks 44 = .ok (.iconst 2, 1) := by decide +kernel
theorem dX11_asks_45 : decode cX11_asks 45 = .ok (.iaload, 1) := by decide +kernel
theorem dX11_asks_46 : decode cX11_asks 46 = .ok (.iconst (-1), 1) := by decide +kernel
theorem dX11_asks_47 : decode cX11_asks 47 = .ok (.if_icmp .ne 7, 3) := by decide +kernel
theorem dX11_asks_50 : decode cX11_asks 50 = .ok (.iconst 5, 1) := by decide +kernel
theorem dX11_asks_51 : decode cX11_asks 51 = .ok (.goto 4, 3) := by decide +kernel
theorem dX11_asks_54 : decode cX11_asks 54 = .ok (.iconst 0, 1) := by decide +kernel
theorem dX11_asks_55 : decode cX11_asks 55 = .ok (.putfield 260, 3) := by decide +kernel
theorem dX11_asks_58 : decode cX11_asks 58 = .ok (.aload_n 0, 1) := by decide +kernel
theorem dX11_asks_59 : decode cX11_asks 59 = .ok (.aload_n 0, 1) := by decide +kernel
theorem dX11_asks_60 : decode cX11_asks 60 = .ok (.getfield 7, 3) := by decide +kernel
theorem dX11_asks_63 : decode cX11_asks 63 = .ok (.iconst 2, 1) := by decide +kernel
theorem dX11_asks_64 : decode cX11_asks 64 = .ok (.iaload, 1) := by decide +kernel
theorem dX11_asks_65 : decode cX11_asks 65 = .ok (.iconst (-1), 1) := by decide +kernel
theorem dX11_asks_66 : decode cX11_asks 66 = .ok (.if_icmp .ne 14, 3) := by decide +kernel
theorem dX11_asks_69 : decode cX11_asks 69 = .ok (.aload_n 0, 1) := by decide +kernel
theorem dX11_asks_70 : decode cX11_asks 70 = .ok (.getfield 218, 3) := by decide +kernel
theorem dX11_asks_73 : decode cX11_asks 73 = .ok (.ifCond .eq 7, 3) := by decide +kernel
theorem dX11_asks_76 : decode cX11_asks 76 = .ok (.iconst 1, 1) := by decide +kernel
theorem dX11_asks_77 : decode cX11_asks 77 = .ok (.goto 4, 3) := by decide +kernel
theorem dX11_asks_80 : decode cX11_asks 80 = .ok (.iconst 0, 1) := by decide +kernel
theorem dX11_asks_81 : decode cX11_asks 81 = .ok (.putfield 262, 3) := by decide +kernel
theorem dX11_asks_84 : decode cX11_asks 84 = .ok (.aload_n 0, 1) := by decide +kernel
theorem dX11_asks_85 : decode cX11_asks 85 = .ok (.getfield 7, 3) := by decide +kernel
theorem dX11_asks_88 : decode cX11_asks 88 = .ok (.iconst 2, 1) := by decide +kernel
theorem dX11_asks_89 : decode cX11_asks 89 = .ok (.iaload, 1) := by decide +kernel
theorem dX11_asks_90 : decode cX11_asks 90 = .ok (.iconst (-1), 1) := by decide +kernel
theorem dX11_asks_91 : decode cX11_asks 91 = .ok (.if_icmp .ne 4, 3) := by decide +kernel
theorem dX11_asks_94 : decode cX11_asks 94 = .ok (.return_, 1) := by decide +kernel
theorem dX11_asks_95 : decode cX11_asks 95 = .ok (.aload_n 0, 1) := by decide +kernel
theorem dX11_asks_96 : decode cX11_asks 96 = .ok (.aload_n 0, 1) := by decide +kernel
theorem dX11_asks_97 : decode cX11_asks 97 = .ok (.iload_n 2, 1) := by decide +kernel
theorem dX11_asks_98 : decode cX11_asks 98 = .ok (.iconst 1, 1) := by decide +kernel
theorem dX11_asks_99 : decode cX11_asks 99 = .ok (.isub, 1) := by decide +kernel
theorem dX11_asks_100 : decode cX11_asks 100 = .ok (.invokevirtual 264, 3) := by decide +kernel
theorem dX11_asks_103 : decode cX11_asks 103 = .ok (.iload_n 1, 1) := by decide +kernel
theorem dX11_asks_104 : decode cX11_asks 104 = .ok (.if_icmp .eq 14, 3) := by decide +kernel
theorem dX11_asks_107 : decode cX11_asks 107 = .ok (.aload_n 0, 1) := by decide +kernel
theorem dX11_asks_108 : decode cX11_asks 108 = .ok (.iload_n 2, 1) := by decide +kernel
theorem dX11_asks_109 : decode cX11_asks 109 = .ok (.iconst 1, 1) := by decide +kernel
theorem dX11_asks_110 : decode cX11_asks 110 = .ok (.iadd, 1) := by decide +kernel
theorem dX11_asks_111 : decode cX11_asks 111 = .ok (.invokevirtual 264, 3) := by decide +kernel
theorem dX11_asks_114 : decode cX11_asks 114 = .ok (.iload_n 1, 1) := by decide +kernel
theorem dX11_asks_115 : decode cX11_asks 115 = .ok (.if_icmp .ne 7, 3) := by decide +kernel
theorem dX11_asks_118 : decode cX11_asks 118 = .ok (.iconst 1, 1) := by decide +kernel
theorem dX11_asks_119 : decode cX11_asks 119 = .ok (.goto 4, 3) := by decide +kernel
theorem dX11_asks_122 : decode cX11_asks 122 = .ok (.iconst 0, 1) := by decide +kernel
theorem dX11_asks_123 : decode cX11_asks 123 = .ok (.putfield 224, 3) := by decide +kernel
theorem dX11_asks_126 : decode cX11_asks 126 = .ok (.aload_n 0, 1) := by decide +kernel
theorem dX11_asks_127 : decode cX11_asks 127 = .ok (.getfield 29, 3) := by decide +kernel
theorem dX11_asks_130 : decode cX11_asks 130 = .ok (.iconst 0, 1) := by decide +kernel
theorem dX11_asks_131 : decode cX11_asks 131 = .ok (.iload_n 2, 1) := by decide +kernel
theorem dX11_asks_132 : decode cX11_asks 132 = .ok (.bipush 24, 2) := by decide +kernel
theorem dX11_asks_134 : decode cX11_asks 134 = .ok (.idiv, 1) := by decide +kernel
theorem dX11_asks_135 : decode cX11_asks 135 = .ok (.iastore, 1) := by decide +kernel
theorem dX11_asks_136 : decode cX11_asks 136 = .ok (.aload_n 0, 1) := by decide +kernel
theorem dX11_asks_137 : decode cX11_asks 137 = .ok (.getfield 29, 3) := by decide +kernel
theorem dX11_asks_140 : decode cX11_asks 140 = .ok (.iconst 1, 1) := by decide +kernel
theorem dX11_asks_141 : decode cX11_asks 141 = .ok (.iload_n 3, 1) := by decide +kernel
theorem dX11_asks_142 : decode cX11_asks 142 = .ok (.iastore, 1) := by decide +kernel
theorem dX11_asks_143 : decode cX11_asks 143 = .ok (.aload_n 0, 1) := by decide +kernel
theorem dX11_asks_144 : decode cX11_asks 144 = .ok (.getfield 29, 3) := by decide +kernel
theorem dX11_asks_147 : decode cX11_asks 147 = .ok (.iconst 2, 1) := by decide +kernel
theorem dX11_asks_148 : decode cX11_asks 148 = .ok (.aload_n 0, 1) := by decide +kernel
theorem dX11_asks_149 : decode cX11_asks 149 = .ok (.iload_n 1, 1) := by decide +kernel
theorem dX11_asks_150 : decode cX11_asks 150 = .ok (.iconst 0, 1) := by decide +kernel
theorem dX11_asks_151 : decode cX11_asks 151 = .ok (.invokevirtual 76, 3) := by decide +kernel
theorem dX11_asks_154 : decode cX11_asks 154 = .ok (.iastore, 1) := by decide +kernel
theorem dX11_asks_155 : decode cX11_asks 155 = .ok (.aload_n 0, 1) := by decide +kernel
theorem dX11_asks_156 : decode cX11_asks 156 = .ok (.getfield 29, 3) := by decide +kernel
theorem dX11_asks_159 : decode cX11_asks 159 = .ok (.iconst 3, 1) := by decide +kernel
theorem dX11_asks_160 : decode cX11_asks 160 = .ok (.aload_n 0, 1) := by decide +kernel
theorem dX11_asks_161 : decode cX11_asks 161 = .ok (.iload_n 1, 1) := by decide +kernel
theorem dX11_asks_162 : decode cX11_asks 162 = .ok (.invokevirtual 267, 3) := by decide +kernel
theorem dX11_asks_165 : decode cX11_asks 165 = .ok (.iastore, 1) := by decide +kernel
theorem dX11_asks_166 : decode cX11_asks 166 = .ok (.aload_n 0, 1) := by decide +kernel
theorem dX11_asks_167 : decode cX11_asks 167 = .ok (.getfield 29, 3) := by decide +kernel
theorem dX11_asks_170 : decode cX11_asks 170 = .ok (.iconst 4, 1) := by decide +kernel
theorem dX11_asks_171 : decode cX11_asks 171 = .ok (.aload_n 0, 1) := by decide +kernel
theorem dX11_asks_172 : decode cX11_asks 172 = .ok (.iload_n 2, 1) := by decide +kernel
theorem dX11_asks_173 : decode cX11_asks 173 = .ok (.iconst 2, 1) := by decide +kernel
theorem dX11_asks_174 : decode cX11_asks 174 = .ok (.invokevirtual 84, 3) := by decide +kernel
theorem dX11_asks_177 : decode cX11_asks 177 = .ok (.iastore, 1) := by decide +kernel
theorem dX11_asks_178 : decode cX11_asks 178 = .ok (.aload_n 0, 1) := by decide +kernel
theorem dX11_asks_179 : decode cX11_asks 179 = .ok (.getfield 29, 3) := by decide +kernel
theorem dX11_asks_182 : decode cX11_asks 182 = .ok (.iconst 5, 1) := by decide +kernel
theorem dX11_asks_183 : decode cX11_asks 183 = .ok (.aload_n 0, 1) := by decide +kernel
theorem dX11_asks_184 : decode cX11_asks 184 = .ok (.getfield 7, 3) := by decide +kernel
theorem dX11_asks_187 : decode cX11_asks 187 = .ok (.iconst 4, 1) := by decide +kernel
theorem dX11_asks_188 : decode cX11_asks 188 = .ok (.iaload, 1) := by decide +kernel
theorem dX11_asks_189 : decode cX11_asks 189 = .ok (.iastore, 1) := by decide +kernel
theorem dX11_asks_190 : decode cX11_asks 190 = .ok (.aload_n 0, 1) := by decide +kernel
theorem dX11_asks_191 : decode cX11_asks 191 = .ok (.getfield 25, 3) := by decide +kernel
theorem dX11_asks_194 : decode cX11_asks 194 = .ok (.istore 4, 2) := by decide +kernel
theorem dX11_asks_196 : decode cX11_asks 196 = .ok (.aload_n 0, 1) := by decide +kernel
theorem dX11_asks_197 : decode cX11_asks 197 = .ok (.iconst (-1), 1) := by decide +kernel
theorem dX11_asks_198 : decode cX11_asks 198 = .ok (.putfield 25, 3) := by decide +kernel
theorem dX11_asks_201 : decode cX11_asks 201 = .ok (.aload_n 0, 1) := by decide +kernel
theorem dX11_asks_202 : decode cX11_asks 202 = .ok (.sipush 1080, 3) := by decide +kernel
theorem dX11_asks_205 : decode cX11_asks 205 = .ok (.putfield 94, 3) := by decide +kernel
theorem dX11_asks_208 : decode cX11_asks 208 = .ok (.aload_n 0, 1) := by decide +kernel
theorem dX11_asks_209 : decode cX11_asks 209 = .ok (.aload_n 0, 1) := by decide +kernel
theorem dX11_asks_210 : decode cX11_asks 210 = .ok (.getfield 7, 3) := by decide +kernel
theorem dX11_asks_213 : decode cX11_asks 213 = .ok (.iconst 3, 1) := by decide +kernel
theorem dX11_asks_214 : decode cX11_asks 214 = .ok (.iaload, 1) := by decide +kernel
theorem dX11_asks_215 : decode cX11_asks 215 = .ok (.putfield 100, 3) := by decide +kernel
theorem dX11_asks_218 : decode cX11_asks 218 = .ok (.aload_n 0, 1) := by decide +kernel
theorem dX11_asks_219 : decode cX11_asks 219 = .ok (.iconst 0, 1) := by decide +kernel
theorem dX11_asks_220 : decode cX11_asks 220 = .ok (.putfield 97, 3) := by decide +kernel
theorem dX11_asks_223 : decode cX11_asks 223 = .ok (.aload_n 0, 1) := by decide +kernel
theorem dX11_asks_224 : decode cX11_asks 224 = .ok (.iconst 0, 1) := by decide +kernel
theorem dX11_asks_225 : decode cX11_asks 225 = .ok (.putfield 184, 3) := by decide +kernel
theorem dX11_asks_228 : decode cX11_asks 228 = .ok (.aload_n 0, 1) := by decide +kernel
theorem dX11_asks_229 : decode cX11_asks 229 = .ok (.iconst 1, 1) := by decide +kernel
theorem dX11_asks_230 : decode cX11_asks 230 = .ok (.invokevirtual 199, 3) := by decide +kernel
theorem dX11_asks_233 : decode cX11_asks 233 = .ok (.pop, 1) := by decide +kernel
theorem dX11_asks_234 : decode cX11_asks 234 = .ok (.aload_n 0, 1) := by decide +kernel
theorem dX11_asks_235 : decode cX11_asks 235 = .ok (.iload 4, 2) := by decide +kernel
theorem dX11_asks_237 : decode cX11_asks 237 = .ok (.putfield 25, 3) := by decide +kernel
theorem dX11_asks_240 : decode cX11_asks 240 = .ok (.return_, 1) := by decide +kernel
theorem dX11_isBarred_0 : decode cX11_isBarred 0 = .ok (.aload_n 0, 1) := by decide +kernel
theorem dX11_isBarred_1 : decode cX11_isBarred 1 = .ok (.iload_n 1, 1) := by decide +kernel
theorem dX11_isBarred_2 : decode cX11_isBarred 2 = .ok (.iload_n 2, 1) := by decide +kernel
theorem dX11_isBarred_3 : decode cX11_isBarred 3 = .ok (.invokevirtual 270, 3) := by decide +kernel
theorem dX11_isBarred_6 : decode cX11_isBarred 6 = .ok (.aload_n 0, 1) := by decide +kernel
theorem dX11_isBarred_7 : decode cX11_isBarred 7 = .ok (.getfield 257, 3) := by decide +kernel
theorem dX11_isBarred_10 : decode cX11_isBarred 10 = .ok (.ireturn, 1) := by decide +kernel
theorem dX11_rentOf_0 : decode cX11_rentOf 0 = .ok (.aload_n 0, 1) := by decide +kernel
theorem dX11_rentOf_1 : decode cX11_rentOf 1 = .ok (.iload_n 1, 1) := by decide +kernel
theorem dX11_rentOf_2 : decode cX11_rentOf 2 = .ok (.iload_n 2, 1) := by decide +kernel
theorem dX11_rentOf_3 : decode cX11_rentOf 3 = .ok (.invokevirtual 270, 3) := by decide +kernel
theorem dX11_rentOf_6 : decode cX11_rentOf 6 = .ok (.aload_n 0, 1) := by decide +kernel
theorem dX11_rentOf_7 : decode cX11_rentOf 7 = .ok (.getfield 260, 3) := by decide +kernel
theorem dX11_rentOf_10 : decode cX11_rentOf 10 = .ok (.ireturn, 1) := by decide +kernel
theorem dX11_valueOf_0 : decode cX11_valueOf 0 = .ok (.aload_n 0, 1) := by decide +kernel
theorem dX11_valueOf_1 : decode cX11_valueOf 1 = .ok (.iload_n 1, 1) := by decide +kernel
theorem dX11_valueOf_2 : decode cX11_valueOf 2 = .ok (.iload_n 2, 1) := by decide +kernel
theorem dX11_valueOf_3 : decode cX11_valueOf 3 = .ok (.invokevirtual 270, 3) := by decide +kernel
theorem dX11_valueOf_6 : decode cX11_valueOf 6 = .ok (.aload_n 0, 1) := by decide +kernel
theorem dX11_valueOf_7 : decode cX11_valueOf 7 = .ok (.getfield 262, 3) := by decide +kernel
theorem dX11_valueOf_10 : decode cX11_valueOf 10 = .ok (.ireturn, 1) := by decide +kernel
theorem dX11_rentsOf_0 : decode cX11_rentsOf 0 = .ok (.iconst 0, 1) := by decide +kernel
theorem dX11_rentsOf_1 : decode cX11_rentsOf 1 = .ok (.istore_n 2, 1) := by decide +kernel
theorem dX11_rentsOf_2 : decode cX11_rentsOf 2 = .ok (.iconst 0, 1) := by decide +kernel
theorem dX11_rentsOf_3 : decode cX11_rentsOf 3 = .ok (.istore_n 3, 1) := by decide +kernel
theorem dX11_rentsOf_4 : decode cX11_rentsOf 4 = .ok (.iload_n 3, 1) := by decide +kernel
theorem dX11_rentsOf_5 : decode cX11_rentsOf 5 = .ok (.sipush 168, 3) := by decide +kernel
theorem dX11_rentsOf_8 : decode cX11_rentsOf 8 = .ok (.if_icmp .ge 32, 3) := by decide +kernel
theorem dX11_rentsOf_11 : decode cX11_rentsOf 11 = .ok (.iload_n 2, 1) := by decide +kernel
theorem dX11_rentsOf_12 : decode cX11_rentsOf 12 = .ok (.aload_n 0, 1) := by decide +kernel
theorem dX11_rentsOf_13 : decode cX11_rentsOf 13 = .ok (.iload_n 3, 1) := by decide +kernel
theorem dX11_rentsOf_14 : decode cX11_rentsOf 14 = .ok (.iconst 0, 1) := by decide +kernel
theorem dX11_rentsOf_15 : decode cX11_rentsOf 15 = .ok (.invokevirtual 84, 3) := by decide +kernel
theorem dX11_rentsOf_18 : decode cX11_rentsOf 18 = .ok (.iload_n 1, 1) := by decide +kernel
theorem dX11_rentsOf_19 : decode cX11_rentsOf 19 = .ok (.if_icmp .ne 12, 3) := by decide +kernel
theorem dX11_rentsOf_22 : decode cX11_rentsOf 22 = .ok (.aload_n 0, 1) := by decide +kernel
theorem dX11_rentsOf_23 : decode cX11_rentsOf 23 = .ok (.iload_n 1, 1) := by decide +kernel
theorem dX11_rentsOf_24 : decode cX11_rentsOf 24 = .ok (.iload_n 3, 1) := by decide +kernel
theorem dX11_rentsOf_25 : decode cX11_rentsOf 25 = .ok (.invokevirtual 274, 3) := by decide +kernel
theorem dX11_rentsOf_28 : decode cX11_rentsOf 28 = .ok (.goto 4, 3) := by decide +kernel
theorem dX11_rentsOf_31 : decode cX11_rentsOf 31 = .ok (.iconst 0, 1) := by decide +kernel
theorem dX11_rentsOf_32 : decode cX11_rentsOf 32 = .ok (.iadd, 1) := by decide +kernel
theorem dX11_rentsOf_33 : decode cX11_rentsOf 33 = .ok (.istore_n 2, 1) := by decide +kernel
theorem dX11_rentsOf_34 : decode cX11_rentsOf 34 = .ok (.iinc 3 1, 3) := by decide +kernel
theorem dX11_rentsOf_37 : decode cX11_rentsOf 37 = .ok (.goto (-33), 3) := by decide +kernel
theorem dX11_rentsOf_40 : decode cX11_rentsOf 40 = .ok (.iload_n 2, 1) := by decide +kernel
theorem dX11_rentsOf_41 : decode cX11_rentsOf 41 = .ok (.ireturn, 1) := by decide +kernel
theorem dX11_goodsOf_0 : decode cX11_goodsOf 0 = .ok (.iconst 0, 1) := by decide +kernel
theorem dX11_goodsOf_1 : decode cX11_goodsOf 1 = .ok (.istore_n 2, 1) := by decide +kernel
theorem dX11_goodsOf_2 : decode cX11_goodsOf 2 = .ok (.iconst 0, 1) := by decide +kernel
theorem dX11_goodsOf_3 : decode cX11_goodsOf 3 = .ok (.istore_n 3, 1) := by decide +kernel
theorem dX11_goodsOf_4 : decode cX11_goodsOf 4 = .ok (.iload_n 3, 1) := by decide +kernel
theorem dX11_goodsOf_5 : decode cX11_goodsOf 5 = .ok (.sipush 168, 3) := by decide +kernel
theorem dX11_goodsOf_8 : decode cX11_goodsOf 8 = .ok (.if_icmp .ge 32, 3) := by decide +kernel
theorem dX11_goodsOf_11 : decode cX11_goodsOf 11 = .ok (.iload_n 2, 1) := by decide +kernel
theorem dX11_goodsOf_12 : decode cX11_goodsOf 12 = .ok (.aload_n 0, 1) := by decide +kernel
theorem dX11_goodsOf_13 : decode cX11_goodsOf 13 = .ok (.iload_n 3, 1) := by decide +kernel
theorem dX11_goodsOf_14 : decode cX11_goodsOf 14 = .ok (.iconst 1, 1) := by decide +kernel
theorem dX11_goodsOf_15 : decode cX11_goodsOf 15 = .ok (.invokevirtual 84, 3) := by decide +kernel
theorem dX11_goodsOf_18 : decode cX11_goodsOf 18 = .ok (.iload_n 1, 1) := by decide +kernel
theorem dX11_goodsOf_19 : decode cX11_goodsOf 19 = .ok (.if_icmp .ne 12, 3) := by decide +kernel
theorem dX11_goodsOf_22 : decode cX11_goodsOf 22 = .ok (.aload_n 0, 1) := by decide +kernel
theorem dX11_goodsOf_23 : decode cX11_goodsOf 23 = .ok (.iload_n 3, 1) := by decide +kernel
theorem dX11_goodsOf_24 : decode cX11_goodsOf 24 = .ok (.iconst 2, 1) := by decide +kernel
theorem dX11_goodsOf_25 : decode cX11_goodsOf 25 = .ok (.invokevirtual 84, 3) := by decide +kernel
theorem dX11_goodsOf_28 : decode cX11_goodsOf 28 = .ok (.goto 4, 3) := by decide +kernel
theorem dX11_goodsOf_31 : decode cX11_goodsOf 31 = .ok (.iconst 0, 1) := by decide +kernel
theorem dX11_goodsOf_32 : decode cX11_goodsOf 32 = .ok (.iadd, 1) := by decide +kernel
theorem dX11_goodsOf_33 : decode cX11_goodsOf 33 = .ok (.istore_n 2, 1) := by decide +kernel
theorem dX11_goodsOf_34 : decode cX11_goodsOf 34 = .ok (.iinc 3 1, 3) := by decide +kernel
theorem dX11_goodsOf_37 : decode cX11_goodsOf 37 = .ok (.goto (-33), 3) := by decide +kernel
theorem dX11_goodsOf_40 : decode cX11_goodsOf 40 = .ok (.iload_n 2, 1) := by decide +kernel
theorem dX11_goodsOf_41 : decode cX11_goodsOf 41 = .ok (.ireturn, 1) := by decide +kernel
theorem dX11_tenant_0 : decode cX11_tenant 0 = .ok (.aload_n 0, 1) := by decide +kernel
theorem dX11_tenant_1 : decode cX11_tenant 1 = .ok (.aload_n 0, 1) := by decide +kernel
theorem dX11_tenant_2 : decode cX11_tenant 2 = .ok (.iload_n 1, 1) := by decide +kernel
theorem dX11_tenant_3 : decode cX11_tenant 3 = .ok (.invokevirtual 277, 3) := by decide +kernel
theorem dX11_tenant_6 : decode cX11_tenant 6 = .ok (.ifCond .ne 7, 3) := by decide +kernel
theorem dX11_tenant_9 : decode cX11_tenant 9 = .ok (.iconst 1, 1) := by decide +kernel
theorem dX11_tenant_10 : decode cX11_tenant 10 = .ok (.goto 18, 3) := by decide +kernel
theorem dX11_tenant_13 : decode cX11_tenant 13 = .ok (.iload_n 2, 1) := by decide +kernel
theorem dX11_tenant_14 : decode cX11_tenant 14 = .ok (.iconst 0, 1) := by decide +kernel
theorem dX11_tenant_15 : decode cX11_tenant 15 = .ok (.bipush 7, 2) := by decide +kernel
theorem dX11_tenant_17 : decode cX11_tenant 17 = .ok (.invokestatic 72, 3) := by decide +kernel
theorem dX11_tenant_20 : decode cX11_tenant 20 = .ok (.ifCond .ne 7, 3) := by decide +kernel
theorem dX11_tenant_23 : decode cX11_tenant 23 = .ok (.iconst 2, 1) := by decide +kernel
theorem dX11_tenant_24 : decode cX11_tenant 24 = .ok (.goto 4, 3) := by decide +kernel
theorem dX11_tenant_27 : decode cX11_tenant 27 = .ok (.iconst 0, 1) := by decide +kernel
theorem dX11_tenant_28 : decode cX11_tenant 28 = .ok (.putfield 69, 3) := by decide +kernel
theorem dX11_tenant_31 : decode cX11_tenant 31 = .ok (.aload_n 0, 1) := by decide +kernel
theorem dX11_tenant_32 : decode cX11_tenant 32 = .ok (.getfield 69, 3) := by decide +kernel
theorem dX11_tenant_35 : decode cX11_tenant 35 = .ok (.ifCond .le 5, 3) := by decide +kernel
theorem dX11_tenant_38 : decode cX11_tenant 38 = .ok (.iconst 0, 1) := by decide +kernel
theorem dX11_tenant_39 : decode cX11_tenant 39 = .ok (.ireturn, 1) := by decide +kernel
theorem dX11_tenant_40 : decode cX11_tenant 40 = .ok (.iload_n 2, 1) := by decide +kernel
theorem dX11_tenant_41 : decode cX11_tenant 41 = .ok (.iconst 4, 1) := by decide +kernel
theorem dX11_tenant_42 : decode cX11_tenant 42 = .ok (.if_icmp .ge 10, 3) := by decide +kernel
theorem dX11_tenant_45 : decode cX11_tenant 45 = .ok (.aload_n 0, 1) := by decide +kernel
theorem dX11_tenant_46 : decode cX11_tenant 46 = .ok (.iload_n 1, 1) := by decide +kernel
theorem dX11_tenant_47 : decode cX11_tenant 47 = .ok (.iload_n 2, 1) := by decide +kernel
theorem dX11_tenant_48 : decode cX11_tenant 48 = .ok (.invokevirtual 76, 3) := by decide +kernel
theorem dX11_tenant_51 : decode cX11_tenant 51 = .ok (.ireturn, 1) := by decide +kernel
theorem dX11_tenant_52 : decode cX11_tenant 52 = .ok (.iload_n 2, 1) := by decide +kernel
theorem dX11_tenant_53 : decode cX11_tenant 53 = .ok (.iconst 4, 1) := by decide +kernel
theorem dX11_tenant_54 : decode cX11_tenant 54 = .ok (.if_icmp .ne 11, 3) := by decide +kernel
theorem dX11_tenant_57 : decode cX11_tenant 57 = .ok (.aload_n 0, 1) := by decide +kernel
theorem dX11_tenant_58 : decode cX11_tenant 58 = .ok (.iload_n 1, 1) := by decide +kernel
theorem dX11_tenant_59 : decode cX11_tenant 59 = .ok (.invokevirtual 267, 3) := by decide +kernel
theorem dX11_tenant_62 : decode cX11_tenant 62 = .ok (.goto 35, 3) := by decide +kernel
theorem dX11_tenant_65 : decode cX11_tenant 65 = .ok (.iload_n 2, 1) := by decide +kernel
theorem dX11_tenant_66 : decode cX11_tenant 66 = .ok (.iconst 5, 1) := by decide +kernel
theorem dX11_tenant_67 : decode cX11_tenant 67 = .ok (.if_icmp .ne 11, 3) := by decide +kernel
theorem dX11_tenant_70 : decode cX11_tenant 70 = .ok (.aload_n 0, 1) := by decide +kernel
theorem dX11_tenant_71 : decode cX11_tenant 71 = .ok (.iload_n 1, 1) := by decide +kernel
theorem dX11_tenant_72 : decode cX11_tenant 72 = .ok (.invokevirtual 280, 3) := by decide +kernel
theorem dX11_tenant_75 : decode cX11_tenant 75 = .ok (.goto 22, 3) := by decide +kernel
theorem dX11_tenant_78 : decode cX11_tenant 78 = .ok (.iload_n 2, 1) := by decide +kernel
theorem dX11_tenant_79 : decode cX11_tenant 79 = .ok (.bipush 6, 2) := by decide +kernel
theorem dX11_tenant_81 : decode cX11_tenant 81 = .ok (.if_icmp .ne 11, 3) := by decide +kernel
theorem dX11_tenant_84 : decode cX11_tenant 84 = .ok (.aload_n 0, 1) := by decide +kernel
theorem dX11_tenant_85 : decode cX11_tenant 85 = .ok (.iload_n 1, 1) := by decide +kernel
theorem dX11_tenant_86 : decode cX11_tenant 86 = .ok (.invokevirtual 283, 3) := by decide +kernel
theorem dX11_tenant_89 : decode cX11_tenant 89 = .ok (.goto 8, 3) := by decide +kernel
theorem dX11_tenant_92 : decode cX11_tenant 92 = .ok (.aload_n 0, 1) := by decide +kernel
theorem dX11_tenant_93 : decode cX11_tenant 93 = .ok (.iload_n 1, 1) := by decide +kernel
theorem dX11_tenant_94 : decode cX11_tenant 94 = .ok (.invokevirtual 286, 3) := by decide +kernel
theorem dX11_tenant_97 : decode cX11_tenant 97 = .ok (.ireturn, 1) := by decide +kernel
theorem dX11_room_0 : decode cX11_room 0 = .ok (.aload_n 0, 1) := by decide +kernel
theorem dX11_room_1 : decode cX11_room 1 = .ok (.iload_n 1, 1) := by decide +kernel
theorem dX11_room_2 : decode cX11_room 2 = .ok (.invokestatic 289, 3) := by decide +kernel
theorem dX11_room_5 : decode cX11_room 5 = .ok (.ifCond .ne 7, 3) := by decide +kernel
theorem dX11_room_8 : decode cX11_room 8 = .ok (.iconst 1, 1) := by decide +kernel
theorem dX11_room_9 : decode cX11_room 9 = .ok (.goto 17, 3) := by decide +kernel
theorem dX11_room_12 : decode cX11_room 12 = .ok (.iload_n 2, 1) := by decide +kernel
theorem dX11_room_13 : decode cX11_room 13 = .ok (.iconst 0, 1) := by decide +kernel
theorem dX11_room_14 : decode cX11_room 14 = .ok (.iconst 5, 1) := by decide +kernel
theorem dX11_room_15 : decode cX11_room 15 = .ok (.invokestatic 72, 3) := by decide +kernel
theorem dX11_room_18 : decode cX11_room 18 = .ok (.ifCond .ne 7, 3) := by decide +kernel
theorem dX11_room_21 : decode cX11_room 21 = .ok (.iconst 2, 1) := by decide +kernel
theorem dX11_room_22 : decode cX11_room 22 = .ok (.goto 4, 3) := by decide +kernel
theorem dX11_room_25 : decode cX11_room 25 = .ok (.iconst 0, 1) := by decide +kernel
theorem dX11_room_26 : decode cX11_room 26 = .ok (.putfield 69, 3) := by decide +kernel
theorem dX11_room_29 : decode cX11_room 29 = .ok (.aload_n 0, 1) := by decide +kernel
theorem dX11_room_30 : decode cX11_room 30 = .ok (.getfield 69, 3) := by decide +kernel
theorem dX11_room_33 : decode cX11_room 33 = .ok (.ifCond .le 5, 3) := by decide +kernel
theorem dX11_room_36 : decode cX11_room 36 = .ok (.iconst 0, 1) := by decide +kernel
theorem dX11_room_37 : decode cX11_room 37 = .ok (.ireturn, 1) := by decide +kernel
theorem dX11_room_38 : decode cX11_room 38 = .ok (.iload_n 2, 1) := by decide +kernel
theorem dX11_room_39 : decode cX11_room 39 = .ok (.iconst 4, 1) := by decide +kernel
theorem dX11_room_40 : decode cX11_room 40 = .ok (.if_icmp .ge 12, 3) := by decide +kernel
theorem dX11_room_43 : decode cX11_room 43 = .ok (.aload_n 0, 1) := by decide +kernel
theorem dX11_room_44 : decode cX11_room 44 = .ok (.iload_n 1, 1) := by decide +kernel
theorem dX11_room_45 : decode cX11_room 45 = .ok (.iload_n 2, 1) := by decide +kernel
theorem dX11_room_46 : decode cX11_room 46 = .ok (.invokevirtual 84, 3) := by decide +kernel
theorem dX11_room_49 : decode cX11_room 49 = .ok (.goto 25, 3) := by decide +kernel
theorem dX11_room_52 : decode cX11_room 52 = .ok (.iload_n 2, 1) := by decide +kernel
theorem dX11_room_53 : decode cX11_room 53 = .ok (.iconst 4, 1) := by decide +kernel
theorem dX11_room_54 : decode cX11_room 54 = .ok (.if_icmp .ne 13, 3) := by decide +kernel
theorem dX11_room_57 : decode cX11_room 57 = .ok (.aload_n 0, 1) := by decide +kernel
theorem dX11_room_58 : decode cX11_room 58 = .ok (.iload_n 1, 1) := by decide +kernel
theorem dX11_room_59 : decode cX11_room 59 = .ok (.iconst 1, 1) := by decide +kernel
theorem dX11_room_60 : decode cX11_room 60 = .ok (.isub, 1) := by decide +kernel
theorem dX11_room_61 : decode cX11_room 61 = .ok (.invokevirtual 264, 3) := by decide +kernel
theorem dX11_room_64 : decode cX11_room 64 = .ok (.goto 10, 3) := by decide +kernel
theorem dX11_room_67 : decode cX11_room 67 = .ok (.aload_n 0, 1) := by decide +kernel
theorem dX11_room_68 : decode cX11_room 68 = .ok (.iload_n 1, 1) := by decide +kernel
theorem dX11_room_69 : decode cX11_room 69 = .ok (.iconst 1, 1) := by decide +kernel
theorem dX11_room_70 : decode cX11_room 70 = .ok (.iadd, 1) := by decide +kernel
theorem dX11_room_71 : decode cX11_room 71 = .ok (.invokevirtual 264, 3) := by decide +kernel
theorem dX11_room_74 : decode cX11_room 74 = .ok (.ireturn, 1) := by decide +kernel
theorem dX11_rule_0 : decode cX11_rule 0 = .ok (.aload_n 0, 1) := by decide +kernel
theorem dX11_rule_1 : decode cX11_rule 1 = .ok (.aload_n 0, 1) := by decide +kernel
theorem dX11_rule_2 : decode cX11_rule 2 = .ok (.iload_n 1, 1) := by decide +kernel
theorem dX11_rule_3 : decode cX11_rule 3 = .ok (.invokevirtual 277, 3) := by decide +kernel
theorem dX11_rule_6 : decode cX11_rule 6 = .ok (.ifCond .eq 10, 3) := by decide +kernel
theorem dX11_rule_9 : decode cX11_rule 9 = .ok (.iload_n 2, 1) := by decide +kernel
theorem dX11_rule_10 : decode cX11_rule 10 = .ok (.invokestatic 289, 3) := by decide +kernel
theorem dX11_rule_13 : decode cX11_rule 13 = .ok (.ifCond .ne 7, 3) := by decide +kernel
theorem dX11_rule_16 : decode cX11_rule 16 = .ok (.iconst 1, 1) := by decide +kernel
theorem dX11_rule_17 : decode cX11_rule 17 = .ok (.goto 17, 3) := by decide +kernel
theorem dX11_rule_20 : decode cX11_rule 20 = .ok (.iload_n 3, 1) := by decide +kernel
theorem dX11_rule_21 : decode cX11_rule 21 = .ok (.iconst 0, 1) := by decide +kernel
theorem dX11_rule_22 : decode cX11_rule 22 = .ok (.iconst 2, 1) := by decide +kernel
theorem dX11_rule_23 : decode cX11_rule 23 = .ok (.invokestatic 72, 3) := by decide +kernel
theorem dX11_rule_26 : decode cX11_rule 26 = .ok (.ifCond .ne 7, 3) := by decide +kernel
theorem dX11_rule_29 : decode cX11_rule 29 = .ok (.iconst 2, 1) := by decide +kernel
theorem dX11_rule_30 : decode cX11_rule 30 = .ok (.goto 4, 3) := by decide +kernel
theorem dX11_rule_33 : decode cX11_rule 33 = .ok (.iconst 0, 1) := by decide +kernel
theorem dX11_rule_34 : decode cX11_rule 34 = .ok (.putfield 69, 3) := by decide +kernel
theorem dX11_rule_37 : decode cX11_rule 37 = .ok (.aload_n 0, 1) := by decide +kernel
theorem dX11_rule_38 : decode cX11_rule 38 = .ok (.getfield 69, 3) := by decide +kernel
theorem dX11_rule_41 : decode cX11_rule 41 = .ok (.ifCond .gt 11, 3) := by decide +kernel
theorem dX11_rule_44 : decode cX11_rule 44 = .ok (.aload_n 0, 1) := by decide +kernel
theorem dX11_rule_45 : decode cX11_rule 45 = .ok (.iload_n 1, 1) := by decide +kernel
theorem dX11_rule_46 : decode cX11_rule 46 = .ok (.invokevirtual 80, 3) := by decide +kernel
theorem dX11_rule_49 : decode cX11_rule 49 = .ok (.ifCond .eq 5, 3) := by decide +kernel
theorem dX11_rule_52 : decode cX11_rule 52 = .ok (.iconst 0, 1) := by decide +kernel
theorem dX11_rule_53 : decode cX11_rule 53 = .ok (.ireturn, 1) := by decide +kernel
theorem dX11_rule_54 : decode cX11_rule 54 = .ok (.aload_n 0, 1) := by decide +kernel
theorem dX11_rule_55 : decode cX11_rule 55 = .ok (.iload_n 1, 1) := by decide +kernel
theorem dX11_rule_56 : decode cX11_rule 56 = .ok (.iload_n 2, 1) := by decide +kernel
theorem dX11_rule_57 : decode cX11_rule 57 = .ok (.invokevirtual 270, 3) := by decide +kernel
theorem dX11_rule_60 : decode cX11_rule 60 = .ok (.iload_n 3, 1) := by decide +kernel
theorem dX11_rule_61 : decode cX11_rule 61 = .ok (.ifCond .ne 18, 3) := by decide +kernel
theorem dX11_rule_64 : decode cX11_rule 64 = .ok (.aload_n 0, 1) := by decide +kernel
theorem dX11_rule_65 : decode cX11_rule 65 = .ok (.getfield 257, 3) := by decide +kernel
theorem dX11_rule_68 : decode cX11_rule 68 = .ok (.ifCond .eq 7, 3) := by decide +kernel
theorem dX11_rule_71 : decode cX11_rule 71 = .ok (.iconst 1, 1) := by decide +kernel
theorem dX11_rule_72 : decode cX11_rule 72 = .ok (.goto 23, 3) := by decide +kernel
theorem dX11_rule_75 : decode cX11_rule 75 = .ok (.iconst 0, 1) := by decide +kernel
theorem dX11_rule_76 : decode cX11_rule 76 = .ok (.goto 19, 3) := by decide +kernel
theorem dX11_rule_79 : decode cX11_rule 79 = .ok (.iload_n 3, 1) := by decide +kernel
theorem dX11_rule_80 : decode cX11_rule 80 = .ok (.iconst 1, 1) := by decide +kernel
theorem dX11_rule_81 : decode cX11_rule 81 = .ok (.if_icmp .ne 10, 3) := by decide +kernel
theorem dX11_rule_84 : decode cX11_rule 84 = .ok (.aload_n 0, 1) := by decide +kernel
theorem dX11_rule_85 : decode cX11_rule 85 = .ok (.getfield 260, 3) := by decide +kernel
theorem dX11_rule_88 : decode cX11_rule 88 = .ok (.goto 7, 3) := by decide +kernel
theorem dX11_rule_91 : decode cX11_rule 91 = .ok (.aload_n 0, 1) := by decide +kernel
theorem dX11_rule_92 : decode cX11_rule 92 = .ok (.getfield 262, 3) := by decide +kernel
theorem dX11_rule_95 : decode cX11_rule 95 = .ok (.ireturn, 1) := by decide +kernel
theorem dX11_roomOf_0 : decode cX11_roomOf 0 = .ok (.aload_n 0, 1) := by decide +kernel
theorem dX11_roomOf_1 : decode cX11_roomOf 1 = .ok (.aload_n 0, 1) := by decide +kernel
theorem dX11_roomOf_2 : decode cX11_roomOf 2 = .ok (.iload_n 1, 1) := by decide +kernel
theorem dX11_roomOf_3 : decode cX11_roomOf 3 = .ok (.invokevirtual 277, 3) := by decide +kernel
theorem dX11_roomOf_6 : decode cX11_roomOf 6 = .ok (.ifCond .ne 7, 3) := by decide +kernel
theorem dX11_roomOf_9 : decode cX11_roomOf 9 = .ok (.iconst 1, 1) := by decide +kernel
theorem dX11_roomOf_10 : decode cX11_roomOf 10 = .ok (.goto 4, 3) := by decide +kernel
theorem dX11_roomOf_13 : decode cX11_roomOf 13 = .ok (.iconst 0, 1) := by decide +kernel
theorem dX11_roomOf_14 : decode cX11_roomOf 14 = .ok (.putfield 69, 3) := by decide +kernel
theorem dX11_roomOf_17 : decode cX11_roomOf 17 = .ok (.aload_n 0, 1) := by decide +kernel
theorem dX11_roomOf_18 : decode cX11_roomOf 18 = .ok (.getfield 69, 3) := by decide +kernel
theorem dX11_roomOf_21 : decode cX11_roomOf 21 = .ok (.ifCond .le 5, 3) := by decide +kernel
theorem dX11_roomOf_24 : decode cX11_roomOf 24 = .ok (.iconst 0, 1) := by decide +kernel
theorem dX11_roomOf_25 : decode cX11_roomOf 25 = .ok (.ireturn, 1) := by decide +kernel
theorem dX11_roomOf_26 : decode cX11_roomOf 26 = .ok (.iload_n 2, 1) := by decide +kernel
theorem dX11_roomOf_27 : decode cX11_roomOf 27 = .ok (.istore 4, 2) := by decide +kernel
theorem dX11_roomOf_29 : decode cX11_roomOf 29 = .ok (.iconst 0, 1) := by decide +kernel
theorem dX11_roomOf_30 : decode cX11_roomOf 30 = .ok (.istore 5, 2) := by decide +kernel
theorem dX11_roomOf_32 : decode cX11_roomOf 32 = .ok (.iload 5, 2) := by decide +kernel
theorem dX11_roomOf_34 : decode cX11_roomOf 34 = .ok (.sipush 168, 3) := by decide +kernel
theorem dX11_roomOf_37 : decode cX11_roomOf 37 = .ok (.if_icmp .ge 59, 3) := by decide +kernel
theorem dX11_roomOf_40 : decode cX11_roomOf 40 = .ok (.iload 4, 2) := by decide +kernel
theorem dX11_roomOf_42 : decode cX11_roomOf 42 = .ok (.ifCond .lt 54, 3) := by decide +kernel
theorem dX11_roomOf_45 : decode cX11_roomOf 45 = .ok (.aload_n 0, 1) := by decide +kernel
theorem dX11_roomOf_46 : decode cX11_roomOf 46 = .ok (.iload 5, 2) := by decide +kernel
theorem dX11_roomOf_48 : decode cX11_roomOf 48 = .ok (.iload_n 3, 1) := by decide +kernel
theorem dX11_roomOf_49 : decode cX11_roomOf 49 = .ok (.ifCond .eq 7, 3) := by decide +kernel
theorem dX11_roomOf_52 : decode cX11_roomOf 52 = .ok (.iconst 1, 1) := by decide +kernel
theorem dX11_roomOf_53 : decode cX11_roomOf 53 = .ok (.goto 4, 3) := by decide +kernel
theorem dX11_roomOf_56 : decode cX11_roomOf 56 = .ok (.iconst 0, 1) := by decide +kernel
theorem dX11_roomOf_57 : decode cX11_roomOf 57 = .ok (.invokevirtual 84, 3) := by decide +kernel
theorem dX11_roomOf_60 : decode cX11_roomOf 60 = .ok (.iload_n 3, 1) := by decide +kernel
theorem dX11_roomOf_61 : decode cX11_roomOf 61 = .ok (.ifCond .eq 11, 3) := by decide +kernel
theorem dX11_roomOf_64 : decode cX11_roomOf 64 = .ok (.aload_n 0, 1) := by decide +kernel
theorem dX11_roomOf_65 : decode cX11_roomOf 65 = .ok (.iload_n 1, 1) := by decide +kernel
theorem dX11_roomOf_66 : decode cX11_roomOf 66 = .ok (.invokevirtual 87, 3) := by decide +kernel
theorem dX11_roomOf_69 : decode cX11_roomOf 69 = .ok (.goto 4, 3) := by decide +kernel
theorem dX11_roomOf_72 : decode cX11_roomOf 72 = .ok (.iload_n 1, 1) := by decide +kernel
theorem dX11_roomOf_73 : decode cX11_roomOf 73 = .ok (.if_icmp .eq 6, 3) := by decide +kernel
theorem dX11_roomOf_76 : decode cX11_roomOf 76 = .ok (.goto 14, 3) := by decide +kernel
theorem dX11_roomOf_79 : decode cX11_roomOf 79 = .ok (.iload 4, 2) := by decide +kernel
theorem dX11_roomOf_81 : decode cX11_roomOf 81 = .ok (.ifCond .ne 6, 3) := by decide +kernel
theorem dX11_roomOf_84 : decode cX11_roomOf 84 = .ok (.iload 5, 2) := by decide +kernel
theorem dX11_roomOf_86 : decode cX11_roomOf 86 = .ok (.ireturn, 1) := by decide +kernel
theorem dX11_roomOf_87 : decode cX11_roomOf 87 = .ok (.iinc 4 (-1), 3) := by decide +kernel
theorem dX11_roomOf_90 : decode cX11_roomOf 90 = .ok (.iinc 5 1, 3) := by decide +kernel
theorem dX11_roomOf_93 : decode cX11_roomOf 93 = .ok (.goto (-61), 3) := by decide +kernel
theorem dX11_roomOf_96 : decode cX11_roomOf 96 = .ok (.iconst (-1), 1) := by decide +kernel
theorem dX11_roomOf_97 : decode cX11_roomOf 97 = .ok (.ireturn, 1) := by decide +kernel
theorem dX11_remembers_0 : decode cX11_remembers 0 = .ok (.aload_n 0, 1) := by decide +kernel
theorem dX11_remembers_1 : decode cX11_remembers 1 = .ok (.getfield 202, 3) := by decide +kernel
theorem dX11_remembers_4 : decode cX11_remembers 4 = .ok (.bipush 12, 2) := by decide +kernel
theorem dX11_remembers_6 : decode cX11_remembers 6 = .ok (.if_icmp .ne 44, 3) := by decide +kernel
theorem dX11_remembers_9 : decode cX11_remembers 9 = .ok (.iconst 0, 1) := by decide +kernel
theorem dX11_remembers_10 : decode cX11_remembers 10 = .ok (.istore_n 1, 1) := by decide +kernel
theorem dX11_remembers_11 : decode cX11_remembers 11 = .ok (.iload_n 1, 1) := by decide +kernel
theorem dX11_remembers_12 : decode cX11_remembers 12 = .ok (.sipush 11880, 3) := by decide +kernel
theorem dX11_remembers_15 : decode cX11_remembers 15 = .ok (.if_icmp .ge 25, 3) := by decide +kernel
theorem dX11_remembers_18 : decode cX11_remembers 18 = .ok (.aload_n 0, 1) := by decide +kernel
theorem dX11_remembers_19 : decode cX11_remembers 19 = .ok (.getfield 19, 3) := by decide +kernel
theorem dX11_remembers_22 : decode cX11_remembers 22 = .ok (.iload_n 1, 1) := by decide +kernel
theorem dX11_remembers_23 : decode cX11_remembers 23 = .ok (.aload_n 0, 1) := by decide +kernel
theorem dX11_remembers_24 : decode cX11_remembers 24 = .ok (.getfield 19, 3) := by decide +kernel
theorem dX11_remembers_27 : decode cX11_remembers 27 = .ok (.iload_n 1, 1) := by decide +kernel
theorem dX11_remembers_28 : decode cX11_remembers 28 = .ok (.sipush 1080, 3) := by decide +kernel
theorem dX11_remembers_31 : decode cX11_remembers 31 = .ok (.iadd, 1) := by decide +kernel
theorem dX11_remembers_32 : decode cX11_remembers 32 = .ok (.iaload, 1) := by decide +kernel
theorem dX11_remembers_33 : decode cX11_remembers 33 = .ok (.iastore, 1) := by decide +kernel
theorem dX11_remembers_34 : decode cX11_remembers 34 = .ok (.iinc 1 1, 3) := by decide +kernel
theorem dX11_remembers_37 : decode cX11_remembers 37 = .ok (.goto (-26), 3) := by decide +kernel
theorem dX11_remembers_40 : decode cX11_remembers 40 = .ok (.aload_n 0, 1) := by decide +kernel
theorem dX11_remembers_41 : decode cX11_remembers 41 = .ok (.dup, 1) := by decide +kernel
theorem dX11_remembers_42 : decode cX11_remembers 42 = .ok (.getfield 202, 3) := by decide +kernel
theorem dX11_remembers_45 : decode cX11_remembers 45 = .ok (.iconst 1, 1) := by decide +kernel
theorem dX11_remembers_46 : decode cX11_remembers 46 = .ok (.isub, 1) := by decide +kernel
theorem dX11_remembers_47 : decode cX11_remembers 47 = .ok (.putfield 202, 3) := by decide +kernel
theorem dX11_remembers_50 : decode cX11_remembers 50 = .ok (.iconst 0, 1) := by decide +kernel
theorem dX11_remembers_51 : decode cX11_remembers 51 = .ok (.istore_n 1, 1) := by decide +kernel
theorem dX11_remembers_52 : decode cX11_remembers 52 = .ok (.iload_n 1, 1) := by decide +kernel
theorem dX11_remembers_53 : decode cX11_remembers 53 = .ok (.sipush 1080, 3) := by decide +kernel
theorem dX11_remembers_56 : decode cX11_remembers 56 = .ok (.if_icmp .ge 30, 3) := by decide +kernel
theorem dX11_remembers_59 : decode cX11_remembers 59 = .ok (.aload_n 0, 1) := by decide +kernel
theorem dX11_remembers_60 : decode cX11_remembers 60 = .ok (.getfield 19, 3) := by decide +kernel
theorem dX11_remembers_63 : decode cX11_remembers 63 = .ok (.sipush 1080, 3) := by decide +kernel
theorem dX11_remembers_66 : decode cX11_remembers 66 = .ok (.aload_n 0, 1) := by decide +kernel
theorem dX11_remembers_67 : decode cX11_remembers 67 = .ok (.getfield 202, 3) := by decide +kernel
theorem dX11_remembers_70 : decode cX11_remembers 70 = .ok (.imul, 1) := by decide +kernel
theorem dX11_remembers_71 : decode cX11_remembers 71 = .ok (.iload_n 1, 1) := by decide +kernel
theorem dX11_remembers_72 : decode cX11_remembers 72 = .ok (.iadd, 1) := by decide +kernel
theorem dX11_remembers_73 : decode cX11_remembers 73 = .ok (.aload_n 0, 1) := by decide +kernel
theorem dX11_remembers_74 : decode cX11_remembers 74 = .ok (.getfield 7, 3) := by decide +kernel
theorem dX11_remembers_77 : decode cX11_remembers 77 = .ok (.iload_n 1, 1) := by decide +kernel
theorem dX11_remembers_78 : decode cX11_remembers 78 = .ok (.iaload, 1) := by decide +kernel
theorem dX11_remembers_79 : decode cX11_remembers 79 = .ok (.iastore, 1) := by decide +kernel
theorem dX11_remembers_80 : decode cX11_remembers 80 = .ok (.iinc 1 1, 3) := by decide +kernel
theorem dX11_remembers_83 : decode cX11_remembers 83 = .ok (.goto (-31), 3) := by decide +kernel
theorem dX11_remembers_86 : decode cX11_remembers 86 = .ok (.aload_n 0, 1) := by decide +kernel
theorem dX11_remembers_87 : decode cX11_remembers 87 = .ok (.dup, 1) := by decide +kernel
theorem dX11_remembers_88 : decode cX11_remembers 88 = .ok (.getfield 202, 3) := by decide +kernel
theorem dX11_remembers_91 : decode cX11_remembers 91 = .ok (.iconst 1, 1) := by decide +kernel
theorem dX11_remembers_92 : decode cX11_remembers 92 = .ok (.iadd, 1) := by decide +kernel
theorem dX11_remembers_93 : decode cX11_remembers 93 = .ok (.putfield 202, 3) := by decide +kernel
theorem dX11_remembers_96 : decode cX11_remembers 96 = .ok (.return_, 1) := by decide +kernel
theorem dX11_writes_0 : decode cX11_writes 0 = .ok (.sipush 319, 3) := by decide +kernel
theorem dX11_writes_3 : decode cX11_writes 3 = .ok (.istore 4, 2) := by decide +kernel
theorem dX11_writes_5 : decode cX11_writes 5 = .ok (.iload 4, 2) := by decide +kernel
theorem dX11_writes_7 : decode cX11_writes 7 = .ok (.iconst 4, 1) := by decide +kernel
theorem dX11_writes_8 : decode cX11_writes 8 = .ok (.if_icmp .lt 33, 3) := by decide +kernel
theorem dX11_writes_11 : decode cX11_writes 11 = .ok (.aload_n 0, 1) := by decide +kernel
theorem dX11_writes_12 : decode cX11_writes 12 = .ok (.getfield 7, 3) := by decide +kernel
theorem dX11_writes_15 : decode cX11_writes 15 = .ok (.sipush 760, 3) := by decide +kernel
theorem dX11_writes_18 : decode cX11_writes 18 = .ok (.iload 4, 2) := by decide +kernel
theorem dX11_writes_20 : decode cX11_writes 20 = .ok (.iadd, 1) := by decide +kernel
theorem dX11_writes_21 : decode cX11_writes 21 = .ok (.aload_n 0, 1) := by decide +kernel
theorem dX11_writes_22 : decode cX11_writes 22 = .ok (.getfield 7, 3) := by decide +kernel
theorem dX11_writes_25 : decode cX11_writes 25 = .ok (.sipush 760, 3) := by decide +kernel
theorem dX11_writes_28 : decode cX11_writes 28 = .ok (.iload 4, 2) := by decide +kernel
theorem dX11_writes_30 : decode cX11_writes 30 = .ok (.iadd, 1) := by decide +kernel
theorem dX11_writes_31 : decode cX11_writes 31 = .ok (.iconst 4, 1) := by decide +kernel
theorem dX11_writes_32 : decode cX11_writes 32 = .ok (.isub, 1) := by decide +kernel
theorem dX11_writes_33 : decode cX11_writes 33 = .ok (.iaload, 1) := by decide +kernel
theorem dX11_writes_34 : decode cX11_writes 34 = .ok (.iastore, 1) := by decide +kernel
theorem dX11_writes_35 : decode cX11_writes 35 = .ok (.iinc 4 (-1), 3) := by decide +kernel
theorem dX11_writes_38 : decode cX11_writes 38 = .ok (.goto (-33), 3) := by decide +kernel
theorem dX11_writes_41 : decode cX11_writes 41 = .ok (.aload_n 0, 1) := by decide +kernel
theorem dX11_writes_42 : decode cX11_writes 42 = .ok (.getfield 7, 3) := by decide +kernel
theorem dX11_writes_45 : decode cX11_writes 45 = .ok (.sipush 760, 3) := by decide +kernel
theorem dX11_writes_48 : decode cX11_writes 48 = .ok (.aload_n 0, 1) := by decide +kernel
theorem dX11_writes_49 : decode cX11_writes 49 = .ok (.getfield 7, 3) := by decide +kernel
theorem dX11_writes_52 : decode cX11_writes 52 = .ok (.iconst 4, 1) := by decide +kernel
theorem dX11_writes_53 : decode cX11_writes 53 = .ok (.iaload, 1) := by decide +kernel
theorem dX11_writes_54 : decode cX11_writes 54 = .ok (.iastore, 1) := by decide +kernel
theorem dX11_writes_55 : decode cX11_writes 55 = .ok (.aload_n 0, 1) := by decide +kernel
theorem dX11_writes_56 : decode cX11_writes 56 = .ok (.getfield 7, 3) := by decide +kernel
theorem dX11_writes_59 : decode cX11_writes 59 = .ok (.sipush 761, 3) := by decide +kernel
theorem dX11_writes_62 : decode cX11_writes 62 = .ok (.iload_n 1, 1) := by decide +kernel
theorem dX11_writes_63 : decode cX11_writes 63 = .ok (.iastore, 1) := by decide +kernel
theorem dX11_writes_64 : decode cX11_writes 64 = .ok (.aload_n 0, 1) := by decide +kernel
theorem dX11_writes_65 : decode cX11_writes 65 = .ok (.getfield 7, 3) := by decide +kernel
theorem dX11_writes_68 : decode cX11_writes 68 = .ok (.sipush 762, 3) := by decide +kernel
theorem dX11_writes_71 : decode cX11_writes 71 = .ok (.iload_n 2, 1) := by decide +kernel
theorem dX11_writes_72 : decode cX11_writes 72 = .ok (.iastore, 1) := by decide +kernel
theorem dX11_writes_73 : decode cX11_writes 73 = .ok (.aload_n 0, 1) := by decide +kernel
theorem dX11_writes_74 : decode cX11_writes 74 = .ok (.getfield 7, 3) := by decide +kernel
theorem dX11_writes_77 : decode cX11_writes 77 = .ok (.sipush 763, 3) := by decide +kernel
theorem dX11_writes_80 : decode cX11_writes 80 = .ok (.iload_n 3, 1) := by decide +kernel
theorem dX11_writes_81 : decode cX11_writes 81 = .ok (.iastore, 1) := by decide +kernel
theorem dX11_writes_82 : decode cX11_writes 82 = .ok (.aload_n 0, 1) := by decide +kernel
theorem dX11_writes_83 : decode cX11_writes 83 = .ok (.getfield 7, 3) := by decide +kernel
theorem dX11_writes_86 : decode cX11_writes 86 = .ok (.bipush 10, 2) := by decide +kernel
theorem dX11_writes_88 : decode cX11_writes 88 = .ok (.bipush 80, 2) := by decide +kernel
theorem dX11_writes_90 : decode cX11_writes 90 = .ok (.aload_n 0, 1) := by decide +kernel
theorem dX11_writes_91 : decode cX11_writes 91 = .ok (.getfield 7, 3) := by decide +kernel
theorem dX11_writes_94 : decode cX11_writes 94 = .ok (.bipush 10, 2) := by decide +kernel
theorem dX11_writes_96 : decode cX11_writes 96 = .ok (.iaload, 1) := by decide +kernel
theorem dX11_writes_97 : decode cX11_writes 97 = .ok (.iconst 1, 1) := by decide +kernel
theorem dX11_writes_98 : decode cX11_writes 98 = .ok (.iadd, 1) := by decide +kernel
theorem dX11_writes_99 : decode cX11_writes 99 = .ok (.invokestatic 292, 3) := by decide +kernel
theorem dX11_writes_102 : decode cX11_writes 102 = .ok (.iastore, 1) := by decide +kernel
theorem dX11_writes_103 : decode cX11_writes 103 = .ok (.return_, 1) := by decide +kernel
theorem dX11_mayTake_0 : decode cX11_mayTake 0 = .ok (.aload_n 0, 1) := by decide +kernel
theorem dX11_mayTake_1 : decode cX11_mayTake 1 = .ok (.iload_n 1, 1) := by decide +kernel
theorem dX11_mayTake_2 : decode cX11_mayTake 2 = .ok (.invokevirtual 80, 3) := by decide +kernel
theorem dX11_mayTake_5 : decode cX11_mayTake 5 = .ok (.ifCond .ne 23, 3) := by decide +kernel
theorem dX11_mayTake_8 : decode cX11_mayTake 8 = .ok (.aload_n 0, 1) := by decide +kernel
theorem dX11_mayTake_9 : decode cX11_mayTake 9 = .ok (.iload_n 2, 1) := by decide +kernel
theorem dX11_mayTake_10 : decode cX11_mayTake 10 = .ok (.iconst 0, 1) := by decide +kernel
theorem dX11_mayTake_11 : decode cX11_mayTake 11 = .ok (.invokevirtual 84, 3) := by decide +kernel
theorem dX11_mayTake_14 : decode cX11_mayTake 14 = .ok (.iconst (-1), 1) := by decide +kernel
theorem dX11_mayTake_15 : decode cX11_mayTake 15 = .ok (.if_icmp .ne 13, 3) := by decide +kernel
theorem dX11_mayTake_18 : decode cX11_mayTake 18 = .ok (.aload_n 0, 1) := by decide +kernel
theorem dX11_mayTake_19 : decode cX11_mayTake 19 = .ok (.iload_n 2, 1) := by decide +kernel
theorem dX11_mayTake_20 : decode cX11_mayTake 20 = .ok (.iconst 3, 1) := by decide +kernel
theorem dX11_mayTake_21 : decode cX11_mayTake 21 = .ok (.invokevirtual 84, 3) := by decide +kernel
theorem dX11_mayTake_24 : decode cX11_mayTake 24 = .ok (.iconst 1, 1) := by decide +kernel
theorem dX11_mayTake_25 : decode cX11_mayTake 25 = .ok (.if_icmp .ne 5, 3) := by decide +kernel
theorem dX11_mayTake_28 : decode cX11_mayTake 28 = .ok (.iconst 0, 1) := by decide +kernel
theorem dX11_mayTake_29 : decode cX11_mayTake 29 = .ok (.ireturn, 1) := by decide +kernel
theorem dX11_mayTake_30 : decode cX11_mayTake 30 = .ok (.aload_n 0, 1) := by decide +kernel
theorem dX11_mayTake_31 : decode cX11_mayTake 31 = .ok (.iload_n 1, 1) := by decide +kernel
theorem dX11_mayTake_32 : decode cX11_mayTake 32 = .ok (.iload_n 2, 1) := by decide +kernel
theorem dX11_mayTake_33 : decode cX11_mayTake 33 = .ok (.invokevirtual 270, 3) := by decide +kernel
theorem dX11_mayTake_36 : decode cX11_mayTake 36 = .ok (.aload_n 0, 1) := by decide +kernel
theorem dX11_mayTake_37 : decode cX11_mayTake 37 = .ok (.getfield 257, 3) := by decide +kernel
theorem dX11_mayTake_40 : decode cX11_mayTake 40 = .ok (.ifCond .ne 20, 3) := by decide +kernel
theorem dX11_mayTake_43 : decode cX11_mayTake 43 = .ok (.aload_n 0, 1) := by decide +kernel
theorem dX11_mayTake_44 : decode cX11_mayTake 44 = .ok (.iload_n 1, 1) := by decide +kernel
theorem dX11_mayTake_45 : decode cX11_mayTake 45 = .ok (.iconst 0, 1) := by decide +kernel
theorem dX11_mayTake_46 : decode cX11_mayTake 46 = .ok (.invokevirtual 76, 3) := by decide +kernel
theorem dX11_mayTake_49 : decode cX11_mayTake 49 = .ok (.aload_n 0, 1) := by decide +kernel
theorem dX11_mayTake_50 : decode cX11_mayTake 50 = .ok (.getfield 260, 3) := by decide +kernel
theorem dX11_mayTake_53 : decode cX11_mayTake 53 = .ok (.if_icmp .lt 7, 3) := by decide +kernel
theorem dX11_mayTake_56 : decode cX11_mayTake 56 = .ok (.iconst 1, 1) := by decide +kernel
theorem dX11_mayTake_57 : decode cX11_mayTake 57 = .ok (.goto 4, 3) := by decide +kernel
theorem dX11_mayTake_60 : decode cX11_mayTake 60 = .ok (.iconst 0, 1) := by decide +kernel
theorem dX11_mayTake_61 : decode cX11_mayTake 61 = .ok (.ireturn, 1) := by decide +kernel
theorem dX11_takes_0 : decode cX11_takes 0 = .ok (.aload_n 0, 1) := by decide +kernel
theorem dX11_takes_1 : decode cX11_takes 1 = .ok (.iload_n 1, 1) := by decide +kernel
theorem dX11_takes_2 : decode cX11_takes 2 = .ok (.iload_n 2, 1) := by decide +kernel
theorem dX11_takes_3 : decode cX11_takes 3 = .ok (.invokevirtual 274, 3) := by decide +kernel
theorem dX11_takes_6 : decode cX11_takes 6 = .ok (.istore 4, 2) := by decide +kernel
theorem dX11_takes_8 : decode cX11_takes 8 = .ok (.aload_n 0, 1) := by decide +kernel
theorem dX11_takes_9 : decode cX11_takes 9 = .ok (.iload_n 1, 1) := by decide +kernel
theorem dX11_takes_10 : decode cX11_takes 10 = .ok (.iload 4, 2) := by decide +kernel
theorem dX11_takes_12 : decode cX11_takes 12 = .ok (.invokevirtual 295, 3) := by decide +kernel
theorem dX11_takes_15 : decode cX11_takes 15 = .ok (.aload_n 0, 1) := by decide +kernel
theorem dX11_takes_16 : decode cX11_takes 16 = .ok (.iload_n 2, 1) := by decide +kernel
theorem dX11_takes_17 : decode cX11_takes 17 = .ok (.iload_n 1, 1) := by decide +kernel
theorem dX11_takes_18 : decode cX11_takes 18 = .ok (.iload_n 1, 1) := by decide +kernel
theorem dX11_takes_19 : decode cX11_takes 19 = .ok (.invokevirtual 149, 3) := by decide +kernel
theorem dX11_takes_22 : decode cX11_takes 22 = .ok (.aload_n 0, 1) := by decide +kernel
theorem dX11_takes_23 : decode cX11_takes 23 = .ok (.iload_n 2, 1) := by decide +kernel
theorem dX11_takes_24 : decode cX11_takes 24 = .ok (.iload_n 1, 1) := by decide +kernel
theorem dX11_takes_25 : decode cX11_takes 25 = .ok (.iload_n 3, 1) := by decide +kernel
theorem dX11_takes_26 : decode cX11_takes 26 = .ok (.invokevirtual 298, 3) := by decide +kernel
theorem dX11_takes_29 : decode cX11_takes 29 = .ok (.iload 4, 2) := by decide +kernel
theorem dX11_takes_31 : decode cX11_takes 31 = .ok (.ireturn, 1) := by decide +kernel
theorem dX11_pays_0 : decode cX11_pays 0 = .ok (.aload_n 0, 1) := by decide +kernel
theorem dX11_pays_1 : decode cX11_pays 1 = .ok (.getfield 7, 3) := by decide +kernel
theorem dX11_pays_4 : decode cX11_pays 4 = .ok (.bipush 16, 2) := by decide +kernel
theorem dX11_pays_6 : decode cX11_pays 6 = .ok (.iconst 4, 1) := by decide +kernel
theorem dX11_pays_7 : decode cX11_pays 7 = .ok (.iload_n 1, 1) := by decide +kernel
theorem dX11_pays_8 : decode cX11_pays 8 = .ok (.imul, 1) := by decide +kernel
theorem dX11_pays_9 : decode cX11_pays 9 = .ok (.iadd, 1) := by decide +kernel
theorem dX11_pays_10 : decode cX11_pays 10 = .ok (.iconst 0, 1) := by decide +kernel
theorem dX11_pays_11 : decode cX11_pays 11 = .ok (.iadd, 1) := by decide +kernel
theorem dX11_pays_12 : decode cX11_pays 12 = .ok (.dup2, 1) := by decide +kernel
theorem dX11_pays_13 : decode cX11_pays 13 = .ok (.iaload, 1) := by decide +kernel
theorem dX11_pays_14 : decode cX11_pays 14 = .ok (.iload_n 2, 1) := by decide +kernel
theorem dX11_pays_15 : decode cX11_pays 15 = .ok (.isub, 1) := by decide +kernel
theorem dX11_pays_16 : decode cX11_pays 16 = .ok (.iastore, 1) := by decide +kernel
theorem dX11_pays_17 : decode cX11_pays 17 = .ok (.aload_n 0, 1) := by decide +kernel
theorem dX11_pays_18 : decode cX11_pays 18 = .ok (.getfield 7, 3) := by decide +kernel
theorem dX11_pays_21 : decode cX11_pays 21 = .ok (.bipush 6, 2) := by decide +kernel
theorem dX11_pays_23 : decode cX11_pays 23 = .ok (.dup2, 1) := by decide +kernel
theorem dX11_pays_24 : decode cX11_pays 24 = .ok (.iaload, 1) := by decide +kernel
theorem dX11_pays_25 : decode cX11_pays 25 = .ok (.iload_n 2, 1) := by decide +kernel
theorem dX11_pays_26 : decode cX11_pays 26 = .ok (.iadd, 1) := by decide +kernel
theorem dX11_pays_27 : decode cX11_pays 27 = .ok (.iastore, 1) := by decide +kernel
theorem dX11_pays_28 : decode cX11_pays 28 = .ok (.return_, 1) := by decide +kernel
theorem dX11_take_0 : decode cX11_take 0 = .ok (.aload_n 0, 1) := by decide +kernel
theorem dX11_take_1 : decode cX11_take 1 = .ok (.aload_n 0, 1) := by decide +kernel
theorem dX11_take_2 : decode cX11_take 2 = .ok (.iload_n 1, 1) := by decide +kernel
theorem dX11_take_3 : decode cX11_take 3 = .ok (.invokevirtual 277, 3) := by decide +kernel
theorem dX11_take_6 : decode cX11_take 6 = .ok (.ifCond .eq 10, 3) := by decide +kernel
theorem dX11_take_9 : decode cX11_take 9 = .ok (.iload_n 2, 1) := by decide +kernel
theorem dX11_take_10 : decode cX11_take 10 = .ok (.invokestatic 289, 3) := by decide +kernel
theorem dX11_take_13 : decode cX11_take 13 = .ok (.ifCond .ne 7, 3) := by decide +kernel
theorem dX11_take_16 : decode cX11_take 16 = .ok (.iconst 1, 1) := by decide +kernel
theorem dX11_take_17 : decode cX11_take 17 = .ok (.goto 17, 3) := by decide +kernel
theorem dX11_take_20 : decode cX11_take 20 = .ok (.aload_n 0, 1) := by decide +kernel
theorem dX11_take_21 : decode cX11_take 21 = .ok (.iload_n 1, 1) := by decide +kernel
theorem dX11_take_22 : decode cX11_take 22 = .ok (.iload_n 2, 1) := by decide +kernel
theorem dX11_take_23 : decode cX11_take 23 = .ok (.invokevirtual 301, 3) := by decide +kernel
theorem dX11_take_26 : decode cX11_take 26 = .ok (.ifCond .ne 7, 3) := by decide +kernel
theorem dX11_take_29 : decode cX11_take 29 = .ok (.iconst 2, 1) := by decide +kernel
theorem dX11_take_30 : decode cX11_take 30 = .ok (.goto 4, 3) := by decide +kernel
theorem dX11_take_33 : decode cX11_take 33 = .ok (.iconst 0, 1) := by decide +kernel
theorem dX11_take_34 : decode cX11_take 34 = .ok (.putfield 69, 3) := by decide +kernel
theorem dX11_take_37 : decode cX11_take 37 = .ok (.aload_n 0, 1) := by decide +kernel
theorem dX11_take_38 : decode cX11_take 38 = .ok (.getfield 69, 3) := by decide +kernel
theorem dX11_take_41 : decode cX11_take 41 = .ok (.ifCond .le 5, 3) := by decide +kernel
theorem dX11_take_44 : decode cX11_take 44 = .ok (.iconst 0, 1) := by decide +kernel
theorem dX11_take_45 : decode cX11_take 45 = .ok (.ireturn, 1) := by decide +kernel
theorem dX11_take_46 : decode cX11_take 46 = .ok (.aload_n 0, 1) := by decide +kernel
theorem dX11_take_47 : decode cX11_take 47 = .ok (.invokevirtual 305, 3) := by decide +kernel
theorem dX11_take_50 : decode cX11_take 50 = .ok (.aload_n 0, 1) := by decide +kernel
theorem dX11_take_51 : decode cX11_take 51 = .ok (.iload_n 1, 1) := by decide +kernel
theorem dX11_take_52 : decode cX11_take 52 = .ok (.iload_n 2, 1) := by decide +kernel
theorem dX11_take_53 : decode cX11_take 53 = .ok (.iconst 0, 1) := by decide +kernel
theorem dX11_take_54 : decode cX11_take 54 = .ok (.invokevirtual 308, 3) := by decide +kernel
theorem dX11_take_57 : decode cX11_take 57 = .ok (.ireturn, 1) := by decide +kernel
theorem dX11_leave_0 : decode cX11_leave 0 = .ok (.aload_n 0, 1) := by decide +kernel
theorem dX11_leave_1 : decode cX11_leave 1 = .ok (.iload_n 1, 1) := by decide +kernel
theorem dX11_leave_2 : decode cX11_leave 2 = .ok (.invokestatic 289, 3) := by decide +kernel
theorem dX11_leave_5 : decode cX11_leave 5 = .ok (.ifCond .ne 7, 3) := by decide +kernel
theorem dX11_leave_8 : decode cX11_leave 8 = .ok (.iconst 1, 1) := by decide +kernel
theorem dX11_leave_9 : decode cX11_leave 9 = .ok (.goto 18, 3) := by decide +kernel
theorem dX11_leave_12 : decode cX11_leave 12 = .ok (.aload_n 0, 1) := by decide +kernel
theorem dX11_leave_13 : decode cX11_leave 13 = .ok (.iload_n 1, 1) := by decide +kernel
theorem dX11_leave_14 : decode cX11_leave 14 = .ok (.iconst 0, 1) := by decide +kernel
theorem dX11_leave_15 : decode cX11_leave 15 = .ok (.invokevirtual 84, 3) := by decide +kernel
theorem dX11_leave_18 : decode cX11_leave 18 = .ok (.iconst (-1), 1) := by decide +kernel
theorem dX11_leave_19 : decode cX11_leave 19 = .ok (.if_icmp .ne 7, 3) := by decide +kernel
theorem dX11_leave_22 : decode cX11_leave 22 = .ok (.iconst 2, 1) := by decide +kernel
theorem dX11_leave_23 : decode cX11_leave 23 = .ok (.goto 4, 3) := by decide +kernel
theorem dX11_leave_26 : decode cX11_leave 26 = .ok (.iconst 0, 1) := by decide +kernel
theorem dX11_leave_27 : decode cX11_leave 27 = .ok (.putfield 69, 3) := by decide +kernel
theorem dX11_leave_30 : decode cX11_leave 30 = .ok (.aload_n 0, 1) := by decide +kernel
theorem dX11_leave_31 : decode cX11_leave 31 = .ok (.getfield 69, 3) := by decide +kernel
theorem dX11_leave_34 : decode cX11_leave 34 = .ok (.ifCond .le 5, 3) := by decide +kernel
theorem dX11_leave_37 : decode cX11_leave 37 = .ok (.iconst 0, 1) := by decide +kernel
theorem dX11_leave_38 : decode cX11_leave 38 = .ok (.ireturn, 1) := by decide +kernel
theorem dX11_leave_39 : decode cX11_leave 39 = .ok (.aload_n 0, 1) := by decide +kernel
theorem dX11_leave_40 : decode cX11_leave 40 = .ok (.invokevirtual 305, 3) := by decide +kernel
theorem dX11_leave_43 : decode cX11_leave 43 = .ok (.aload_n 0, 1) := by decide +kernel
theorem dX11_leave_44 : decode cX11_leave 44 = .ok (.iload_n 1, 1) := by decide +kernel
theorem dX11_leave_45 : decode cX11_leave 45 = .ok (.iconst 0, 1) := by decide +kernel
theorem dX11_leave_46 : decode cX11_leave 46 = .ok (.invokevirtual 84, 3) := by decide +kernel
theorem dX11_leave_49 : decode cX11_leave 49 = .ok (.istore_n 2, 1) := by decide +kernel
theorem dX11_leave_50 : decode cX11_leave 50 = .ok (.aload_n 0, 1) := by decide +kernel
theorem dX11_leave_51 : decode cX11_leave 51 = .ok (.iload_n 1, 1) := by decide +kernel
theorem dX11_leave_52 : decode cX11_leave 52 = .ok (.iconst (-1), 1) := by decide +kernel
theorem dX11_leave_53 : decode cX11_leave 53 = .ok (.iconst (-1), 1) := by decide +kernel
theorem dX11_leave_54 : decode cX11_leave 54 = .ok (.invokevirtual 149, 3) := by decide +kernel
theorem dX11_leave_57 : decode cX11_leave 57 = .ok (.iload_n 2, 1) := by decide +kernel
theorem dX11_leave_58 : decode cX11_leave 58 = .ok (.ireturn, 1) := by decide +kernel
theorem dX11_maySublet_0 : decode cX11_maySublet 0 = .ok (.aload_n 0, 1) := by decide +kernel
theorem dX11_maySublet_1 : decode cX11_maySublet 1 = .ok (.iload_n 1, 1) := by decide +kernel
theorem dX11_maySublet_2 : decode cX11_maySublet 2 = .ok (.iconst 0, 1) := by decide +kernel
theorem dX11_maySublet_3 : decode cX11_maySublet 3 = .ok (.invokevirtual 84, 3) := by decide +kernel
theorem dX11_maySublet_6 : decode cX11_maySublet 6 = .ok (.istore 4, 2) := by decide +kernel
theorem dX11_maySublet_8 : decode cX11_maySublet 8 = .ok (.iload 4, 2) := by decide +kernel
theorem dX11_maySublet_10 : decode cX11_maySublet 10 = .ok (.iconst (-1), 1) := by decide +kernel
theorem dX11_maySublet_11 : decode cX11_maySublet 11 = .ok (.if_icmp .eq 25, 3) := by decide +kernel
theorem dX11_maySublet_14 : decode cX11_maySublet 14 = .ok (.iload 4, 2) := by decide +kernel
theorem dX11_maySublet_16 : decode cX11_maySublet 16 = .ok (.iload_n 2, 1) := by decide +kernel
theorem dX11_maySublet_17 : decode cX11_maySublet 17 = .ok (.if_icmp .eq 19, 3) := by decide +kernel
theorem dX11_maySublet_20 : decode cX11_maySublet 20 = .ok (.aload_n 0, 1) := by decide +kernel
theorem dX11_maySublet_21 : decode cX11_maySublet 21 = .ok (.iload_n 1, 1) := by decide +kernel
theorem dX11_maySublet_22 : decode cX11_maySublet 22 = .ok (.invokevirtual 311, 3) := by decide +kernel
theorem dX11_maySublet_25 : decode cX11_maySublet 25 = .ok (.ifCond .ne 11, 3) := by decide +kernel
theorem dX11_maySublet_28 : decode cX11_maySublet 28 = .ok (.aload_n 0, 1) := by decide +kernel
theorem dX11_maySublet_29 : decode cX11_maySublet 29 = .ok (.iload_n 2, 1) := by decide +kernel
theorem dX11_maySublet_30 : decode cX11_maySublet 30 = .ok (.invokevirtual 80, 3) := by decide +kernel
theorem dX11_maySublet_33 : decode cX11_maySublet 33 = .ok (.ifCond .eq 5, 3) := by decide +kernel
theorem dX11_maySublet_36 : decode cX11_maySublet 36 = .ok (.iconst 0, 1) := by decide +kernel
theorem dX11_maySublet_37 : decode cX11_maySublet 37 = .ok (.ireturn, 1) := by decide +kernel
theorem dX11_maySublet_38 : decode cX11_maySublet 38 = .ok (.aload_n 0, 1) := by decide +kernel
theorem dX11_maySublet_39 : decode cX11_maySublet 39 = .ok (.iload_n 2, 1) := by decide +kernel
theorem dX11_maySublet_40 : decode cX11_maySublet 40 = .ok (.iconst 0, 1) := by decide +kernel
theorem dX11_maySublet_41 : decode cX11_maySublet 41 = .ok (.invokevirtual 76, 3) := by decide +kernel
theorem dX11_maySublet_44 : decode cX11_maySublet 44 = .ok (.iload_n 3, 1) := by decide +kernel
theorem dX11_maySublet_45 : decode cX11_maySublet 45 = .ok (.if_icmp .lt 16, 3) := by decide +kernel
theorem dX11_maySublet_48 : decode cX11_maySublet 48 = .ok (.aload_n 0, 1) := by decide +kernel
theorem dX11_maySublet_49 : decode cX11_maySublet 49 = .ok (.iload_n 2, 1) := by decide +kernel
theorem dX11_maySublet_50 : decode cX11_maySublet 50 = .ok (.iload_n 1, 1) := by decide +kernel
theorem dX11_maySublet_51 : decode cX11_maySublet 51 = .ok (.invokevirtual 314, 3) := by decide +kernel
theorem dX11_maySublet_54 : decode cX11_maySublet 54 = .ok (.ifCond .ne 7, 3) := by decide +kernel
theorem dX11_maySublet_57 : decode cX11_maySublet 57 = .ok (.iconst 1, 1) := by decide +kernel
theorem dX11_maySublet_58 : decode cX11_maySublet 58 = .ok (.goto 4, 3) := by decide +kernel
theorem dX11_maySublet_61 : decode cX11_maySublet 61 = .ok (.iconst 0, 1) := by decide +kernel
theorem dX11_maySublet_62 : decode cX11_maySublet 62 = .ok (.ireturn, 1) := by decide +kernel
theorem dX11_sublet_0 : decode cX11_sublet 0 = .ok (.aload_n 0, 1) := by decide +kernel
theorem dX11_sublet_1 : decode cX11_sublet 1 = .ok (.iload_n 1, 1) := by decide +kernel
theorem dX11_sublet_2 : decode cX11_sublet 2 = .ok (.invokestatic 289, 3) := by decide +kernel
theorem dX11_sublet_5 : decode cX11_sublet 5 = .ok (.ifCond .eq 11, 3) := by decide +kernel
theorem dX11_sublet_8 : decode cX11_sublet 8 = .ok (.aload_n 0, 1) := by decide +kernel
theorem dX11_sublet_9 : decode cX11_sublet 9 = .ok (.iload_n 2, 1) := by decide +kernel
theorem dX11_sublet_10 : decode cX11_sublet 10 = .ok (.invokevirtual 277, 3) := by decide +kernel
theorem dX11_sublet_13 : decode cX11_sublet 13 = .ok (.ifCond .ne 7, 3) := by decide +kernel
theorem dX11_sublet_16 : decode cX11_sublet 16 = .ok (.iconst 1, 1) := by decide +kernel
theorem dX11_sublet_17 : decode cX11_sublet 17 = .ok (.goto 33, 3) := by decide +kernel
theorem dX11_sublet_20 : decode cX11_sublet 20 = .ok (.iload_n 3, 1) := by decide +kernel
theorem dX11_sublet_21 : decode cX11_sublet 21 = .ok (.iconst 0, 1) := by decide +kernel
theorem dX11_sublet_22 : decode cX11_sublet 22 = .ok (.sipush 999, 3) := by decide +kernel
theorem dX11_sublet_25 : decode cX11_sublet 25 = .ok (.invokestatic 72, 3) := by decide +kernel
theorem dX11_sublet_28 : decode cX11_sublet 28 = .ok (.ifCond .ne 7, 3) := by decide +kernel
theorem dX11_sublet_31 : decode cX11_sublet 31 = .ok (.iconst 2, 1) := by decide +kernel
theorem dX11_sublet_32 : decode cX11_sublet 32 = .ok (.goto 18, 3) := by decide +kernel
theorem dX11_sublet_35 : decode cX11_sublet 35 = .ok (.aload_n 0, 1) := by decide +kernel
theorem dX11_sublet_36 : decode cX11_sublet 36 = .ok (.iload_n 1, 1) := by decide +kernel
theorem dX11_sublet_37 : decode cX11_sublet 37 = .ok (.iload_n 2, 1) := by decide +kernel
theorem dX11_sublet_38 : decode cX11_sublet 38 = .ok (.iload_n 3, 1) := by decide +kernel
theorem dX11_sublet_39 : decode cX11_sublet 39 = .ok (.invokevirtual 317, 3) := by decide +kernel
theorem dX11_sublet_42 : decode cX11_sublet 42 = .ok (.ifCond .ne 7, 3) := by decide +kernel
theorem dX11_sublet_45 : decode cX11_sublet 45 = .ok (.iconst 3, 1) := by decide +kernel
theorem dX11_sublet_46 : decode cX11_sublet 46 = .ok (.goto 4, 3) := by decide +kernel
theorem dX11_sublet_49 : decode cX11_sublet 49 = .ok (.iconst 0, 1) := by decide +kernel
theorem dX11_sublet_50 : decode cX11_sublet 50 = .ok (.putfield 69, 3) := by decide +kernel
theorem dX11_sublet_53 : decode cX11_sublet 53 = .ok (.aload_n 0, 1) := by decide +kernel
theorem dX11_sublet_54 : decode cX11_sublet 54 = .ok (.getfield 69, 3) := by decide +kernel
theorem dX11_sublet_57 : decode cX11_sublet 57 = .ok (.ifCond .le 5, 3) := by decide +kernel
theorem dX11_sublet_60 : decode cX11_sublet 60 = .ok (.iconst 0, 1) := by decide +kernel
theorem dX11_sublet_61 : decode cX11_sublet 61 = .ok (.ireturn, 1) := by decide +kernel
theorem dX11_sublet_62 : decode cX11_sublet 62 = .ok (.aload_n 0, 1) := by decide +kernel
theorem dX11_sublet_63 : decode cX11_sublet 63 = .ok (.invokevirtual 305, 3) := by decide +kernel
theorem dX11_sublet_66 : decode cX11_sublet 66 = .ok (.aload_n 0, 1) := by decide +kernel
theorem dX11_sublet_67 : decode cX11_sublet 67 = .ok (.iload_n 1, 1) := by decide +kernel
theorem dX11_sublet_68 : decode cX11_sublet 68 = .ok (.iconst 0, 1) := by decide +kernel
theorem dX11_sublet_69 : decode cX11_sublet 69 = .ok (.invokevirtual 84, 3) := by decide +kernel
theorem dX11_sublet_72 : decode cX11_sublet 72 = .ok (.istore 4, 2) := by decide +kernel
theorem dX11_sublet_74 : decode cX11_sublet 74 = .ok (.iload_n 3, 1) := by decide +kernel
theorem dX11_sublet_75 : decode cX11_sublet 75 = .ok (.sipush 9999, 3) := by decide +kernel
theorem dX11_sublet_78 : decode cX11_sublet 78 = .ok (.aload_n 0, 1) := by decide +kernel
theorem dX11_sublet_79 : decode cX11_sublet 79 = .ok (.iload 4, 2) := by decide +kernel
theorem dX11_sublet_81 : decode cX11_sublet 81 = .ok (.iconst 0, 1) := by decide +kernel
theorem dX11_sublet_82 : decode cX11_sublet 82 = .ok (.invokevirtual 76, 3) := by decide +kernel
theorem dX11_sublet_85 : decode cX11_sublet 85 = .ok (.isub, 1) := by decide +kernel
theorem dX11_sublet_86 : decode cX11_sublet 86 = .ok (.invokestatic 292, 3) := by decide +kernel
theorem dX11_sublet_89 : decode cX11_sublet 89 = .ok (.istore 5, 2) := by decide +kernel
theorem dX11_sublet_91 : decode cX11_sublet 91 = .ok (.aload_n 0, 1) := by decide +kernel
theorem dX11_sublet_92 : decode cX11_sublet 92 = .ok (.getfield 7, 3) := by decide +kernel
theorem dX11_sublet_95 : decode cX11_sublet 95 = .ok (.bipush 16, 2) := by decide +kernel
theorem dX11_sublet_97 : decode cX11_sublet 97 = .ok (.iconst 4, 1) := by decide +kernel
theorem dX11_sublet_98 : decode cX11_sublet 98 = .ok (.iload_n 2, 1) := by decide +kernel
theorem dX11_sublet_99 : decode cX11_sublet 99 = .ok (.imul, 1) := by decide +kernel
theorem dX11_sublet_100 : decode cX11_sublet 100 = .ok (.iadd, 1) := by decide +kernel
theorem dX11_sublet_101 : decode cX11_sublet 101 = .ok (.iconst 0, 1) := by decide +kernel
theorem dX11_sublet_102 : decode cX11_sublet 102 = .ok (.iadd, 1) := by decide +kernel
theorem dX11_sublet_103 : decode cX11_sublet 103 = .ok (.dup2, 1) := by decide +kernel
theorem dX11_sublet_104 : decode cX11_sublet 104 = .ok (.iaload, 1) := by decide +kernel
theorem dX11_sublet_105 : decode cX11_sublet 105 = .ok (.iload_n 3, 1) := by decide +kernel
theorem dX11_sublet_106 : decode cX11_sublet 106 = .ok (.isub, 1) := by decide +kernel
theorem dX11_sublet_107 : decode cX11_sublet 107 = .ok (.iastore, 1) := by decide +kernel
theorem dX11_sublet_108 : decode cX11_sublet 108 = .ok (.aload_n 0, 1) := by decide +kernel
theorem dX11_sublet_109 : decode cX11_sublet 109 = .ok (.getfield 7, 3) := by decide +kernel
theorem dX11_sublet_112 : decode cX11_sublet 112 = .ok (.bipush 16, 2) := by decide +kernel
theorem dX11_sublet_114 : decode cX11_sublet 114 = .ok (.iconst 4, 1) := by decide +kernel
theorem dX11_sublet_115 : decode cX11_sublet 115 = .ok (.iload 4, 2) := by decide +kernel
theorem dX11_sublet_117 : decode cX11_sublet 117 = .ok (.imul, 1) := by decide +kernel
theorem dX11_sublet_118 : decode cX11_sublet 118 = .ok (.iadd, 1) := by decide +kernel
theorem dX11_sublet_119 : decode cX11_sublet 119 = .ok (.iconst 0, 1) := by decide +kernel
theorem dX11_sublet_120 : decode cX11_sublet 120 = .ok (.iadd, 1) := by decide +kernel
theorem dX11_sublet_121 : decode cX11_sublet 121 = .ok (.dup2, 1) := by decide +kernel
theorem dX11_sublet_122 : decode cX11_sublet 122 = .ok (.iaload, 1) := by decide +kernel
theorem dX11_sublet_123 : decode cX11_sublet 123 = .ok (.iload 5, 2) := by decide +kernel
theorem dX11_sublet_125 : decode cX11_sublet 125 = .ok (.iadd, 1) := by decide +kernel
theorem dX11_sublet_126 : decode cX11_sublet 126 = .ok (.iastore, 1) := by decide +kernel
theorem dX11_sublet_127 : decode cX11_sublet 127 = .ok (.aload_n 0, 1) := by decide +kernel
theorem dX11_sublet_128 : decode cX11_sublet 128 = .ok (.getfield 7, 3) := by decide +kernel
theorem dX11_sublet_131 : decode cX11_sublet 131 = .ok (.bipush 6, 2) := by decide +kernel
theorem dX11_sublet_133 : decode cX11_sublet 133 = .ok (.dup2, 1) := by decide +kernel
theorem dX11_sublet_134 : decode cX11_sublet 134 = .ok (.iaload, 1) := by decide +kernel
theorem dX11_sublet_135 : decode cX11_sublet 135 = .ok (.iload_n 3, 1) := by decide +kernel
theorem dX11_sublet_136 : decode cX11_sublet 136 = .ok (.iload 5, 2) := by decide +kernel
theorem dX11_sublet_138 : decode cX11_sublet 138 = .ok (.isub, 1) := by decide +kernel
theorem dX11_sublet_139 : decode cX11_sublet 139 = .ok (.iadd, 1) := by decide +kernel
theorem dX11_sublet_140 : decode cX11_sublet 140 = .ok (.iastore, 1) := by decide +kernel
theorem dX11_sublet_141 : decode cX11_sublet 141 = .ok (.aload_n 0, 1) := by decide +kernel
theorem dX11_sublet_142 : decode cX11_sublet 142 = .ok (.iload_n 1, 1) := by decide +kernel
theorem dX11_sublet_143 : decode cX11_sublet 143 = .ok (.iload 4, 2) := by decide +kernel
theorem dX11_sublet_145 : decode cX11_sublet 145 = .ok (.iload_n 2, 1) := by decide +kernel
theorem dX11_sublet_146 : decode cX11_sublet 146 = .ok (.invokevirtual 149, 3) := by decide +kernel
theorem dX11_sublet_149 : decode cX11_sublet 149 = .ok (.aload_n 0, 1) := by decide +kernel
theorem dX11_sublet_150 : decode cX11_sublet 150 = .ok (.iload_n 1, 1) := by decide +kernel
theorem dX11_sublet_151 : decode cX11_sublet 151 = .ok (.iload_n 2, 1) := by decide +kernel
theorem dX11_sublet_152 : decode cX11_sublet 152 = .ok (.iconst 1, 1) := by decide +kernel
theorem dX11_sublet_153 : decode cX11_sublet 153 = .ok (.invokevirtual 298, 3) := by decide +kernel
theorem dX11_sublet_156 : decode cX11_sublet 156 = .ok (.iload 4, 2) := by decide +kernel
theorem dX11_sublet_158 : decode cX11_sublet 158 = .ok (.ireturn, 1) := by decide +kernel
theorem dX11_ends_0 : decode cX11_ends 0 = .ok (.aload_n 0, 1) := by decide +kernel
theorem dX11_ends_1 : decode cX11_ends 1 = .ok (.iload_n 1, 1) := by decide +kernel
theorem dX11_ends_2 : decode cX11_ends 2 = .ok (.invokestatic 289, 3) := by decide +kernel
theorem dX11_ends_5 : decode cX11_ends 5 = .ok (.ifCond .ne 7, 3) := by decide +kernel
theorem dX11_ends_8 : decode cX11_ends 8 = .ok (.iconst 1, 1) := by decide +kernel
theorem dX11_ends_9 : decode cX11_ends 9 = .ok (.goto 16, 3) := by decide +kernel
theorem dX11_ends_12 : decode cX11_ends 12 = .ok (.aload_n 0, 1) := by decide +kernel
theorem dX11_ends_13 : decode cX11_ends 13 = .ok (.iload_n 1, 1) := by decide +kernel
theorem dX11_ends_14 : decode cX11_ends 14 = .ok (.invokevirtual 311, 3) := by decide +kernel
theorem dX11_ends_17 : decode cX11_ends 17 = .ok (.ifCond .ne 7, 3) := by decide +kernel
theorem dX11_ends_20 : decode cX11_ends 20 = .ok (.iconst 2, 1) := by decide +kernel
theorem dX11_ends_21 : decode cX11_ends 21 = .ok (.goto 4, 3) := by decide +kernel
theorem dX11_ends_24 : decode cX11_ends 24 = .ok (.iconst 0, 1) := by decide +kernel
theorem dX11_ends_25 : decode cX11_ends 25 = .ok (.putfield 69, 3) := by decide +kernel
theorem dX11_ends_28 : decode cX11_ends 28 = .ok (.aload_n 0, 1) := by decide +kernel
theorem dX11_ends_29 : decode cX11_ends 29 = .ok (.getfield 69, 3) := by decide +kernel
theorem dX11_ends_32 : decode cX11_ends 32 = .ok (.ifCond .le 5, 3) := by decide +kernel
theorem dX11_ends_35 : decode cX11_ends 35 = .ok (.iconst 0, 1) := by decide +kernel
theorem dX11_ends_36 : decode cX11_ends 36 = .ok (.ireturn, 1) := by decide +kernel
theorem dX11_ends_37 : decode cX11_ends 37 = .ok (.aload_n 0, 1) := by decide +kernel
theorem dX11_ends_38 : decode cX11_ends 38 = .ok (.invokevirtual 305, 3) := by decide +kernel
theorem dX11_ends_41 : decode cX11_ends 41 = .ok (.aload_n 0, 1) := by decide +kernel
theorem dX11_ends_42 : decode cX11_ends 42 = .ok (.iload_n 1, 1) := by decide +kernel
theorem dX11_ends_43 : decode cX11_ends 43 = .ok (.iconst 1, 1) := by decide +kernel
theorem dX11_ends_44 : decode cX11_ends 44 = .ok (.invokevirtual 84, 3) := by decide +kernel
theorem dX11_ends_47 : decode cX11_ends 47 = .ok (.istore_n 2, 1) := by decide +kernel
theorem dX11_ends_48 : decode cX11_ends 48 = .ok (.aload_n 0, 1) := by decide +kernel
theorem dX11_ends_49 : decode cX11_ends 49 = .ok (.iload_n 1, 1) := by decide +kernel
theorem dX11_ends_50 : decode cX11_ends 50 = .ok (.aload_n 0, 1) := by decide +kernel
theorem dX11_ends_51 : decode cX11_ends 51 = .ok (.iload_n 1, 1) := by decide +kernel
theorem dX11_ends_52 : decode cX11_ends 52 = .ok (.iconst 0, 1) := by decide +kernel
theorem dX11_ends_53 : decode cX11_ends 53 = .ok (.invokevirtual 84, 3) := by decide +kernel
theorem dX11_ends_56 : decode cX11_ends 56 = .ok (.aload_n 0, 1) := by decide +kernel
theorem dX11_ends_57 : decode cX11_ends 57 = .ok (.iload_n 1, 1) := by decide +kernel
theorem dX11_ends_58 : decode cX11_ends 58 = .ok (.iconst 0, 1) := by decide +kernel
theorem dX11_ends_59 : decode cX11_ends 59 = .ok (.invokevirtual 84, 3) := by decide +kernel
theorem dX11_ends_62 : decode cX11_ends 62 = .ok (.invokevirtual 149, 3) := by decide +kernel
theorem dX11_ends_65 : decode cX11_ends 65 = .ok (.iload_n 2, 1) := by decide +kernel
theorem dX11_ends_66 : decode cX11_ends 66 = .ok (.ireturn, 1) := by decide +kernel
theorem dX11_evict_0 : decode cX11_evict 0 = .ok (.aload_n 0, 1) := by decide +kernel
theorem dX11_evict_1 : decode cX11_evict 1 = .ok (.iload_n 1, 1) := by decide +kernel
theorem dX11_evict_2 : decode cX11_evict 2 = .ok (.invokestatic 289, 3) := by decide +kernel
theorem dX11_evict_5 : decode cX11_evict 5 = .ok (.ifCond .ne 7, 3) := by decide +kernel
theorem dX11_evict_8 : decode cX11_evict 8 = .ok (.iconst 1, 1) := by decide +kernel
theorem dX11_evict_9 : decode cX11_evict 9 = .ok (.goto 18, 3) := by decide +kernel
theorem dX11_evict_12 : decode cX11_evict 12 = .ok (.aload_n 0, 1) := by decide +kernel
theorem dX11_evict_13 : decode cX11_evict 13 = .ok (.iload_n 1, 1) := by decide +kernel
theorem dX11_evict_14 : decode cX11_evict 14 = .ok (.iconst 1, 1) := by decide +kernel
theorem dX11_evict_15 : decode cX11_evict 15 = .ok (.invokevirtual 84, 3) := by decide +kernel
theorem dX11_evict_18 : decode cX11_evict 18 = .ok (.iconst (-1), 1) := by decide +kernel
theorem dX11_evict_19 : decode cX11_evict 19 = .ok (.if_icmp .ne 7, 3) := by decide +kernel
theorem dX11_evict_22 : decode cX11_evict 22 = .ok (.iconst 2, 1) := by decide +kernel
theorem dX11_evict_23 : decode cX11_evict 23 = .ok (.goto 4, 3) := by decide +kernel
theorem dX11_evict_26 : decode cX11_evict 26 = .ok (.iconst 0, 1) := by decide +kernel
theorem dX11_evict_27 : decode cX11_evict 27 = .ok (.putfield 69, 3) := by decide +kernel
theorem dX11_evict_30 : decode cX11_evict 30 = .ok (.aload_n 0, 1) := by decide +kernel
theorem dX11_evict_31 : decode cX11_evict 31 = .ok (.getfield 69, 3) := by decide +kernel
theorem dX11_evict_34 : decode cX11_evict 34 = .ok (.ifCond .le 5, 3) := by decide +kernel
theorem dX11_evict_37 : decode cX11_evict 37 = .ok (.iconst 0, 1) := by decide +kernel
theorem dX11_evict_38 : decode cX11_evict 38 = .ok (.ireturn, 1) := by decide +kernel
theorem dX11_evict_39 : decode cX11_evict 39 = .ok (.aload_n 0, 1) := by decide +kernel
theorem dX11_evict_40 : decode cX11_evict 40 = .ok (.invokevirtual 305, 3) := by decide +kernel
theorem dX11_evict_43 : decode cX11_evict 43 = .ok (.aload_n 0, 1) := by decide +kernel
theorem dX11_evict_44 : decode cX11_evict 44 = .ok (.iload_n 1, 1) := by decide +kernel
theorem dX11_evict_45 : decode cX11_evict 45 = .ok (.iconst 0, 1) := by decide +kernel
theorem dX11_evict_46 : decode cX11_evict 46 = .ok (.invokevirtual 84, 3) := by decide +kernel
theorem dX11_evict_49 : decode cX11_evict 49 = .ok (.istore_n 2, 1) := by decide +kernel
theorem dX11_evict_50 : decode cX11_evict 50 = .ok (.aload_n 0, 1) := by decide +kernel
theorem dX11_evict_51 : decode cX11_evict 51 = .ok (.iload_n 1, 1) := by decide +kernel
theorem dX11_evict_52 : decode cX11_evict 52 = .ok (.invokevirtual 311, 3) := by decide +kernel
theorem dX11_evict_55 : decode cX11_evict 55 = .ok (.ifCond .eq 12, 3) := by decide +kernel
theorem dX11_evict_58 : decode cX11_evict 58 = .ok (.aload_n 0, 1) := by decide +kernel
theorem dX11_evict_59 : decode cX11_evict 59 = .ok (.iload_n 1, 1) := by decide +kernel
theorem dX11_evict_60 : decode cX11_evict 60 = .ok (.iload_n 2, 1) := by decide +kernel
theorem dX11_evict_61 : decode cX11_evict 61 = .ok (.iload_n 2, 1) := by decide +kernel
theorem dX11_evict_62 : decode cX11_evict 62 = .ok (.invokevirtual 149, 3) := by decide +kernel
theorem dX11_evict_65 : decode cX11_evict 65 = .ok (.iconst (-1), 1) := by decide +kernel
theorem dX11_evict_66 : decode cX11_evict 66 = .ok (.ireturn, 1) := by decide +kernel
theorem dX11_evict_67 : decode cX11_evict 67 = .ok (.aload_n 0, 1) := by decide +kernel
theorem dX11_evict_68 : decode cX11_evict 68 = .ok (.iload_n 1, 1) := by decide +kernel
theorem dX11_evict_69 : decode cX11_evict 69 = .ok (.iconst (-1), 1) := by decide +kernel
theorem dX11_evict_70 : decode cX11_evict 70 = .ok (.iconst (-1), 1) := by decide +kernel
theorem dX11_evict_71 : decode cX11_evict 71 = .ok (.invokevirtual 149, 3) := by decide +kernel
theorem dX11_evict_74 : decode cX11_evict 74 = .ok (.iload_n 1, 1) := by decide +kernel
theorem dX11_evict_75 : decode cX11_evict 75 = .ok (.iload_n 1, 1) := by decide +kernel
theorem dX11_evict_76 : decode cX11_evict 76 = .ok (.bipush 24, 2) := by decide +kernel
theorem dX11_evict_78 : decode cX11_evict 78 = .ok (.irem, 1) := by decide +kernel
theorem dX11_evict_79 : decode cX11_evict 79 = .ok (.isub, 1) := by decide +kernel
theorem dX11_evict_80 : decode cX11_evict 80 = .ok (.iconst 3, 1) := by decide +kernel
theorem dX11_evict_81 : decode cX11_evict 81 = .ok (.iadd, 1) := by decide +kernel
theorem dX11_evict_82 : decode cX11_evict 82 = .ok (.istore_n 3, 1) := by decide +kernel
theorem dX11_evict_83 : decode cX11_evict 83 = .ok (.iload_n 3, 1) := by decide +kernel
theorem dX11_evict_84 : decode cX11_evict 84 = .ok (.iload_n 1, 1) := by decide +kernel
theorem dX11_evict_85 : decode cX11_evict 85 = .ok (.if_icmp .eq 23, 3) := by decide +kernel
theorem dX11_evict_88 : decode cX11_evict 88 = .ok (.aload_n 0, 1) := by decide +kernel
theorem dX11_evict_89 : decode cX11_evict 89 = .ok (.iload_n 3, 1) := by decide +kernel
theorem dX11_evict_90 : decode cX11_evict 90 = .ok (.iconst 0, 1) := by decide +kernel
theorem dX11_evict_91 : decode cX11_evict 91 = .ok (.invokevirtual 84, 3) := by decide +kernel
theorem dX11_evict_94 : decode cX11_evict 94 = .ok (.iconst (-1), 1) := by decide +kernel
theorem dX11_evict_95 : decode cX11_evict 95 = .ok (.if_icmp .ne 13, 3) := by decide +kernel
theorem dX11_evict_98 : decode cX11_evict 98 = .ok (.aload_n 0, 1) := by decide +kernel
theorem dX11_evict_99 : decode cX11_evict 99 = .ok (.iload_n 3, 1) := by decide +kernel
theorem dX11_evict_100 : decode cX11_evict 100 = .ok (.iconst 3, 1) := by decide +kernel
theorem dX11_evict_101 : decode cX11_evict 101 = .ok (.invokevirtual 84, 3) := by decide +kernel
theorem dX11_evict_104 : decode cX11_evict 104 = .ok (.iconst 1, 1) := by decide +kernel
theorem dX11_evict_105 : decode cX11_evict 105 = .ok (.if_icmp .ne 5, 3) := by decide +kernel
theorem dX11_evict_108 : decode cX11_evict 108 = .ok (.iconst (-1), 1) := by decide +kernel
theorem dX11_evict_109 : decode cX11_evict 109 = .ok (.ireturn, 1) := by decide +kernel
theorem dX11_evict_110 : decode cX11_evict 110 = .ok (.aload_n 0, 1) := by decide +kernel
theorem dX11_evict_111 : decode cX11_evict 111 = .ok (.iload_n 3, 1) := by decide +kernel
theorem dX11_evict_112 : decode cX11_evict 112 = .ok (.iload_n 2, 1) := by decide +kernel
theorem dX11_evict_113 : decode cX11_evict 113 = .ok (.iload_n 2, 1) := by decide +kernel
theorem dX11_evict_114 : decode cX11_evict 114 = .ok (.invokevirtual 149, 3) := by decide +kernel
theorem dX11_evict_117 : decode cX11_evict 117 = .ok (.aload_n 0, 1) := by decide +kernel
theorem dX11_evict_118 : decode cX11_evict 118 = .ok (.iload_n 3, 1) := by decide +kernel
theorem dX11_evict_119 : decode cX11_evict 119 = .ok (.iload_n 2, 1) := by decide +kernel
theorem dX11_evict_120 : decode cX11_evict 120 = .ok (.iconst 2, 1) := by decide +kernel
theorem dX11_evict_121 : decode cX11_evict 121 = .ok (.invokevirtual 298, 3) := by decide +kernel
theorem dX11_evict_124 : decode cX11_evict 124 = .ok (.iload_n 3, 1) := by decide +kernel
theorem dX11_evict_125 : decode cX11_evict 125 = .ok (.ireturn, 1) := by decide +kernel
theorem dX11_carry_0 : decode cX11_carry 0 = .ok (.aload_n 0, 1) := by decide +kernel
theorem dX11_carry_1 : decode cX11_carry 1 = .ok (.aload_n 0, 1) := by decide +kernel
theorem dX11_carry_2 : decode cX11_carry 2 = .ok (.iload_n 1, 1) := by decide +kernel
theorem dX11_carry_3 : decode cX11_carry 3 = .ok (.invokevirtual 277, 3) := by decide +kernel
theorem dX11_carry_6 : decode cX11_carry 6 = .ok (.ifCond .eq 17, 3) := by decide +kernel
theorem dX11_carry_9 : decode cX11_carry 9 = .ok (.iload_n 2, 1) := by decide +kernel
theorem dX11_carry_10 : decode cX11_carry 10 = .ok (.invokestatic 289, 3) := by decide +kernel
theorem dX11_carry_13 : decode cX11_carry 13 = .ok (.ifCond .eq 10, 3) := by decide +kernel
theorem dX11_carry_16 : decode cX11_carry 16 = .ok (.iload_n 3, 1) := by decide +kernel
theorem dX11_carry_17 : decode cX11_carry 17 = .ok (.invokestatic 289, 3) := by decide +kernel
theorem dX11_carry_20 : decode cX11_carry 20 = .ok (.ifCond .ne 7, 3) := by decide +kernel
theorem dX11_carry_23 : decode cX11_carry 23 = .ok (.iconst 1, 1) := by decide +kernel
theorem dX11_carry_24 : decode cX11_carry 24 = .ok (.goto 48, 3) := by decide +kernel
theorem dX11_carry_27 : decode cX11_carry 27 = .ok (.iload 4, 2) := by decide +kernel
theorem dX11_carry_29 : decode cX11_carry 29 = .ok (.iconst 1, 1) := by decide +kernel
theorem dX11_carry_30 : decode cX11_carry 30 = .ok (.bipush 99, 2) := by decide +kernel
theorem dX11_carry_32 : decode cX11_carry 32 = .ok (.invokestatic 72, 3) := by decide +kernel
theorem dX11_carry_35 : decode cX11_carry 35 = .ok (.ifCond .eq 8, 3) := by decide +kernel
theorem dX11_carry_38 : decode cX11_carry 38 = .ok (.iload_n 2, 1) := by decide +kernel
theorem dX11_carry_39 : decode cX11_carry 39 = .ok (.iload_n 3, 1) := by decide +kernel
theorem dX11_carry_40 : decode cX11_carry 40 = .ok (.if_icmp .ne 7, 3) := by decide +kernel
theorem dX11_carry_43 : decode cX11_carry 43 = .ok (.iconst 2, 1) := by decide +kernel
theorem dX11_carry_44 : decode cX11_carry 44 = .ok (.goto 28, 3) := by decide +kernel
theorem dX11_carry_47 : decode cX11_carry 47 = .ok (.aload_n 0, 1) := by decide +kernel
theorem dX11_carry_48 : decode cX11_carry 48 = .ok (.iload_n 2, 1) := by decide +kernel
theorem dX11_carry_49 : decode cX11_carry 49 = .ok (.iconst 1, 1) := by decide +kernel
theorem dX11_carry_50 : decode cX11_carry 50 = .ok (.invokevirtual 84, 3) := by decide +kernel
theorem dX11_carry_53 : decode cX11_carry 53 = .ok (.iload_n 1, 1) := by decide +kernel
theorem dX11_carry_54 : decode cX11_carry 54 = .ok (.if_icmp .ne 13, 3) := by decide +kernel
theorem dX11_carry_57 : decode cX11_carry 57 = .ok (.aload_n 0, 1) := by decide +kernel
theorem dX11_carry_58 : decode cX11_carry 58 = .ok (.iload_n 3, 1) := by decide +kernel
theorem dX11_carry_59 : decode cX11_carry 59 = .ok (.iconst 1, 1) := by decide +kernel
theorem dX11_carry_60 : decode cX11_carry 60 = .ok (.invokevirtual 84, 3) := by decide +kernel
theorem dX11_carry_63 : decode cX11_carry 63 = .ok (.iload_n 1, 1) := by decide +kernel
theorem dX11_carry_64 : decode cX11_carry 64 = .ok (.if_icmp .eq 7, 3) := by decide +kernel
theorem dX11_carry_67 : decode cX11_carry 67 = .ok (.iconst 3, 1) := by decide +kernel
theorem dX11_carry_68 : decode cX11_carry 68 = .ok (.goto 4, 3) := by decide +kernel
theorem dX11_carry_71 : decode cX11_carry 71 = .ok (.iconst 0, 1) := by decide +kernel
theorem dX11_carry_72 : decode cX11_carry 72 = .ok (.putfield 69, 3) := by decide +kernel
theorem dX11_carry_75 : decode cX11_carry 75 = .ok (.aload_n 0, 1) := by decide +kernel
theorem dX11_carry_76 : decode cX11_carry 76 = .ok (.getfield 69, 3) := by decide +kernel
theorem dX11_carry_79 : decode cX11_carry 79 = .ok (.ifCond .le 5, 3) := by decide +kernel
theorem dX11_carry_82 : decode cX11_carry 82 = .ok (.iconst 0, 1) := by decide +kernel
theorem dX11_carry_83 : decode cX11_carry 83 = .ok (.ireturn, 1) := by decide +kernel
theorem dX11_carry_84 : decode cX11_carry 84 = .ok (.aload_n 0, 1) := by decide +kernel
theorem dX11_carry_85 : decode cX11_carry 85 = .ok (.invokevirtual 305, 3) := by decide +kernel
theorem dX11_carry_88 : decode cX11_carry 88 = .ok (.iload 4, 2) := by decide +kernel
theorem dX11_carry_90 : decode cX11_carry 90 = .ok (.aload_n 0, 1) := by decide +kernel
theorem dX11_carry_91 : decode cX11_carry 91 = .ok (.iload_n 2, 1) := by decide +kernel
