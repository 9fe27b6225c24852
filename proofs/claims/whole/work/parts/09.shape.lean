def shL1 : List CD := [.inl (9, [some 1, none, none, some 2, some 26, some 50, none, some 74, none, none, some 159, some 160, some 162, some 164, some 173]),
  .inr (.inl (0, 400)),
  .inl (8, [some 3, some 10, some 19, some 25]),
  .inl (6, [some 4, some 5, some 6, some 7, some 8, some 9, none, none, none, none, none, none]),
  .inr (.inl (0, 168)),
  .inr (.inl (0, 168)),
  .inr (.inl (0, 168)),
  .inr (.inl (0, 10)),
  .inr (.inl (0, 10)),
  .inr (.inl (0, 80)),
  .inl (4, [some 11, some 12, some 13, some 14, some 15, some 16, some 17, some 18, none, none, none, none, none]),
  .inr (.inl (0, 10)),
  .inr (.inl (0, 10)),
  .inr (.inl (0, 10)),
  .inr (.inl (0, 168)),
  .inr (.inl (0, 8)),
  .inr (.inl (0, 8)),
  .inr (.inl (0, 8)),
  .inr (.inl (0, 8)),
  .inl (2, [some 20, some 21, some 22, some 23, some 24, none]),
  .inr (.inl (0, 400)),
  .inr (.inl (0, 13)),
  .inr (.inl (0, 12)),
  .inr (.inl (0, 12)),
  .inr (.inl (0, 40)),
  .inr (.inl (0, 8)),
  .inl (8, [some 27, some 34, some 43, some 49]),
  .inl (6, [some 28, some 29, some 30, some 31, some 32, some 33, none, none, none, none, none, none]),
  .inr (.inl (0, 168)),
  .inr (.inl (0, 168)),
  .inr (.inl (0, 168)),
  .inr (.inl (0, 10)),
  .inr (.inl (0, 10)),
  .inr (.inl (0, 80)),
  .inl (4, [some 35, some 36, some 37, some 38, some 39, some 40, some 41, some 42, none, none, none, none, none]),
  .inr (.inl (0, 10)),
  .inr (.inl (0, 10)),
  .inr (.inl (0, 10)),
  .inr (.inl (0, 168)),
  .inr (.inl (0, 8)),
  .inr (.inl (0, 8)),
  .inr (.inl (0, 8)),
  .inr (.inl (0, 8)),
  .inl (2, [some 44, some 45, some 46, some 47, some 48, none]),
  .inr (.inl (0, 400)),
  .inr (.inl (0, 13)),
  .inr (.inl (0, 12)),
  .inr (.inl (0, 12)),
  .inr (.inl (0, 40)),
  .inr (.inl (0, 8)),
  .inl (8, [some 51, some 58, some 67, some 73]),
  .inl (6, [some 52, some 53, some 54, some 55, some 56, some 57, none, none, none, none, none, none]),
  .inr (.inl (0, 168)),
  .inr (.inl (0, 168)),
  .inr (.inl (0, 168)),
  .inr (.inl (0, 10)),
  .inr (.inl (0, 10)),
  .inr (.inl (0, 80)),
  .inl (4, [some 59, some 60, some 61, some 62, some 63, some 64, some 65, some 66, none, none, none, none, none]),
  .inr (.inl (0, 10)),
  .inr (.inl (0, 10)),
  .inr (.inl (0, 10)),
  .inr (.inl (0, 168)),
  .inr (.inl (0, 8)),
  .inr (.inl (0, 8)),
  .inr (.inl (0, 8)),
  .inr (.inl (0, 8)),
  .inl (2, [some 68, some 69, some 70, some 71, some 72, none]),
  .inr (.inl (0, 400)),
  .inr (.inl (0, 13)),
  .inr (.inl (0, 12)),
  .inr (.inl (0, 12)),
  .inr (.inl (0, 40)),
  .inr (.inl (0, 8)),
  .inr (.inr [75, 82, 89, 96, 103, 110, 117, 124, 131, 138, 145, 152]),
  .inl (6, [some 76, some 77, some 78, some 79, some 80, some 81, none, none, none, none, none, none]),
  .inr (.inl (0, 168)),
  .inr (.inl (0, 168)),
  .inr (.inl (0, 168)),
  .inr (.inl (0, 10)),
  .inr (.inl (0, 10)),
  .inr (.inl (0, 80)),
  .inl (6, [some 83, some 84, some 85, some 86, some 87, some 88, none, none, none, none, none, none]),
  .inr (.inl (0, 168)),
  .inr (.inl (0, 168)),
  .inr (.inl (0, 168)),
  .inr (.inl (0, 10)),
  .inr (.inl (0, 10)),
  .inr (.inl (0, 80)),
  .inl (6, [some 90, some 91, some 92, some 93, some 94, some 95, none, none, none, none, none, none]),
  .inr (.inl (0, 168)),
  .inr (.inl (0, 168)),
  .inr (.inl (0, 168)),
  .inr (.inl (0, 10)),
  .inr (.inl (0, 10)),
  .inr (.inl (0, 80)),
  .inl (6, [some 97, some 98, some 99, some 100, some 101, some 102, none, none, none, none, none, none]),
  .inr (.inl (0, 168)),
  .inr (.inl (0, 168)),
  .inr (.inl (0, 168))]
def shL2 : List CD := [.inr (.inl (0, 10)),
  .inr (.inl (0, 10)),
  .inr (.inl (0, 80)),
  .inl (6, [some 104, some 105, some 106, some 107, some 108, some 109, none, none, none, none, none, none]),
  .inr (.inl (0, 168)),
  .inr (.inl (0, 168)),
  .inr (.inl (0, 168)),
  .inr (.inl (0, 10)),
  .inr (.inl (0, 10)),
  .inr (.inl (0, 80)),
  .inl (6, [some 111, some 112, some 113, some 114, some 115, some 116, none, none, none, none, none, none]),
  .inr (.inl (0, 168)),
  .inr (.inl (0, 168)),
  .inr (.inl (0, 168)),
  .inr (.inl (0, 10)),
  .inr (.inl (0, 10)),
  .inr (.inl (0, 80)),
  .inl (6, [some 118, some 119, some 120, some 121, some 122, some 123, none, none, none, none, none, none]),
  .inr (.inl (0, 168)),
  .inr (.inl (0, 168)),
  .inr (.inl (0, 168)),
  .inr (.inl (0, 10)),
  .inr (.inl (0, 10)),
  .inr (.inl (0, 80)),
  .inl (6, [some 125, some 126, some 127, some 128, some 129, some 130, none, none, none, none, none, none]),
  .inr (.inl (0, 168)),
  .inr (.inl (0, 168)),
  .inr (.inl (0, 168)),
  .inr (.inl (0, 10)),
  .inr (.inl (0, 10)),
  .inr (.inl (0, 80)),
  .inl (6, [some 132, some 133, some 134, some 135, some 136, some 137, none, none, none, none, none, none]),
  .inr (.inl (0, 168)),
  .inr (.inl (0, 168)),
  .inr (.inl (0, 168)),
  .inr (.inl (0, 10)),
  .inr (.inl (0, 10)),
  .inr (.inl (0, 80)),
  .inl (6, [some 139, some 140, some 141, some 142, some 143, some 144, none, none, none, none, none, none]),
  .inr (.inl (0, 168)),
  .inr (.inl (0, 168)),
  .inr (.inl (0, 168)),
  .inr (.inl (0, 10)),
  .inr (.inl (0, 10)),
  .inr (.inl (0, 80)),
  .inl (6, [some 146, some 147, some 148, some 149, some 150, some 151, none, none, none, none, none, none]),
  .inr (.inl (0, 168)),
  .inr (.inl (0, 168)),
  .inr (.inl (0, 168)),
  .inr (.inl (0, 10)),
  .inr (.inl (0, 10)),
  .inr (.inl (0, 80)),
  .inl (6, [some 153, some 154, some 155, some 156, some 157, some 158, none, none, none, none, none, none]),
  .inr (.inl (0, 168)),
  .inr (.inl (0, 168)),
  .inr (.inl (0, 168)),
  .inr (.inl (0, 10)),
  .inr (.inl (0, 10)),
  .inr (.inl (0, 80)),
  .inl (7, [some 1, none, none, none, none, none, none, some 27, some 34, none, none, none, none]),
  .inl (3, [some 1, none, none, none, none, none, none, some 43, some 161, none, none, none]),
  .inr (.inl (0, 40)),
  .inl (5, [some 2, some 3, some 163]),
  .inr (.inl (0, 168)),
  .inl (0, [some 2, some 3, some 165, some 166, some 167, some 168, some 169, some 170, some 171, some 172, none]),
  .inr (.inl (0, 168)),
  .inr (.inl (0, 10)),
  .inr (.inl (0, 3)),
  .inr (.inl (0, 18)),
  .inr (.inl (0, 6)),
  .inr (.inl (0, 6)),
  .inr (.inl (0, 10)),
  .inr (.inl (0, 10)),
  .inl (1, [some 2, some 174, some 175, some 176, some 177, none]),
  .inr (.inl (0, 168)),
  .inr (.inl (0, 168)),
  .inr (.inl (0, 8)),
  .inr (.inl (0, 256)),
  .inl (10, [none, some 179, some 180, none, some 181, some 182, none, some 183, none, none, none, none, none, none, some 184, none, none, none, none, none, some 185, some 186, some 187, some 188, some 189, some 190, none, some 191, some 192, some 193, some 194, some 195, some 196]),
  .inr (.inl (0, 1480)),
  .inr (.inl (0, 1480)),
  .inr (.inl (0, 1080)),
  .inr (.inl (0, 12960)),
  .inr (.inl (0, 400)),
  .inr (.inl (0, 6)),
  .inr (.inl (0, 168)),
  .inr (.inl (1, 168)),
  .inr (.inl (0, 168)),
  .inr (.inl (0, 256)),
  .inr (.inl (0, 8)),
  .inr (.inl (0, 168)),
  .inr (.inl (0, 10)),
  .inr (.inl (0, 10)),
  .inr (.inl (0, 60)),
  .inr (.inl (0, 6)),
  .inr (.inl (0, 6)),
  .inr (.inl (0, 3)),
  .inr (.inl (2, 1))]
def shL : List CD := shL1 ++ shL2
def shp (k : Nat) : CD := shL.getD k (.inr (.inr []))
def shN : Nat := 198
theorem sh_0 : shp 0 = .inl (9, [some 1, none, none, some 2, some 26, some 50, none, some 74, none, none, some 159, some 160, some 162, some 164, some 173]) := by decide +kernel
theorem sh_1 : shp 1 = .inr (.inl (0, 400)) := by decide +kernel
theorem sh_2 : shp 2 = .inl (8, [some 3, some 10, some 19, some 25]) := by decide +kernel
theorem sh_3 : shp 3 = .inl (6, [some 4, some 5, some 6, some 7, some 8, some 9, none, none, none, none, none, none]) := by decide +kernel
theorem sh_4 : shp 4 = .inr (.inl (0, 168)) := by decide +kernel
theorem sh_5 : shp 5 = .inr (.inl (0, 168)) := by decide +kernel
theorem sh_6 : shp 6 = .inr (.inl (0, 168)) := by decide +kernel
theorem sh_7 : shp 7 = .inr (.inl (0, 10)) := by decide +kernel
theorem sh_8 : shp 8 = .inr (.inl (0, 10)) := by decide +kernel
theorem sh_9 : shp 9 = .inr (.inl (0, 80)) := by decide +kernel
theorem sh_10 : shp 10 = .inl (4, [some 11, some 12, some 13, some 14, some 15, some 16, some 17, some 18, none, none, none, none, none]) := by decide +kernel
theorem sh_11 : shp 11 = .inr (.inl (0, 10)) := by decide +kernel
theorem sh_12 : shp 12 = .inr (.inl (0, 10)) := by decide +kernel
theorem sh_13 : shp 13 = .inr (.inl (0, 10)) := by decide +kernel
theorem sh_14 : shp 14 = .inr (.inl (0, 168)) := by decide +kernel
theorem sh_15 : shp 15 = .inr (.inl (0, 8)) := by decide +kernel
theorem sh_16 : shp 16 = .inr (.inl (0, 8)) := by decide +kernel
theorem sh_17 : shp 17 = .inr (.inl (0, 8)) := by decide +kernel
theorem sh_18 : shp 18 = .inr (.inl (0, 8)) := by decide +kernel
theorem sh_19 : shp 19 = .inl (2, [some 20, some 21, some 22, some 23, some 24, none]) := by decide +kernel
theorem sh_20 : shp 20 = .inr (.inl (0, 400)) := by decide +kernel
theorem sh_21 : shp 21 = .inr (.inl (0, 13)) := by decide +kernel
theorem sh_22 : shp 22 = .inr (.inl (0, 12)) := by decide +kernel
theorem sh_23 : shp 23 = .inr (.inl (0, 12)) := by decide +kernel
theorem sh_24 : shp 24 = .inr (.inl (0, 40)) := by decide +kernel
theorem sh_25 : shp 25 = .inr (.inl (0, 8)) := by decide +kernel
theorem sh_26 : shp 26 = .inl (8, [some 27, some 34, some 43, some 49]) := by decide +kernel
theorem sh_27 : shp 27 = .inl (6, [some 28, some 29, some 30, some 31, some 32, some 33, none, none, none, none, none, none]) := by decide +kernel
theorem sh_28 : shp 28 = .inr (.inl (0, 168)) := by decide +kernel
theorem sh_29 : shp 29 = .inr (.inl (0, 168)) := by decide +kernel
theorem sh_30 : shp 30 = .inr (.inl (0, 168)) := by decide +kernel
theorem sh_31 : shp 31 = .inr (.inl (0, 10)) := by decide +kernel
theorem sh_32 : shp 32 = .inr (.inl (0, 10)) := by decide +kernel
theorem sh_33 : shp 33 = .inr (.inl (0, 80)) := by decide +kernel
theorem sh_34 : shp 34 = .inl (4, [some 35, some 36, some 37, some 38, some 39, some 40, some 41, some 42, none, none, none, none, none]) := by decide +kernel
theorem sh_35 : shp 35 = .inr (.inl (0, 10)) := by decide +kernel
theorem sh_36 : shp 36 = .inr (.inl (0, 10)) := by decide +kernel
theorem sh_37 : shp 37 = .inr (.inl (0, 10)) := by decide +kernel
theorem sh_38 : shp 38 = .inr (.inl (0, 168)) := by decide +kernel
theorem sh_39 : shp 39 = .inr (.inl (0, 8)) := by decide +kernel
theorem sh_40 : shp 40 = .inr (.inl (0, 8)) := by decide +kernel
theorem sh_41 : shp 41 = .inr (.inl (0, 8)) := by decide +kernel
theorem sh_42 : shp 42 = .inr (.inl (0, 8)) := by decide +kernel
theorem sh_43 : shp 43 = .inl (2, [some 44, some 45, some 46, some 47, some 48, none]) := by decide +kernel
theorem sh_44 : shp 44 = .inr (.inl (0, 400)) := by decide +kernel
theorem sh_45 : shp 45 = .inr (.inl (0, 13)) := by decide +kernel
theorem sh_46 : shp 46 = .inr (.inl (0, 12)) := by decide +kernel
theorem sh_47 : shp 47 = .inr (.inl (0, 12)) := by decide +kernel
theorem sh_48 : shp 48 = .inr (.inl (0, 40)) := by decide +kernel
theorem sh_49 : shp 49 = .inr (.inl (0, 8)) := by decide +kernel
theorem sh_50 : shp 50 = .inl (8, [some 51, some 58, some 67, some 73]) := by decide +kernel
theorem sh_51 : shp 51 = .inl (6, [some 52, some 53, some 54, some 55, some 56, some 57, none, none, none, none, none, none]) := by decide +kernel
theorem sh_52 : shp 52 = .inr (.inl (0, 168)) := by decide +kernel
theorem sh_53 : shp 53 = .inr (.inl (0, 168)) := by decide +kernel
theorem sh_54 : shp 54 = .inr (.inl (0, 168)) := by decide +kernel
theorem sh_55 : shp 55 = .inr (.inl (0, 10)) := by decide +kernel
theorem sh_56 : shp 56 = .inr (.inl (0, 10)) := by decide +kernel
theorem sh_57 : shp 57 = .inr (.inl (0, 80)) := by decide +kernel
theorem sh_58 : shp 58 = .inl (4, [some 59, some 60, some 61, some 62, some 63, some 64, some 65, some 66, none, none, none, none, none]) := by decide +kernel
theorem sh_59 : shp 59 = .inr (.inl (0, 10)) := by decide +kernel
theorem sh_60 : shp 60 = .inr (.inl (0, 10)) := by decide +kernel
theorem sh_61 : shp 61 = .inr (.inl (0, 10)) := by decide +kernel
theorem sh_62 : shp 62 = .inr (.inl (0, 168)) := by decide +kernel
theorem sh_63 : shp 63 = .inr (.inl (0, 8)) := by decide +kernel
theorem sh_64 : shp 64 = .inr (.inl (0, 8)) := by decide +kernel
theorem sh_65 : shp 65 = .inr (.inl (0, 8)) := by decide +kernel
theorem sh_66 : shp 66 = .inr (.inl (0, 8)) := by decide +kernel
theorem sh_67 : shp 67 = .inl (2, [some 68, some 69, some 70, some 71, some 72, none]) := by decide +kernel
theorem sh_68 : shp 68 = .inr (.inl (0, 400)) := by decide +kernel
theorem sh_69 : shp 69 = .inr (.inl (0, 13)) := by decide +kernel
theorem sh_70 : shp 70 = .inr (.inl (0, 12)) := by decide +kernel
theorem sh_71 : shp 71 = .inr (.inl (0, 12)) := by decide +kernel
theorem sh_72 : shp 72 = .inr (.inl (0, 40)) := by decide +kernel
theorem sh_73 : shp 73 = .inr (.inl (0, 8)) := by decide +kernel
theorem sh_74 : shp 74 = .inr (.inr [75, 82, 89, 96, 103, 110, 117, 124, 131, 138, 145, 152]) := by decide +kernel
theorem sh_75 : shp 75 = .inl (6, [some 76, some 77, some 78, some 79, some 80, some 81, none, none, none, none, none, none]) := by decide +kernel
theorem sh_76 : shp 76 = .inr (.inl (0, 168)) := by decide +kernel
theorem sh_77 : shp 77 = .inr (.inl (0, 168)) := by decide +kernel
theorem sh_78 : shp 78 = .inr (.inl (0, 168)) := by decide +kernel
theorem sh_79 : shp 79 = .inr (.inl (0, 10)) := by decide +kernel
theorem sh_80 : shp 80 = .inr (.inl (0, 10)) := by decide +kernel
theorem sh_81 : shp 81 = .inr (.inl (0, 80)) := by decide +kernel
theorem sh_82 : shp 82 = .inl (6, [some 83, some 84, some 85, some 86, some 87, some 88, none, none, none, none, none, none]) := by decide +kernel
theorem sh_83 : shp 83 = .inr (.inl (0, 168)) := by decide +kernel
theorem sh_84 : shp 84 = .inr (.inl (0, 168)) := by decide +kernel
theorem sh_85 : shp 85 = .inr (.inl (0, 168)) := by decide +kernel
theorem sh_86 : shp 86 = .inr (.inl (0, 10)) := by decide +kernel
theorem sh_87 : shp 87 = .inr (.inl (0, 10)) := by decide +kernel
theorem sh_88 : shp 88 = .inr (.inl (0, 80)) := by decide +kernel
theorem sh_89 : shp 89 = .inl (6, [some 90, some 91, some 92, some 93, some 94, some 95, none, none, none, none, none, none]) := by decide +kernel
theorem sh_90 : shp 90 = .inr (.inl (0, 168)) := by decide +kernel
theorem sh_91 : shp 91 = .inr (.inl (0, 168)) := by decide +kernel
theorem sh_92 : shp 92 = .inr (.inl (0, 168)) := by decide +kernel
theorem sh_93 : shp 93 = .inr (.inl (0, 10)) := by decide +kernel
theorem sh_94 : shp 94 = .inr (.inl (0, 10)) := by decide +kernel
theorem sh_95 : shp 95 = .inr (.inl (0, 80)) := by decide +kernel
theorem sh_96 : shp 96 = .inl (6, [some 97, some 98, some 99, some 100, some 101, some 102, none, none, none, none, none, none]) := by decide +kernel
theorem sh_97 : shp 97 = .inr (.inl (0, 168)) := by decide +kernel
theorem sh_98 : shp 98 = .inr (.inl (0, 168)) := by decide +kernel
theorem sh_99 : shp 99 = .inr (.inl (0, 168)) := by decide +kernel
theorem sh_100 : shp 100 = .inr (.inl (0, 10)) := by decide +kernel
theorem sh_101 : shp 101 = .inr (.inl (0, 10)) := by decide +kernel
theorem sh_102 : shp 102 = .inr (.inl (0, 80)) := by decide +kernel
theorem sh_103 : shp 103 = .inl (6, [some 104, some 105, some 106, some 107, some 108, some 109, none, none, none, none, none, none]) := by decide +kernel
theorem sh_104 : shp 104 = .inr (.inl (0, 168)) := by decide +kernel
theorem sh_105 : shp 105 = .inr (.inl (0, 168)) := by decide +kernel
theorem sh_106 : shp 106 = .inr (.inl (0, 168)) := by decide +kernel
theorem sh_107 : shp 107 = .inr (.inl (0, 10)) := by decide +kernel
theorem sh_108 : shp 108 = .inr (.inl (0, 10)) := by decide +kernel
theorem sh_109 : shp 109 = .inr (.inl (0, 80)) := by decide +kernel
theorem sh_110 : shp 110 = .inl (6, [some 111, some 112, some 113, some 114, some 115, some 116, none, none, none, none, none, none]) := by decide +kernel
theorem sh_111 : shp 111 = .inr (.inl (0, 168)) := by decide +kernel
theorem sh_112 : shp 112 = .inr (.inl (0, 168)) := by decide +kernel
theorem sh_113 : shp 113 = .inr (.inl (0, 168)) := by decide +kernel
theorem sh_114 : shp 114 = .inr (.inl (0, 10)) := by decide +kernel
theorem sh_115 : shp 115 = .inr (.inl (0, 10)) := by decide +kernel
theorem sh_116 : shp 116 = .inr (.inl (0, 80)) := by decide +kernel
theorem sh_117 : shp 117 = .inl (6, [some 118, some 119, some 120, some 121, some 122, some 123, none, none, none, none, none, none]) := by decide +kernel
theorem sh_118 : shp 118 = .inr (.inl (0, 168)) := by decide +kernel
theorem sh_119 : shp 119 = .inr (.inl (0, 168)) := by decide +kernel
theorem sh_120 : shp 120 = .inr (.inl (0, 168)) := by decide +kernel
theorem sh_121 : shp 121 = .inr (.inl (0, 10)) := by decide +kernel
theorem sh_122 : shp 122 = .inr (.inl (0, 10)) := by decide +kernel
theorem sh_123 : shp 123 = .inr (.inl (0, 80)) := by decide +kernel
theorem sh_124 : shp 124 = .inl (6, [some 125, some 126, some 127, some 128, some 129, some 130, none, none, none, none, none, none]) := by decide +kernel
theorem sh_125 : shp 125 = .inr (.inl (0, 168)) := by decide +kernel
theorem sh_126 : shp 126 = .inr (.inl (0, 168)) := by decide +kernel
theorem sh_127 : shp 127 = .inr (.inl (0, 168)) := by decide +kernel
theorem sh_128 : shp 128 = .inr (.inl (0, 10)) := by decide +kernel
theorem sh_129 : shp 129 = .inr (.inl (0, 10)) := by decide +kernel
theorem sh_130 : shp 130 = .inr (.inl (0, 80)) := by decide +kernel
theorem sh_131 : shp 131 = .inl (6, [some 132, some 133, some 134, some 135, some 136, some 137, none, none, none, none, none, none]) := by decide +kernel
theorem sh_132 : shp 132 = .inr (.inl (0, 168)) := by decide +kernel
theorem sh_133 : shp 133 = .inr (.inl (0, 168)) := by decide +kernel
theorem sh_134 : shp 134 = .inr (.inl (0, 168)) := by decide +kernel
theorem sh_135 : shp 135 = .inr (.inl (0, 10)) := by decide +kernel
theorem sh_136 : shp 136 = .inr (.inl (0, 10)) := by decide +kernel
theorem sh_137 : shp 137 = .inr (.inl (0, 80)) := by decide +kernel
theorem sh_138 : shp 138 = .inl (6, [some 139, some 140, some 141, some 142, some 143, some 144, none, none, none, none, none, none]) := by decide +kernel
theorem sh_139 : shp 139 = .inr (.inl (0, 168)) := by decide +kernel
theorem sh_140 : shp 140 = .inr (.inl (0, 168)) := by decide +kernel
theorem sh_141 : shp 141 = .inr (.inl (0, 168)) := by decide +kernel
theorem sh_142 : shp 142 = .inr (.inl (0, 10)) := by decide +kernel
theorem sh_143 : shp 143 = .inr (.inl (0, 10)) := by decide +kernel
theorem sh_144 : shp 144 = .inr (.inl (0, 80)) := by decide +kernel
theorem sh_145 : shp 145 = .inl (6, [some 146, some 147, some 148, some 149, some 150, some 151, none, none, none, none, none, none]) := by decide +kernel
theorem sh_146 : shp 146 = .inr (.inl (0, 168)) := by decide +kernel
theorem sh_147 : shp 147 = .inr (.inl (0, 168)) := by decide +kernel
theorem sh_148 : shp 148 = .inr (.inl (0, 168)) := by decide +kernel
theorem sh_149 : shp 149 = .inr (.inl (0, 10)) := by decide +kernel
theorem sh_150 : shp 150 = .inr (.inl (0, 10)) := by decide +kernel
theorem sh_151 : shp 151 = .inr (.inl (0, 80)) := by decide +kernel
theorem sh_152 : shp 152 = .inl (6, [some 153, some 154, some 155, some 156, some 157, some 158, none, none, none, none, none, none]) := by decide +kernel
theorem sh_153 : shp 153 = .inr (.inl (0, 168)) := by decide +kernel
theorem sh_154 : shp 154 = .inr (.inl (0, 168)) := by decide +kernel
theorem sh_155 : shp 155 = .inr (.inl (0, 168)) := by decide +kernel
theorem sh_156 : shp 156 = .inr (.inl (0, 10)) := by decide +kernel
theorem sh_157 : shp 157 = .inr (.inl (0, 10)) := by decide +kernel
theorem sh_158 : shp 158 = .inr (.inl (0, 80)) := by decide +kernel
theorem sh_159 : shp 159 = .inl (7, [some 1, none, none, none, none, none, none, some 27, some 34, none, none, none, none]) := by decide +kernel
theorem sh_160 : shp 160 = .inl (3, [some 1, none, none, none, none, none, none, some 43, some 161, none, none, none]) := by decide +kernel
theorem sh_161 : shp 161 = .inr (.inl (0, 40)) := by decide +kernel
theorem sh_162 : shp 162 = .inl (5, [some 2, some 3, some 163]) := by decide +kernel
theorem sh_163 : shp 163 = .inr (.inl (0, 168)) := by decide +kernel
theorem sh_164 : shp 164 = .inl (0, [some 2, some 3, some 165, some 166, some 167, some 168, some 169, some 170, some 171, some 172, none]) := by decide +kernel
theorem sh_165 : shp 165 = .inr (.inl (0, 168)) := by decide +kernel
theorem sh_166 : shp 166 = .inr (.inl (0, 10)) := by decide +kernel
theorem sh_167 : shp 167 = .inr (.inl (0, 3)) := by decide +kernel
theorem sh_168 : shp 168 = .inr (.inl (0, 18)) := by decide +kernel
theorem sh_169 : shp 169 = .inr (.inl (0, 6)) := by decide +kernel
theorem sh_170 : shp 170 = .inr (.inl (0, 6)) := by decide +kernel
theorem sh_171 : shp 171 = .inr (.inl (0, 10)) := by decide +kernel
theorem sh_172 : shp 172 = .inr (.inl (0, 10)) := by decide +kernel
theorem sh_173 : shp 173 = .inl (1, [some 2, some 174, some 175, some 176, some 177, none]) := by decide +kernel
theorem sh_174 : shp 174 = .inr (.inl (0, 168)) := by decide +kernel
theorem sh_175 : shp 175 = .inr (.inl (0, 168)) := by decide +kernel
theorem sh_176 : shp 176 = .inr (.inl (0, 8)) := by decide +kernel
theorem sh_177 : shp 177 = .inr (.inl (0, 256)) := by decide +kernel
theorem sh_178 : shp 178 = .inl (10, [none, some 179, some 180, none, some 181, some 182, none, some 183, none, none, none, none, none, none, some 184, none, none, none, none, none, some 185, some 186, some 187, some 188, some 189, some 190, none, some 191, some 192, some 193, some 194, some 195, some 196]) := by decide +kernel
theorem sh_179 : shp 179 = .inr (.inl (0, 1480)) := by decide +kernel
theorem sh_180 : shp 180 = .inr (.inl (0, 1480)) := by decide +kernel
theorem sh_181 : shp 181 = .inr (.inl (0, 1080)) := by decide +kernel
theorem sh_182 : shp 182 = .inr (.inl (0, 12960)) := by decide +kernel
theorem sh_183 : shp 183 = .inr (.inl (0, 400)) := by decide +kernel
theorem sh_184 : shp 184 = .inr (.inl (0, 6)) := by decide +kernel
theorem sh_185 : shp 185 = .inr (.inl (0, 168)) := by decide +kernel
theorem sh_186 : shp 186 = .inr (.inl (1, 168)) := by decide +kernel
theorem sh_187 : shp 187 = .inr (.inl (0, 168)) := by decide +kernel
theorem sh_188 : shp 188 = .inr (.inl (0, 256)) := by decide +kernel
theorem sh_189 : shp 189 = .inr (.inl (0, 8)) := by decide +kernel
theorem sh_190 : shp 190 = .inr (.inl (0, 168)) := by decide +kernel
theorem sh_191 : shp 191 = .inr (.inl (0, 10)) := by decide +kernel
theorem sh_192 : shp 192 = .inr (.inl (0, 10)) := by decide +kernel
theorem sh_193 : shp 193 = .inr (.inl (0, 60)) := by decide +kernel
theorem sh_194 : shp 194 = .inr (.inl (0, 6)) := by decide +kernel
theorem sh_195 : shp 195 = .inr (.inl (0, 6)) := by decide +kernel
theorem sh_196 : shp 196 = .inr (.inl (0, 3)) := by decide +kernel
theorem sh_197 : shp 197 = .inr (.inl (2, 1)) := by decide +kernel
def townL : List Nat := [3, 27, 51, 75, 82, 89, 96, 103, 110, 117, 124, 131, 138, 145, 152]
def townD (t : Nat) : CD := .inl (6, [some (t+1), some (t+2), some (t+3), some (t+4), some (t+5), some (t+6), none, none, none, none, none, none])
theorem sh_town0 : townL.all (fun t => decide (shp t = townD t) && decide (shp (t+1) = .inr (.inl (0, 168))) && decide (shp (t+2) = .inr (.inl (0, 168))) && decide (shp (t+3) = .inr (.inl (0, 168))) && decide (shp (t+4) = .inr (.inl (0, 10))) && decide (shp (t+5) = .inr (.inl (0, 10))) && decide (shp (t+6) = .inr (.inl (0, 80))) && decide (t + 6 < shN)) = true := by decide +kernel
theorem sh_town : ∀ t ∈ townL, shp t = townD t ∧ shp (t+1) = .inr (.inl (0, 168)) ∧ shp (t+2) = .inr (.inl (0, 168)) ∧ shp (t+3) = .inr (.inl (0, 168)) ∧ shp (t+4) = .inr (.inl (0, 10)) ∧ shp (t+5) = .inr (.inl (0, 10)) ∧ shp (t+6) = .inr (.inl (0, 80)) ∧ t + 6 < shN := by
  intro t ht
  have h := List.all_eq_true.mp sh_town0 t ht
  simp only [Bool.and_eq_true, decide_eq_true_eq] at h
  obtain ⟨⟨⟨⟨⟨⟨⟨h1, h2⟩, h3⟩, h4⟩, h5⟩, h6⟩, h7⟩, h8⟩ := h
  exact ⟨h1, h2, h3, h4, h5, h6, h7, h8⟩
def strN : Nat := 37
def strLen : List Nat := [6, 5, 2, 5, 2, 3, 5, 4, 3, 4, 4, 6, 17, 18, 3, 4, 5, 2, 3, 6, 3, 4, 5, 5, 4, 3, 2, 14, 12, 12, 13, 16, 12, 15, 17, 23, 12]
def strByt : List (List Int32) := [[116, 101, 110, 97, 110, 116],
  [108, 105, 107, 101, 115],
  [116, 111],
  [99, 104, 105, 108, 100],
  [111, 102],
  [108, 101, 116],
  [103, 111, 111, 100, 115],
  [115, 104, 117, 116],
  [115, 117, 98],
  [119, 97, 110, 116],
  [102, 114, 111, 109],
  [99, 104, 97, 110, 99, 101],
  [116, 104, 101, 32, 116, 101, 120, 116, 32, 105, 115, 32, 119, 114, 111, 110, 103],
  [116, 104, 101, 114, 101, 32, 97, 114, 101, 32, 49, 50, 32, 116, 101, 120, 116, 115],
  [98, 97, 114],
  [114, 101, 110, 116],
  [118, 97, 108, 117, 101],
  [105, 102],
  [110, 111, 116],
  [98, 101, 115, 105, 100, 101],
  [100, 97, 121],
  [104, 111, 117, 114],
  [99, 111, 105, 110, 115],
  [114, 111, 111, 109, 115],
  [119, 101, 101, 107],
  [97, 110, 100],
  [111, 114],
  [110, 111, 32, 115, 117, 99, 104, 32, 116, 101, 110, 97, 110, 116],
  [97, 110, 111, 116, 104, 101, 114, 32, 119, 104, 97, 116],
  [110, 111, 32, 115, 117, 99, 104, 32, 114, 111, 111, 109],
  [105, 116, 32, 105, 115, 32, 114, 101, 102, 117, 115, 101, 100],
  [97, 32, 110, 117, 109, 98, 101, 114, 32, 105, 115, 32, 110, 111, 110, 101],
  [98, 111, 116, 104, 32, 97, 114, 101, 32, 111, 110, 101],
  [107, 32, 105, 115, 32, 98, 101, 108, 111, 119, 32, 78, 79, 78, 69],
  [111, 110, 101, 32, 114, 111, 111, 109, 32, 97, 116, 32, 108, 101, 97, 115, 116],
  [101, 97, 99, 104, 32, 116, 105, 109, 101, 32, 104, 97, 115, 32, 116, 119, 111, 32, 98, 121, 116, 101, 115],
  [107, 32, 105, 115, 32, 98, 101, 108, 111, 119, 32, 48]]
def strUse : List (String × Nat × String × Nat) := [("HourLets$TownText", 45, "tenant", 0),
  ("HourLets$TownText", 106, "likes", 1),
  ("HourLets$TownText", 175, "to", 2),
  ("HourLets$TownText", 54, "child", 3),
  ("HourLets$TownText", 136, "of", 4),
  ("HourLets$TownText", 59, "let", 5),
  ("HourLets$TownText", 64, "goods", 6),
  ("HourLets$TownText", 69, "shut", 7),
  ("HourLets$TownText", 74, "sub", 8),
  ("HourLets$TownText", 79, "want", 9),
  ("HourLets$TownText", 168, "from", 10),
  ("HourLets$TownText", 84, "chance", 11),
  ("HourLets", 116, "the text is wrong", 12),
  ("HourLets", 126, "there are 12 texts", 13),
  ("HourLets$LawText", 50, "bar", 14),
  ("HourLets$LawText", 63, "rent", 15),
  ("HourLets$LawText", 65, "value", 16),
  ("HourLets$LawText", 74, "if", 17),
  ("HourLets$LawText", 86, "not", 18),
  ("HourLets$LawText", 119, "likes", 1),
  ("HourLets$LawText", 121, "beside", 19),
  ("HourLets$LawText", 139, "day", 20),
  ("HourLets$LawText", 141, "hour", 21),
  ("HourLets$LawText", 143, "coins", 22),
  ("HourLets$LawText", 145, "rooms", 23),
  ("HourLets$LawText", 147, "goods", 6),
  ("HourLets$LawText", 149, "week", 24),
  ("HourLets$LawText", 100, "and", 25),
  ("HourLets$LawText", 102, "or", 26),
  ("HourLets", 405, "no such tenant", 27),
  ("HourLets", 175, "another what", 28),
  ("HourLets", 411, "no such room", 29),
  ("HourLets", 419, "it is refused", 30),
  ("HourLets", 413, "a number is none", 31),
  ("HourLets", 415, "both are one", 32),
  ("HourLets", 310, "k is below NONE", 33),
  ("HourLets", 333, "one room at least", 34),
  ("HourLets", 338, "each time has two bytes", 35),
  ("HourLets", 367, "k is below 0", 36),
  ("HourLetsModel", 249, "bar", 14),
  ("HourLetsModel", 251, "rent", 15),
  ("HourLetsModel", 253, "value", 16),
  ("HourLetsModel", 255, "if", 17),
  ("HourLetsModel", 230, "not", 18),
  ("HourLetsModel", 134, "likes", 1),
  ("HourLetsModel", 222, "beside", 19),
  ("HourLetsModel", 205, "day", 20),
  ("HourLetsModel", 207, "hour", 21),
  ("HourLetsModel", 209, "coins", 22),
  ("HourLetsModel", 211, "rooms", 23),
  ("HourLetsModel", 165, "goods", 6),
  ("HourLetsModel", 213, "week", 24),
  ("HourLetsModel", 242, "and", 25),
  ("HourLetsModel", 247, "or", 26),
  ("HourLetsModel", 152, "tenant", 0),
  ("HourLetsModel", 140, "to", 2),
  ("HourLetsModel", 157, "child", 3),
  ("HourLetsModel", 159, "of", 4),
  ("HourLetsModel", 160, "let", 5),
  ("HourLetsModel", 167, "shut", 7),
  ("HourLetsModel", 173, "sub", 8),
  ("HourLetsModel", 175, "want", 9),
  ("HourLetsModel", 182, "from", 10),
  ("HourLetsModel", 180, "chance", 11)]
