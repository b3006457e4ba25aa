/-! the shape of all cells once both objects are made -/
def jm_SH : List jm_C := [.inl (0, [some 1, some 4, some 9, some 30, some 37, some 47, some 56, some 59, some 61]), .inl (1, [some 2, some 3, none]), .inr (0, 60, []), .inr (0, 13, []), .inl (2, [some 5, some 6, some 7, some 8, none]), .inr (0, 30, []), .inr (0, 30, []), .inr (0, 30, []), .inr (0, 30, []), .inl (3, [some 10, some 11, some 12, some 13, none]), .inr (0, 16, []), .inr (0, 16, []), .inr (0, 16, []), .inr (3, 16, [some 14, some 15, some 16, some 17, some 18, some 19, some 20, some 21, some 22, some 23, some 24, some 25, some 26, some 27, some 28, some 29]), .inr (0, 12, []), .inr (0, 12, []), .inr (0, 12, []), .inr (0, 12, []), .inr (0, 12, []), .inr (0, 12, []), .inr (0, 12, []), .inr (0, 12, []), .inr (0, 12, []), .inr (0, 12, []), .inr (0, 12, []), .inr (0, 12, []), .inr (0, 12, []), .inr (0, 12, []), .inr (0, 12, []), .inr (0, 12, []), .inl (4, [some 4, some 9, some 31, some 32, some 33, some 34, some 35, some 36, none, none]), .inr (0, 60, []), .inr (0, 60, []), .inr (0, 60, []), .inr (0, 60, []), .inr (0, 60, []), .inr (0, 60, []), .inl (5, [some 38, some 45, some 46, none, none]), .inr (3, 6, [some 39, some 40, some 41, some 42, some 43, some 44]), .inr (0, 12, []), .inr (0, 12, []), .inr (0, 12, []), .inr (0, 12, []), .inr (0, 12, []), .inr (0, 12, []), .inr (0, 12, []), .inr (0, 12, []), .inl (6, [some 37, some 48, some 49, some 50, some 51, some 52, some 53, some 54, some 55, none, none, none]), .inr (0, 10, []), .inr (0, 10, []), .inr (0, 10, []), .inr (0, 10, []), .inr (0, 10, []), .inr (0, 10, []), .inr (0, 10, []), .inr (0, 10, []), .inl (7, [some 37, some 57, some 58, none, none, none]), .inr (0, 12, []), .inr (0, 12, []), .inl (8, [some 37, some 60]), .inr (1, 6, []), .inl (9, [some 37, some 59, some 62, some 68, some 69, some 73, some 74, some 75, some 76, some 77, none, none, none]), .inl (10, [some 63, some 64, some 65, some 66, some 67, none]), .inr (0, 24, []), .inr (0, 24, []), .inr (0, 24, []), .inr (2, 24, []), .inr (0, 8, []), .inr (1, 16, []), .inr (4, 3, [some 70, some 71, some 72]), .inr (1, 3, []), .inr (1, 3, []), .inr (1, 3, []), .inr (1, 3, []), .inr (0, 3, []), .inr (0, 3, []), .inr (0, 3, []), .inr (0, 3, []), .inl (11, [some 79, none, some 80, some 81, none, some 82, some 83, some 84, none, some 85, some 86, some 87, some 88, some 89, none, some 90, some 91, some 92, some 93, some 94, some 95, some 96, none, some 97, some 98, none, some 99, some 100, some 101, some 102, some 103, some 104, none, some 105, some 106, some 107, none, some 108, some 109, none, some 110, some 111, some 112, some 113, some 114]), .inr (0, 60, []), .inr (0, 60, []), .inr (0, 60, []), .inr (0, 60, []), .inr (0, 60, []), .inr (0, 60, []), .inr (0, 60, []), .inr (0, 16, []), .inr (0, 16, []), .inr (0, 192, []), .inr (0, 16, []), .inr (0, 60, []), .inr (0, 60, []), .inr (0, 60, []), .inr (0, 60, []), .inr (0, 200, []), .inr (0, 200, []), .inr (0, 200, []), .inr (0, 100, []), .inr (0, 100, []), .inr (0, 12, []), .inr (0, 12, []), .inr (0, 12, []), .inr (0, 12, []), .inr (0, 12, []), .inr (0, 12, []), .inr (0, 12, []), .inr (0, 12, []), .inr (0, 12, []), .inr (0, 13, []), .inr (0, 72, []), .inr (0, 12, []), .inr (0, 6, []), .inr (0, 256, []), .inr (0, 153, []), .inr (0, 3, [])]
theorem jm_SH_0 : jm_SH[0]? = some (.inl (0, [some 1, some 4, some 9, some 30, some 37, some 47, some 56, some 59, some 61])) := rfl
theorem jm_SH_1 : jm_SH[1]? = some (.inl (1, [some 2, some 3, none])) := rfl
theorem jm_SH_2 : jm_SH[2]? = some (.inr (0, 60, [])) := rfl
theorem jm_SH_3 : jm_SH[3]? = some (.inr (0, 13, [])) := rfl
theorem jm_SH_4 : jm_SH[4]? = some (.inl (2, [some 5, some 6, some 7, some 8, none])) := rfl
theorem jm_SH_5 : jm_SH[5]? = some (.inr (0, 30, [])) := rfl
theorem jm_SH_6 : jm_SH[6]? = some (.inr (0, 30, [])) := rfl
theorem jm_SH_7 : jm_SH[7]? = some (.inr (0, 30, [])) := rfl
theorem jm_SH_8 : jm_SH[8]? = some (.inr (0, 30, [])) := rfl
theorem jm_SH_9 : jm_SH[9]? = some (.inl (3, [some 10, some 11, some 12, some 13, none])) := rfl
theorem jm_SH_10 : jm_SH[10]? = some (.inr (0, 16, [])) := rfl
theorem jm_SH_11 : jm_SH[11]? = some (.inr (0, 16, [])) := rfl
theorem jm_SH_12 : jm_SH[12]? = some (.inr (0, 16, [])) := rfl
theorem jm_SH_13 : jm_SH[13]? = some (.inr (3, 16, [some 14, some 15, some 16, some 17, some 18, some 19, some 20, some 21, some 22, some 23, some 24, some 25, some 26, some 27, some 28, some 29])) := rfl
theorem jm_SH_14 : jm_SH[14]? = some (.inr (0, 12, [])) := rfl
theorem jm_SH_15 : jm_SH[15]? = some (.inr (0, 12, [])) := rfl
theorem jm_SH_16 : jm_SH[16]? = some (.inr (0, 12, [])) := rfl
theorem jm_SH_17 : jm_SH[17]? = some (.inr (0, 12, [])) := rfl
theorem jm_SH_18 : jm_SH[18]? = some (.inr (0, 12, [])) := rfl
theorem jm_SH_19 : jm_SH[19]? = some (.inr (0, 12, [])) := rfl
theorem jm_SH_20 : jm_SH[20]? = some (.inr (0, 12, [])) := rfl
theorem jm_SH_21 : jm_SH[21]? = some (.inr (0, 12, [])) := rfl
theorem jm_SH_22 : jm_SH[22]? = some (.inr (0, 12, [])) := rfl
theorem jm_SH_23 : jm_SH[23]? = some (.inr (0, 12, [])) := rfl
theorem jm_SH_24 : jm_SH[24]? = some (.inr (0, 12, [])) := rfl
theorem jm_SH_25 : jm_SH[25]? = some (.inr (0, 12, [])) := rfl
theorem jm_SH_26 : jm_SH[26]? = some (.inr (0, 12, [])) := rfl
theorem jm_SH_27 : jm_SH[27]? = some (.inr (0, 12, [])) := rfl
theorem jm_SH_28 : jm_SH[28]? = some (.inr (0, 12, [])) := rfl
theorem jm_SH_29 : jm_SH[29]? = some (.inr (0, 12, [])) := rfl
theorem jm_SH_30 : jm_SH[30]? = some (.inl (4, [some 4, some 9, some 31, some 32, some 33, some 34, some 35, some 36, none, none])) := rfl
theorem jm_SH_31 : jm_SH[31]? = some (.inr (0, 60, [])) := rfl
theorem jm_SH_32 : jm_SH[32]? = some (.inr (0, 60, [])) := rfl
theorem jm_SH_33 : jm_SH[33]? = some (.inr (0, 60, [])) := rfl
theorem jm_SH_34 : jm_SH[34]? = some (.inr (0, 60, [])) := rfl
theorem jm_SH_35 : jm_SH[35]? = some (.inr (0, 60, [])) := rfl
theorem jm_SH_36 : jm_SH[36]? = some (.inr (0, 60, [])) := rfl
theorem jm_SH_37 : jm_SH[37]? = some (.inl (5, [some 38, some 45, some 46, none, none])) := rfl
theorem jm_SH_38 : jm_SH[38]? = some (.inr (3, 6, [some 39, some 40, some 41, some 42, some 43, some 44])) := rfl
theorem jm_SH_39 : jm_SH[39]? = some (.inr (0, 12, [])) := rfl
theorem jm_SH_40 : jm_SH[40]? = some (.inr (0, 12, [])) := rfl
theorem jm_SH_41 : jm_SH[41]? = some (.inr (0, 12, [])) := rfl
theorem jm_SH_42 : jm_SH[42]? = some (.inr (0, 12, [])) := rfl
theorem jm_SH_43 : jm_SH[43]? = some (.inr (0, 12, [])) := rfl
theorem jm_SH_44 : jm_SH[44]? = some (.inr (0, 12, [])) := rfl
theorem jm_SH_45 : jm_SH[45]? = some (.inr (0, 12, [])) := rfl
theorem jm_SH_46 : jm_SH[46]? = some (.inr (0, 12, [])) := rfl
theorem jm_SH_47 : jm_SH[47]? = some (.inl (6, [some 37, some 48, some 49, some 50, some 51, some 52, some 53, some 54, some 55, none, none, none])) := rfl
theorem jm_SH_48 : jm_SH[48]? = some (.inr (0, 10, [])) := rfl
theorem jm_SH_49 : jm_SH[49]? = some (.inr (0, 10, [])) := rfl
theorem jm_SH_50 : jm_SH[50]? = some (.inr (0, 10, [])) := rfl
theorem jm_SH_51 : jm_SH[51]? = some (.inr (0, 10, [])) := rfl
theorem jm_SH_52 : jm_SH[52]? = some (.inr (0, 10, [])) := rfl
theorem jm_SH_53 : jm_SH[53]? = some (.inr (0, 10, [])) := rfl
theorem jm_SH_54 : jm_SH[54]? = some (.inr (0, 10, [])) := rfl
theorem jm_SH_55 : jm_SH[55]? = some (.inr (0, 10, [])) := rfl
theorem jm_SH_56 : jm_SH[56]? = some (.inl (7, [some 37, some 57, some 58, none, none, none])) := rfl
theorem jm_SH_57 : jm_SH[57]? = some (.inr (0, 12, [])) := rfl
theorem jm_SH_58 : jm_SH[58]? = some (.inr (0, 12, [])) := rfl
theorem jm_SH_59 : jm_SH[59]? = some (.inl (8, [some 37, some 60])) := rfl
theorem jm_SH_60 : jm_SH[60]? = some (.inr (1, 6, [])) := rfl
theorem jm_SH_61 : jm_SH[61]? = some (.inl (9, [some 37, some 59, some 62, some 68, some 69, some 73, some 74, some 75, some 76, some 77, none, none, none])) := rfl
theorem jm_SH_62 : jm_SH[62]? = some (.inl (10, [some 63, some 64, some 65, some 66, some 67, none])) := rfl
theorem jm_SH_63 : jm_SH[63]? = some (.inr (0, 24, [])) := rfl
theorem jm_SH_64 : jm_SH[64]? = some (.inr (0, 24, [])) := rfl
theorem jm_SH_65 : jm_SH[65]? = some (.inr (0, 24, [])) := rfl
theorem jm_SH_66 : jm_SH[66]? = some (.inr (2, 24, [])) := rfl
theorem jm_SH_67 : jm_SH[67]? = some (.inr (0, 8, [])) := rfl
theorem jm_SH_68 : jm_SH[68]? = some (.inr (1, 16, [])) := rfl
theorem jm_SH_69 : jm_SH[69]? = some (.inr (4, 3, [some 70, some 71, some 72])) := rfl
theorem jm_SH_70 : jm_SH[70]? = some (.inr (1, 3, [])) := rfl
theorem jm_SH_71 : jm_SH[71]? = some (.inr (1, 3, [])) := rfl
theorem jm_SH_72 : jm_SH[72]? = some (.inr (1, 3, [])) := rfl
theorem jm_SH_73 : jm_SH[73]? = some (.inr (1, 3, [])) := rfl
theorem jm_SH_74 : jm_SH[74]? = some (.inr (0, 3, [])) := rfl
theorem jm_SH_75 : jm_SH[75]? = some (.inr (0, 3, [])) := rfl
theorem jm_SH_76 : jm_SH[76]? = some (.inr (0, 3, [])) := rfl
theorem jm_SH_77 : jm_SH[77]? = some (.inr (0, 3, [])) := rfl
theorem jm_SH_78 : jm_SH[78]? = some (.inl (11, [some 79, none, some 80, some 81, none, some 82, some 83, some 84, none, some 85, some 86, some 87, some 88, some 89, none, some 90, some 91, some 92, some 93, some 94, some 95, some 96, none, some 97, some 98, none, some 99, some 100, some 101, some 102, some 103, some 104, none, some 105, some 106, some 107, none, some 108, some 109, none, some 110, some 111, some 112, some 113, some 114])) := rfl
theorem jm_SH_79 : jm_SH[79]? = some (.inr (0, 60, [])) := rfl
theorem jm_SH_80 : jm_SH[80]? = some (.inr (0, 60, [])) := rfl
theorem jm_SH_81 : jm_SH[81]? = some (.inr (0, 60, [])) := rfl
theorem jm_SH_82 : jm_SH[82]? = some (.inr (0, 60, [])) := rfl
theorem jm_SH_83 : jm_SH[83]? = some (.inr (0, 60, [])) := rfl
theorem jm_SH_84 : jm_SH[84]? = some (.inr (0, 60, [])) := rfl
theorem jm_SH_85 : jm_SH[85]? = some (.inr (0, 60, [])) := rfl
theorem jm_SH_86 : jm_SH[86]? = some (.inr (0, 16, [])) := rfl
theorem jm_SH_87 : jm_SH[87]? = some (.inr (0, 16, [])) := rfl
theorem jm_SH_88 : jm_SH[88]? = some (.inr (0, 192, [])) := rfl
theorem jm_SH_89 : jm_SH[89]? = some (.inr (0, 16, [])) := rfl
theorem jm_SH_90 : jm_SH[90]? = some (.inr (0, 60, [])) := rfl
theorem jm_SH_91 : jm_SH[91]? = some (.inr (0, 60, [])) := rfl
theorem jm_SH_92 : jm_SH[92]? = some (.inr (0, 60, [])) := rfl
theorem jm_SH_93 : jm_SH[93]? = some (.inr (0, 60, [])) := rfl
theorem jm_SH_94 : jm_SH[94]? = some (.inr (0, 200, [])) := rfl
theorem jm_SH_95 : jm_SH[95]? = some (.inr (0, 200, [])) := rfl
theorem jm_SH_96 : jm_SH[96]? = some (.inr (0, 200, [])) := rfl
theorem jm_SH_97 : jm_SH[97]? = some (.inr (0, 100, [])) := rfl
theorem jm_SH_98 : jm_SH[98]? = some (.inr (0, 100, [])) := rfl
theorem jm_SH_99 : jm_SH[99]? = some (.inr (0, 12, [])) := rfl
theorem jm_SH_100 : jm_SH[100]? = some (.inr (0, 12, [])) := rfl
theorem jm_SH_101 : jm_SH[101]? = some (.inr (0, 12, [])) := rfl
theorem jm_SH_102 : jm_SH[102]? = some (.inr (0, 12, [])) := rfl
theorem jm_SH_103 : jm_SH[103]? = some (.inr (0, 12, [])) := rfl
theorem jm_SH_104 : jm_SH[104]? = some (.inr (0, 12, [])) := rfl
theorem jm_SH_105 : jm_SH[105]? = some (.inr (0, 12, [])) := rfl
theorem jm_SH_106 : jm_SH[106]? = some (.inr (0, 12, [])) := rfl
theorem jm_SH_107 : jm_SH[107]? = some (.inr (0, 12, [])) := rfl
theorem jm_SH_108 : jm_SH[108]? = some (.inr (0, 13, [])) := rfl
theorem jm_SH_109 : jm_SH[109]? = some (.inr (0, 72, [])) := rfl
theorem jm_SH_110 : jm_SH[110]? = some (.inr (0, 12, [])) := rfl
theorem jm_SH_111 : jm_SH[111]? = some (.inr (0, 6, [])) := rfl
theorem jm_SH_112 : jm_SH[112]? = some (.inr (0, 256, [])) := rfl
theorem jm_SH_113 : jm_SH[113]? = some (.inr (0, 153, [])) := rfl
theorem jm_SH_114 : jm_SH[114]? = some (.inr (0, 3, [])) := rfl
theorem jm_SH_r13 : ∀ j, j < 16 → ([some 14, some 15, some 16, some 17, some 18, some 19, some 20, some 21, some 22, some 23, some 24, some 25, some 26, some 27, some 28, some 29] : List (Option Nat)).getD j none = some (14 + j) := by decide
theorem jm_SH_s13 : ∀ j, j < 16 → jm_SH[14 + j]? = some (.inr (0, 12, [])) := by
  intro j hj
  rcases (show j = 0 ∨ j = 1 ∨ j = 2 ∨ j = 3 ∨ j = 4 ∨ j = 5 ∨ j = 6 ∨ j = 7 ∨ j = 8 ∨ j = 9 ∨ j = 10 ∨ j = 11 ∨ j = 12 ∨ j = 13 ∨ j = 14 ∨ j = 15 by omega) with rfl | rfl | rfl | rfl | rfl | rfl | rfl | rfl | rfl | rfl | rfl | rfl | rfl | rfl | rfl | rfl <;> rfl
theorem jm_SH_r38 : ∀ j, j < 6 → ([some 39, some 40, some 41, some 42, some 43, some 44] : List (Option Nat)).getD j none = some (39 + j) := by decide
theorem jm_SH_s38 : ∀ j, j < 6 → jm_SH[39 + j]? = some (.inr (0, 12, [])) := by
  intro j hj
  rcases (show j = 0 ∨ j = 1 ∨ j = 2 ∨ j = 3 ∨ j = 4 ∨ j = 5 by omega) with rfl | rfl | rfl | rfl | rfl | rfl <;> rfl
theorem jm_SH_r69 : ∀ j, j < 3 → ([some 70, some 71, some 72] : List (Option Nat)).getD j none = some (70 + j) := by decide
theorem jm_SH_s69 : ∀ j, j < 3 → jm_SH[70 + j]? = some (.inr (1, 3, [])) := by
  intro j hj
  rcases (show j = 0 ∨ j = 1 ∨ j = 2 by omega) with rfl | rfl | rfl <;> rfl
