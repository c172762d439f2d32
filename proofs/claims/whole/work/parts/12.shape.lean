/-! ===== the objects behind the constructors ===== -/
def SD : List (Nat × Nat) := [(7, 0), (5, 0), (6, 0), (9, 601), (9, 601), (9, 601), (4, 0), (10, 600), (2, 0), (9, 16), (9, 16), (9, 16), (9, 40), (9, 40), (9, 40), (9, 40), (3, 0), (9, 600), (1, 0), (9, 40), (9, 40), (9, 16), (9, 8), (9, 6), (9, 40), (0, 0), (11, 1681), (11, 41), (12, 8), (2, 0), (9, 16), (9, 16), (9, 16), (9, 40), (9, 40), (9, 40), (9, 40), (3, 0), (9, 600), (2, 0), (9, 16), (9, 16), (9, 16), (9, 40), (9, 40), (9, 40), (9, 40), (3, 0), (9, 600), (2, 0), (9, 16), (9, 16), (9, 16), (9, 40), (9, 40), (9, 40), (9, 40), (3, 0), (9, 600), (2, 0), (9, 16), (9, 16), (9, 16), (9, 40), (9, 40), (9, 40), (9, 40), (3, 0), (9, 600), (2, 0), (9, 16), (9, 16), (9, 16), (9, 40), (9, 40), (9, 40), (9, 40), (3, 0), (9, 600), (2, 0), (9, 16), (9, 16), (9, 16), (9, 40), (9, 40), (9, 40), (9, 40), (3, 0), (9, 600), (2, 0), (9, 16), (9, 16), (9, 16), (9, 40), (9, 40), (9, 40), (9, 40), (3, 0), (9, 600), (2, 0), (9, 16), (9, 16), (9, 16), (9, 40), (9, 40), (9, 40), (9, 40), (3, 0), (9, 600), (2, 0), (9, 16), (9, 16), (9, 16), (9, 40), (9, 40), (9, 40), (9, 40), (3, 0), (9, 600), (8, 0), (9, 3), (9, 600), (9, 1105), (9, 1105), (13, 8), (9, 1105), (9, 1105), (9, 1105), (9, 1105), (9, 1105), (9, 1105), (9, 1105), (9, 1105), (9, 40), (9, 40), (9, 800), (11, 41), (11, 1)]
theorem sd_0 : SD[0]? = some (7, 0) := rfl
theorem sd_1 : SD[1]? = some (5, 0) := rfl
theorem sd_2 : SD[2]? = some (6, 0) := rfl
theorem sd_3 : SD[3]? = some (9, 601) := rfl
theorem sd_4 : SD[4]? = some (9, 601) := rfl
theorem sd_5 : SD[5]? = some (9, 601) := rfl
theorem sd_6 : SD[6]? = some (4, 0) := rfl
theorem sd_7 : SD[7]? = some (10, 600) := rfl
theorem sd_8 : SD[8]? = some (2, 0) := rfl
theorem sd_9 : SD[9]? = some (9, 16) := rfl
theorem sd_10 : SD[10]? = some (9, 16) := rfl
theorem sd_11 : SD[11]? = some (9, 16) := rfl
theorem sd_12 : SD[12]? = some (9, 40) := rfl
theorem sd_13 : SD[13]? = some (9, 40) := rfl
theorem sd_14 : SD[14]? = some (9, 40) := rfl
theorem sd_15 : SD[15]? = some (9, 40) := rfl
theorem sd_16 : SD[16]? = some (3, 0) := rfl
theorem sd_17 : SD[17]? = some (9, 600) := rfl
theorem sd_18 : SD[18]? = some (1, 0) := rfl
theorem sd_19 : SD[19]? = some (9, 40) := rfl
theorem sd_20 : SD[20]? = some (9, 40) := rfl
theorem sd_21 : SD[21]? = some (9, 16) := rfl
theorem sd_22 : SD[22]? = some (9, 8) := rfl
theorem sd_23 : SD[23]? = some (9, 6) := rfl
theorem sd_24 : SD[24]? = some (9, 40) := rfl
theorem sd_25 : SD[25]? = some (0, 0) := rfl
theorem sd_26 : SD[26]? = some (11, 1681) := rfl
theorem sd_27 : SD[27]? = some (11, 41) := rfl
theorem sd_28 : SD[28]? = some (12, 8) := rfl
theorem sd_29 : SD[29]? = some (2, 0) := rfl
theorem sd_30 : SD[30]? = some (9, 16) := rfl
theorem sd_31 : SD[31]? = some (9, 16) := rfl
theorem sd_32 : SD[32]? = some (9, 16) := rfl
theorem sd_33 : SD[33]? = some (9, 40) := rfl
theorem sd_34 : SD[34]? = some (9, 40) := rfl
theorem sd_35 : SD[35]? = some (9, 40) := rfl
theorem sd_36 : SD[36]? = some (9, 40) := rfl
theorem sd_37 : SD[37]? = some (3, 0) := rfl
theorem sd_38 : SD[38]? = some (9, 600) := rfl
theorem sd_39 : SD[39]? = some (2, 0) := rfl
theorem sd_40 : SD[40]? = some (9, 16) := rfl
theorem sd_41 : SD[41]? = some (9, 16) := rfl
theorem sd_42 : SD[42]? = some (9, 16) := rfl
theorem sd_43 : SD[43]? = some (9, 40) := rfl
theorem sd_44 : SD[44]? = some (9, 40) := rfl
theorem sd_45 : SD[45]? = some (9, 40) := rfl
theorem sd_46 : SD[46]? = some (9, 40) := rfl
theorem sd_47 : SD[47]? = some (3, 0) := rfl
theorem sd_48 : SD[48]? = some (9, 600) := rfl
theorem sd_49 : SD[49]? = some (2, 0) := rfl
theorem sd_50 : SD[50]? = some (9, 16) := rfl
theorem sd_51 : SD[51]? = some (9, 16) := rfl
theorem sd_52 : SD[52]? = some (9, 16) := rfl
theorem sd_53 : SD[53]? = some (9, 40) := rfl
theorem sd_54 : SD[54]? = some (9, 40) := rfl
theorem sd_55 : SD[55]? = some (9, 40) := rfl
theorem sd_56 : SD[56]? = some (9, 40) := rfl
theorem sd_57 : SD[57]? = some (3, 0) := rfl
theorem sd_58 : SD[58]? = some (9, 600) := rfl
theorem sd_59 : SD[59]? = some (2, 0) := rfl
theorem sd_60 : SD[60]? = some (9, 16) := rfl
theorem sd_61 : SD[61]? = some (9, 16) := rfl
theorem sd_62 : SD[62]? = some (9, 16) := rfl
theorem sd_63 : SD[63]? = some (9, 40) := rfl
theorem sd_64 : SD[64]? = some (9, 40) := rfl
theorem sd_65 : SD[65]? = some (9, 40) := rfl
theorem sd_66 : SD[66]? = some (9, 40) := rfl
theorem sd_67 : SD[67]? = some (3, 0) := rfl
theorem sd_68 : SD[68]? = some (9, 600) := rfl
theorem sd_69 : SD[69]? = some (2, 0) := rfl
theorem sd_70 : SD[70]? = some (9, 16) := rfl
theorem sd_71 : SD[71]? = some (9, 16) := rfl
theorem sd_72 : SD[72]? = some (9, 16) := rfl
theorem sd_73 : SD[73]? = some (9, 40) := rfl
theorem sd_74 : SD[74]? = some (9, 40) := rfl
theorem sd_75 : SD[75]? = some (9, 40) := rfl
theorem sd_76 : SD[76]? = some (9, 40) := rfl
theorem sd_77 : SD[77]? = some (3, 0) := rfl
theorem sd_78 : SD[78]? = some (9, 600) := rfl
theorem sd_79 : SD[79]? = some (2, 0) := rfl
theorem sd_80 : SD[80]? = some (9, 16) := rfl
theorem sd_81 : SD[81]? = some (9, 16) := rfl
theorem sd_82 : SD[82]? = some (9, 16) := rfl
theorem sd_83 : SD[83]? = some (9, 40) := rfl
theorem sd_84 : SD[84]? = some (9, 40) := rfl
theorem sd_85 : SD[85]? = some (9, 40) := rfl
theorem sd_86 : SD[86]? = some (9, 40) := rfl
theorem sd_87 : SD[87]? = some (3, 0) := rfl
theorem sd_88 : SD[88]? = some (9, 600) := rfl
theorem sd_89 : SD[89]? = some (2, 0) := rfl
theorem sd_90 : SD[90]? = some (9, 16) := rfl
theorem sd_91 : SD[91]? = some (9, 16) := rfl
theorem sd_92 : SD[92]? = some (9, 16) := rfl
theorem sd_93 : SD[93]? = some (9, 40) := rfl
theorem sd_94 : SD[94]? = some (9, 40) := rfl
theorem sd_95 : SD[95]? = some (9, 40) := rfl
theorem sd_96 : SD[96]? = some (9, 40) := rfl
theorem sd_97 : SD[97]? = some (3, 0) := rfl
theorem sd_98 : SD[98]? = some (9, 600) := rfl
theorem sd_99 : SD[99]? = some (2, 0) := rfl
theorem sd_100 : SD[100]? = some (9, 16) := rfl
theorem sd_101 : SD[101]? = some (9, 16) := rfl
theorem sd_102 : SD[102]? = some (9, 16) := rfl
theorem sd_103 : SD[103]? = some (9, 40) := rfl
theorem sd_104 : SD[104]? = some (9, 40) := rfl
theorem sd_105 : SD[105]? = some (9, 40) := rfl
theorem sd_106 : SD[106]? = some (9, 40) := rfl
theorem sd_107 : SD[107]? = some (3, 0) := rfl
theorem sd_108 : SD[108]? = some (9, 600) := rfl
theorem sd_109 : SD[109]? = some (2, 0) := rfl
theorem sd_110 : SD[110]? = some (9, 16) := rfl
theorem sd_111 : SD[111]? = some (9, 16) := rfl
theorem sd_112 : SD[112]? = some (9, 16) := rfl
theorem sd_113 : SD[113]? = some (9, 40) := rfl
theorem sd_114 : SD[114]? = some (9, 40) := rfl
theorem sd_115 : SD[115]? = some (9, 40) := rfl
theorem sd_116 : SD[116]? = some (9, 40) := rfl
theorem sd_117 : SD[117]? = some (3, 0) := rfl
theorem sd_118 : SD[118]? = some (9, 600) := rfl
theorem sd_119 : SD[119]? = some (8, 0) := rfl
theorem sd_120 : SD[120]? = some (9, 3) := rfl
theorem sd_121 : SD[121]? = some (9, 600) := rfl
theorem sd_122 : SD[122]? = some (9, 1105) := rfl
theorem sd_123 : SD[123]? = some (9, 1105) := rfl
theorem sd_124 : SD[124]? = some (13, 8) := rfl
theorem sd_125 : SD[125]? = some (9, 1105) := rfl
theorem sd_126 : SD[126]? = some (9, 1105) := rfl
theorem sd_127 : SD[127]? = some (9, 1105) := rfl
theorem sd_128 : SD[128]? = some (9, 1105) := rfl
theorem sd_129 : SD[129]? = some (9, 1105) := rfl
theorem sd_130 : SD[130]? = some (9, 1105) := rfl
theorem sd_131 : SD[131]? = some (9, 1105) := rfl
theorem sd_132 : SD[132]? = some (9, 1105) := rfl
theorem sd_133 : SD[133]? = some (9, 40) := rfl
theorem sd_134 : SD[134]? = some (9, 40) := rfl
theorem sd_135 : SD[135]? = some (9, 800) := rfl
theorem sd_136 : SD[136]? = some (11, 41) := rfl
theorem sd_137 : SD[137]? = some (11, 1) := rfl
/-- where a Petition lies -/
def PB (c : Nat) : Prop := c = 8 ∨ ∃ i, i < 9 ∧ c = 29 + 10 * i
theorem pb_8 : PB 8 := Or.inl rfl
theorem PB.cases {P : Nat → Prop} {c : Nat} (h : PB c) (h8 : P 8) (h0 : P 29) (h1 : P 39) (h2 : P 49) (h3 : P 59) (h4 : P 69) (h5 : P 79) (h6 : P 89) (h7 : P 99) (h9 : P 109) : P c := by
  rcases h with rfl | ⟨i, hi, rfl⟩
  · exact h8
  · rcases (show i = 0 ∨ i = 1 ∨ i = 2 ∨ i = 3 ∨ i = 4 ∨ i = 5 ∨ i = 6 ∨ i = 7 ∨ i = 8 by omega) with rfl | rfl | rfl | rfl | rfl | rfl | rfl | rfl | rfl
    · exact h0
    · exact h1
    · exact h2
    · exact h3
    · exact h4
    · exact h5
    · exact h6
    · exact h7
    · exact h9
theorem sd_P0 {c : Nat} (h : PB c) : SD[c]? = some (2, 0) := h.cases (P := fun c => SD[c]? = some (2, 0)) rfl rfl rfl rfl rfl rfl rfl rfl rfl rfl
theorem sd_P1 {c : Nat} (h : PB c) : SD[c + 1]? = some (9, 16) := h.cases (P := fun c => SD[c + 1]? = some (9, 16)) rfl rfl rfl rfl rfl rfl rfl rfl rfl rfl
theorem sd_P2 {c : Nat} (h : PB c) : SD[c + 2]? = some (9, 16) := h.cases (P := fun c => SD[c + 2]? = some (9, 16)) rfl rfl rfl rfl rfl rfl rfl rfl rfl rfl
theorem sd_P3 {c : Nat} (h : PB c) : SD[c + 3]? = some (9, 16) := h.cases (P := fun c => SD[c + 3]? = some (9, 16)) rfl rfl rfl rfl rfl rfl rfl rfl rfl rfl
theorem sd_P4 {c : Nat} (h : PB c) : SD[c + 4]? = some (9, 40) := h.cases (P := fun c => SD[c + 4]? = some (9, 40)) rfl rfl rfl rfl rfl rfl rfl rfl rfl rfl
theorem sd_P5 {c : Nat} (h : PB c) : SD[c + 5]? = some (9, 40) := h.cases (P := fun c => SD[c + 5]? = some (9, 40)) rfl rfl rfl rfl rfl rfl rfl rfl rfl rfl
theorem sd_P6 {c : Nat} (h : PB c) : SD[c + 6]? = some (9, 40) := h.cases (P := fun c => SD[c + 6]? = some (9, 40)) rfl rfl rfl rfl rfl rfl rfl rfl rfl rfl
theorem sd_P7 {c : Nat} (h : PB c) : SD[c + 7]? = some (9, 40) := h.cases (P := fun c => SD[c + 7]? = some (9, 40)) rfl rfl rfl rfl rfl rfl rfl rfl rfl rfl
theorem sd_P8 {c : Nat} (h : PB c) : SD[c + 8]? = some (3, 0) := h.cases (P := fun c => SD[c + 8]? = some (3, 0)) rfl rfl rfl rfl rfl rfl rfl rfl rfl rfl
theorem sd_P9 {c : Nat} (h : PB c) : SD[c + 9]? = some (9, 600) := h.cases (P := fun c => SD[c + 9]? = some (9, 600)) rfl rfl rfl rfl rfl rfl rfl rfl rfl rfl
/-- references that never change: the singles, and a Petition's own -/
def RS (R : Nat → Nat → Option Nat) : Prop := (R 0 0 = some 1 ∧ R 0 1 = some 6 ∧ R 0 2 = some 18 ∧ R 0 3 = some 25 ∧ R 0 4 = some 28 ∧ R 1 0 = some 2 ∧ R 1 1 = some 8 ∧ R 2 0 = some 3 ∧ R 2 1 = some 4 ∧ R 2 2 = some 5 ∧ R 2 3 = some 6 ∧ R 6 0 = some 7 ∧ R 18 0 = some 19 ∧ R 18 1 = some 20 ∧ R 18 2 = some 21 ∧ R 18 4 = some 22 ∧ R 18 5 = some 23 ∧ R 18 6 = some 24 ∧ R 25 0 = some 26 ∧ R 25 1 = some 27 ∧ R 119 1 = some 120 ∧ R 119 8 = some 121 ∧ R 119 9 = some 122 ∧ R 119 10 = some 123 ∧ R 119 11 = some 124 ∧ R 119 16 = some 133 ∧ R 119 17 = some 134 ∧ R 119 18 = some 135 ∧ R 119 20 = some 136 ∧ R 124 0 = some 125 ∧ R 124 1 = some 126 ∧ R 124 2 = some 127 ∧ R 124 3 = some 128 ∧ R 124 4 = some 129 ∧ R 124 5 = some 130 ∧ R 124 6 = some 131 ∧ R 124 7 = some 132) ∧ ∀ c, PB c → (R c 1 = some (c + 1) ∧ R c 2 = some (c + 2) ∧ R c 3 = some (c + 3) ∧ R c 7 = some (c + 4) ∧ R c 8 = some (c + 5) ∧ R c 9 = some (c + 6) ∧ R c 10 = some (c + 7) ∧ R c 16 = some (c + 8) ∧ R (c + 8) 0 = some (c + 9))
theorem rs_0_0 {R} (h : RS R) : R 0 0 = some 1 := h.1.1
theorem rs_0_1 {R} (h : RS R) : R 0 1 = some 6 := h.1.2.1
theorem rs_0_2 {R} (h : RS R) : R 0 2 = some 18 := h.1.2.2.1
theorem rs_0_3 {R} (h : RS R) : R 0 3 = some 25 := h.1.2.2.2.1
theorem rs_0_4 {R} (h : RS R) : R 0 4 = some 28 := h.1.2.2.2.2.1
theorem rs_1_0 {R} (h : RS R) : R 1 0 = some 2 := h.1.2.2.2.2.2.1
theorem rs_1_1 {R} (h : RS R) : R 1 1 = some 8 := h.1.2.2.2.2.2.2.1
theorem rs_2_0 {R} (h : RS R) : R 2 0 = some 3 := h.1.2.2.2.2.2.2.2.1
theorem rs_2_1 {R} (h : RS R) : R 2 1 = some 4 := h.1.2.2.2.2.2.2.2.2.1
theorem rs_2_2 {R} (h : RS R) : R 2 2 = some 5 := h.1.2.2.2.2.2.2.2.2.2.1
theorem rs_2_3 {R} (h : RS R) : R 2 3 = some 6 := h.1.2.2.2.2.2.2.2.2.2.2.1
theorem rs_6_0 {R} (h : RS R) : R 6 0 = some 7 := h.1.2.2.2.2.2.2.2.2.2.2.2.1
theorem rs_18_0 {R} (h : RS R) : R 18 0 = some 19 := h.1.2.2.2.2.2.2.2.2.2.2.2.2.1
theorem rs_18_1 {R} (h : RS R) : R 18 1 = some 20 := h.1.2.2.2.2.2.2.2.2.2.2.2.2.2.1
theorem rs_18_2 {R} (h : RS R) : R 18 2 = some 21 := h.1.2.2.2.2.2.2.2.2.2.2.2.2.2.2.1
theorem rs_18_4 {R} (h : RS R) : R 18 4 = some 22 := h.1.2.2.2.2.2.2.2.2.2.2.2.2.2.2.2.1
theorem rs_18_5 {R} (h : RS R) : R 18 5 = some 23 := h.1.2.2.2.2.2.2.2.2.2.2.2.2.2.2.2.2.1
theorem rs_18_6 {R} (h : RS R) : R 18 6 = some 24 := h.1.2.2.2.2.2.2.2.2.2.2.2.2.2.2.2.2.2.1
theorem rs_25_0 {R} (h : RS R) : R 25 0 = some 26 := h.1.2.2.2.2.2.2.2.2.2.2.2.2.2.2.2.2.2.2.1
theorem rs_25_1 {R} (h : RS R) : R 25 1 = some 27 := h.1.2.2.2.2.2.2.2.2.2.2.2.2.2.2.2.2.2.2.2.1
theorem rs_119_1 {R} (h : RS R) : R 119 1 = some 120 := h.1.2.2.2.2.2.2.2.2.2.2.2.2.2.2.2.2.2.2.2.2.1
theorem rs_119_8 {R} (h : RS R) : R 119 8 = some 121 := h.1.2.2.2.2.2.2.2.2.2.2.2.2.2.2.2.2.2.2.2.2.2.1
theorem rs_119_9 {R} (h : RS R) : R 119 9 = some 122 := h.1.2.2.2.2.2.2.2.2.2.2.2.2.2.2.2.2.2.2.2.2.2.2.1
theorem rs_119_10 {R} (h : RS R) : R 119 10 = some 123 := h.1.2.2.2.2.2.2.2.2.2.2.2.2.2.2.2.2.2.2.2.2.2.2.2.1
theorem rs_119_11 {R} (h : RS R) : R 119 11 = some 124 := h.1.2.2.2.2.2.2.2.2.2.2.2.2.2.2.2.2.2.2.2.2.2.2.2.2.1
theorem rs_119_16 {R} (h : RS R) : R 119 16 = some 133 := h.1.2.2.2.2.2.2.2.2.2.2.2.2.2.2.2.2.2.2.2.2.2.2.2.2.2.1
theorem rs_119_17 {R} (h : RS R) : R 119 17 = some 134 := h.1.2.2.2.2.2.2.2.2.2.2.2.2.2.2.2.2.2.2.2.2.2.2.2.2.2.2.1
theorem rs_119_18 {R} (h : RS R) : R 119 18 = some 135 := h.1.2.2.2.2.2.2.2.2.2.2.2.2.2.2.2.2.2.2.2.2.2.2.2.2.2.2.2.1
theorem rs_119_20 {R} (h : RS R) : R 119 20 = some 136 := h.1.2.2.2.2.2.2.2.2.2.2.2.2.2.2.2.2.2.2.2.2.2.2.2.2.2.2.2.2.1
theorem rs_124_0 {R} (h : RS R) : R 124 0 = some 125 := h.1.2.2.2.2.2.2.2.2.2.2.2.2.2.2.2.2.2.2.2.2.2.2.2.2.2.2.2.2.2.1
theorem rs_124_1 {R} (h : RS R) : R 124 1 = some 126 := h.1.2.2.2.2.2.2.2.2.2.2.2.2.2.2.2.2.2.2.2.2.2.2.2.2.2.2.2.2.2.2.1
theorem rs_124_2 {R} (h : RS R) : R 124 2 = some 127 := h.1.2.2.2.2.2.2.2.2.2.2.2.2.2.2.2.2.2.2.2.2.2.2.2.2.2.2.2.2.2.2.2.1
theorem rs_124_3 {R} (h : RS R) : R 124 3 = some 128 := h.1.2.2.2.2.2.2.2.2.2.2.2.2.2.2.2.2.2.2.2.2.2.2.2.2.2.2.2.2.2.2.2.2.1
theorem rs_124_4 {R} (h : RS R) : R 124 4 = some 129 := h.1.2.2.2.2.2.2.2.2.2.2.2.2.2.2.2.2.2.2.2.2.2.2.2.2.2.2.2.2.2.2.2.2.2.1
theorem rs_124_5 {R} (h : RS R) : R 124 5 = some 130 := h.1.2.2.2.2.2.2.2.2.2.2.2.2.2.2.2.2.2.2.2.2.2.2.2.2.2.2.2.2.2.2.2.2.2.2.1
theorem rs_124_6 {R} (h : RS R) : R 124 6 = some 131 := h.1.2.2.2.2.2.2.2.2.2.2.2.2.2.2.2.2.2.2.2.2.2.2.2.2.2.2.2.2.2.2.2.2.2.2.2.1
theorem rs_124_7 {R} (h : RS R) : R 124 7 = some 132 := h.1.2.2.2.2.2.2.2.2.2.2.2.2.2.2.2.2.2.2.2.2.2.2.2.2.2.2.2.2.2.2.2.2.2.2.2.2
theorem rs_P1 {R} {c : Nat} (h : RS R) (hc : PB c) : R c 1 = some (c + 1) := (h.2 c hc).1
theorem rs_P2 {R} {c : Nat} (h : RS R) (hc : PB c) : R c 2 = some (c + 2) := (h.2 c hc).2.1
theorem rs_P3 {R} {c : Nat} (h : RS R) (hc : PB c) : R c 3 = some (c + 3) := (h.2 c hc).2.2.1
theorem rs_P7 {R} {c : Nat} (h : RS R) (hc : PB c) : R c 7 = some (c + 4) := (h.2 c hc).2.2.2.1
theorem rs_P8 {R} {c : Nat} (h : RS R) (hc : PB c) : R c 8 = some (c + 5) := (h.2 c hc).2.2.2.2.1
theorem rs_P9 {R} {c : Nat} (h : RS R) (hc : PB c) : R c 9 = some (c + 6) := (h.2 c hc).2.2.2.2.2.1
theorem rs_P10 {R} {c : Nat} (h : RS R) (hc : PB c) : R c 10 = some (c + 7) := (h.2 c hc).2.2.2.2.2.2.1
theorem rs_P16 {R} {c : Nat} (h : RS R) (hc : PB c) : R c 16 = some (c + 8) := (h.2 c hc).2.2.2.2.2.2.2.1
theorem rs_Q0 {R} {c : Nat} (h : RS R) (hc : PB c) : R (c + 8) 0 = some (c + 9) := (h.2 c hc).2.2.2.2.2.2.2.2
theorem pc_im1 : Int32.ofInt (-1) = (-1) := by decide
theorem pc_i0 : Int32.ofInt 0 = 0 := by decide
theorem pc_i1 : Int32.ofInt 1 = 1 := by decide
theorem pc_i2 : Int32.ofInt 2 = 2 := by decide
theorem pc_i3 : Int32.ofInt 3 = 3 := by decide
theorem pc_i4 : Int32.ofInt 4 = 4 := by decide
theorem pc_i5 : Int32.ofInt 5 = 5 := by decide
theorem pc_i6 : Int32.ofInt 6 = 6 := by decide
theorem pc_bm3 : (Int8.ofInt (-3)).toInt32 = (-3) := by decide
theorem pc_bm2 : (Int8.ofInt (-2)).toInt32 = (-2) := by decide
theorem pc_b6 : (Int8.ofInt 6).toInt32 = 6 := by decide
theorem pc_b7 : (Int8.ofInt 7).toInt32 = 7 := by decide
theorem pc_b8 : (Int8.ofInt 8).toInt32 = 8 := by decide
theorem pc_b9 : (Int8.ofInt 9).toInt32 = 9 := by decide
theorem pc_b10 : (Int8.ofInt 10).toInt32 = 10 := by decide
theorem pc_b11 : (Int8.ofInt 11).toInt32 = 11 := by decide
theorem pc_b12 : (Int8.ofInt 12).toInt32 = 12 := by decide
theorem pc_b13 : (Int8.ofInt 13).toInt32 = 13 := by decide
theorem pc_b16 : (Int8.ofInt 16).toInt32 = 16 := by decide
theorem pc_b17 : (Int8.ofInt 17).toInt32 = 17 := by decide
theorem pc_b18 : (Int8.ofInt 18).toInt32 = 18 := by decide
theorem pc_b19 : (Int8.ofInt 19).toInt32 = 19 := by decide
theorem pc_b20 : (Int8.ofInt 20).toInt32 = 20 := by decide
theorem pc_b22 : (Int8.ofInt 22).toInt32 = 22 := by decide
theorem pc_b24 : (Int8.ofInt 24).toInt32 = 24 := by decide
theorem pc_b27 : (Int8.ofInt 27).toInt32 = 27 := by decide
theorem pc_b31 : (Int8.ofInt 31).toInt32 = 31 := by decide
theorem pc_b32 : (Int8.ofInt 32).toInt32 = 32 := by decide
theorem pc_b40 : (Int8.ofInt 40).toInt32 = 40 := by decide
theorem pc_b41 : (Int8.ofInt 41).toInt32 = 41 := by decide
theorem pc_b48 : (Int8.ofInt 48).toInt32 = 48 := by decide
theorem pc_b50 : (Int8.ofInt 50).toInt32 = 50 := by decide
theorem pc_b57 : (Int8.ofInt 57).toInt32 = 57 := by decide
theorem pc_b59 : (Int8.ofInt 59).toInt32 = 59 := by decide
theorem pc_b60 : (Int8.ofInt 60).toInt32 = 60 := by decide
theorem pc_b61 : (Int8.ofInt 61).toInt32 = 61 := by decide
theorem pc_b62 : (Int8.ofInt 62).toInt32 = 62 := by decide
theorem pc_b63 : (Int8.ofInt 63).toInt32 = 63 := by decide
theorem pc_b65 : (Int8.ofInt 65).toInt32 = 65 := by decide
theorem pc_b96 : (Int8.ofInt 96).toInt32 = 96 := by decide
theorem pc_b97 : (Int8.ofInt 97).toInt32 = 97 := by decide
theorem pc_b99 : (Int8.ofInt 99).toInt32 = 99 := by decide
theorem pc_b100 : (Int8.ofInt 100).toInt32 = 100 := by decide
theorem pc_b122 : (Int8.ofInt 122).toInt32 = 122 := by decide
theorem pc_b127 : (Int8.ofInt 127).toInt32 = 127 := by decide
theorem pc_s200 : (Int16.ofInt 200).toInt32 = 200 := by decide
theorem pc_s225 : (Int16.ofInt 225).toInt32 = 225 := by decide
theorem pc_s255 : (Int16.ofInt 255).toInt32 = 255 := by decide
theorem pc_s305 : (Int16.ofInt 305).toInt32 = 305 := by decide
theorem pc_s499 : (Int16.ofInt 499).toInt32 = 499 := by decide
theorem pc_s600 : (Int16.ofInt 600).toInt32 = 600 := by decide
theorem pc_s601 : (Int16.ofInt 601).toInt32 = 601 := by decide
theorem pc_s800 : (Int16.ofInt 800).toInt32 = 800 := by decide
theorem pc_s999 : (Int16.ofInt 999).toInt32 = 999 := by decide
theorem pc_s1000 : (Int16.ofInt 1000).toInt32 = 1000 := by decide
theorem pc_s1105 : (Int16.ofInt 1105).toInt32 = 1105 := by decide
theorem pc_s1681 : (Int16.ofInt 1681).toInt32 = 1681 := by decide
theorem pc_s2047 : (Int16.ofInt 2047).toInt32 = 2047 := by decide
theorem pc_s12345 : (Int16.ofInt 12345).toInt32 = 12345 := by decide
theorem pc_l0 : Int64.ofNat ((0 : Fin 2) : Nat) = 0 := by decide
theorem pc_l1 : Int64.ofNat ((1 : Fin 2) : Nat) = 1 := by decide
theorem at_inc {G : pd_G} {mi : pd_MI} {h mc ms cs ss pc : Nat} {lo : List (Option Value)} {st : List Value} {Q : pd_O → pd_M → Prop} {M : pd_M} {i : Nat} {n : Int} {x w : Int32} (hdg : decode mi.2.1 pc = .ok (.iinc i n, 3)) (hg : pd_lg lo i = some (.int x)) (hw : Int32.ofInt n = w) (hk : pd_o1 lo i = true) (hn : i < mi.2.2.1) (k : pd_At G mi h mc ms cs ss (pc + 3) (pd_ls lo i (some (.int (x + w)))) st M Q) : pd_At G mi h mc ms cs ss pc lo st M Q := at_iinc hdg hg (by rw [hw]) hk hn k
theorem at_cv0 {G : pd_G} {mi : pd_MI} {h mc ms cs ss pc : Nat} {lo : List (Option Value)} {st : List Value} {Q : pd_O → pd_M → Prop} {mi' : pd_MI} {h' mc' ms' idx ci k n0 : Nat} {S : List (Nat × Nat)} {fx : Bool} {I L R} {Q' : pd_O → pd_M → Prop} (hc : pd_CV mi.1.cls idx mi' 0 ci) (hs : S[k]? = some (ci, n0)) (hE : pd_Ev G mi' h' mc' ms' (.ref (pd_z G + k) :: []) (S, fx, I, L, R) Q') (hh : h' + 1 ≤ h) (hb : cs + mc' ≤ mc ∧ ss + ms' ≤ ms) (hst : (st.map fun v => v.category).sum ≤ 8) (hdg : decode mi.2.1 pc = .ok (.invokevirtual idx, 3)) (K : ∀ o M', Q' o M' → pd_Kc G mi h mc ms (cs + mc') (ss + ms') pc lo st Q o M') : pd_At G mi h mc ms cs ss pc lo (.ref (pd_z G + k) :: st) (S, fx, I, L, R) Q := at_callV (As := []) hc rfl hs hE hh hb hst hdg K
theorem at_cs0 {G : pd_G} {mi : pd_MI} {h mc ms cs ss pc : Nat} {lo : List (Option Value)} {st : List Value} {Q : pd_O → pd_M → Prop} {M : pd_M} {mi' : pd_MI} {h' mc' ms' idx : Nat} {Q' : pd_O → pd_M → Prop} (hc : pd_CS mi.1.cls idx mi' 0) (hE : pd_Ev G mi' h' mc' ms' [] M Q') (hh : h' + 1 ≤ h) (hb : cs + mc' ≤ mc ∧ ss + ms' ≤ ms) (hst : (st.map fun v => v.category).sum ≤ 8) (hdg : decode mi.2.1 pc = .ok (.invokestatic idx, 3)) (K : ∀ o M', Q' o M' → pd_Kc G mi h mc ms (cs + mc') (ss + ms') pc lo st Q o M') : pd_At G mi h mc ms cs ss pc lo (st) M Q := at_callS (As := []) hc rfl hE hh hb hst hdg K
theorem at_cv1 {G : pd_G} {mi : pd_MI} {h mc ms cs ss pc : Nat} {lo : List (Option Value)} {st : List Value} {Q : pd_O → pd_M → Prop} {mi' : pd_MI} {h' mc' ms' idx ci k n0 : Nat} {a1 : Value} {S : List (Nat × Nat)} {fx : Bool} {I L R} {Q' : pd_O → pd_M → Prop} (hc : pd_CV mi.1.cls idx mi' 1 ci) (hs : S[k]? = some (ci, n0)) (hE : pd_Ev G mi' h' mc' ms' (.ref (pd_z G + k) :: [a1]) (S, fx, I, L, R) Q') (hh : h' + 1 ≤ h) (hb : cs + mc' ≤ mc ∧ ss + ms' ≤ ms) (hst : (st.map fun v => v.category).sum ≤ 8) (hdg : decode mi.2.1 pc = .ok (.invokevirtual idx, 3)) (K : ∀ o M', Q' o M' → pd_Kc G mi h mc ms (cs + mc') (ss + ms') pc lo st Q o M') : pd_At G mi h mc ms cs ss pc lo (a1 :: .ref (pd_z G + k) :: st) (S, fx, I, L, R) Q := at_callV (As := [a1]) hc rfl hs hE hh hb hst hdg K
theorem at_cs1 {G : pd_G} {mi : pd_MI} {h mc ms cs ss pc : Nat} {lo : List (Option Value)} {st : List Value} {Q : pd_O → pd_M → Prop} {M : pd_M} {mi' : pd_MI} {h' mc' ms' idx : Nat} {a1 : Value} {Q' : pd_O → pd_M → Prop} (hc : pd_CS mi.1.cls idx mi' 1) (hE : pd_Ev G mi' h' mc' ms' [a1] M Q') (hh : h' + 1 ≤ h) (hb : cs + mc' ≤ mc ∧ ss + ms' ≤ ms) (hst : (st.map fun v => v.category).sum ≤ 8) (hdg : decode mi.2.1 pc = .ok (.invokestatic idx, 3)) (K : ∀ o M', Q' o M' → pd_Kc G mi h mc ms (cs + mc') (ss + ms') pc lo st Q o M') : pd_At G mi h mc ms cs ss pc lo (a1 :: st) M Q := at_callS (As := [a1]) hc rfl hE hh hb hst hdg K
theorem at_cv2 {G : pd_G} {mi : pd_MI} {h mc ms cs ss pc : Nat} {lo : List (Option Value)} {st : List Value} {Q : pd_O → pd_M → Prop} {mi' : pd_MI} {h' mc' ms' idx ci k n0 : Nat} {a1 a2 : Value} {S : List (Nat × Nat)} {fx : Bool} {I L R} {Q' : pd_O → pd_M → Prop} (hc : pd_CV mi.1.cls idx mi' 2 ci) (hs : S[k]? = some (ci, n0)) (hE : pd_Ev G mi' h' mc' ms' (.ref (pd_z G + k) :: [a1, a2]) (S, fx, I, L, R) Q') (hh : h' + 1 ≤ h) (hb : cs + mc' ≤ mc ∧ ss + ms' ≤ ms) (hst : (st.map fun v => v.category).sum ≤ 8) (hdg : decode mi.2.1 pc = .ok (.invokevirtual idx, 3)) (K : ∀ o M', Q' o M' → pd_Kc G mi h mc ms (cs + mc') (ss + ms') pc lo st Q o M') : pd_At G mi h mc ms cs ss pc lo (a2 :: a1 :: .ref (pd_z G + k) :: st) (S, fx, I, L, R) Q := at_callV (As := [a1, a2]) hc rfl hs hE hh hb hst hdg K
theorem at_cs2 {G : pd_G} {mi : pd_MI} {h mc ms cs ss pc : Nat} {lo : List (Option Value)} {st : List Value} {Q : pd_O → pd_M → Prop} {M : pd_M} {mi' : pd_MI} {h' mc' ms' idx : Nat} {a1 a2 : Value} {Q' : pd_O → pd_M → Prop} (hc : pd_CS mi.1.cls idx mi' 2) (hE : pd_Ev G mi' h' mc' ms' [a1, a2] M Q') (hh : h' + 1 ≤ h) (hb : cs + mc' ≤ mc ∧ ss + ms' ≤ ms) (hst : (st.map fun v => v.category).sum ≤ 8) (hdg : decode mi.2.1 pc = .ok (.invokestatic idx, 3)) (K : ∀ o M', Q' o M' → pd_Kc G mi h mc ms (cs + mc') (ss + ms') pc lo st Q o M') : pd_At G mi h mc ms cs ss pc lo (a2 :: a1 :: st) M Q := at_callS (As := [a1, a2]) hc rfl hE hh hb hst hdg K
theorem at_cv3 {G : pd_G} {mi : pd_MI} {h mc ms cs ss pc : Nat} {lo : List (Option Value)} {st : List Value} {Q : pd_O → pd_M → Prop} {mi' : pd_MI} {h' mc' ms' idx ci k n0 : Nat} {a1 a2 a3 : Value} {S : List (Nat × Nat)} {fx : Bool} {I L R} {Q' : pd_O → pd_M → Prop} (hc : pd_CV mi.1.cls idx mi' 3 ci) (hs : S[k]? = some (ci, n0)) (hE : pd_Ev G mi' h' mc' ms' (.ref (pd_z G + k) :: [a1, a2, a3]) (S, fx, I, L, R) Q') (hh : h' + 1 ≤ h) (hb : cs + mc' ≤ mc ∧ ss + ms' ≤ ms) (hst : (st.map fun v => v.category).sum ≤ 8) (hdg : decode mi.2.1 pc = .ok (.invokevirtual idx, 3)) (K : ∀ o M', Q' o M' → pd_Kc G mi h mc ms (cs + mc') (ss + ms') pc lo st Q o M') : pd_At G mi h mc ms cs ss pc lo (a3 :: a2 :: a1 :: .ref (pd_z G + k) :: st) (S, fx, I, L, R) Q := at_callV (As := [a1, a2, a3]) hc rfl hs hE hh hb hst hdg K
theorem at_cs3 {G : pd_G} {mi : pd_MI} {h mc ms cs ss pc : Nat} {lo : List (Option Value)} {st : List Value} {Q : pd_O → pd_M → Prop} {M : pd_M} {mi' : pd_MI} {h' mc' ms' idx : Nat} {a1 a2 a3 : Value} {Q' : pd_O → pd_M → Prop} (hc : pd_CS mi.1.cls idx mi' 3) (hE : pd_Ev G mi' h' mc' ms' [a1, a2, a3] M Q') (hh : h' + 1 ≤ h) (hb : cs + mc' ≤ mc ∧ ss + ms' ≤ ms) (hst : (st.map fun v => v.category).sum ≤ 8) (hdg : decode mi.2.1 pc = .ok (.invokestatic idx, 3)) (K : ∀ o M', Q' o M' → pd_Kc G mi h mc ms (cs + mc') (ss + ms') pc lo st Q o M') : pd_At G mi h mc ms cs ss pc lo (a3 :: a2 :: a1 :: st) M Q := at_callS (As := [a1, a2, a3]) hc rfl hE hh hb hst hdg K
theorem at_cv4 {G : pd_G} {mi : pd_MI} {h mc ms cs ss pc : Nat} {lo : List (Option Value)} {st : List Value} {Q : pd_O → pd_M → Prop} {mi' : pd_MI} {h' mc' ms' idx ci k n0 : Nat} {a1 a2 a3 a4 : Value} {S : List (Nat × Nat)} {fx : Bool} {I L R} {Q' : pd_O → pd_M → Prop} (hc : pd_CV mi.1.cls idx mi' 4 ci) (hs : S[k]? = some (ci, n0)) (hE : pd_Ev G mi' h' mc' ms' (.ref (pd_z G + k) :: [a1, a2, a3, a4]) (S, fx, I, L, R) Q') (hh : h' + 1 ≤ h) (hb : cs + mc' ≤ mc ∧ ss + ms' ≤ ms) (hst : (st.map fun v => v.category).sum ≤ 8) (hdg : decode mi.2.1 pc = .ok (.invokevirtual idx, 3)) (K : ∀ o M', Q' o M' → pd_Kc G mi h mc ms (cs + mc') (ss + ms') pc lo st Q o M') : pd_At G mi h mc ms cs ss pc lo (a4 :: a3 :: a2 :: a1 :: .ref (pd_z G + k) :: st) (S, fx, I, L, R) Q := at_callV (As := [a1, a2, a3, a4]) hc rfl hs hE hh hb hst hdg K
theorem at_cs4 {G : pd_G} {mi : pd_MI} {h mc ms cs ss pc : Nat} {lo : List (Option Value)} {st : List Value} {Q : pd_O → pd_M → Prop} {M : pd_M} {mi' : pd_MI} {h' mc' ms' idx : Nat} {a1 a2 a3 a4 : Value} {Q' : pd_O → pd_M → Prop} (hc : pd_CS mi.1.cls idx mi' 4) (hE : pd_Ev G mi' h' mc' ms' [a1, a2, a3, a4] M Q') (hh : h' + 1 ≤ h) (hb : cs + mc' ≤ mc ∧ ss + ms' ≤ ms) (hst : (st.map fun v => v.category).sum ≤ 8) (hdg : decode mi.2.1 pc = .ok (.invokestatic idx, 3)) (K : ∀ o M', Q' o M' → pd_Kc G mi h mc ms (cs + mc') (ss + ms') pc lo st Q o M') : pd_At G mi h mc ms cs ss pc lo (a4 :: a3 :: a2 :: a1 :: st) M Q := at_callS (As := [a1, a2, a3, a4]) hc rfl hE hh hb hst hdg K
theorem at_cv5 {G : pd_G} {mi : pd_MI} {h mc ms cs ss pc : Nat} {lo : List (Option Value)} {st : List Value} {Q : pd_O → pd_M → Prop} {mi' : pd_MI} {h' mc' ms' idx ci k n0 : Nat} {a1 a2 a3 a4 a5 : Value} {S : List (Nat × Nat)} {fx : Bool} {I L R} {Q' : pd_O → pd_M → Prop} (hc : pd_CV mi.1.cls idx mi' 5 ci) (hs : S[k]? = some (ci, n0)) (hE : pd_Ev G mi' h' mc' ms' (.ref (pd_z G + k) :: [a1, a2, a3, a4, a5]) (S, fx, I, L, R) Q') (hh : h' + 1 ≤ h) (hb : cs + mc' ≤ mc ∧ ss + ms' ≤ ms) (hst : (st.map fun v => v.category).sum ≤ 8) (hdg : decode mi.2.1 pc = .ok (.invokevirtual idx, 3)) (K : ∀ o M', Q' o M' → pd_Kc G mi h mc ms (cs + mc') (ss + ms') pc lo st Q o M') : pd_At G mi h mc ms cs ss pc lo (a5 :: a4 :: a3 :: a2 :: a1 :: .ref (pd_z G + k) :: st) (S, fx, I, L, R) Q := at_callV (As := [a1, a2, a3, a4, a5]) hc rfl hs hE hh hb hst hdg K
theorem at_cs5 {G : pd_G} {mi : pd_MI} {h mc ms cs ss pc : Nat} {lo : List (Option Value)} {st : List Value} {Q : pd_O → pd_M → Prop} {M : pd_M} {mi' : pd_MI} {h' mc' ms' idx : Nat} {a1 a2 a3 a4 a5 : Value} {Q' : pd_O → pd_M → Prop} (hc : pd_CS mi.1.cls idx mi' 5) (hE : pd_Ev G mi' h' mc' ms' [a1, a2, a3, a4, a5] M Q') (hh : h' + 1 ≤ h) (hb : cs + mc' ≤ mc ∧ ss + ms' ≤ ms) (hst : (st.map fun v => v.category).sum ≤ 8) (hdg : decode mi.2.1 pc = .ok (.invokestatic idx, 3)) (K : ∀ o M', Q' o M' → pd_Kc G mi h mc ms (cs + mc') (ss + ms') pc lo st Q o M') : pd_At G mi h mc ms cs ss pc lo (a5 :: a4 :: a3 :: a2 :: a1 :: st) M Q := at_callS (As := [a1, a2, a3, a4, a5]) hc rfl hE hh hb hst hdg K
set_option maxRecDepth 100000 in
theorem mcX3_74 : Cond.methodLink RX3 74 arraycopyName ∈ pd_TB := pd_tb (i := 755) (by decide +kernel) (by decide +kernel)
set_option maxRecDepth 100000 in
theorem mcX4_23 : Cond.methodLink RX4 23 arraycopyName ∈ pd_TB := pd_tb (i := 826) (by decide +kernel) (by decide +kernel)
set_option maxRecDepth 100000 in
theorem moX8_1 : Cond.methodLink RX8 1 Lib.objectInit ∈ pd_TB := pd_tb (i := 124) (by decide +kernel) (by decide +kernel)
set_option maxRecDepth 100000 in
theorem moX6_3 : Cond.methodLink RX6 3 Lib.objectInit ∈ pd_TB := pd_tb (i := 132) (by decide +kernel) (by decide +kernel)
set_option maxRecDepth 100000 in
theorem moX7_3 : Cond.methodLink RX7 3 Lib.objectInit ∈ pd_TB := pd_tb (i := 138) (by decide +kernel) (by decide +kernel)
set_option maxRecDepth 100000 in
theorem moX5_3 : Cond.methodLink RX5 3 Lib.objectInit ∈ pd_TB := pd_tb (i := 144) (by decide +kernel) (by decide +kernel)
set_option maxRecDepth 100000 in
theorem moX3_3 : Cond.methodLink RX3 3 Lib.objectInit ∈ pd_TB := pd_tb (i := 184) (by decide +kernel) (by decide +kernel)
set_option maxRecDepth 100000 in
theorem moX4_3 : Cond.methodLink RX4 3 Lib.objectInit ∈ pd_TB := pd_tb (i := 190) (by decide +kernel) (by decide +kernel)
set_option maxRecDepth 100000 in
theorem moX1_3 : Cond.methodLink RX1 3 Lib.objectInit ∈ pd_TB := pd_tb (i := 322) (by decide +kernel) (by decide +kernel)
set_option maxRecDepth 100000 in
theorem moX0_3 : Cond.methodLink RX0 3 Lib.objectInit ∈ pd_TB := pd_tb (i := 357) (by decide +kernel) (by decide +kernel)
set_option maxRecDepth 100000 in
theorem moX9_3 : Cond.methodLink RX9 3 Lib.objectInit ∈ pd_TB := pd_tb (i := 1099) (by decide +kernel) (by decide +kernel)
set_option maxRecDepth 100000 in
theorem pd_oi : Cond.instanceMethod Lib.objectInit ∈ pd_TB ∧ Cond.code Lib.objectInit ⟨#[0xb1]⟩ 1 none ∈ pd_TB := ⟨pd_tbm (ws := [_]) (by decide +kernel) _ List.mem_cons_self, pd_tbm (ws := [_]) (by decide +kernel) _ List.mem_cons_self⟩
/-- a void method: what holds of the stores behind it -/
def pd_re (R : Nat → Nat → Option Nat) (P : (Nat → Nat → Int32) → (Nat → Nat → Int64) → Prop) : pd_O → pd_M → Prop := fun o M' => o = .inl none ∧ ∃ I' L', M' = (SD, false, I', L', R) ∧ P I' L'
def pd_ri (R : Nat → Nat → Option Nat) (P : Int32 → (Nat → Nat → Int32) → (Nat → Nat → Int64) → Prop) : pd_O → pd_M → Prop := fun o M' => ∃ r I' L', o = .inl (some (.int r)) ∧ M' = (SD, false, I', L', R) ∧ P r I' L'
theorem pd_ke {G : pd_G} {mi : pd_MI} {h mc ms cs ss pc : Nat} {lo : List (Option Value)} {st : List Value} {Q : pd_O → pd_M → Prop} {R P} (K : ∀ I' L', P I' L' → pd_At G mi h mc ms cs ss (pc + 3) lo st (SD, false, I', L', R) Q) : ∀ o M', pd_re R P o M' → pd_Kc G mi h mc ms cs ss pc lo st Q o M' := fun o M' hq => by
  obtain ⟨rfl, I', L', rfl, hp⟩ := hq; exact K I' L' hp
theorem pd_ki {G : pd_G} {mi : pd_MI} {h mc ms cs ss pc : Nat} {lo : List (Option Value)} {st : List Value} {Q : pd_O → pd_M → Prop} {R P} (K : ∀ r I' L', P r I' L' → pd_At G mi h mc ms cs ss (pc + 3) lo (.int r :: st) (SD, false, I', L', R) Q) : ∀ o M', pd_ri R P o M' → pd_Kc G mi h mc ms cs ss pc lo st Q o M' := fun o M' hq => by
  obtain ⟨r, I', L', rfl, rfl, hp⟩ := hq; exact K r I' L' hp
