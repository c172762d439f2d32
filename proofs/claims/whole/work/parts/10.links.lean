set_option maxRecDepth 100000 in
theorem flX5_9 : pd_FL RX5 9 4 0 := ⟨_, _, _, rfl, by decide, pd_tb (i := 145) (by decide +kernel) (by decide +kernel)⟩
set_option maxRecDepth 100000 in
theorem flX7_85 : pd_FL RX7 85 4 0 := ⟨_, _, _, rfl, by decide, pd_tb (i := 146) (by decide +kernel) (by decide +kernel)⟩
set_option maxRecDepth 100000 in
theorem flX5_15 : pd_FL RX5 15 4 1 := ⟨_, _, _, rfl, by decide, pd_tb (i := 147) (by decide +kernel) (by decide +kernel)⟩
set_option maxRecDepth 100000 in
theorem flX8_66 : pd_FL RX8 66 4 1 := ⟨_, _, _, rfl, by decide, pd_tb (i := 148) (by decide +kernel) (by decide +kernel)⟩
set_option maxRecDepth 100000 in
theorem flX7_9 : pd_FL RX7 9 6 0 := ⟨_, _, _, rfl, by decide, pd_tb (i := 156) (by decide +kernel) (by decide +kernel)⟩
set_option maxRecDepth 100000 in
theorem flX6_169 : pd_FL RX6 169 6 0 := ⟨_, _, _, rfl, by decide, pd_tb (i := 157) (by decide +kernel) (by decide +kernel)⟩
set_option maxRecDepth 100000 in
theorem flX7_15 : pd_FL RX7 15 6 1 := ⟨_, _, _, rfl, by decide, pd_tb (i := 158) (by decide +kernel) (by decide +kernel)⟩
set_option maxRecDepth 100000 in
theorem flX6_172 : pd_FL RX6 172 6 1 := ⟨_, _, _, rfl, by decide, pd_tb (i := 159) (by decide +kernel) (by decide +kernel)⟩
set_option maxRecDepth 100000 in
theorem flX7_18 : pd_FL RX7 18 6 2 := ⟨_, _, _, rfl, by decide, pd_tb (i := 160) (by decide +kernel) (by decide +kernel)⟩
set_option maxRecDepth 100000 in
theorem flX6_155 : pd_FL RX6 155 6 2 := ⟨_, _, _, rfl, by decide, pd_tb (i := 161) (by decide +kernel) (by decide +kernel)⟩
set_option maxRecDepth 100000 in
theorem flX8_20 : pd_FL RX8 20 6 3 := ⟨_, _, _, rfl, by decide, pd_tb (i := 162) (by decide +kernel) (by decide +kernel)⟩
set_option maxRecDepth 100000 in
theorem flX7_24 : pd_FL RX7 24 6 3 := ⟨_, _, _, rfl, by decide, pd_tb (i := 163) (by decide +kernel) (by decide +kernel)⟩
set_option maxRecDepth 100000 in
theorem flX7_37 : pd_FL RX7 37 6 4 := ⟨_, _, _, rfl, by decide, pd_tb (i := 164) (by decide +kernel) (by decide +kernel)⟩
set_option maxRecDepth 100000 in
theorem flX7_41 : pd_FL RX7 41 6 5 := ⟨_, _, _, rfl, by decide, pd_tb (i := 165) (by decide +kernel) (by decide +kernel)⟩
set_option maxRecDepth 100000 in
theorem flX4_9 : pd_FL RX4 9 3 0 := ⟨_, _, _, rfl, by decide, pd_tb (i := 191) (by decide +kernel) (by decide +kernel)⟩
set_option maxRecDepth 100000 in
theorem flX4_15 : pd_FL RX4 15 3 1 := ⟨_, _, _, rfl, by decide, pd_tb (i := 192) (by decide +kernel) (by decide +kernel)⟩
set_option maxRecDepth 100000 in
theorem flX3_68 : pd_FL RX3 68 3 1 := ⟨_, _, _, rfl, by decide, pd_tb (i := 193) (by decide +kernel) (by decide +kernel)⟩
set_option maxRecDepth 100000 in
theorem flX3_53 : pd_FL RX3 53 2 0 := ⟨_, _, _, rfl, by decide, pd_tb (i := 199) (by decide +kernel) (by decide +kernel)⟩
set_option maxRecDepth 100000 in
theorem flX6_86 : pd_FL RX6 86 2 0 := ⟨_, _, _, rfl, by decide, pd_tb (i := 200) (by decide +kernel) (by decide +kernel)⟩
set_option maxRecDepth 100000 in
theorem flX8_168 : pd_FL RX8 168 2 0 := ⟨_, _, _, rfl, by decide, pd_tb (i := 201) (by decide +kernel) (by decide +kernel)⟩
set_option maxRecDepth 100000 in
theorem flX3_9 : pd_FL RX3 9 2 1 := ⟨_, _, _, rfl, by decide, pd_tb (i := 202) (by decide +kernel) (by decide +kernel)⟩
set_option maxRecDepth 100000 in
theorem flX8_138 : pd_FL RX8 138 2 1 := ⟨_, _, _, rfl, by decide, pd_tb (i := 203) (by decide +kernel) (by decide +kernel)⟩
set_option maxRecDepth 100000 in
theorem flX3_15 : pd_FL RX3 15 2 2 := ⟨_, _, _, rfl, by decide, pd_tb (i := 204) (by decide +kernel) (by decide +kernel)⟩
set_option maxRecDepth 100000 in
theorem flX8_142 : pd_FL RX8 142 2 2 := ⟨_, _, _, rfl, by decide, pd_tb (i := 205) (by decide +kernel) (by decide +kernel)⟩
set_option maxRecDepth 100000 in
theorem flX3_18 : pd_FL RX3 18 2 3 := ⟨_, _, _, rfl, by decide, pd_tb (i := 206) (by decide +kernel) (by decide +kernel)⟩
set_option maxRecDepth 100000 in
theorem flX1_90 : pd_FL RX1 90 2 3 := ⟨_, _, _, rfl, by decide, pd_tb (i := 207) (by decide +kernel) (by decide +kernel)⟩
set_option maxRecDepth 100000 in
theorem flX8_192 : pd_FL RX8 192 2 3 := ⟨_, _, _, rfl, by decide, pd_tb (i := 208) (by decide +kernel) (by decide +kernel)⟩
set_option maxRecDepth 100000 in
theorem flX3_56 : pd_FL RX3 56 2 4 := ⟨_, _, _, rfl, by decide, pd_tb (i := 209) (by decide +kernel) (by decide +kernel)⟩
set_option maxRecDepth 100000 in
theorem flX6_106 : pd_FL RX6 106 2 4 := ⟨_, _, _, rfl, by decide, pd_tb (i := 210) (by decide +kernel) (by decide +kernel)⟩
set_option maxRecDepth 100000 in
theorem flX1_113 : pd_FL RX1 113 2 4 := ⟨_, _, _, rfl, by decide, pd_tb (i := 211) (by decide +kernel) (by decide +kernel)⟩
set_option maxRecDepth 100000 in
theorem flX8_171 : pd_FL RX8 171 2 4 := ⟨_, _, _, rfl, by decide, pd_tb (i := 212) (by decide +kernel) (by decide +kernel)⟩
set_option maxRecDepth 100000 in
theorem flX3_59 : pd_FL RX3 59 2 5 := ⟨_, _, _, rfl, by decide, pd_tb (i := 213) (by decide +kernel) (by decide +kernel)⟩
set_option maxRecDepth 100000 in
theorem flX1_107 : pd_FL RX1 107 2 5 := ⟨_, _, _, rfl, by decide, pd_tb (i := 214) (by decide +kernel) (by decide +kernel)⟩
set_option maxRecDepth 100000 in
theorem flX8_125 : pd_FL RX8 125 2 5 := ⟨_, _, _, rfl, by decide, pd_tb (i := 215) (by decide +kernel) (by decide +kernel)⟩
set_option maxRecDepth 100000 in
theorem flX1_32 : pd_FL RX1 32 2 6 := ⟨_, _, _, rfl, by decide, pd_tb (i := 216) (by decide +kernel) (by decide +kernel)⟩
set_option maxRecDepth 100000 in
theorem flX3_62 : pd_FL RX3 62 2 6 := ⟨_, _, _, rfl, by decide, pd_tb (i := 217) (by decide +kernel) (by decide +kernel)⟩
set_option maxRecDepth 100000 in
theorem flX8_98 : pd_FL RX8 98 2 6 := ⟨_, _, _, rfl, by decide, pd_tb (i := 218) (by decide +kernel) (by decide +kernel)⟩
set_option maxRecDepth 100000 in
theorem flX6_109 : pd_FL RX6 109 2 6 := ⟨_, _, _, rfl, by decide, pd_tb (i := 219) (by decide +kernel) (by decide +kernel)⟩
set_option maxRecDepth 100000 in
theorem flX3_21 : pd_FL RX3 21 2 7 := ⟨_, _, _, rfl, by decide, pd_tb (i := 220) (by decide +kernel) (by decide +kernel)⟩
set_option maxRecDepth 100000 in
theorem flX1_61 : pd_FL RX1 61 2 7 := ⟨_, _, _, rfl, by decide, pd_tb (i := 221) (by decide +kernel) (by decide +kernel)⟩
set_option maxRecDepth 100000 in
theorem flX3_24 : pd_FL RX3 24 2 8 := ⟨_, _, _, rfl, by decide, pd_tb (i := 222) (by decide +kernel) (by decide +kernel)⟩
set_option maxRecDepth 100000 in
theorem flX1_64 : pd_FL RX1 64 2 8 := ⟨_, _, _, rfl, by decide, pd_tb (i := 223) (by decide +kernel) (by decide +kernel)⟩
set_option maxRecDepth 100000 in
theorem flX8_214 : pd_FL RX8 214 2 8 := ⟨_, _, _, rfl, by decide, pd_tb (i := 224) (by decide +kernel) (by decide +kernel)⟩
set_option maxRecDepth 100000 in
theorem flX3_27 : pd_FL RX3 27 2 9 := ⟨_, _, _, rfl, by decide, pd_tb (i := 225) (by decide +kernel) (by decide +kernel)⟩
set_option maxRecDepth 100000 in
theorem flX1_87 : pd_FL RX1 87 2 9 := ⟨_, _, _, rfl, by decide, pd_tb (i := 226) (by decide +kernel) (by decide +kernel)⟩
set_option maxRecDepth 100000 in
theorem flX8_217 : pd_FL RX8 217 2 9 := ⟨_, _, _, rfl, by decide, pd_tb (i := 227) (by decide +kernel) (by decide +kernel)⟩
set_option maxRecDepth 100000 in
theorem flX3_30 : pd_FL RX3 30 2 10 := ⟨_, _, _, rfl, by decide, pd_tb (i := 228) (by decide +kernel) (by decide +kernel)⟩
set_option maxRecDepth 100000 in
theorem flX1_70 : pd_FL RX1 70 2 10 := ⟨_, _, _, rfl, by decide, pd_tb (i := 229) (by decide +kernel) (by decide +kernel)⟩
set_option maxRecDepth 100000 in
theorem flX3_33 : pd_FL RX3 33 2 11 := ⟨_, _, _, rfl, by decide, pd_tb (i := 230) (by decide +kernel) (by decide +kernel)⟩
set_option maxRecDepth 100000 in
theorem flX6_116 : pd_FL RX6 116 2 11 := ⟨_, _, _, rfl, by decide, pd_tb (i := 231) (by decide +kernel) (by decide +kernel)⟩
set_option maxRecDepth 100000 in
theorem flX8_174 : pd_FL RX8 174 2 11 := ⟨_, _, _, rfl, by decide, pd_tb (i := 232) (by decide +kernel) (by decide +kernel)⟩
set_option maxRecDepth 100000 in
theorem flX3_65 : pd_FL RX3 65 2 12 := ⟨_, _, _, rfl, by decide, pd_tb (i := 233) (by decide +kernel) (by decide +kernel)⟩
set_option maxRecDepth 100000 in
theorem flX1_93 : pd_FL RX1 93 2 12 := ⟨_, _, _, rfl, by decide, pd_tb (i := 234) (by decide +kernel) (by decide +kernel)⟩
set_option maxRecDepth 100000 in
theorem flX6_119 : pd_FL RX6 119 2 12 := ⟨_, _, _, rfl, by decide, pd_tb (i := 235) (by decide +kernel) (by decide +kernel)⟩
set_option maxRecDepth 100000 in
theorem flX8_177 : pd_FL RX8 177 2 12 := ⟨_, _, _, rfl, by decide, pd_tb (i := 236) (by decide +kernel) (by decide +kernel)⟩
set_option maxRecDepth 100000 in
theorem flX3_37 : pd_FL RX3 37 2 13 := ⟨_, _, _, rfl, by decide, pd_tb (i := 237) (by decide +kernel) (by decide +kernel)⟩
set_option maxRecDepth 100000 in
theorem flX1_96 : pd_FL RX1 96 2 13 := ⟨_, _, _, rfl, by decide, pd_tb (i := 238) (by decide +kernel) (by decide +kernel)⟩
set_option maxRecDepth 100000 in
theorem flX6_122 : pd_FL RX6 122 2 13 := ⟨_, _, _, rfl, by decide, pd_tb (i := 239) (by decide +kernel) (by decide +kernel)⟩
set_option maxRecDepth 100000 in
theorem flX8_180 : pd_FL RX8 180 2 13 := ⟨_, _, _, rfl, by decide, pd_tb (i := 240) (by decide +kernel) (by decide +kernel)⟩
set_option maxRecDepth 100000 in
theorem flX3_40 : pd_FL RX3 40 2 14 := ⟨_, _, _, rfl, by decide, pd_tb (i := 241) (by decide +kernel) (by decide +kernel)⟩
set_option maxRecDepth 100000 in
theorem flX1_116 : pd_FL RX1 116 2 14 := ⟨_, _, _, rfl, by decide, pd_tb (i := 242) (by decide +kernel) (by decide +kernel)⟩
set_option maxRecDepth 100000 in
theorem flX6_125 : pd_FL RX6 125 2 14 := ⟨_, _, _, rfl, by decide, pd_tb (i := 243) (by decide +kernel) (by decide +kernel)⟩
set_option maxRecDepth 100000 in
theorem flX8_183 : pd_FL RX8 183 2 14 := ⟨_, _, _, rfl, by decide, pd_tb (i := 244) (by decide +kernel) (by decide +kernel)⟩
set_option maxRecDepth 100000 in
theorem flX3_43 : pd_FL RX3 43 2 15 := ⟨_, _, _, rfl, by decide, pd_tb (i := 245) (by decide +kernel) (by decide +kernel)⟩
set_option maxRecDepth 100000 in
theorem flX6_128 : pd_FL RX6 128 2 15 := ⟨_, _, _, rfl, by decide, pd_tb (i := 246) (by decide +kernel) (by decide +kernel)⟩
set_option maxRecDepth 100000 in
theorem flX8_186 : pd_FL RX8 186 2 15 := ⟨_, _, _, rfl, by decide, pd_tb (i := 247) (by decide +kernel) (by decide +kernel)⟩
set_option maxRecDepth 100000 in
theorem flX3_49 : pd_FL RX3 49 2 16 := ⟨_, _, _, rfl, by decide, pd_tb (i := 248) (by decide +kernel) (by decide +kernel)⟩
set_option maxRecDepth 100000 in
theorem flX1_99 : pd_FL RX1 99 2 16 := ⟨_, _, _, rfl, by decide, pd_tb (i := 249) (by decide +kernel) (by decide +kernel)⟩
set_option maxRecDepth 100000 in
theorem flX6_134 : pd_FL RX6 134 2 16 := ⟨_, _, _, rfl, by decide, pd_tb (i := 250) (by decide +kernel) (by decide +kernel)⟩
set_option maxRecDepth 100000 in
theorem flX3_84 : pd_FL RX3 84 2 17 := ⟨_, _, _, rfl, by decide, pd_tb (i := 251) (by decide +kernel) (by decide +kernel)⟩
set_option maxRecDepth 100000 in
theorem flX8_105 : pd_FL RX8 105 2 17 := ⟨_, _, _, rfl, by decide, pd_tb (i := 252) (by decide +kernel) (by decide +kernel)⟩
set_option maxRecDepth 100000 in
theorem flX3_88 : pd_FL RX3 88 2 18 := ⟨_, _, _, rfl, by decide, pd_tb (i := 253) (by decide +kernel) (by decide +kernel)⟩
set_option maxRecDepth 100000 in
theorem flX8_109 : pd_FL RX8 109 2 18 := ⟨_, _, _, rfl, by decide, pd_tb (i := 254) (by decide +kernel) (by decide +kernel)⟩
set_option maxRecDepth 100000 in
theorem flX6_12 : pd_FL RX6 12 5 0 := ⟨_, _, _, rfl, by decide, pd_tb (i := 294) (by decide +kernel) (by decide +kernel)⟩
set_option maxRecDepth 100000 in
theorem flX8_16 : pd_FL RX8 16 5 0 := ⟨_, _, _, rfl, by decide, pd_tb (i := 295) (by decide +kernel) (by decide +kernel)⟩
set_option maxRecDepth 100000 in
theorem flX6_21 : pd_FL RX6 21 5 1 := ⟨_, _, _, rfl, by decide, pd_tb (i := 296) (by decide +kernel) (by decide +kernel)⟩
set_option maxRecDepth 100000 in
theorem flX8_88 : pd_FL RX8 88 5 1 := ⟨_, _, _, rfl, by decide, pd_tb (i := 297) (by decide +kernel) (by decide +kernel)⟩
set_option maxRecDepth 100000 in
theorem flX8_82 : pd_FL RX8 82 5 2 := ⟨_, _, _, rfl, by decide, pd_tb (i := 298) (by decide +kernel) (by decide +kernel)⟩
set_option maxRecDepth 100000 in
theorem flX6_163 : pd_FL RX6 163 5 2 := ⟨_, _, _, rfl, by decide, pd_tb (i := 299) (by decide +kernel) (by decide +kernel)⟩
set_option maxRecDepth 100000 in
theorem flX8_81 : pd_FL RX8 81 5 3 := ⟨_, _, _, rfl, by decide, pd_tb (i := 300) (by decide +kernel) (by decide +kernel)⟩
set_option maxRecDepth 100000 in
theorem flX6_166 : pd_FL RX6 166 5 3 := ⟨_, _, _, rfl, by decide, pd_tb (i := 301) (by decide +kernel) (by decide +kernel)⟩
set_option maxRecDepth 100000 in
theorem flX6_79 : pd_FL RX6 79 5 4 := ⟨_, _, _, rfl, by decide, pd_tb (i := 302) (by decide +kernel) (by decide +kernel)⟩
set_option maxRecDepth 100000 in
theorem flX6_83 : pd_FL RX6 83 5 5 := ⟨_, _, _, rfl, by decide, pd_tb (i := 303) (by decide +kernel) (by decide +kernel)⟩
set_option maxRecDepth 100000 in
theorem flX1_9 : pd_FL RX1 9 1 0 := ⟨_, _, _, rfl, by decide, pd_tb (i := 323) (by decide +kernel) (by decide +kernel)⟩
set_option maxRecDepth 100000 in
theorem flX8_220 : pd_FL RX8 220 1 0 := ⟨_, _, _, rfl, by decide, pd_tb (i := 324) (by decide +kernel) (by decide +kernel)⟩
set_option maxRecDepth 100000 in
theorem flX1_15 : pd_FL RX1 15 1 1 := ⟨_, _, _, rfl, by decide, pd_tb (i := 325) (by decide +kernel) (by decide +kernel)⟩
set_option maxRecDepth 100000 in
theorem flX8_159 : pd_FL RX8 159 1 1 := ⟨_, _, _, rfl, by decide, pd_tb (i := 326) (by decide +kernel) (by decide +kernel)⟩
set_option maxRecDepth 100000 in
theorem flX1_18 : pd_FL RX1 18 1 2 := ⟨_, _, _, rfl, by decide, pd_tb (i := 327) (by decide +kernel) (by decide +kernel)⟩
set_option maxRecDepth 100000 in
theorem flX8_264 : pd_FL RX8 264 1 2 := ⟨_, _, _, rfl, by decide, pd_tb (i := 328) (by decide +kernel) (by decide +kernel)⟩
set_option maxRecDepth 100000 in
theorem flX1_110 : pd_FL RX1 110 1 3 := ⟨_, _, _, rfl, by decide, pd_tb (i := 329) (by decide +kernel) (by decide +kernel)⟩
set_option maxRecDepth 100000 in
theorem flX8_189 : pd_FL RX8 189 1 3 := ⟨_, _, _, rfl, by decide, pd_tb (i := 330) (by decide +kernel) (by decide +kernel)⟩
set_option maxRecDepth 100000 in
theorem flX1_21 : pd_FL RX1 21 1 4 := ⟨_, _, _, rfl, by decide, pd_tb (i := 331) (by decide +kernel) (by decide +kernel)⟩
set_option maxRecDepth 100000 in
theorem flX1_26 : pd_FL RX1 26 1 5 := ⟨_, _, _, rfl, by decide, pd_tb (i := 332) (by decide +kernel) (by decide +kernel)⟩
set_option maxRecDepth 100000 in
theorem flX1_29 : pd_FL RX1 29 1 6 := ⟨_, _, _, rfl, by decide, pd_tb (i := 333) (by decide +kernel) (by decide +kernel)⟩
set_option maxRecDepth 100000 in
theorem flX1_47 : pd_FL RX1 47 1 7 := ⟨_, _, _, rfl, by decide, pd_tb (i := 334) (by decide +kernel) (by decide +kernel)⟩
set_option maxRecDepth 100000 in
theorem flX0_11 : pd_FL RX0 11 0 0 := ⟨_, _, _, rfl, by decide, pd_tb (i := 358) (by decide +kernel) (by decide +kernel)⟩
set_option maxRecDepth 100000 in
theorem flX0_15 : pd_FL RX0 15 0 1 := ⟨_, _, _, rfl, by decide, pd_tb (i := 359) (by decide +kernel) (by decide +kernel)⟩
set_option maxRecDepth 100000 in
theorem flX8_10 : pd_FL RX8 10 7 0 := ⟨_, _, _, rfl, by decide, pd_tb (i := 369) (by decide +kernel) (by decide +kernel)⟩
set_option maxRecDepth 100000 in
theorem flX8_26 : pd_FL RX8 26 7 1 := ⟨_, _, _, rfl, by decide, pd_tb (i := 370) (by decide +kernel) (by decide +kernel)⟩
set_option maxRecDepth 100000 in
theorem flX8_30 : pd_FL RX8 30 7 2 := ⟨_, _, _, rfl, by decide, pd_tb (i := 371) (by decide +kernel) (by decide +kernel)⟩
set_option maxRecDepth 100000 in
theorem flX8_37 : pd_FL RX8 37 7 3 := ⟨_, _, _, rfl, by decide, pd_tb (i := 372) (by decide +kernel) (by decide +kernel)⟩
set_option maxRecDepth 100000 in
theorem flX8_43 : pd_FL RX8 43 7 4 := ⟨_, _, _, rfl, by decide, pd_tb (i := 373) (by decide +kernel) (by decide +kernel)⟩
set_option maxRecDepth 100000 in
theorem flX8_165 : pd_FL RX8 165 7 5 := ⟨_, _, _, rfl, by decide, pd_tb (i := 374) (by decide +kernel) (by decide +kernel)⟩
set_option maxRecDepth 100000 in
theorem flX8_48 : pd_FL RX8 48 7 6 := ⟨_, _, _, rfl, by decide, pd_tb (i := 375) (by decide +kernel) (by decide +kernel)⟩
set_option maxRecDepth 100000 in
theorem flX8_52 : pd_FL RX8 52 7 7 := ⟨_, _, _, rfl, by decide, pd_tb (i := 376) (by decide +kernel) (by decide +kernel)⟩
set_option maxRecDepth 100000 in
theorem flX8_281 : pd_FL RX8 281 7 8 := ⟨_, _, _, rfl, by decide, pd_tb (i := 377) (by decide +kernel) (by decide +kernel)⟩
set_option maxRecDepth 100000 in
theorem flX8_284 : pd_FL RX8 284 7 9 := ⟨_, _, _, rfl, by decide, pd_tb (i := 378) (by decide +kernel) (by decide +kernel)⟩
set_option maxRecDepth 100000 in
theorem flX8_287 : pd_FL RX8 287 7 10 := ⟨_, _, _, rfl, by decide, pd_tb (i := 379) (by decide +kernel) (by decide +kernel)⟩
set_option maxRecDepth 100000 in
theorem flX9_48 : pd_FL RX9 48 8 0 := ⟨_, _, _, rfl, by decide, pd_tb (i := 1105) (by decide +kernel) (by decide +kernel)⟩
set_option maxRecDepth 100000 in
theorem flX9_9 : pd_FL RX9 9 8 1 := ⟨_, _, _, rfl, by decide, pd_tb (i := 1106) (by decide +kernel) (by decide +kernel)⟩
set_option maxRecDepth 100000 in
theorem flX9_51 : pd_FL RX9 51 8 2 := ⟨_, _, _, rfl, by decide, pd_tb (i := 1107) (by decide +kernel) (by decide +kernel)⟩
set_option maxRecDepth 100000 in
theorem flX9_54 : pd_FL RX9 54 8 3 := ⟨_, _, _, rfl, by decide, pd_tb (i := 1108) (by decide +kernel) (by decide +kernel)⟩
set_option maxRecDepth 100000 in
theorem flX9_57 : pd_FL RX9 57 8 4 := ⟨_, _, _, rfl, by decide, pd_tb (i := 1109) (by decide +kernel) (by decide +kernel)⟩
set_option maxRecDepth 100000 in
theorem flX9_13 : pd_FL RX9 13 8 5 := ⟨_, _, _, rfl, by decide, pd_tb (i := 1110) (by decide +kernel) (by decide +kernel)⟩
set_option maxRecDepth 100000 in
theorem flX9_64 : pd_FL RX9 64 8 6 := ⟨_, _, _, rfl, by decide, pd_tb (i := 1111) (by decide +kernel) (by decide +kernel)⟩
set_option maxRecDepth 100000 in
theorem flX9_67 : pd_FL RX9 67 8 7 := ⟨_, _, _, rfl, by decide, pd_tb (i := 1112) (by decide +kernel) (by decide +kernel)⟩
set_option maxRecDepth 100000 in
theorem flX9_17 : pd_FL RX9 17 8 8 := ⟨_, _, _, rfl, by decide, pd_tb (i := 1113) (by decide +kernel) (by decide +kernel)⟩
set_option maxRecDepth 100000 in
theorem flX9_20 : pd_FL RX9 20 8 9 := ⟨_, _, _, rfl, by decide, pd_tb (i := 1114) (by decide +kernel) (by decide +kernel)⟩
set_option maxRecDepth 100000 in
theorem flX9_23 : pd_FL RX9 23 8 10 := ⟨_, _, _, rfl, by decide, pd_tb (i := 1115) (by decide +kernel) (by decide +kernel)⟩
set_option maxRecDepth 100000 in
theorem flX9_28 : pd_FL RX9 28 8 11 := ⟨_, _, _, rfl, by decide, pd_tb (i := 1116) (by decide +kernel) (by decide +kernel)⟩
set_option maxRecDepth 100000 in
theorem flX9_235 : pd_FL RX9 235 8 12 := ⟨_, _, _, rfl, by decide, pd_tb (i := 1117) (by decide +kernel) (by decide +kernel)⟩
set_option maxRecDepth 100000 in
theorem flX9_127 : pd_FL RX9 127 8 13 := ⟨_, _, _, rfl, by decide, pd_tb (i := 1118) (by decide +kernel) (by decide +kernel)⟩
set_option maxRecDepth 100000 in
theorem flX9_158 : pd_FL RX9 158 8 14 := ⟨_, _, _, rfl, by decide, pd_tb (i := 1119) (by decide +kernel) (by decide +kernel)⟩
set_option maxRecDepth 100000 in
theorem flX9_177 : pd_FL RX9 177 8 15 := ⟨_, _, _, rfl, by decide, pd_tb (i := 1120) (by decide +kernel) (by decide +kernel)⟩
set_option maxRecDepth 100000 in
theorem flX9_31 : pd_FL RX9 31 8 16 := ⟨_, _, _, rfl, by decide, pd_tb (i := 1121) (by decide +kernel) (by decide +kernel)⟩
set_option maxRecDepth 100000 in
theorem flX9_34 : pd_FL RX9 34 8 17 := ⟨_, _, _, rfl, by decide, pd_tb (i := 1122) (by decide +kernel) (by decide +kernel)⟩
set_option maxRecDepth 100000 in
theorem flX9_37 : pd_FL RX9 37 8 18 := ⟨_, _, _, rfl, by decide, pd_tb (i := 1123) (by decide +kernel) (by decide +kernel)⟩
set_option maxRecDepth 100000 in
theorem flX9_228 : pd_FL RX9 228 8 19 := ⟨_, _, _, rfl, by decide, pd_tb (i := 1124) (by decide +kernel) (by decide +kernel)⟩
set_option maxRecDepth 100000 in
theorem flX9_40 : pd_FL RX9 40 8 20 := ⟨_, _, _, rfl, by decide, pd_tb (i := 1125) (by decide +kernel) (by decide +kernel)⟩
set_option maxRecDepth 100000 in
theorem hd_X8_init : pd_hd mi_X8_init ∈ pd_TB := pd_tb (i := 123) (by rfl) (by decide +kernel)
set_option maxRecDepth 100000 in
theorem in_X8_init : Cond.initialized mi_X8_init.1.cls ∈ pd_TB := pd_tb (i := 94) (by decide +kernel) (by decide +kernel)
theorem cb_X8_init : pd_CB mi_X8_init 0 := ⟨hd_X8_init, in_X8_init, by decide +kernel, by decide +kernel, by decide, rfl⟩
set_option maxRecDepth 100000 in
theorem im_X8_init : Cond.instanceMethod mi_X8_init.1 ∈ pd_TB := pd_tb (i := 122) (by decide +kernel) (by decide +kernel)
set_option maxRecDepth 100000 in
theorem mlL_71 : Cond.methodLink RL 71 mi_X8_init.1 ∈ pd_TB := pd_tb (i := 121) (by decide +kernel) (by decide +kernel)
set_option maxRecDepth 100000 in
theorem hd_X0_init : pd_hd mi_X0_init ∈ pd_TB := pd_tb (i := 356) (by rfl) (by decide +kernel)
set_option maxRecDepth 100000 in
theorem in_X0_init : Cond.initialized mi_X0_init.1.cls ∈ pd_TB := pd_tb (i := 101) (by decide +kernel) (by decide +kernel)
theorem cb_X0_init : pd_CB mi_X0_init 0 := ⟨hd_X0_init, in_X0_init, by decide +kernel, by decide +kernel, by decide, rfl⟩
set_option maxRecDepth 100000 in
theorem im_X0_init : Cond.instanceMethod mi_X0_init.1 ∈ pd_TB := pd_tb (i := 355) (by decide +kernel) (by decide +kernel)
set_option maxRecDepth 100000 in
theorem mlX8_36 : Cond.methodLink RX8 36 mi_X0_init.1 ∈ pd_TB := pd_tb (i := 354) (by decide +kernel) (by decide +kernel)
set_option maxRecDepth 100000 in
theorem hd_X8_feed : pd_hd mi_X8_feed ∈ pd_TB := pd_tb (i := 406) (by rfl) (by decide +kernel)
set_option maxRecDepth 100000 in
theorem in_X8_feed : Cond.initialized mi_X8_feed.1.cls ∈ pd_TB := pd_tb (i := 94) (by decide +kernel) (by decide +kernel)
theorem cb_X8_feed : pd_CB mi_X8_feed 5 := ⟨hd_X8_feed, in_X8_feed, by decide +kernel, by decide +kernel, by decide, rfl⟩
set_option maxRecDepth 100000 in
theorem im_X8_feed : Cond.instanceMethod mi_X8_feed.1 ∈ pd_TB := pd_tb (i := 404) (by decide +kernel) (by decide +kernel)
set_option maxRecDepth 100000 in
theorem se_X8_feed : Cond.selects mi_X8_feed.1.cls mi_X8_feed.1 mi_X8_feed.1 ∈ pd_TB := pd_tb (i := 405) (by decide +kernel) (by decide +kernel)
set_option maxRecDepth 100000 in
theorem mlL_75 : Cond.methodLink RL 75 mi_X8_feed.1 ∈ pd_TB := pd_tb (i := 403) (by decide +kernel) (by decide +kernel)
theorem cvL_75 : pd_CV RL 75 mi_X8_feed 5 7 := ⟨cb_X8_feed, mlL_75, im_X8_feed, se_X8_feed, _, rfl, rfl, by decide⟩
set_option maxRecDepth 100000 in
theorem hd_X5_hasRoom : pd_hd mi_X5_hasRoom ∈ pd_TB := pd_tb (i := 410) (by rfl) (by decide +kernel)
set_option maxRecDepth 100000 in
theorem in_X5_hasRoom : Cond.initialized mi_X5_hasRoom.1.cls ∈ pd_TB := pd_tb (i := 97) (by decide +kernel) (by decide +kernel)
theorem cb_X5_hasRoom : pd_CB mi_X5_hasRoom 0 := ⟨hd_X5_hasRoom, in_X5_hasRoom, by decide +kernel, by decide +kernel, by decide, rfl⟩
set_option maxRecDepth 100000 in
theorem im_X5_hasRoom : Cond.instanceMethod mi_X5_hasRoom.1 ∈ pd_TB := pd_tb (i := 408) (by decide +kernel) (by decide +kernel)
set_option maxRecDepth 100000 in
theorem se_X5_hasRoom : Cond.selects mi_X5_hasRoom.1.cls mi_X5_hasRoom.1 mi_X5_hasRoom.1 ∈ pd_TB := pd_tb (i := 409) (by decide +kernel) (by decide +kernel)
set_option maxRecDepth 100000 in
theorem mlX8_56 : Cond.methodLink RX8 56 mi_X5_hasRoom.1 ∈ pd_TB := pd_tb (i := 407) (by decide +kernel) (by decide +kernel)
theorem cvX8_56 : pd_CV RX8 56 mi_X5_hasRoom 0 4 := ⟨cb_X5_hasRoom, mlX8_56, im_X5_hasRoom, se_X5_hasRoom, _, rfl, rfl, by decide⟩
set_option maxRecDepth 100000 in
theorem hd_X5_put : pd_hd mi_X5_put ∈ pd_TB := pd_tb (i := 414) (by rfl) (by decide +kernel)
set_option maxRecDepth 100000 in
theorem in_X5_put : Cond.initialized mi_X5_put.1.cls ∈ pd_TB := pd_tb (i := 97) (by decide +kernel) (by decide +kernel)
theorem cb_X5_put : pd_CB mi_X5_put 1 := ⟨hd_X5_put, in_X5_put, by decide +kernel, by decide +kernel, by decide, rfl⟩
set_option maxRecDepth 100000 in
theorem im_X5_put : Cond.instanceMethod mi_X5_put.1 ∈ pd_TB := pd_tb (i := 412) (by decide +kernel) (by decide +kernel)
set_option maxRecDepth 100000 in
theorem se_X5_put : Cond.selects mi_X5_put.1.cls mi_X5_put.1 mi_X5_put.1 ∈ pd_TB := pd_tb (i := 413) (by decide +kernel) (by decide +kernel)
set_option maxRecDepth 100000 in
theorem mlX8_62 : Cond.methodLink RX8 62 mi_X5_put.1 ∈ pd_TB := pd_tb (i := 411) (by decide +kernel) (by decide +kernel)
theorem cvX8_62 : pd_CV RX8 62 mi_X5_put 1 4 := ⟨cb_X5_put, mlX8_62, im_X5_put, se_X5_put, _, rfl, rfl, by decide⟩
set_option maxRecDepth 100000 in
theorem hd_X8_fault : pd_hd mi_X8_fault ∈ pd_TB := pd_tb (i := 418) (by rfl) (by decide +kernel)
set_option maxRecDepth 100000 in
theorem in_X8_fault : Cond.initialized mi_X8_fault.1.cls ∈ pd_TB := pd_tb (i := 94) (by decide +kernel) (by decide +kernel)
theorem cb_X8_fault : pd_CB mi_X8_fault 0 := ⟨hd_X8_fault, in_X8_fault, by decide +kernel, by decide +kernel, by decide, rfl⟩
set_option maxRecDepth 100000 in
theorem im_X8_fault : Cond.instanceMethod mi_X8_fault.1 ∈ pd_TB := pd_tb (i := 416) (by decide +kernel) (by decide +kernel)
set_option maxRecDepth 100000 in
theorem se_X8_fault : Cond.selects mi_X8_fault.1.cls mi_X8_fault.1 mi_X8_fault.1 ∈ pd_TB := pd_tb (i := 417) (by decide +kernel) (by decide +kernel)
set_option maxRecDepth 100000 in
theorem mlL_90 : Cond.methodLink RL 90 mi_X8_fault.1 ∈ pd_TB := pd_tb (i := 415) (by decide +kernel) (by decide +kernel)
theorem cvL_90 : pd_CV RL 90 mi_X8_fault 0 7 := ⟨cb_X8_fault, mlL_90, im_X8_fault, se_X8_fault, _, rfl, rfl, by decide⟩
set_option maxRecDepth 100000 in
theorem hd_X8_undo : pd_hd mi_X8_undo ∈ pd_TB := pd_tb (i := 422) (by rfl) (by decide +kernel)
set_option maxRecDepth 100000 in
theorem in_X8_undo : Cond.initialized mi_X8_undo.1.cls ∈ pd_TB := pd_tb (i := 94) (by decide +kernel) (by decide +kernel)
theorem cb_X8_undo : pd_CB mi_X8_undo 0 := ⟨hd_X8_undo, in_X8_undo, by decide +kernel, by decide +kernel, by decide, rfl⟩
set_option maxRecDepth 100000 in
theorem im_X8_undo : Cond.instanceMethod mi_X8_undo.1 ∈ pd_TB := pd_tb (i := 420) (by decide +kernel) (by decide +kernel)
set_option maxRecDepth 100000 in
theorem se_X8_undo : Cond.selects mi_X8_undo.1.cls mi_X8_undo.1 mi_X8_undo.1 ∈ pd_TB := pd_tb (i := 421) (by decide +kernel) (by decide +kernel)
set_option maxRecDepth 100000 in
theorem mlL_109 : Cond.methodLink RL 109 mi_X8_undo.1 ∈ pd_TB := pd_tb (i := 419) (by decide +kernel) (by decide +kernel)
theorem cvL_109 : pd_CV RL 109 mi_X8_undo 0 7 := ⟨cb_X8_undo, mlL_109, im_X8_undo, se_X8_undo, _, rfl, rfl, by decide⟩
set_option maxRecDepth 100000 in
theorem hd_X1_judge : pd_hd mi_X1_judge ∈ pd_TB := pd_tb (i := 426) (by rfl) (by decide +kernel)
set_option maxRecDepth 100000 in
theorem in_X1_judge : Cond.initialized mi_X1_judge.1.cls ∈ pd_TB := pd_tb (i := 100) (by decide +kernel) (by decide +kernel)
theorem cb_X1_judge : pd_CB mi_X1_judge 1 := ⟨hd_X1_judge, in_X1_judge, by decide +kernel, by decide +kernel, by decide, rfl⟩
set_option maxRecDepth 100000 in
theorem im_X1_judge : Cond.instanceMethod mi_X1_judge.1 ∈ pd_TB := pd_tb (i := 424) (by decide +kernel) (by decide +kernel)
set_option maxRecDepth 100000 in
theorem se_X1_judge : Cond.selects mi_X1_judge.1.cls mi_X1_judge.1 mi_X1_judge.1 ∈ pd_TB := pd_tb (i := 425) (by decide +kernel) (by decide +kernel)
set_option maxRecDepth 100000 in
theorem mlX8_95 : Cond.methodLink RX8 95 mi_X1_judge.1 ∈ pd_TB := pd_tb (i := 423) (by decide +kernel) (by decide +kernel)
theorem cvX8_95 : pd_CV RX8 95 mi_X1_judge 1 1 := ⟨cb_X1_judge, mlX8_95, im_X1_judge, se_X1_judge, _, rfl, rfl, by decide⟩
set_option maxRecDepth 100000 in
theorem hd_J9_min_7cf53 : pd_hd mi_J9_min_7cf53 ∈ pd_TB := pd_tb (i := 429) (by rfl) (by decide +kernel)
set_option maxRecDepth 100000 in
theorem in_J9_min_7cf53 : Cond.initialized mi_J9_min_7cf53.1.cls ∈ pd_TB := pd_tb (i := 107) (by decide +kernel) (by decide +kernel)
theorem cb_J9_min_7cf53 : pd_CB mi_J9_min_7cf53 2 := ⟨hd_J9_min_7cf53, in_J9_min_7cf53, by decide +kernel, by decide +kernel, by decide, rfl⟩
set_option maxRecDepth 100000 in
theorem st_J9_min_7cf53 : Cond.static mi_J9_min_7cf53.1 ∈ pd_TB := pd_tb (i := 428) (by decide +kernel) (by decide +kernel)
set_option maxRecDepth 100000 in
theorem mlX1_38 : Cond.methodLink RX1 38 mi_J9_min_7cf53.1 ∈ pd_TB := pd_tb (i := 427) (by decide +kernel) (by decide +kernel)
theorem csX1_38 : pd_CS RX1 38 mi_J9_min_7cf53 2 := ⟨cb_J9_min_7cf53, mlX1_38, st_J9_min_7cf53⟩
set_option maxRecDepth 100000 in
theorem hd_J9_max_7cf53 : pd_hd mi_J9_max_7cf53 ∈ pd_TB := pd_tb (i := 432) (by rfl) (by decide +kernel)
set_option maxRecDepth 100000 in
theorem in_J9_max_7cf53 : Cond.initialized mi_J9_max_7cf53.1.cls ∈ pd_TB := pd_tb (i := 107) (by decide +kernel) (by decide +kernel)
theorem cb_J9_max_7cf53 : pd_CB mi_J9_max_7cf53 2 := ⟨hd_J9_max_7cf53, in_J9_max_7cf53, by decide +kernel, by decide +kernel, by decide, rfl⟩
set_option maxRecDepth 100000 in
theorem st_J9_max_7cf53 : Cond.static mi_J9_max_7cf53.1 ∈ pd_TB := pd_tb (i := 431) (by decide +kernel) (by decide +kernel)
set_option maxRecDepth 100000 in
theorem mlX1_44 : Cond.methodLink RX1 44 mi_J9_max_7cf53.1 ∈ pd_TB := pd_tb (i := 430) (by decide +kernel) (by decide +kernel)
theorem csX1_44 : pd_CS RX1 44 mi_J9_max_7cf53 2 := ⟨cb_J9_max_7cf53, mlX1_44, st_J9_max_7cf53⟩
set_option maxRecDepth 100000 in
theorem hd_X1_findVoters : pd_hd mi_X1_findVoters ∈ pd_TB := pd_tb (i := 436) (by rfl) (by decide +kernel)
set_option maxRecDepth 100000 in
theorem in_X1_findVoters : Cond.initialized mi_X1_findVoters.1.cls ∈ pd_TB := pd_tb (i := 100) (by decide +kernel) (by decide +kernel)
theorem cb_X1_findVoters : pd_CB mi_X1_findVoters 1 := ⟨hd_X1_findVoters, in_X1_findVoters, by decide +kernel, by decide +kernel, by decide, rfl⟩
set_option maxRecDepth 100000 in
theorem im_X1_findVoters : Cond.instanceMethod mi_X1_findVoters.1 ∈ pd_TB := pd_tb (i := 435) (by decide +kernel) (by decide +kernel)
set_option maxRecDepth 100000 in
theorem se_X1_findVoters : Cond.selects mi_X1_findVoters.1.cls mi_X1_findVoters.1 mi_X1_findVoters.1 ∈ pd_TB := pd_tb (i := 0) (by decide +kernel) (by decide +kernel)
set_option maxRecDepth 100000 in
theorem mlX1_48 : Cond.methodLink RX1 48 mi_X1_findVoters.1 ∈ pd_TB := pd_tb (i := 433) (by decide +kernel) (by decide +kernel)
theorem cvX1_48 : pd_CV RX1 48 mi_X1_findVoters 1 1 := ⟨cb_X1_findVoters, mlX1_48, im_X1_findVoters, se_X1_findVoters, _, rfl, rfl, by decide⟩
set_option maxRecDepth 100000 in
theorem hd_X3_voterWith : pd_hd mi_X3_voterWith ∈ pd_TB := pd_tb (i := 440) (by rfl) (by decide +kernel)
set_option maxRecDepth 100000 in
theorem in_X3_voterWith : Cond.initialized mi_X3_voterWith.1.cls ∈ pd_TB := pd_tb (i := 98) (by decide +kernel) (by decide +kernel)
theorem cb_X3_voterWith : pd_CB mi_X3_voterWith 2 := ⟨hd_X3_voterWith, in_X3_voterWith, by decide +kernel, by decide +kernel, by decide, rfl⟩
set_option maxRecDepth 100000 in
theorem im_X3_voterWith : Cond.instanceMethod mi_X3_voterWith.1 ∈ pd_TB := pd_tb (i := 438) (by decide +kernel) (by decide +kernel)
set_option maxRecDepth 100000 in
theorem se_X3_voterWith : Cond.selects mi_X3_voterWith.1.cls mi_X3_voterWith.1 mi_X3_voterWith.1 ∈ pd_TB := pd_tb (i := 439) (by decide +kernel) (by decide +kernel)
set_option maxRecDepth 100000 in
theorem mlX1_67 : Cond.methodLink RX1 67 mi_X3_voterWith.1 ∈ pd_TB := pd_tb (i := 437) (by decide +kernel) (by decide +kernel)
theorem cvX1_67 : pd_CV RX1 67 mi_X3_voterWith 2 2 := ⟨cb_X3_voterWith, mlX1_67, im_X3_voterWith, se_X3_voterWith, _, rfl, rfl, by decide⟩
set_option maxRecDepth 100000 in
theorem hd_X1_findWrongs : pd_hd mi_X1_findWrongs ∈ pd_TB := pd_tb (i := 444) (by rfl) (by decide +kernel)
set_option maxRecDepth 100000 in
theorem in_X1_findWrongs : Cond.initialized mi_X1_findWrongs.1.cls ∈ pd_TB := pd_tb (i := 100) (by decide +kernel) (by decide +kernel)
theorem cb_X1_findWrongs : pd_CB mi_X1_findWrongs 1 := ⟨hd_X1_findWrongs, in_X1_findWrongs, by decide +kernel, by decide +kernel, by decide, rfl⟩
set_option maxRecDepth 100000 in
theorem im_X1_findWrongs : Cond.instanceMethod mi_X1_findWrongs.1 ∈ pd_TB := pd_tb (i := 443) (by decide +kernel) (by decide +kernel)
set_option maxRecDepth 100000 in
theorem se_X1_findWrongs : Cond.selects mi_X1_findWrongs.1.cls mi_X1_findWrongs.1 mi_X1_findWrongs.1 ∈ pd_TB := pd_tb (i := 1) (by decide +kernel) (by decide +kernel)
set_option maxRecDepth 100000 in
theorem mlX1_52 : Cond.methodLink RX1 52 mi_X1_findWrongs.1 ∈ pd_TB := pd_tb (i := 441) (by decide +kernel) (by decide +kernel)
theorem cvX1_52 : pd_CV RX1 52 mi_X1_findWrongs 1 1 := ⟨cb_X1_findWrongs, mlX1_52, im_X1_findWrongs, se_X1_findWrongs, _, rfl, rfl, by decide⟩
set_option maxRecDepth 100000 in
theorem hd_J7_fill_53178 : pd_hd mi_J7_fill_53178 ∈ pd_TB := pd_tb (i := 447) (by rfl) (by decide +kernel)
set_option maxRecDepth 100000 in
theorem in_J7_fill_53178 : Cond.initialized mi_J7_fill_53178.1.cls ∈ pd_TB := pd_tb (i := 114) (by decide +kernel) (by decide +kernel)
theorem cb_J7_fill_53178 : pd_CB mi_J7_fill_53178 2 := ⟨hd_J7_fill_53178, in_J7_fill_53178, by decide +kernel, by decide +kernel, by decide, rfl⟩
set_option maxRecDepth 100000 in
theorem st_J7_fill_53178 : Cond.static mi_J7_fill_53178.1 ∈ pd_TB := pd_tb (i := 446) (by decide +kernel) (by decide +kernel)
set_option maxRecDepth 100000 in
theorem mlX1_73 : Cond.methodLink RX1 73 mi_J7_fill_53178.1 ∈ pd_TB := pd_tb (i := 445) (by decide +kernel) (by decide +kernel)
theorem csX1_73 : pd_CS RX1 73 mi_J7_fill_53178 2 := ⟨cb_J7_fill_53178, mlX1_73, st_J7_fill_53178⟩
set_option maxRecDepth 100000 in
theorem hd_X1_wrongOf : pd_hd mi_X1_wrongOf ∈ pd_TB := pd_tb (i := 451) (by rfl) (by decide +kernel)
set_option maxRecDepth 100000 in
theorem in_X1_wrongOf : Cond.initialized mi_X1_wrongOf.1.cls ∈ pd_TB := pd_tb (i := 100) (by decide +kernel) (by decide +kernel)
theorem cb_X1_wrongOf : pd_CB mi_X1_wrongOf 3 := ⟨hd_X1_wrongOf, in_X1_wrongOf, by decide +kernel, by decide +kernel, by decide, rfl⟩
set_option maxRecDepth 100000 in
theorem im_X1_wrongOf : Cond.instanceMethod mi_X1_wrongOf.1 ∈ pd_TB := pd_tb (i := 450) (by decide +kernel) (by decide +kernel)
set_option maxRecDepth 100000 in
theorem se_X1_wrongOf : Cond.selects mi_X1_wrongOf.1.cls mi_X1_wrongOf.1 mi_X1_wrongOf.1 ∈ pd_TB := pd_tb (i := 2) (by decide +kernel) (by decide +kernel)
set_option maxRecDepth 100000 in
theorem mlX1_79 : Cond.methodLink RX1 79 mi_X1_wrongOf.1 ∈ pd_TB := pd_tb (i := 448) (by decide +kernel) (by decide +kernel)
theorem cvX1_79 : pd_CV RX1 79 mi_X1_wrongOf 3 1 := ⟨cb_X1_wrongOf, mlX1_79, im_X1_wrongOf, se_X1_wrongOf, _, rfl, rfl, by decide⟩
set_option maxRecDepth 100000 in
theorem hd_X1_hasVoter : pd_hd mi_X1_hasVoter ∈ pd_TB := pd_tb (i := 455) (by rfl) (by decide +kernel)
set_option maxRecDepth 100000 in
theorem in_X1_hasVoter : Cond.initialized mi_X1_hasVoter.1.cls ∈ pd_TB := pd_tb (i := 100) (by decide +kernel) (by decide +kernel)
theorem cb_X1_hasVoter : pd_CB mi_X1_hasVoter 1 := ⟨hd_X1_hasVoter, in_X1_hasVoter, by decide +kernel, by decide +kernel, by decide, rfl⟩
set_option maxRecDepth 100000 in
theorem im_X1_hasVoter : Cond.instanceMethod mi_X1_hasVoter.1 ∈ pd_TB := pd_tb (i := 454) (by decide +kernel) (by decide +kernel)
set_option maxRecDepth 100000 in
theorem se_X1_hasVoter : Cond.selects mi_X1_hasVoter.1.cls mi_X1_hasVoter.1 mi_X1_hasVoter.1 ∈ pd_TB := pd_tb (i := 3) (by decide +kernel) (by decide +kernel)
set_option maxRecDepth 100000 in
theorem mlX1_83 : Cond.methodLink RX1 83 mi_X1_hasVoter.1 ∈ pd_TB := pd_tb (i := 452) (by decide +kernel) (by decide +kernel)
theorem cvX1_83 : pd_CV RX1 83 mi_X1_hasVoter 1 1 := ⟨cb_X1_hasVoter, mlX1_83, im_X1_hasVoter, se_X1_hasVoter, _, rfl, rfl, by decide⟩
set_option maxRecDepth 100000 in
theorem hd_X4_holds : pd_hd mi_X4_holds ∈ pd_TB := pd_tb (i := 459) (by rfl) (by decide +kernel)
set_option maxRecDepth 100000 in
theorem in_X4_holds : Cond.initialized mi_X4_holds.1.cls ∈ pd_TB := pd_tb (i := 99) (by decide +kernel) (by decide +kernel)
theorem cb_X4_holds : pd_CB mi_X4_holds 1 := ⟨hd_X4_holds, in_X4_holds, by decide +kernel, by decide +kernel, by decide, rfl⟩
set_option maxRecDepth 100000 in
theorem im_X4_holds : Cond.instanceMethod mi_X4_holds.1 ∈ pd_TB := pd_tb (i := 457) (by decide +kernel) (by decide +kernel)
set_option maxRecDepth 100000 in
theorem se_X4_holds : Cond.selects mi_X4_holds.1.cls mi_X4_holds.1 mi_X4_holds.1 ∈ pd_TB := pd_tb (i := 458) (by decide +kernel) (by decide +kernel)
set_option maxRecDepth 100000 in
theorem mlX1_103 : Cond.methodLink RX1 103 mi_X4_holds.1 ∈ pd_TB := pd_tb (i := 456) (by decide +kernel) (by decide +kernel)
theorem cvX1_103 : pd_CV RX1 103 mi_X4_holds 1 3 := ⟨cb_X4_holds, mlX1_103, im_X4_holds, se_X4_holds, _, rfl, rfl, by decide⟩
set_option maxRecDepth 100000 in
theorem hd_X4_compares : pd_hd mi_X4_compares ∈ pd_TB := pd_tb (i := 463) (by rfl) (by decide +kernel)
set_option maxRecDepth 100000 in
theorem in_X4_compares : Cond.initialized mi_X4_compares.1.cls ∈ pd_TB := pd_tb (i := 99) (by decide +kernel) (by decide +kernel)
theorem cb_X4_compares : pd_CB mi_X4_compares 2 := ⟨hd_X4_compares, in_X4_compares, by decide +kernel, by decide +kernel, by decide, rfl⟩
set_option maxRecDepth 100000 in
theorem st_X4_compares : Cond.static mi_X4_compares.1 ∈ pd_TB := pd_tb (i := 462) (by decide +kernel) (by decide +kernel)
set_option maxRecDepth 100000 in
theorem mlX4_31 : Cond.methodLink RX4 31 mi_X4_compares.1 ∈ pd_TB := pd_tb (i := 461) (by decide +kernel) (by decide +kernel)
theorem csX4_31 : pd_CS RX4 31 mi_X4_compares 2 := ⟨cb_X4_compares, mlX4_31, st_X4_compares⟩
set_option maxRecDepth 100000 in
theorem hd_X4_valueOf : pd_hd mi_X4_valueOf ∈ pd_TB := pd_tb (i := 466) (by rfl) (by decide +kernel)
set_option maxRecDepth 100000 in
theorem in_X4_valueOf : Cond.initialized mi_X4_valueOf.1.cls ∈ pd_TB := pd_tb (i := 99) (by decide +kernel) (by decide +kernel)
theorem cb_X4_valueOf : pd_CB mi_X4_valueOf 2 := ⟨hd_X4_valueOf, in_X4_valueOf, by decide +kernel, by decide +kernel, by decide, rfl⟩
set_option maxRecDepth 100000 in
theorem st_X4_valueOf : Cond.static mi_X4_valueOf.1 ∈ pd_TB := pd_tb (i := 465) (by decide +kernel) (by decide +kernel)
set_option maxRecDepth 100000 in
theorem mlX4_35 : Cond.methodLink RX4 35 mi_X4_valueOf.1 ∈ pd_TB := pd_tb (i := 464) (by decide +kernel) (by decide +kernel)
theorem csX4_35 : pd_CS RX4 35 mi_X4_valueOf 2 := ⟨cb_X4_valueOf, mlX4_35, st_X4_valueOf⟩
set_option maxRecDepth 100000 in
theorem hd_X1_strikeSheets : pd_hd mi_X1_strikeSheets ∈ pd_TB := pd_tb (i := 470) (by rfl) (by decide +kernel)
set_option maxRecDepth 100000 in
theorem in_X1_strikeSheets : Cond.initialized mi_X1_strikeSheets.1.cls ∈ pd_TB := pd_tb (i := 100) (by decide +kernel) (by decide +kernel)
theorem cb_X1_strikeSheets : pd_CB mi_X1_strikeSheets 1 := ⟨hd_X1_strikeSheets, in_X1_strikeSheets, by decide +kernel, by decide +kernel, by decide, rfl⟩
set_option maxRecDepth 100000 in
theorem im_X1_strikeSheets : Cond.instanceMethod mi_X1_strikeSheets.1 ∈ pd_TB := pd_tb (i := 469) (by decide +kernel) (by decide +kernel)
set_option maxRecDepth 100000 in
theorem se_X1_strikeSheets : Cond.selects mi_X1_strikeSheets.1.cls mi_X1_strikeSheets.1 mi_X1_strikeSheets.1 ∈ pd_TB := pd_tb (i := 4) (by decide +kernel) (by decide +kernel)
set_option maxRecDepth 100000 in
theorem mlX1_55 : Cond.methodLink RX1 55 mi_X1_strikeSheets.1 ∈ pd_TB := pd_tb (i := 467) (by decide +kernel) (by decide +kernel)
theorem cvX1_55 : pd_CV RX1 55 mi_X1_strikeSheets 1 1 := ⟨cb_X1_strikeSheets, mlX1_55, im_X1_strikeSheets, se_X1_strikeSheets, _, rfl, rfl, by decide⟩
set_option maxRecDepth 100000 in
theorem hd_X1_findDoubles : pd_hd mi_X1_findDoubles ∈ pd_TB := pd_tb (i := 474) (by rfl) (by decide +kernel)
set_option maxRecDepth 100000 in
theorem in_X1_findDoubles : Cond.initialized mi_X1_findDoubles.1.cls ∈ pd_TB := pd_tb (i := 100) (by decide +kernel) (by decide +kernel)
theorem cb_X1_findDoubles : pd_CB mi_X1_findDoubles 0 := ⟨hd_X1_findDoubles, in_X1_findDoubles, by decide +kernel, by decide +kernel, by decide, rfl⟩
set_option maxRecDepth 100000 in
theorem im_X1_findDoubles : Cond.instanceMethod mi_X1_findDoubles.1 ∈ pd_TB := pd_tb (i := 473) (by decide +kernel) (by decide +kernel)
set_option maxRecDepth 100000 in
theorem se_X1_findDoubles : Cond.selects mi_X1_findDoubles.1.cls mi_X1_findDoubles.1 mi_X1_findDoubles.1 ∈ pd_TB := pd_tb (i := 5) (by decide +kernel) (by decide +kernel)
set_option maxRecDepth 100000 in
theorem mlX1_58 : Cond.methodLink RX1 58 mi_X1_findDoubles.1 ∈ pd_TB := pd_tb (i := 471) (by decide +kernel) (by decide +kernel)
theorem cvX1_58 : pd_CV RX1 58 mi_X1_findDoubles 0 1 := ⟨cb_X1_findDoubles, mlX1_58, im_X1_findDoubles, se_X1_findDoubles, _, rfl, rfl, by decide⟩
set_option maxRecDepth 100000 in
theorem hd_X8_passes : pd_hd mi_X8_passes ∈ pd_TB := pd_tb (i := 478) (by rfl) (by decide +kernel)
set_option maxRecDepth 100000 in
theorem in_X8_passes : Cond.initialized mi_X8_passes.1.cls ∈ pd_TB := pd_tb (i := 94) (by decide +kernel) (by decide +kernel)
theorem cb_X8_passes : pd_CB mi_X8_passes 0 := ⟨hd_X8_passes, in_X8_passes, by decide +kernel, by decide +kernel, by decide, rfl⟩
set_option maxRecDepth 100000 in
theorem im_X8_passes : Cond.instanceMethod mi_X8_passes.1 ∈ pd_TB := pd_tb (i := 476) (by decide +kernel) (by decide +kernel)
set_option maxRecDepth 100000 in
theorem se_X8_passes : Cond.selects mi_X8_passes.1.cls mi_X8_passes.1 mi_X8_passes.1 ∈ pd_TB := pd_tb (i := 477) (by decide +kernel) (by decide +kernel)
set_option maxRecDepth 100000 in
theorem mlL_131 : Cond.methodLink RL 131 mi_X8_passes.1 ∈ pd_TB := pd_tb (i := 475) (by decide +kernel) (by decide +kernel)
theorem cvL_131 : pd_CV RL 131 mi_X8_passes 0 7 := ⟨cb_X8_passes, mlL_131, im_X8_passes, se_X8_passes, _, rfl, rfl, by decide⟩
set_option maxRecDepth 100000 in
theorem hd_X1_countJudged : pd_hd mi_X1_countJudged ∈ pd_TB := pd_tb (i := 482) (by rfl) (by decide +kernel)
set_option maxRecDepth 100000 in
theorem in_X1_countJudged : Cond.initialized mi_X1_countJudged.1.cls ∈ pd_TB := pd_tb (i := 100) (by decide +kernel) (by decide +kernel)
theorem cb_X1_countJudged : pd_CB mi_X1_countJudged 3 := ⟨hd_X1_countJudged, in_X1_countJudged, by decide +kernel, by decide +kernel, by decide, rfl⟩
set_option maxRecDepth 100000 in
theorem im_X1_countJudged : Cond.instanceMethod mi_X1_countJudged.1 ∈ pd_TB := pd_tb (i := 480) (by decide +kernel) (by decide +kernel)
set_option maxRecDepth 100000 in
theorem se_X1_countJudged : Cond.selects mi_X1_countJudged.1.cls mi_X1_countJudged.1 mi_X1_countJudged.1 ∈ pd_TB := pd_tb (i := 481) (by decide +kernel) (by decide +kernel)
set_option maxRecDepth 100000 in
theorem mlX8_210 : Cond.methodLink RX8 210 mi_X1_countJudged.1 ∈ pd_TB := pd_tb (i := 479) (by decide +kernel) (by decide +kernel)
theorem cvX8_210 : pd_CV RX8 210 mi_X1_countJudged 3 1 := ⟨cb_X1_countJudged, mlX8_210, im_X1_countJudged, se_X1_countJudged, _, rfl, rfl, by decide⟩
set_option maxRecDepth 100000 in
theorem hd_X8_fewest : pd_hd mi_X8_fewest ∈ pd_TB := pd_tb (i := 486) (by rfl) (by decide +kernel)
set_option maxRecDepth 100000 in
theorem in_X8_fewest : Cond.initialized mi_X8_fewest.1.cls ∈ pd_TB := pd_tb (i := 94) (by decide +kernel) (by decide +kernel)
theorem cb_X8_fewest : pd_CB mi_X8_fewest 0 := ⟨hd_X8_fewest, in_X8_fewest, by decide +kernel, by decide +kernel, by decide, rfl⟩
set_option maxRecDepth 100000 in
theorem im_X8_fewest : Cond.instanceMethod mi_X8_fewest.1 ∈ pd_TB := pd_tb (i := 484) (by decide +kernel) (by decide +kernel)
set_option maxRecDepth 100000 in
theorem se_X8_fewest : Cond.selects mi_X8_fewest.1.cls mi_X8_fewest.1 mi_X8_fewest.1 ∈ pd_TB := pd_tb (i := 485) (by decide +kernel) (by decide +kernel)
set_option maxRecDepth 100000 in
theorem mlL_147 : Cond.methodLink RL 147 mi_X8_fewest.1 ∈ pd_TB := pd_tb (i := 483) (by decide +kernel) (by decide +kernel)
theorem cvL_147 : pd_CV RL 147 mi_X8_fewest 0 7 := ⟨cb_X8_fewest, mlL_147, im_X8_fewest, se_X8_fewest, _, rfl, rfl, by decide⟩
set_option maxRecDepth 100000 in
theorem hd_X8_verdictOf : pd_hd mi_X8_verdictOf ∈ pd_TB := pd_tb (i := 490) (by rfl) (by decide +kernel)
set_option maxRecDepth 100000 in
theorem in_X8_verdictOf : Cond.initialized mi_X8_verdictOf.1.cls ∈ pd_TB := pd_tb (i := 94) (by decide +kernel) (by decide +kernel)
theorem cb_X8_verdictOf : pd_CB mi_X8_verdictOf 2 := ⟨hd_X8_verdictOf, in_X8_verdictOf, by decide +kernel, by decide +kernel, by decide, rfl⟩
set_option maxRecDepth 100000 in
theorem im_X8_verdictOf : Cond.instanceMethod mi_X8_verdictOf.1 ∈ pd_TB := pd_tb (i := 489) (by decide +kernel) (by decide +kernel)
set_option maxRecDepth 100000 in
theorem se_X8_verdictOf : Cond.selects mi_X8_verdictOf.1.cls mi_X8_verdictOf.1 mi_X8_verdictOf.1 ∈ pd_TB := pd_tb (i := 6) (by decide +kernel) (by decide +kernel)
set_option maxRecDepth 100000 in
theorem mlX8_242 : Cond.methodLink RX8 242 mi_X8_verdictOf.1 ∈ pd_TB := pd_tb (i := 487) (by decide +kernel) (by decide +kernel)
theorem cvX8_242 : pd_CV RX8 242 mi_X8_verdictOf 2 7 := ⟨cb_X8_verdictOf, mlX8_242, im_X8_verdictOf, se_X8_verdictOf, _, rfl, rfl, by decide⟩
set_option maxRecDepth 100000 in
theorem hd_X0_lowBound : pd_hd mi_X0_lowBound ∈ pd_TB := pd_tb (i := 494) (by rfl) (by decide +kernel)
set_option maxRecDepth 100000 in
theorem in_X0_lowBound : Cond.initialized mi_X0_lowBound.1.cls ∈ pd_TB := pd_tb (i := 101) (by decide +kernel) (by decide +kernel)
theorem cb_X0_lowBound : pd_CB mi_X0_lowBound 4 := ⟨hd_X0_lowBound, in_X0_lowBound, by decide +kernel, by decide +kernel, by decide, rfl⟩
set_option maxRecDepth 100000 in
theorem im_X0_lowBound : Cond.instanceMethod mi_X0_lowBound.1 ∈ pd_TB := pd_tb (i := 492) (by decide +kernel) (by decide +kernel)
set_option maxRecDepth 100000 in
theorem se_X0_lowBound : Cond.selects mi_X0_lowBound.1.cls mi_X0_lowBound.1 mi_X0_lowBound.1 ∈ pd_TB := pd_tb (i := 493) (by decide +kernel) (by decide +kernel)
set_option maxRecDepth 100000 in
theorem mlX8_235 : Cond.methodLink RX8 235 mi_X0_lowBound.1 ∈ pd_TB := pd_tb (i := 491) (by decide +kernel) (by decide +kernel)
theorem cvX8_235 : pd_CV RX8 235 mi_X0_lowBound 4 0 := ⟨cb_X0_lowBound, mlX8_235, im_X0_lowBound, se_X0_lowBound, _, rfl, rfl, by decide⟩
set_option maxRecDepth 100000 in
theorem hd_X0_choose : pd_hd mi_X0_choose ∈ pd_TB := pd_tb (i := 498) (by rfl) (by decide +kernel)
set_option maxRecDepth 100000 in
theorem in_X0_choose : Cond.initialized mi_X0_choose.1.cls ∈ pd_TB := pd_tb (i := 101) (by decide +kernel) (by decide +kernel)
theorem cb_X0_choose : pd_CB mi_X0_choose 2 := ⟨hd_X0_choose, in_X0_choose, by decide +kernel, by decide +kernel, by decide, rfl⟩
set_option maxRecDepth 100000 in
theorem im_X0_choose : Cond.instanceMethod mi_X0_choose.1 ∈ pd_TB := pd_tb (i := 496) (by decide +kernel) (by decide +kernel)
set_option maxRecDepth 100000 in
theorem se_X0_choose : Cond.selects mi_X0_choose.1.cls mi_X0_choose.1 mi_X0_choose.1 ∈ pd_TB := pd_tb (i := 497) (by decide +kernel) (by decide +kernel)
set_option maxRecDepth 100000 in
theorem mlX0_18 : Cond.methodLink RX0 18 mi_X0_choose.1 ∈ pd_TB := pd_tb (i := 495) (by decide +kernel) (by decide +kernel)
theorem cvX0_18 : pd_CV RX0 18 mi_X0_choose 2 0 := ⟨cb_X0_choose, mlX0_18, im_X0_choose, se_X0_choose, _, rfl, rfl, by decide⟩
set_option maxRecDepth 100000 in
theorem hd_X0_waysWithMarked : pd_hd mi_X0_waysWithMarked ∈ pd_TB := pd_tb (i := 503) (by rfl) (by decide +kernel)
set_option maxRecDepth 100000 in
theorem in_X0_waysWithMarked : Cond.initialized mi_X0_waysWithMarked.1.cls ∈ pd_TB := pd_tb (i := 101) (by decide +kernel) (by decide +kernel)
theorem cb_X0_waysWithMarked : pd_CB mi_X0_waysWithMarked 5 := ⟨hd_X0_waysWithMarked, in_X0_waysWithMarked, by decide +kernel, by decide +kernel, by decide, rfl⟩
set_option maxRecDepth 100000 in
theorem im_X0_waysWithMarked : Cond.instanceMethod mi_X0_waysWithMarked.1 ∈ pd_TB := pd_tb (i := 502) (by decide +kernel) (by decide +kernel)
set_option maxRecDepth 100000 in
theorem se_X0_waysWithMarked : Cond.selects mi_X0_waysWithMarked.1.cls mi_X0_waysWithMarked.1 mi_X0_waysWithMarked.1 ∈ pd_TB := pd_tb (i := 7) (by decide +kernel) (by decide +kernel)
set_option maxRecDepth 100000 in
theorem mlX0_24 : Cond.methodLink RX0 24 mi_X0_waysWithMarked.1 ∈ pd_TB := pd_tb (i := 500) (by decide +kernel) (by decide +kernel)
theorem cvX0_24 : pd_CV RX0 24 mi_X0_waysWithMarked 5 0 := ⟨cb_X0_waysWithMarked, mlX0_24, im_X0_waysWithMarked, se_X0_waysWithMarked, _, rfl, rfl, by decide⟩
set_option maxRecDepth 100000 in
theorem hd_X0_highBound : pd_hd mi_X0_highBound ∈ pd_TB := pd_tb (i := 507) (by rfl) (by decide +kernel)
set_option maxRecDepth 100000 in
theorem in_X0_highBound : Cond.initialized mi_X0_highBound.1.cls ∈ pd_TB := pd_tb (i := 101) (by decide +kernel) (by decide +kernel)
theorem cb_X0_highBound : pd_CB mi_X0_highBound 4 := ⟨hd_X0_highBound, in_X0_highBound, by decide +kernel, by decide +kernel, by decide, rfl⟩
set_option maxRecDepth 100000 in
theorem im_X0_highBound : Cond.instanceMethod mi_X0_highBound.1 ∈ pd_TB := pd_tb (i := 505) (by decide +kernel) (by decide +kernel)
set_option maxRecDepth 100000 in
theorem se_X0_highBound : Cond.selects mi_X0_highBound.1.cls mi_X0_highBound.1 mi_X0_highBound.1 ∈ pd_TB := pd_tb (i := 506) (by decide +kernel) (by decide +kernel)
set_option maxRecDepth 100000 in
theorem mlX8_239 : Cond.methodLink RX8 239 mi_X0_highBound.1 ∈ pd_TB := pd_tb (i := 504) (by decide +kernel) (by decide +kernel)
theorem cvX8_239 : pd_CV RX8 239 mi_X0_highBound 4 0 := ⟨cb_X0_highBound, mlX8_239, im_X0_highBound, se_X0_highBound, _, rfl, rfl, by decide⟩
set_option maxRecDepth 100000 in
theorem hd_X8_print : pd_hd mi_X8_print ∈ pd_TB := pd_tb (i := 511) (by rfl) (by decide +kernel)
set_option maxRecDepth 100000 in
theorem in_X8_print : Cond.initialized mi_X8_print.1.cls ∈ pd_TB := pd_tb (i := 94) (by decide +kernel) (by decide +kernel)
theorem cb_X8_print : pd_CB mi_X8_print 0 := ⟨hd_X8_print, in_X8_print, by decide +kernel, by decide +kernel, by decide, rfl⟩
set_option maxRecDepth 100000 in
theorem im_X8_print : Cond.instanceMethod mi_X8_print.1 ∈ pd_TB := pd_tb (i := 509) (by decide +kernel) (by decide +kernel)
set_option maxRecDepth 100000 in
theorem se_X8_print : Cond.selects mi_X8_print.1.cls mi_X8_print.1 mi_X8_print.1 ∈ pd_TB := pd_tb (i := 510) (by decide +kernel) (by decide +kernel)
set_option maxRecDepth 100000 in
theorem mlL_157 : Cond.methodLink RL 157 mi_X8_print.1 ∈ pd_TB := pd_tb (i := 508) (by decide +kernel) (by decide +kernel)
theorem cvL_157 : pd_CV RL 157 mi_X8_print 0 7 := ⟨cb_X8_print, mlL_157, im_X8_print, se_X8_print, _, rfl, rfl, by decide⟩
set_option maxRecDepth 100000 in
theorem hd_X8_status : pd_hd mi_X8_status ∈ pd_TB := pd_tb (i := 516) (by rfl) (by decide +kernel)
set_option maxRecDepth 100000 in
theorem in_X8_status : Cond.initialized mi_X8_status.1.cls ∈ pd_TB := pd_tb (i := 94) (by decide +kernel) (by decide +kernel)
theorem cb_X8_status : pd_CB mi_X8_status 1 := ⟨hd_X8_status, in_X8_status, by decide +kernel, by decide +kernel, by decide, rfl⟩
set_option maxRecDepth 100000 in
theorem im_X8_status : Cond.instanceMethod mi_X8_status.1 ∈ pd_TB := pd_tb (i := 514) (by decide +kernel) (by decide +kernel)
set_option maxRecDepth 100000 in
theorem se_X8_status : Cond.selects mi_X8_status.1.cls mi_X8_status.1 mi_X8_status.1 ∈ pd_TB := pd_tb (i := 515) (by decide +kernel) (by decide +kernel)
set_option maxRecDepth 100000 in
theorem mlL_162 : Cond.methodLink RL 162 mi_X8_status.1 ∈ pd_TB := pd_tb (i := 513) (by decide +kernel) (by decide +kernel)
theorem cvL_162 : pd_CV RL 162 mi_X8_status 1 7 := ⟨cb_X8_status, mlL_162, im_X8_status, se_X8_status, _, rfl, rfl, by decide⟩
set_option maxRecDepth 100000 in
theorem hd_L_text : pd_hd mi_L_text ∈ pd_TB := pd_tb (i := 519) (by rfl) (by decide +kernel)
set_option maxRecDepth 100000 in
theorem in_L_text : Cond.initialized mi_L_text.1.cls ∈ pd_TB := pd_tb (i := 93) (by decide +kernel) (by decide +kernel)
set_option maxRecDepth 100000 in
theorem st_L_text : Cond.static mi_L_text.1 ∈ pd_TB := pd_tb (i := 518) (by decide +kernel) (by decide +kernel)
set_option maxRecDepth 100000 in
theorem mlL_80 : Cond.methodLink RL 80 mi_L_text.1 ∈ pd_TB := pd_tb (i := 517) (by decide +kernel) (by decide +kernel)
set_option maxRecDepth 100000 in
theorem hd_X8_text : pd_hd mi_X8_text ∈ pd_TB := pd_tb (i := 524) (by rfl) (by decide +kernel)
set_option maxRecDepth 100000 in
theorem in_X8_text : Cond.initialized mi_X8_text.1.cls ∈ pd_TB := pd_tb (i := 94) (by decide +kernel) (by decide +kernel)
theorem cb_X8_text : pd_CB mi_X8_text 1 := ⟨hd_X8_text, in_X8_text, by decide +kernel, by decide +kernel, by decide, rfl⟩
set_option maxRecDepth 100000 in
theorem im_X8_text : Cond.instanceMethod mi_X8_text.1 ∈ pd_TB := pd_tb (i := 522) (by decide +kernel) (by decide +kernel)
set_option maxRecDepth 100000 in
theorem se_X8_text : Cond.selects mi_X8_text.1.cls mi_X8_text.1 mi_X8_text.1 ∈ pd_TB := pd_tb (i := 523) (by decide +kernel) (by decide +kernel)
set_option maxRecDepth 100000 in
theorem mlL_7 : Cond.methodLink RL 7 mi_X8_text.1 ∈ pd_TB := pd_tb (i := 521) (by decide +kernel) (by decide +kernel)
theorem cvL_7 : pd_CV RL 7 mi_X8_text 1 7 := ⟨cb_X8_text, mlL_7, im_X8_text, se_X8_text, _, rfl, rfl, by decide⟩
set_option maxRecDepth 100000 in
theorem hd_X8_isFrom : pd_hd mi_X8_isFrom ∈ pd_TB := pd_tb (i := 527) (by rfl) (by decide +kernel)
set_option maxRecDepth 100000 in
theorem in_X8_isFrom : Cond.initialized mi_X8_isFrom.1.cls ∈ pd_TB := pd_tb (i := 94) (by decide +kernel) (by decide +kernel)
theorem cb_X8_isFrom : pd_CB mi_X8_isFrom 3 := ⟨hd_X8_isFrom, in_X8_isFrom, by decide +kernel, by decide +kernel, by decide, rfl⟩
set_option maxRecDepth 100000 in
theorem st_X8_isFrom : Cond.static mi_X8_isFrom.1 ∈ pd_TB := pd_tb (i := 526) (by decide +kernel) (by decide +kernel)
set_option maxRecDepth 100000 in
theorem mlX8_69 : Cond.methodLink RX8 69 mi_X8_isFrom.1 ∈ pd_TB := pd_tb (i := 525) (by decide +kernel) (by decide +kernel)
theorem csX8_69 : pd_CS RX8 69 mi_X8_isFrom 3 := ⟨cb_X8_isFrom, mlX8_69, st_X8_isFrom⟩
set_option maxRecDepth 100000 in
theorem hd_X8_requireArgument : pd_hd mi_X8_requireArgument ∈ pd_TB := pd_tb (i := 531) (by rfl) (by decide +kernel)
set_option maxRecDepth 100000 in
theorem in_X8_requireArgument : Cond.initialized mi_X8_requireArgument.1.cls ∈ pd_TB := pd_tb (i := 94) (by decide +kernel) (by decide +kernel)
theorem cb_X8_requireArgument : pd_CB mi_X8_requireArgument 1 := ⟨hd_X8_requireArgument, in_X8_requireArgument, by decide +kernel, by decide +kernel, by decide, rfl⟩
set_option maxRecDepth 100000 in
theorem im_X8_requireArgument : Cond.instanceMethod mi_X8_requireArgument.1 ∈ pd_TB := pd_tb (i := 530) (by decide +kernel) (by decide +kernel)
set_option maxRecDepth 100000 in
theorem se_X8_requireArgument : Cond.selects mi_X8_requireArgument.1.cls mi_X8_requireArgument.1 mi_X8_requireArgument.1 ∈ pd_TB := pd_tb (i := 8) (by decide +kernel) (by decide +kernel)
set_option maxRecDepth 100000 in
theorem mlX8_73 : Cond.methodLink RX8 73 mi_X8_requireArgument.1 ∈ pd_TB := pd_tb (i := 528) (by decide +kernel) (by decide +kernel)
theorem cvX8_73 : pd_CV RX8 73 mi_X8_requireArgument 1 7 := ⟨cb_X8_requireArgument, mlX8_73, im_X8_requireArgument, se_X8_requireArgument, _, rfl, rfl, by decide⟩
set_option maxRecDepth 100000 in
theorem hd_X6_read : pd_hd mi_X6_read ∈ pd_TB := pd_tb (i := 602) (by rfl) (by decide +kernel)
set_option maxRecDepth 100000 in
theorem in_X6_read : Cond.initialized mi_X6_read.1.cls ∈ pd_TB := pd_tb (i := 95) (by decide +kernel) (by decide +kernel)
theorem cb_X6_read : pd_CB mi_X6_read 1 := ⟨hd_X6_read, in_X6_read, by decide +kernel, by decide +kernel, by decide, rfl⟩
set_option maxRecDepth 100000 in
theorem im_X6_read : Cond.instanceMethod mi_X6_read.1 ∈ pd_TB := pd_tb (i := 600) (by decide +kernel) (by decide +kernel)
set_option maxRecDepth 100000 in
theorem se_X6_read : Cond.selects mi_X6_read.1.cls mi_X6_read.1 mi_X6_read.1 ∈ pd_TB := pd_tb (i := 601) (by decide +kernel) (by decide +kernel)
set_option maxRecDepth 100000 in
theorem mlX8_77 : Cond.methodLink RX8 77 mi_X6_read.1 ∈ pd_TB := pd_tb (i := 599) (by decide +kernel) (by decide +kernel)
theorem cvX8_77 : pd_CV RX8 77 mi_X6_read 1 5 := ⟨cb_X6_read, mlX8_77, im_X6_read, se_X6_read, _, rfl, rfl, by decide⟩
set_option maxRecDepth 100000 in
theorem hd_X6_begin : pd_hd mi_X6_begin ∈ pd_TB := pd_tb (i := 606) (by rfl) (by decide +kernel)
set_option maxRecDepth 100000 in
theorem in_X6_begin : Cond.initialized mi_X6_begin.1.cls ∈ pd_TB := pd_tb (i := 95) (by decide +kernel) (by decide +kernel)
theorem cb_X6_begin : pd_CB mi_X6_begin 1 := ⟨hd_X6_begin, in_X6_begin, by decide +kernel, by decide +kernel, by decide, rfl⟩
set_option maxRecDepth 100000 in
theorem im_X6_begin : Cond.instanceMethod mi_X6_begin.1 ∈ pd_TB := pd_tb (i := 605) (by decide +kernel) (by decide +kernel)
set_option maxRecDepth 100000 in
theorem se_X6_begin : Cond.selects mi_X6_begin.1.cls mi_X6_begin.1 mi_X6_begin.1 ∈ pd_TB := pd_tb (i := 10) (by decide +kernel) (by decide +kernel)
set_option maxRecDepth 100000 in
theorem mlX6_25 : Cond.methodLink RX6 25 mi_X6_begin.1 ∈ pd_TB := pd_tb (i := 603) (by decide +kernel) (by decide +kernel)
theorem cvX6_25 : pd_CV RX6 25 mi_X6_begin 1 5 := ⟨cb_X6_begin, mlX6_25, im_X6_begin, se_X6_begin, _, rfl, rfl, by decide⟩
set_option maxRecDepth 100000 in
theorem hd_X7_scan : pd_hd mi_X7_scan ∈ pd_TB := pd_tb (i := 610) (by rfl) (by decide +kernel)
set_option maxRecDepth 100000 in
theorem in_X7_scan : Cond.initialized mi_X7_scan.1.cls ∈ pd_TB := pd_tb (i := 96) (by decide +kernel) (by decide +kernel)
theorem cb_X7_scan : pd_CB mi_X7_scan 1 := ⟨hd_X7_scan, in_X7_scan, by decide +kernel, by decide +kernel, by decide, rfl⟩
set_option maxRecDepth 100000 in
theorem im_X7_scan : Cond.instanceMethod mi_X7_scan.1 ∈ pd_TB := pd_tb (i := 608) (by decide +kernel) (by decide +kernel)
set_option maxRecDepth 100000 in
theorem se_X7_scan : Cond.selects mi_X7_scan.1.cls mi_X7_scan.1 mi_X7_scan.1 ∈ pd_TB := pd_tb (i := 609) (by decide +kernel) (by decide +kernel)
set_option maxRecDepth 100000 in
theorem mlX6_73 : Cond.methodLink RX6 73 mi_X7_scan.1 ∈ pd_TB := pd_tb (i := 607) (by decide +kernel) (by decide +kernel)
theorem cvX6_73 : pd_CV RX6 73 mi_X7_scan 1 6 := ⟨cb_X7_scan, mlX6_73, im_X7_scan, se_X7_scan, _, rfl, rfl, by decide⟩
set_option maxRecDepth 100000 in
theorem mlX7_28 : Cond.methodLink RX7 28 mi_J9_min_7cf53.1 ∈ pd_TB := pd_tb (i := 611) (by decide +kernel) (by decide +kernel)
theorem csX7_28 : pd_CS RX7 28 mi_J9_min_7cf53 2 := ⟨cb_J9_min_7cf53, mlX7_28, st_J9_min_7cf53⟩
set_option maxRecDepth 100000 in
theorem mlX7_34 : Cond.methodLink RX7 34 mi_J9_max_7cf53.1 ∈ pd_TB := pd_tb (i := 612) (by decide +kernel) (by decide +kernel)
theorem csX7_34 : pd_CS RX7 34 mi_J9_max_7cf53 2 := ⟨cb_J9_max_7cf53, mlX7_34, st_J9_max_7cf53⟩
set_option maxRecDepth 100000 in
theorem hd_X7_isLetter : pd_hd mi_X7_isLetter ∈ pd_TB := pd_tb (i := 616) (by rfl) (by decide +kernel)
set_option maxRecDepth 100000 in
theorem in_X7_isLetter : Cond.initialized mi_X7_isLetter.1.cls ∈ pd_TB := pd_tb (i := 96) (by decide +kernel) (by decide +kernel)
theorem cb_X7_isLetter : pd_CB mi_X7_isLetter 1 := ⟨hd_X7_isLetter, in_X7_isLetter, by decide +kernel, by decide +kernel, by decide, rfl⟩
set_option maxRecDepth 100000 in
theorem im_X7_isLetter : Cond.instanceMethod mi_X7_isLetter.1 ∈ pd_TB := pd_tb (i := 615) (by decide +kernel) (by decide +kernel)
set_option maxRecDepth 100000 in
theorem se_X7_isLetter : Cond.selects mi_X7_isLetter.1.cls mi_X7_isLetter.1 mi_X7_isLetter.1 ∈ pd_TB := pd_tb (i := 11) (by decide +kernel) (by decide +kernel)
set_option maxRecDepth 100000 in
theorem mlX7_44 : Cond.methodLink RX7 44 mi_X7_isLetter.1 ∈ pd_TB := pd_tb (i := 613) (by decide +kernel) (by decide +kernel)
theorem cvX7_44 : pd_CV RX7 44 mi_X7_isLetter 1 6 := ⟨cb_X7_isLetter, mlX7_44, im_X7_isLetter, se_X7_isLetter, _, rfl, rfl, by decide⟩
set_option maxRecDepth 100000 in
theorem hd_X7_byteAt : pd_hd mi_X7_byteAt ∈ pd_TB := pd_tb (i := 620) (by rfl) (by decide +kernel)
set_option maxRecDepth 100000 in
theorem in_X7_byteAt : Cond.initialized mi_X7_byteAt.1.cls ∈ pd_TB := pd_tb (i := 96) (by decide +kernel) (by decide +kernel)
theorem cb_X7_byteAt : pd_CB mi_X7_byteAt 1 := ⟨hd_X7_byteAt, in_X7_byteAt, by decide +kernel, by decide +kernel, by decide, rfl⟩
set_option maxRecDepth 100000 in
theorem im_X7_byteAt : Cond.instanceMethod mi_X7_byteAt.1 ∈ pd_TB := pd_tb (i := 619) (by decide +kernel) (by decide +kernel)
set_option maxRecDepth 100000 in
theorem se_X7_byteAt : Cond.selects mi_X7_byteAt.1.cls mi_X7_byteAt.1 mi_X7_byteAt.1 ∈ pd_TB := pd_tb (i := 12) (by decide +kernel) (by decide +kernel)
set_option maxRecDepth 100000 in
theorem mlX7_65 : Cond.methodLink RX7 65 mi_X7_byteAt.1 ∈ pd_TB := pd_tb (i := 617) (by decide +kernel) (by decide +kernel)
theorem cvX7_65 : pd_CV RX7 65 mi_X7_byteAt 1 6 := ⟨cb_X7_byteAt, mlX7_65, im_X7_byteAt, se_X7_byteAt, _, rfl, rfl, by decide⟩
set_option maxRecDepth 100000 in
theorem hd_X7_kindOfWord : pd_hd mi_X7_kindOfWord ∈ pd_TB := pd_tb (i := 624) (by rfl) (by decide +kernel)
set_option maxRecDepth 100000 in
theorem in_X7_kindOfWord : Cond.initialized mi_X7_kindOfWord.1.cls ∈ pd_TB := pd_tb (i := 96) (by decide +kernel) (by decide +kernel)
theorem cb_X7_kindOfWord : pd_CB mi_X7_kindOfWord 1 := ⟨hd_X7_kindOfWord, in_X7_kindOfWord, by decide +kernel, by decide +kernel, by decide, rfl⟩
set_option maxRecDepth 100000 in
theorem im_X7_kindOfWord : Cond.instanceMethod mi_X7_kindOfWord.1 ∈ pd_TB := pd_tb (i := 623) (by decide +kernel) (by decide +kernel)
set_option maxRecDepth 100000 in
theorem se_X7_kindOfWord : Cond.selects mi_X7_kindOfWord.1.cls mi_X7_kindOfWord.1 mi_X7_kindOfWord.1 ∈ pd_TB := pd_tb (i := 13) (by decide +kernel) (by decide +kernel)
set_option maxRecDepth 100000 in
theorem mlX7_48 : Cond.methodLink RX7 48 mi_X7_kindOfWord.1 ∈ pd_TB := pd_tb (i := 621) (by decide +kernel) (by decide +kernel)
theorem cvX7_48 : pd_CV RX7 48 mi_X7_kindOfWord 1 6 := ⟨cb_X7_kindOfWord, mlX7_48, im_X7_kindOfWord, se_X7_kindOfWord, _, rfl, rfl, by decide⟩
set_option maxRecDepth 100000 in
theorem hd_J0_length_8abf5 : pd_hd mi_J0_length_8abf5 ∈ pd_TB := pd_tb (i := 629) (by rfl) (by decide +kernel)
set_option maxRecDepth 100000 in
theorem in_J0_length_8abf5 : Cond.initialized mi_J0_length_8abf5.1.cls ∈ pd_TB := pd_tb (i := 108) (by decide +kernel) (by decide +kernel)
theorem cb_J0_length_8abf5 : pd_CB mi_J0_length_8abf5 0 := ⟨hd_J0_length_8abf5, in_J0_length_8abf5, by decide +kernel, by decide +kernel, by decide, rfl⟩
set_option maxRecDepth 100000 in
theorem im_J0_length_8abf5 : Cond.instanceMethod mi_J0_length_8abf5.1 ∈ pd_TB := pd_tb (i := 627) (by decide +kernel) (by decide +kernel)
set_option maxRecDepth 100000 in
theorem se_J0_length_8abf5 : Cond.selects mi_J0_length_8abf5.1.cls mi_J0_length_8abf5.1 mi_J0_length_8abf5.1 ∈ pd_TB := pd_tb (i := 628) (by decide +kernel) (by decide +kernel)
set_option maxRecDepth 100000 in
theorem mlX7_70 : Cond.methodLink RX7 70 mi_J0_length_8abf5.1 ∈ pd_TB := pd_tb (i := 626) (by decide +kernel) (by decide +kernel)
set_option maxRecDepth 100000 in
theorem hd_J0_coder_7d493 : pd_hd mi_J0_coder_7d493 ∈ pd_TB := pd_tb (i := 633) (by rfl) (by decide +kernel)
set_option maxRecDepth 100000 in
theorem in_J0_coder_7d493 : Cond.initialized mi_J0_coder_7d493.1.cls ∈ pd_TB := pd_tb (i := 108) (by decide +kernel) (by decide +kernel)
theorem cb_J0_coder_7d493 : pd_CB mi_J0_coder_7d493 0 := ⟨hd_J0_coder_7d493, in_J0_coder_7d493, by decide +kernel, by decide +kernel, by decide, rfl⟩
set_option maxRecDepth 100000 in
theorem im_J0_coder_7d493 : Cond.instanceMethod mi_J0_coder_7d493.1 ∈ pd_TB := pd_tb (i := 631) (by decide +kernel) (by decide +kernel)
set_option maxRecDepth 100000 in
theorem se_J0_coder_7d493 : Cond.selects mi_J0_coder_7d493.1.cls mi_J0_coder_7d493.1 mi_J0_coder_7d493.1 ∈ pd_TB := pd_tb (i := 632) (by decide +kernel) (by decide +kernel)
set_option maxRecDepth 100000 in
theorem mlJ0_335 : Cond.methodLink RJ0 335 mi_J0_coder_7d493.1 ∈ pd_TB := pd_tb (i := 630) (by decide +kernel) (by decide +kernel)
set_option maxRecDepth 100000 in
theorem hd_J0_charAt_5068e : pd_hd mi_J0_charAt_5068e ∈ pd_TB := pd_tb (i := 639) (by rfl) (by decide +kernel)
set_option maxRecDepth 100000 in
theorem in_J0_charAt_5068e : Cond.initialized mi_J0_charAt_5068e.1.cls ∈ pd_TB := pd_tb (i := 108) (by decide +kernel) (by decide +kernel)
theorem cb_J0_charAt_5068e : pd_CB mi_J0_charAt_5068e 1 := ⟨hd_J0_charAt_5068e, in_J0_charAt_5068e, by decide +kernel, by decide +kernel, by decide, rfl⟩
set_option maxRecDepth 100000 in
theorem im_J0_charAt_5068e : Cond.instanceMethod mi_J0_charAt_5068e.1 ∈ pd_TB := pd_tb (i := 637) (by decide +kernel) (by decide +kernel)
set_option maxRecDepth 100000 in
theorem se_J0_charAt_5068e : Cond.selects mi_J0_charAt_5068e.1.cls mi_J0_charAt_5068e.1 mi_J0_charAt_5068e.1 ∈ pd_TB := pd_tb (i := 638) (by decide +kernel) (by decide +kernel)
set_option maxRecDepth 100000 in
theorem mlX7_75 : Cond.methodLink RX7 75 mi_J0_charAt_5068e.1 ∈ pd_TB := pd_tb (i := 636) (by decide +kernel) (by decide +kernel)
set_option maxRecDepth 100000 in
theorem hd_J0_isLatin1_aae02 : pd_hd mi_J0_isLatin1_aae02 ∈ pd_TB := pd_tb (i := 643) (by rfl) (by decide +kernel)
set_option maxRecDepth 100000 in
theorem in_J0_isLatin1_aae02 : Cond.initialized mi_J0_isLatin1_aae02.1.cls ∈ pd_TB := pd_tb (i := 108) (by decide +kernel) (by decide +kernel)
theorem cb_J0_isLatin1_aae02 : pd_CB mi_J0_isLatin1_aae02 0 := ⟨hd_J0_isLatin1_aae02, in_J0_isLatin1_aae02, by decide +kernel, by decide +kernel, by decide, rfl⟩
set_option maxRecDepth 100000 in
theorem im_J0_isLatin1_aae02 : Cond.instanceMethod mi_J0_isLatin1_aae02.1 ∈ pd_TB := pd_tb (i := 641) (by decide +kernel) (by decide +kernel)
set_option maxRecDepth 100000 in
theorem se_J0_isLatin1_aae02 : Cond.selects mi_J0_isLatin1_aae02.1.cls mi_J0_isLatin1_aae02.1 mi_J0_isLatin1_aae02.1 ∈ pd_TB := pd_tb (i := 642) (by decide +kernel) (by decide +kernel)
set_option maxRecDepth 100000 in
theorem mlJ0_492 : Cond.methodLink RJ0 492 mi_J0_isLatin1_aae02.1 ∈ pd_TB := pd_tb (i := 640) (by decide +kernel) (by decide +kernel)
set_option maxRecDepth 100000 in
theorem hd_J1_charAt_3b067 : pd_hd mi_J1_charAt_3b067 ∈ pd_TB := pd_tb (i := 646) (by rfl) (by decide +kernel)
set_option maxRecDepth 100000 in
theorem in_J1_charAt_3b067 : Cond.initialized mi_J1_charAt_3b067.1.cls ∈ pd_TB := pd_tb (i := 109) (by decide +kernel) (by decide +kernel)
theorem cb_J1_charAt_3b067 : pd_CB mi_J1_charAt_3b067 2 := ⟨hd_J1_charAt_3b067, in_J1_charAt_3b067, by decide +kernel, by decide +kernel, by decide, rfl⟩
set_option maxRecDepth 100000 in
theorem st_J1_charAt_3b067 : Cond.static mi_J1_charAt_3b067.1 ∈ pd_TB := pd_tb (i := 645) (by decide +kernel) (by decide +kernel)
set_option maxRecDepth 100000 in
theorem mlJ0_495 : Cond.methodLink RJ0 495 mi_J1_charAt_3b067.1 ∈ pd_TB := pd_tb (i := 644) (by decide +kernel) (by decide +kernel)
theorem csJ0_495 : pd_CS RJ0 495 mi_J1_charAt_3b067 2 := ⟨cb_J1_charAt_3b067, mlJ0_495, st_J1_charAt_3b067⟩
set_option maxRecDepth 100000 in
theorem hd_J0_checkIndex_df160 : pd_hd mi_J0_checkIndex_df160 ∈ pd_TB := pd_tb (i := 649) (by rfl) (by decide +kernel)
set_option maxRecDepth 100000 in
theorem in_J0_checkIndex_df160 : Cond.initialized mi_J0_checkIndex_df160.1.cls ∈ pd_TB := pd_tb (i := 108) (by decide +kernel) (by decide +kernel)
theorem cb_J0_checkIndex_df160 : pd_CB mi_J0_checkIndex_df160 2 := ⟨hd_J0_checkIndex_df160, in_J0_checkIndex_df160, by decide +kernel, by decide +kernel, by decide, rfl⟩
set_option maxRecDepth 100000 in
theorem st_J0_checkIndex_df160 : Cond.static mi_J0_checkIndex_df160.1 ∈ pd_TB := pd_tb (i := 648) (by decide +kernel) (by decide +kernel)
set_option maxRecDepth 100000 in
theorem mlJ1_9 : Cond.methodLink RJ1 9 mi_J0_checkIndex_df160.1 ∈ pd_TB := pd_tb (i := 647) (by decide +kernel) (by decide +kernel)
theorem csJ1_9 : pd_CS RJ1 9 mi_J0_checkIndex_df160 2 := ⟨cb_J0_checkIndex_df160, mlJ1_9, st_J0_checkIndex_df160⟩
set_option maxRecDepth 100000 in
theorem hd_J3_checkIndex_8e157 : pd_hd mi_J3_checkIndex_8e157 ∈ pd_TB := pd_tb (i := 654) (by rfl) (by decide +kernel)
set_option maxRecDepth 100000 in
theorem in_J3_checkIndex_8e157 : Cond.initialized mi_J3_checkIndex_8e157.1.cls ∈ pd_TB := pd_tb (i := 110) (by decide +kernel) (by decide +kernel)
theorem cb_J3_checkIndex_8e157 : pd_CB mi_J3_checkIndex_8e157 3 := ⟨hd_J3_checkIndex_8e157, in_J3_checkIndex_8e157, by decide +kernel, by decide +kernel, by decide, rfl⟩
set_option maxRecDepth 100000 in
theorem st_J3_checkIndex_8e157 : Cond.static mi_J3_checkIndex_8e157.1 ∈ pd_TB := pd_tb (i := 653) (by decide +kernel) (by decide +kernel)
set_option maxRecDepth 100000 in
theorem mlJ0_1059 : Cond.methodLink RJ0 1059 mi_J3_checkIndex_8e157.1 ∈ pd_TB := pd_tb (i := 652) (by decide +kernel) (by decide +kernel)
theorem csJ0_1059 : pd_CS RJ0 1059 mi_J3_checkIndex_8e157 3 := ⟨cb_J3_checkIndex_8e157, mlJ0_1059, st_J3_checkIndex_8e157⟩
set_option maxRecDepth 100000 in
theorem hd_J2_charAt_3b067 : pd_hd mi_J2_charAt_3b067 ∈ pd_TB := pd_tb (i := 657) (by rfl) (by decide +kernel)
set_option maxRecDepth 100000 in
theorem in_J2_charAt_3b067 : Cond.initialized mi_J2_charAt_3b067.1.cls ∈ pd_TB := pd_tb (i := 111) (by decide +kernel) (by decide +kernel)
theorem cb_J2_charAt_3b067 : pd_CB mi_J2_charAt_3b067 2 := ⟨hd_J2_charAt_3b067, in_J2_charAt_3b067, by decide +kernel, by decide +kernel, by decide, rfl⟩
set_option maxRecDepth 100000 in
theorem st_J2_charAt_3b067 : Cond.static mi_J2_charAt_3b067.1 ∈ pd_TB := pd_tb (i := 656) (by decide +kernel) (by decide +kernel)
set_option maxRecDepth 100000 in
theorem mlJ0_498 : Cond.methodLink RJ0 498 mi_J2_charAt_3b067.1 ∈ pd_TB := pd_tb (i := 655) (by decide +kernel) (by decide +kernel)
theorem csJ0_498 : pd_CS RJ0 498 mi_J2_charAt_3b067 2 := ⟨cb_J2_charAt_3b067, mlJ0_498, st_J2_charAt_3b067⟩
set_option maxRecDepth 100000 in
theorem hd_J2_checkIndex_2214a : pd_hd mi_J2_checkIndex_2214a ∈ pd_TB := pd_tb (i := 660) (by rfl) (by decide +kernel)
set_option maxRecDepth 100000 in
theorem in_J2_checkIndex_2214a : Cond.initialized mi_J2_checkIndex_2214a.1.cls ∈ pd_TB := pd_tb (i := 111) (by decide +kernel) (by decide +kernel)
theorem cb_J2_checkIndex_2214a : pd_CB mi_J2_checkIndex_2214a 2 := ⟨hd_J2_checkIndex_2214a, in_J2_checkIndex_2214a, by decide +kernel, by decide +kernel, by decide, rfl⟩
set_option maxRecDepth 100000 in
theorem st_J2_checkIndex_2214a : Cond.static mi_J2_checkIndex_2214a.1 ∈ pd_TB := pd_tb (i := 659) (by decide +kernel) (by decide +kernel)
set_option maxRecDepth 100000 in
theorem mlJ2_67 : Cond.methodLink RJ2 67 mi_J2_checkIndex_2214a.1 ∈ pd_TB := pd_tb (i := 658) (by decide +kernel) (by decide +kernel)
theorem csJ2_67 : pd_CS RJ2 67 mi_J2_checkIndex_2214a 2 := ⟨cb_J2_checkIndex_2214a, mlJ2_67, st_J2_checkIndex_2214a⟩
set_option maxRecDepth 100000 in
theorem hd_J2_length_9d52b : pd_hd mi_J2_length_9d52b ∈ pd_TB := pd_tb (i := 663) (by rfl) (by decide +kernel)
set_option maxRecDepth 100000 in
theorem in_J2_length_9d52b : Cond.initialized mi_J2_length_9d52b.1.cls ∈ pd_TB := pd_tb (i := 111) (by decide +kernel) (by decide +kernel)
theorem cb_J2_length_9d52b : pd_CB mi_J2_length_9d52b 1 := ⟨hd_J2_length_9d52b, in_J2_length_9d52b, by decide +kernel, by decide +kernel, by decide, rfl⟩
set_option maxRecDepth 100000 in
theorem st_J2_length_9d52b : Cond.static mi_J2_length_9d52b.1 ∈ pd_TB := pd_tb (i := 662) (by decide +kernel) (by decide +kernel)
set_option maxRecDepth 100000 in
theorem mlJ2_48 : Cond.methodLink RJ2 48 mi_J2_length_9d52b.1 ∈ pd_TB := pd_tb (i := 661) (by decide +kernel) (by decide +kernel)
theorem csJ2_48 : pd_CS RJ2 48 mi_J2_length_9d52b 1 := ⟨cb_J2_length_9d52b, mlJ2_48, st_J2_length_9d52b⟩
set_option maxRecDepth 100000 in
theorem mlJ2_414 : Cond.methodLink RJ2 414 mi_J0_checkIndex_df160.1 ∈ pd_TB := pd_tb (i := 664) (by decide +kernel) (by decide +kernel)
theorem csJ2_414 : pd_CS RJ2 414 mi_J0_checkIndex_df160 2 := ⟨cb_J0_checkIndex_df160, mlJ2_414, st_J0_checkIndex_df160⟩
set_option maxRecDepth 100000 in
theorem hd_J2_getChar_3b067 : pd_hd mi_J2_getChar_3b067 ∈ pd_TB := pd_tb (i := 667) (by rfl) (by decide +kernel)
set_option maxRecDepth 100000 in
theorem in_J2_getChar_3b067 : Cond.initialized mi_J2_getChar_3b067.1.cls ∈ pd_TB := pd_tb (i := 111) (by decide +kernel) (by decide +kernel)
theorem cb_J2_getChar_3b067 : pd_CB mi_J2_getChar_3b067 2 := ⟨hd_J2_getChar_3b067, in_J2_getChar_3b067, by decide +kernel, by decide +kernel, by decide, rfl⟩
set_option maxRecDepth 100000 in
theorem st_J2_getChar_3b067 : Cond.static mi_J2_getChar_3b067.1 ∈ pd_TB := pd_tb (i := 666) (by decide +kernel) (by decide +kernel)
set_option maxRecDepth 100000 in
theorem mlJ2_71 : Cond.methodLink RJ2 71 mi_J2_getChar_3b067.1 ∈ pd_TB := pd_tb (i := 665) (by decide +kernel) (by decide +kernel)
theorem csJ2_71 : pd_CS RJ2 71 mi_J2_getChar_3b067 2 := ⟨cb_J2_getChar_3b067, mlJ2_71, st_J2_getChar_3b067⟩
set_option maxRecDepth 100000 in
theorem hd_X7_nameAt : pd_hd mi_X7_nameAt ∈ pd_TB := pd_tb (i := 677) (by rfl) (by decide +kernel)
set_option maxRecDepth 100000 in
theorem in_X7_nameAt : Cond.initialized mi_X7_nameAt.1.cls ∈ pd_TB := pd_tb (i := 96) (by decide +kernel) (by decide +kernel)
theorem cb_X7_nameAt : pd_CB mi_X7_nameAt 1 := ⟨hd_X7_nameAt, in_X7_nameAt, by decide +kernel, by decide +kernel, by decide, rfl⟩
set_option maxRecDepth 100000 in
theorem im_X7_nameAt : Cond.instanceMethod mi_X7_nameAt.1 ∈ pd_TB := pd_tb (i := 676) (by decide +kernel) (by decide +kernel)
set_option maxRecDepth 100000 in
theorem se_X7_nameAt : Cond.selects mi_X7_nameAt.1.cls mi_X7_nameAt.1 mi_X7_nameAt.1 ∈ pd_TB := pd_tb (i := 14) (by decide +kernel) (by decide +kernel)
set_option maxRecDepth 100000 in
theorem mlX7_52 : Cond.methodLink RX7 52 mi_X7_nameAt.1 ∈ pd_TB := pd_tb (i := 674) (by decide +kernel) (by decide +kernel)
theorem cvX7_52 : pd_CV RX7 52 mi_X7_nameAt 1 6 := ⟨cb_X7_nameAt, mlX7_52, im_X7_nameAt, se_X7_nameAt, _, rfl, rfl, by decide⟩
set_option maxRecDepth 100000 in
theorem hd_X2_withLetter : pd_hd mi_X2_withLetter ∈ pd_TB := pd_tb (i := 680) (by rfl) (by decide +kernel)
set_option maxRecDepth 100000 in
theorem in_X2_withLetter : Cond.initialized mi_X2_withLetter.1.cls ∈ pd_TB := pd_tb (i := 112) (by decide +kernel) (by decide +kernel)
theorem cb_X2_withLetter : pd_CB mi_X2_withLetter 3 := ⟨hd_X2_withLetter, in_X2_withLetter, by decide +kernel, by decide +kernel, by decide, rfl⟩
set_option maxRecDepth 100000 in
theorem st_X2_withLetter : Cond.static mi_X2_withLetter.1 ∈ pd_TB := pd_tb (i := 679) (by decide +kernel) (by decide +kernel)
set_option maxRecDepth 100000 in
theorem mlX7_79 : Cond.methodLink RX7 79 mi_X2_withLetter.1 ∈ pd_TB := pd_tb (i := 678) (by decide +kernel) (by decide +kernel)
theorem csX7_79 : pd_CS RX7 79 mi_X2_withLetter 3 := ⟨cb_X2_withLetter, mlX7_79, st_X2_withLetter⟩
set_option maxRecDepth 100000 in
theorem hd_X7_add : pd_hd mi_X7_add ∈ pd_TB := pd_tb (i := 684) (by rfl) (by decide +kernel)
set_option maxRecDepth 100000 in
theorem in_X7_add : Cond.initialized mi_X7_add.1.cls ∈ pd_TB := pd_tb (i := 96) (by decide +kernel) (by decide +kernel)
theorem cb_X7_add : pd_CB mi_X7_add 3 := ⟨hd_X7_add, in_X7_add, by decide +kernel, by decide +kernel, by decide, rfl⟩
set_option maxRecDepth 100000 in
theorem im_X7_add : Cond.instanceMethod mi_X7_add.1 ∈ pd_TB := pd_tb (i := 683) (by decide +kernel) (by decide +kernel)
set_option maxRecDepth 100000 in
theorem se_X7_add : Cond.selects mi_X7_add.1.cls mi_X7_add.1 mi_X7_add.1 ∈ pd_TB := pd_tb (i := 15) (by decide +kernel) (by decide +kernel)
set_option maxRecDepth 100000 in
theorem mlX7_55 : Cond.methodLink RX7 55 mi_X7_add.1 ∈ pd_TB := pd_tb (i := 681) (by decide +kernel) (by decide +kernel)
theorem cvX7_55 : pd_CV RX7 55 mi_X7_add 3 6 := ⟨cb_X7_add, mlX7_55, im_X7_add, se_X7_add, _, rfl, rfl, by decide⟩
set_option maxRecDepth 100000 in
theorem hd_X7_isDigit : pd_hd mi_X7_isDigit ∈ pd_TB := pd_tb (i := 688) (by rfl) (by decide +kernel)
set_option maxRecDepth 100000 in
theorem in_X7_isDigit : Cond.initialized mi_X7_isDigit.1.cls ∈ pd_TB := pd_tb (i := 96) (by decide +kernel) (by decide +kernel)
theorem cb_X7_isDigit : pd_CB mi_X7_isDigit 1 := ⟨hd_X7_isDigit, in_X7_isDigit, by decide +kernel, by decide +kernel, by decide, rfl⟩
set_option maxRecDepth 100000 in
theorem im_X7_isDigit : Cond.instanceMethod mi_X7_isDigit.1 ∈ pd_TB := pd_tb (i := 687) (by decide +kernel) (by decide +kernel)
set_option maxRecDepth 100000 in
theorem se_X7_isDigit : Cond.selects mi_X7_isDigit.1.cls mi_X7_isDigit.1 mi_X7_isDigit.1 ∈ pd_TB := pd_tb (i := 16) (by decide +kernel) (by decide +kernel)
set_option maxRecDepth 100000 in
theorem mlX7_59 : Cond.methodLink RX7 59 mi_X7_isDigit.1 ∈ pd_TB := pd_tb (i := 685) (by decide +kernel) (by decide +kernel)
theorem cvX7_59 : pd_CV RX7 59 mi_X7_isDigit 1 6 := ⟨cb_X7_isDigit, mlX7_59, im_X7_isDigit, se_X7_isDigit, _, rfl, rfl, by decide⟩
set_option maxRecDepth 100000 in
theorem hd_X7_numberAt : pd_hd mi_X7_numberAt ∈ pd_TB := pd_tb (i := 692) (by rfl) (by decide +kernel)
set_option maxRecDepth 100000 in
theorem in_X7_numberAt : Cond.initialized mi_X7_numberAt.1.cls ∈ pd_TB := pd_tb (i := 96) (by decide +kernel) (by decide +kernel)
theorem cb_X7_numberAt : pd_CB mi_X7_numberAt 1 := ⟨hd_X7_numberAt, in_X7_numberAt, by decide +kernel, by decide +kernel, by decide, rfl⟩
set_option maxRecDepth 100000 in
theorem im_X7_numberAt : Cond.instanceMethod mi_X7_numberAt.1 ∈ pd_TB := pd_tb (i := 691) (by decide +kernel) (by decide +kernel)
set_option maxRecDepth 100000 in
theorem se_X7_numberAt : Cond.selects mi_X7_numberAt.1.cls mi_X7_numberAt.1 mi_X7_numberAt.1 ∈ pd_TB := pd_tb (i := 17) (by decide +kernel) (by decide +kernel)
set_option maxRecDepth 100000 in
theorem mlX7_62 : Cond.methodLink RX7 62 mi_X7_numberAt.1 ∈ pd_TB := pd_tb (i := 689) (by decide +kernel) (by decide +kernel)
theorem cvX7_62 : pd_CV RX7 62 mi_X7_numberAt 1 6 := ⟨cb_X7_numberAt, mlX7_62, im_X7_numberAt, se_X7_numberAt, _, rfl, rfl, by decide⟩
set_option maxRecDepth 100000 in
theorem hd_X3_clear : pd_hd mi_X3_clear ∈ pd_TB := pd_tb (i := 696) (by rfl) (by decide +kernel)
set_option maxRecDepth 100000 in
theorem in_X3_clear : Cond.initialized mi_X3_clear.1.cls ∈ pd_TB := pd_tb (i := 98) (by decide +kernel) (by decide +kernel)
theorem cb_X3_clear : pd_CB mi_X3_clear 0 := ⟨hd_X3_clear, in_X3_clear, by decide +kernel, by decide +kernel, by decide, rfl⟩
set_option maxRecDepth 100000 in
theorem im_X3_clear : Cond.instanceMethod mi_X3_clear.1 ∈ pd_TB := pd_tb (i := 694) (by decide +kernel) (by decide +kernel)
set_option maxRecDepth 100000 in
theorem se_X3_clear : Cond.selects mi_X3_clear.1.cls mi_X3_clear.1 mi_X3_clear.1 ∈ pd_TB := pd_tb (i := 695) (by decide +kernel) (by decide +kernel)
set_option maxRecDepth 100000 in
theorem mlX6_76 : Cond.methodLink RX6 76 mi_X3_clear.1 ∈ pd_TB := pd_tb (i := 693) (by decide +kernel) (by decide +kernel)
theorem cvX6_76 : pd_CV RX6 76 mi_X3_clear 0 2 := ⟨cb_X3_clear, mlX6_76, im_X3_clear, se_X3_clear, _, rfl, rfl, by decide⟩
set_option maxRecDepth 100000 in
theorem hd_X3_emptySamples : pd_hd mi_X3_emptySamples ∈ pd_TB := pd_tb (i := 700) (by rfl) (by decide +kernel)
set_option maxRecDepth 100000 in
theorem in_X3_emptySamples : Cond.initialized mi_X3_emptySamples.1.cls ∈ pd_TB := pd_tb (i := 98) (by decide +kernel) (by decide +kernel)
theorem cb_X3_emptySamples : pd_CB mi_X3_emptySamples 0 := ⟨hd_X3_emptySamples, in_X3_emptySamples, by decide +kernel, by decide +kernel, by decide, rfl⟩
set_option maxRecDepth 100000 in
theorem im_X3_emptySamples : Cond.instanceMethod mi_X3_emptySamples.1 ∈ pd_TB := pd_tb (i := 698) (by decide +kernel) (by decide +kernel)
set_option maxRecDepth 100000 in
theorem se_X3_emptySamples : Cond.selects mi_X3_emptySamples.1.cls mi_X3_emptySamples.1 mi_X3_emptySamples.1 ∈ pd_TB := pd_tb (i := 699) (by decide +kernel) (by decide +kernel)
set_option maxRecDepth 100000 in
theorem mlX3_71 : Cond.methodLink RX3 71 mi_X3_emptySamples.1 ∈ pd_TB := pd_tb (i := 697) (by decide +kernel) (by decide +kernel)
theorem cvX3_71 : pd_CV RX3 71 mi_X3_emptySamples 0 2 := ⟨cb_X3_emptySamples, mlX3_71, im_X3_emptySamples, se_X3_emptySamples, _, rfl, rfl, by decide⟩
set_option maxRecDepth 100000 in
theorem hd_X6_kind : pd_hd mi_X6_kind ∈ pd_TB := pd_tb (i := 704) (by rfl) (by decide +kernel)
set_option maxRecDepth 100000 in
theorem in_X6_kind : Cond.initialized mi_X6_kind.1.cls ∈ pd_TB := pd_tb (i := 95) (by decide +kernel) (by decide +kernel)
theorem cb_X6_kind : pd_CB mi_X6_kind 0 := ⟨hd_X6_kind, in_X6_kind, by decide +kernel, by decide +kernel, by decide, rfl⟩
set_option maxRecDepth 100000 in
theorem im_X6_kind : Cond.instanceMethod mi_X6_kind.1 ∈ pd_TB := pd_tb (i := 703) (by decide +kernel) (by decide +kernel)
set_option maxRecDepth 100000 in
theorem se_X6_kind : Cond.selects mi_X6_kind.1.cls mi_X6_kind.1 mi_X6_kind.1 ∈ pd_TB := pd_tb (i := 18) (by decide +kernel) (by decide +kernel)
set_option maxRecDepth 100000 in
theorem mlX6_29 : Cond.methodLink RX6 29 mi_X6_kind.1 ∈ pd_TB := pd_tb (i := 701) (by decide +kernel) (by decide +kernel)
theorem cvX6_29 : pd_CV RX6 29 mi_X6_kind 0 5 := ⟨cb_X6_kind, mlX6_29, im_X6_kind, se_X6_kind, _, rfl, rfl, by decide⟩
set_option maxRecDepth 100000 in
theorem hd_X6_readVoter : pd_hd mi_X6_readVoter ∈ pd_TB := pd_tb (i := 708) (by rfl) (by decide +kernel)
set_option maxRecDepth 100000 in
theorem in_X6_readVoter : Cond.initialized mi_X6_readVoter.1.cls ∈ pd_TB := pd_tb (i := 95) (by decide +kernel) (by decide +kernel)
theorem cb_X6_readVoter : pd_CB mi_X6_readVoter 0 := ⟨hd_X6_readVoter, in_X6_readVoter, by decide +kernel, by decide +kernel, by decide, rfl⟩
set_option maxRecDepth 100000 in
theorem im_X6_readVoter : Cond.instanceMethod mi_X6_readVoter.1 ∈ pd_TB := pd_tb (i := 707) (by decide +kernel) (by decide +kernel)
set_option maxRecDepth 100000 in
theorem se_X6_readVoter : Cond.selects mi_X6_readVoter.1.cls mi_X6_readVoter.1 mi_X6_readVoter.1 ∈ pd_TB := pd_tb (i := 19) (by decide +kernel) (by decide +kernel)
set_option maxRecDepth 100000 in
theorem mlX6_33 : Cond.methodLink RX6 33 mi_X6_readVoter.1 ∈ pd_TB := pd_tb (i := 705) (by decide +kernel) (by decide +kernel)
theorem cvX6_33 : pd_CV RX6 33 mi_X6_readVoter 0 5 := ⟨cb_X6_readVoter, mlX6_33, im_X6_readVoter, se_X6_readVoter, _, rfl, rfl, by decide⟩
set_option maxRecDepth 100000 in
theorem hd_X6_place : pd_hd mi_X6_place ∈ pd_TB := pd_tb (i := 712) (by rfl) (by decide +kernel)
set_option maxRecDepth 100000 in
theorem in_X6_place : Cond.initialized mi_X6_place.1.cls ∈ pd_TB := pd_tb (i := 95) (by decide +kernel) (by decide +kernel)
theorem cb_X6_place : pd_CB mi_X6_place 0 := ⟨hd_X6_place, in_X6_place, by decide +kernel, by decide +kernel, by decide, rfl⟩
set_option maxRecDepth 100000 in
theorem im_X6_place : Cond.instanceMethod mi_X6_place.1 ∈ pd_TB := pd_tb (i := 711) (by decide +kernel) (by decide +kernel)
set_option maxRecDepth 100000 in
theorem se_X6_place : Cond.selects mi_X6_place.1.cls mi_X6_place.1 mi_X6_place.1 ∈ pd_TB := pd_tb (i := 20) (by decide +kernel) (by decide +kernel)
set_option maxRecDepth 100000 in
theorem mlX6_62 : Cond.methodLink RX6 62 mi_X6_place.1 ∈ pd_TB := pd_tb (i := 709) (by decide +kernel) (by decide +kernel)
theorem cvX6_62 : pd_CV RX6 62 mi_X6_place 0 5 := ⟨cb_X6_place, mlX6_62, im_X6_place, se_X6_place, _, rfl, rfl, by decide⟩
set_option maxRecDepth 100000 in
theorem hd_X6_refuse : pd_hd mi_X6_refuse ∈ pd_TB := pd_tb (i := 716) (by rfl) (by decide +kernel)
set_option maxRecDepth 100000 in
theorem in_X6_refuse : Cond.initialized mi_X6_refuse.1.cls ∈ pd_TB := pd_tb (i := 95) (by decide +kernel) (by decide +kernel)
theorem cb_X6_refuse : pd_CB mi_X6_refuse 2 := ⟨hd_X6_refuse, in_X6_refuse, by decide +kernel, by decide +kernel, by decide, rfl⟩
set_option maxRecDepth 100000 in
theorem im_X6_refuse : Cond.instanceMethod mi_X6_refuse.1 ∈ pd_TB := pd_tb (i := 715) (by decide +kernel) (by decide +kernel)
set_option maxRecDepth 100000 in
theorem se_X6_refuse : Cond.selects mi_X6_refuse.1.cls mi_X6_refuse.1 mi_X6_refuse.1 ∈ pd_TB := pd_tb (i := 21) (by decide +kernel) (by decide +kernel)
set_option maxRecDepth 100000 in
theorem mlX6_65 : Cond.methodLink RX6 65 mi_X6_refuse.1 ∈ pd_TB := pd_tb (i := 713) (by decide +kernel) (by decide +kernel)
theorem cvX6_65 : pd_CV RX6 65 mi_X6_refuse 2 5 := ⟨cb_X6_refuse, mlX6_65, im_X6_refuse, se_X6_refuse, _, rfl, rfl, by decide⟩
set_option maxRecDepth 100000 in
theorem hd_X6_advance : pd_hd mi_X6_advance ∈ pd_TB := pd_tb (i := 720) (by rfl) (by decide +kernel)
set_option maxRecDepth 100000 in
theorem in_X6_advance : Cond.initialized mi_X6_advance.1.cls ∈ pd_TB := pd_tb (i := 95) (by decide +kernel) (by decide +kernel)
theorem cb_X6_advance : pd_CB mi_X6_advance 0 := ⟨hd_X6_advance, in_X6_advance, by decide +kernel, by decide +kernel, by decide, rfl⟩
set_option maxRecDepth 100000 in
theorem im_X6_advance : Cond.instanceMethod mi_X6_advance.1 ∈ pd_TB := pd_tb (i := 719) (by decide +kernel) (by decide +kernel)
set_option maxRecDepth 100000 in
theorem se_X6_advance : Cond.selects mi_X6_advance.1.cls mi_X6_advance.1 mi_X6_advance.1 ∈ pd_TB := pd_tb (i := 22) (by decide +kernel) (by decide +kernel)
set_option maxRecDepth 100000 in
theorem mlX6_89 : Cond.methodLink RX6 89 mi_X6_advance.1 ∈ pd_TB := pd_tb (i := 717) (by decide +kernel) (by decide +kernel)
theorem cvX6_89 : pd_CV RX6 89 mi_X6_advance 0 5 := ⟨cb_X6_advance, mlX6_89, im_X6_advance, se_X6_advance, _, rfl, rfl, by decide⟩
set_option maxRecDepth 100000 in
theorem hd_X6_takeName : pd_hd mi_X6_takeName ∈ pd_TB := pd_tb (i := 724) (by rfl) (by decide +kernel)
set_option maxRecDepth 100000 in
theorem in_X6_takeName : Cond.initialized mi_X6_takeName.1.cls ∈ pd_TB := pd_tb (i := 95) (by decide +kernel) (by decide +kernel)
theorem cb_X6_takeName : pd_CB mi_X6_takeName 0 := ⟨hd_X6_takeName, in_X6_takeName, by decide +kernel, by decide +kernel, by decide, rfl⟩
set_option maxRecDepth 100000 in
theorem im_X6_takeName : Cond.instanceMethod mi_X6_takeName.1 ∈ pd_TB := pd_tb (i := 723) (by decide +kernel) (by decide +kernel)
set_option maxRecDepth 100000 in
theorem se_X6_takeName : Cond.selects mi_X6_takeName.1.cls mi_X6_takeName.1 mi_X6_takeName.1 ∈ pd_TB := pd_tb (i := 23) (by decide +kernel) (by decide +kernel)
set_option maxRecDepth 100000 in
theorem mlX6_92 : Cond.methodLink RX6 92 mi_X6_takeName.1 ∈ pd_TB := pd_tb (i := 721) (by decide +kernel) (by decide +kernel)
theorem cvX6_92 : pd_CV RX6 92 mi_X6_takeName 0 5 := ⟨cb_X6_takeName, mlX6_92, im_X6_takeName, se_X6_takeName, _, rfl, rfl, by decide⟩
set_option maxRecDepth 100000 in
theorem hd_X6_takeNumber : pd_hd mi_X6_takeNumber ∈ pd_TB := pd_tb (i := 728) (by rfl) (by decide +kernel)
set_option maxRecDepth 100000 in
theorem in_X6_takeNumber : Cond.initialized mi_X6_takeNumber.1.cls ∈ pd_TB := pd_tb (i := 95) (by decide +kernel) (by decide +kernel)
theorem cb_X6_takeNumber : pd_CB mi_X6_takeNumber 2 := ⟨hd_X6_takeNumber, in_X6_takeNumber, by decide +kernel, by decide +kernel, by decide, rfl⟩
set_option maxRecDepth 100000 in
theorem im_X6_takeNumber : Cond.instanceMethod mi_X6_takeNumber.1 ∈ pd_TB := pd_tb (i := 727) (by decide +kernel) (by decide +kernel)
set_option maxRecDepth 100000 in
theorem se_X6_takeNumber : Cond.selects mi_X6_takeNumber.1.cls mi_X6_takeNumber.1 mi_X6_takeNumber.1 ∈ pd_TB := pd_tb (i := 24) (by decide +kernel) (by decide +kernel)
set_option maxRecDepth 100000 in
theorem mlX6_95 : Cond.methodLink RX6 95 mi_X6_takeNumber.1 ∈ pd_TB := pd_tb (i := 725) (by decide +kernel) (by decide +kernel)
theorem cvX6_95 : pd_CV RX6 95 mi_X6_takeNumber 2 5 := ⟨cb_X6_takeNumber, mlX6_95, im_X6_takeNumber, se_X6_takeNumber, _, rfl, rfl, by decide⟩
set_option maxRecDepth 100000 in
theorem mlX6_99 : Cond.methodLink RX6 99 mi_X3_voterWith.1 ∈ pd_TB := pd_tb (i := 729) (by decide +kernel) (by decide +kernel)
theorem cvX6_99 : pd_CV RX6 99 mi_X3_voterWith 2 2 := ⟨cb_X3_voterWith, mlX6_99, im_X3_voterWith, se_X3_voterWith, _, rfl, rfl, by decide⟩
set_option maxRecDepth 100000 in
theorem hd_X3_addVoter : pd_hd mi_X3_addVoter ∈ pd_TB := pd_tb (i := 733) (by rfl) (by decide +kernel)
set_option maxRecDepth 100000 in
theorem in_X3_addVoter : Cond.initialized mi_X3_addVoter.1.cls ∈ pd_TB := pd_tb (i := 98) (by decide +kernel) (by decide +kernel)
theorem cb_X3_addVoter : pd_CB mi_X3_addVoter 3 := ⟨hd_X3_addVoter, in_X3_addVoter, by decide +kernel, by decide +kernel, by decide, rfl⟩
set_option maxRecDepth 100000 in
theorem im_X3_addVoter : Cond.instanceMethod mi_X3_addVoter.1 ∈ pd_TB := pd_tb (i := 731) (by decide +kernel) (by decide +kernel)
set_option maxRecDepth 100000 in
theorem se_X3_addVoter : Cond.selects mi_X3_addVoter.1.cls mi_X3_addVoter.1 mi_X3_addVoter.1 ∈ pd_TB := pd_tb (i := 732) (by decide +kernel) (by decide +kernel)
set_option maxRecDepth 100000 in
theorem mlX6_102 : Cond.methodLink RX6 102 mi_X3_addVoter.1 ∈ pd_TB := pd_tb (i := 730) (by decide +kernel) (by decide +kernel)
theorem cvX6_102 : pd_CV RX6 102 mi_X3_addVoter 3 2 := ⟨cb_X3_addVoter, mlX6_102, im_X3_addVoter, se_X3_addVoter, _, rfl, rfl, by decide⟩
set_option maxRecDepth 100000 in
theorem hd_X6_readSheet : pd_hd mi_X6_readSheet ∈ pd_TB := pd_tb (i := 737) (by rfl) (by decide +kernel)
set_option maxRecDepth 100000 in
theorem in_X6_readSheet : Cond.initialized mi_X6_readSheet.1.cls ∈ pd_TB := pd_tb (i := 95) (by decide +kernel) (by decide +kernel)
theorem cb_X6_readSheet : pd_CB mi_X6_readSheet 0 := ⟨hd_X6_readSheet, in_X6_readSheet, by decide +kernel, by decide +kernel, by decide, rfl⟩
set_option maxRecDepth 100000 in
theorem im_X6_readSheet : Cond.instanceMethod mi_X6_readSheet.1 ∈ pd_TB := pd_tb (i := 736) (by decide +kernel) (by decide +kernel)
set_option maxRecDepth 100000 in
theorem se_X6_readSheet : Cond.selects mi_X6_readSheet.1.cls mi_X6_readSheet.1 mi_X6_readSheet.1 ∈ pd_TB := pd_tb (i := 25) (by decide +kernel) (by decide +kernel)
set_option maxRecDepth 100000 in
theorem mlX6_37 : Cond.methodLink RX6 37 mi_X6_readSheet.1 ∈ pd_TB := pd_tb (i := 734) (by decide +kernel) (by decide +kernel)
theorem cvX6_37 : pd_CV RX6 37 mi_X6_readSheet 0 5 := ⟨cb_X6_readSheet, mlX6_37, im_X6_readSheet, se_X6_readSheet, _, rfl, rfl, by decide⟩
set_option maxRecDepth 100000 in
theorem hd_X6_readSigned : pd_hd mi_X6_readSigned ∈ pd_TB := pd_tb (i := 741) (by rfl) (by decide +kernel)
set_option maxRecDepth 100000 in
theorem in_X6_readSigned : Cond.initialized mi_X6_readSigned.1.cls ∈ pd_TB := pd_tb (i := 95) (by decide +kernel) (by decide +kernel)
theorem cb_X6_readSigned : pd_CB mi_X6_readSigned 0 := ⟨hd_X6_readSigned, in_X6_readSigned, by decide +kernel, by decide +kernel, by decide, rfl⟩
set_option maxRecDepth 100000 in
theorem im_X6_readSigned : Cond.instanceMethod mi_X6_readSigned.1 ∈ pd_TB := pd_tb (i := 740) (by decide +kernel) (by decide +kernel)
set_option maxRecDepth 100000 in
theorem se_X6_readSigned : Cond.selects mi_X6_readSigned.1.cls mi_X6_readSigned.1 mi_X6_readSigned.1 ∈ pd_TB := pd_tb (i := 26) (by decide +kernel) (by decide +kernel)
set_option maxRecDepth 100000 in
theorem mlX6_40 : Cond.methodLink RX6 40 mi_X6_readSigned.1 ∈ pd_TB := pd_tb (i := 738) (by decide +kernel) (by decide +kernel)
theorem cvX6_40 : pd_CV RX6 40 mi_X6_readSigned 0 5 := ⟨cb_X6_readSigned, mlX6_40, im_X6_readSigned, se_X6_readSigned, _, rfl, rfl, by decide⟩
set_option maxRecDepth 100000 in
theorem hd_X3_addLine : pd_hd mi_X3_addLine ∈ pd_TB := pd_tb (i := 745) (by rfl) (by decide +kernel)
set_option maxRecDepth 100000 in
theorem in_X3_addLine : Cond.initialized mi_X3_addLine.1.cls ∈ pd_TB := pd_tb (i := 98) (by decide +kernel) (by decide +kernel)
theorem cb_X3_addLine : pd_CB mi_X3_addLine 4 := ⟨hd_X3_addLine, in_X3_addLine, by decide +kernel, by decide +kernel, by decide, rfl⟩
set_option maxRecDepth 100000 in
theorem im_X3_addLine : Cond.instanceMethod mi_X3_addLine.1 ∈ pd_TB := pd_tb (i := 743) (by decide +kernel) (by decide +kernel)
set_option maxRecDepth 100000 in
theorem se_X3_addLine : Cond.selects mi_X3_addLine.1.cls mi_X3_addLine.1 mi_X3_addLine.1 ∈ pd_TB := pd_tb (i := 744) (by decide +kernel) (by decide +kernel)
set_option maxRecDepth 100000 in
theorem mlX6_112 : Cond.methodLink RX6 112 mi_X3_addLine.1 ∈ pd_TB := pd_tb (i := 742) (by decide +kernel) (by decide +kernel)
theorem cvX6_112 : pd_CV RX6 112 mi_X3_addLine 4 2 := ⟨cb_X3_addLine, mlX6_112, im_X3_addLine, se_X3_addLine, _, rfl, rfl, by decide⟩
set_option maxRecDepth 100000 in
theorem hd_X3_firstOf : pd_hd mi_X3_firstOf ∈ pd_TB := pd_tb (i := 749) (by rfl) (by decide +kernel)
set_option maxRecDepth 100000 in
theorem in_X3_firstOf : Cond.initialized mi_X3_firstOf.1.cls ∈ pd_TB := pd_tb (i := 98) (by decide +kernel) (by decide +kernel)
theorem cb_X3_firstOf : pd_CB mi_X3_firstOf 1 := ⟨hd_X3_firstOf, in_X3_firstOf, by decide +kernel, by decide +kernel, by decide, rfl⟩
set_option maxRecDepth 100000 in
theorem im_X3_firstOf : Cond.instanceMethod mi_X3_firstOf.1 ∈ pd_TB := pd_tb (i := 747) (by decide +kernel) (by decide +kernel)
set_option maxRecDepth 100000 in
theorem se_X3_firstOf : Cond.selects mi_X3_firstOf.1.cls mi_X3_firstOf.1 mi_X3_firstOf.1 ∈ pd_TB := pd_tb (i := 748) (by decide +kernel) (by decide +kernel)
set_option maxRecDepth 100000 in
theorem mlX3_91 : Cond.methodLink RX3 91 mi_X3_firstOf.1 ∈ pd_TB := pd_tb (i := 746) (by decide +kernel) (by decide +kernel)
theorem cvX3_91 : pd_CV RX3 91 mi_X3_firstOf 1 2 := ⟨cb_X3_firstOf, mlX3_91, im_X3_firstOf, se_X3_firstOf, _, rfl, rfl, by decide⟩
set_option maxRecDepth 100000 in
theorem hd_X3_moveLines : pd_hd mi_X3_moveLines ∈ pd_TB := pd_tb (i := 753) (by rfl) (by decide +kernel)
set_option maxRecDepth 100000 in
theorem in_X3_moveLines : Cond.initialized mi_X3_moveLines.1.cls ∈ pd_TB := pd_tb (i := 98) (by decide +kernel) (by decide +kernel)
theorem cb_X3_moveLines : pd_CB mi_X3_moveLines 3 := ⟨hd_X3_moveLines, in_X3_moveLines, by decide +kernel, by decide +kernel, by decide, rfl⟩
set_option maxRecDepth 100000 in
theorem im_X3_moveLines : Cond.instanceMethod mi_X3_moveLines.1 ∈ pd_TB := pd_tb (i := 752) (by decide +kernel) (by decide +kernel)
set_option maxRecDepth 100000 in
theorem se_X3_moveLines : Cond.selects mi_X3_moveLines.1.cls mi_X3_moveLines.1 mi_X3_moveLines.1 ∈ pd_TB := pd_tb (i := 27) (by decide +kernel) (by decide +kernel)
set_option maxRecDepth 100000 in
theorem mlX3_95 : Cond.methodLink RX3 95 mi_X3_moveLines.1 ∈ pd_TB := pd_tb (i := 750) (by decide +kernel) (by decide +kernel)
theorem cvX3_95 : pd_CV RX3 95 mi_X3_moveLines 3 2 := ⟨cb_X3_moveLines, mlX3_95, im_X3_moveLines, se_X3_moveLines, _, rfl, rfl, by decide⟩
set_option maxRecDepth 100000 in
theorem mlX3_99 : Cond.methodLink RX3 99 mi_J9_max_7cf53.1 ∈ pd_TB := pd_tb (i := 754) (by decide +kernel) (by decide +kernel)
theorem csX3_99 : pd_CS RX3 99 mi_J9_max_7cf53 2 := ⟨cb_J9_max_7cf53, mlX3_99, st_J9_max_7cf53⟩
set_option maxRecDepth 100000 in
theorem hd_X6_readNeed : pd_hd mi_X6_readNeed ∈ pd_TB := pd_tb (i := 761) (by rfl) (by decide +kernel)
set_option maxRecDepth 100000 in
theorem in_X6_readNeed : Cond.initialized mi_X6_readNeed.1.cls ∈ pd_TB := pd_tb (i := 95) (by decide +kernel) (by decide +kernel)
theorem cb_X6_readNeed : pd_CB mi_X6_readNeed 0 := ⟨hd_X6_readNeed, in_X6_readNeed, by decide +kernel, by decide +kernel, by decide, rfl⟩
set_option maxRecDepth 100000 in
theorem im_X6_readNeed : Cond.instanceMethod mi_X6_readNeed.1 ∈ pd_TB := pd_tb (i := 760) (by decide +kernel) (by decide +kernel)
set_option maxRecDepth 100000 in
theorem se_X6_readNeed : Cond.selects mi_X6_readNeed.1.cls mi_X6_readNeed.1 mi_X6_readNeed.1 ∈ pd_TB := pd_tb (i := 28) (by decide +kernel) (by decide +kernel)
set_option maxRecDepth 100000 in
theorem mlX6_43 : Cond.methodLink RX6 43 mi_X6_readNeed.1 ∈ pd_TB := pd_tb (i := 758) (by decide +kernel) (by decide +kernel)
theorem cvX6_43 : pd_CV RX6 43 mi_X6_readNeed 0 5 := ⟨cb_X6_readNeed, mlX6_43, im_X6_readNeed, se_X6_readNeed, _, rfl, rfl, by decide⟩
set_option maxRecDepth 100000 in
theorem hd_X6_takeOnce : pd_hd mi_X6_takeOnce ∈ pd_TB := pd_tb (i := 765) (by rfl) (by decide +kernel)
set_option maxRecDepth 100000 in
theorem in_X6_takeOnce : Cond.initialized mi_X6_takeOnce.1.cls ∈ pd_TB := pd_tb (i := 95) (by decide +kernel) (by decide +kernel)
theorem cb_X6_takeOnce : pd_CB mi_X6_takeOnce 0 := ⟨hd_X6_takeOnce, in_X6_takeOnce, by decide +kernel, by decide +kernel, by decide, rfl⟩
set_option maxRecDepth 100000 in
theorem im_X6_takeOnce : Cond.instanceMethod mi_X6_takeOnce.1 ∈ pd_TB := pd_tb (i := 764) (by decide +kernel) (by decide +kernel)
set_option maxRecDepth 100000 in
theorem se_X6_takeOnce : Cond.selects mi_X6_takeOnce.1.cls mi_X6_takeOnce.1 mi_X6_takeOnce.1 ∈ pd_TB := pd_tb (i := 29) (by decide +kernel) (by decide +kernel)
set_option maxRecDepth 100000 in
theorem mlX6_55 : Cond.methodLink RX6 55 mi_X6_takeOnce.1 ∈ pd_TB := pd_tb (i := 762) (by decide +kernel) (by decide +kernel)
theorem cvX6_55 : pd_CV RX6 55 mi_X6_takeOnce 0 5 := ⟨cb_X6_takeOnce, mlX6_55, im_X6_takeOnce, se_X6_takeOnce, _, rfl, rfl, by decide⟩
set_option maxRecDepth 100000 in
theorem hd_X6_readSpan : pd_hd mi_X6_readSpan ∈ pd_TB := pd_tb (i := 769) (by rfl) (by decide +kernel)
set_option maxRecDepth 100000 in
theorem in_X6_readSpan : Cond.initialized mi_X6_readSpan.1.cls ∈ pd_TB := pd_tb (i := 95) (by decide +kernel) (by decide +kernel)
theorem cb_X6_readSpan : pd_CB mi_X6_readSpan 0 := ⟨hd_X6_readSpan, in_X6_readSpan, by decide +kernel, by decide +kernel, by decide, rfl⟩
set_option maxRecDepth 100000 in
theorem im_X6_readSpan : Cond.instanceMethod mi_X6_readSpan.1 ∈ pd_TB := pd_tb (i := 768) (by decide +kernel) (by decide +kernel)
set_option maxRecDepth 100000 in
theorem se_X6_readSpan : Cond.selects mi_X6_readSpan.1.cls mi_X6_readSpan.1 mi_X6_readSpan.1 ∈ pd_TB := pd_tb (i := 30) (by decide +kernel) (by decide +kernel)
set_option maxRecDepth 100000 in
theorem mlX6_46 : Cond.methodLink RX6 46 mi_X6_readSpan.1 ∈ pd_TB := pd_tb (i := 766) (by decide +kernel) (by decide +kernel)
theorem cvX6_46 : pd_CV RX6 46 mi_X6_readSpan 0 5 := ⟨cb_X6_readSpan, mlX6_46, im_X6_readSpan, se_X6_readSpan, _, rfl, rfl, by decide⟩
set_option maxRecDepth 100000 in
theorem hd_X6_readSpoilt : pd_hd mi_X6_readSpoilt ∈ pd_TB := pd_tb (i := 773) (by rfl) (by decide +kernel)
set_option maxRecDepth 100000 in
theorem in_X6_readSpoilt : Cond.initialized mi_X6_readSpoilt.1.cls ∈ pd_TB := pd_tb (i := 95) (by decide +kernel) (by decide +kernel)
theorem cb_X6_readSpoilt : pd_CB mi_X6_readSpoilt 0 := ⟨hd_X6_readSpoilt, in_X6_readSpoilt, by decide +kernel, by decide +kernel, by decide, rfl⟩
set_option maxRecDepth 100000 in
theorem im_X6_readSpoilt : Cond.instanceMethod mi_X6_readSpoilt.1 ∈ pd_TB := pd_tb (i := 772) (by decide +kernel) (by decide +kernel)
set_option maxRecDepth 100000 in
theorem se_X6_readSpoilt : Cond.selects mi_X6_readSpoilt.1.cls mi_X6_readSpoilt.1 mi_X6_readSpoilt.1 ∈ pd_TB := pd_tb (i := 31) (by decide +kernel) (by decide +kernel)
set_option maxRecDepth 100000 in
theorem mlX6_49 : Cond.methodLink RX6 49 mi_X6_readSpoilt.1 ∈ pd_TB := pd_tb (i := 770) (by decide +kernel) (by decide +kernel)
theorem cvX6_49 : pd_CV RX6 49 mi_X6_readSpoilt 0 5 := ⟨cb_X6_readSpoilt, mlX6_49, im_X6_readSpoilt, se_X6_readSpoilt, _, rfl, rfl, by decide⟩
set_option maxRecDepth 100000 in
theorem hd_X6_readAlpha : pd_hd mi_X6_readAlpha ∈ pd_TB := pd_tb (i := 777) (by rfl) (by decide +kernel)
set_option maxRecDepth 100000 in
theorem in_X6_readAlpha : Cond.initialized mi_X6_readAlpha.1.cls ∈ pd_TB := pd_tb (i := 95) (by decide +kernel) (by decide +kernel)
theorem cb_X6_readAlpha : pd_CB mi_X6_readAlpha 0 := ⟨hd_X6_readAlpha, in_X6_readAlpha, by decide +kernel, by decide +kernel, by decide, rfl⟩
set_option maxRecDepth 100000 in
theorem im_X6_readAlpha : Cond.instanceMethod mi_X6_readAlpha.1 ∈ pd_TB := pd_tb (i := 776) (by decide +kernel) (by decide +kernel)
set_option maxRecDepth 100000 in
theorem se_X6_readAlpha : Cond.selects mi_X6_readAlpha.1.cls mi_X6_readAlpha.1 mi_X6_readAlpha.1 ∈ pd_TB := pd_tb (i := 32) (by decide +kernel) (by decide +kernel)
set_option maxRecDepth 100000 in
theorem mlX6_52 : Cond.methodLink RX6 52 mi_X6_readAlpha.1 ∈ pd_TB := pd_tb (i := 774) (by decide +kernel) (by decide +kernel)
theorem cvX6_52 : pd_CV RX6 52 mi_X6_readAlpha 0 5 := ⟨cb_X6_readAlpha, mlX6_52, im_X6_readAlpha, se_X6_readAlpha, _, rfl, rfl, by decide⟩
set_option maxRecDepth 100000 in
theorem hd_X6_readChoice : pd_hd mi_X6_readChoice ∈ pd_TB := pd_tb (i := 781) (by rfl) (by decide +kernel)
set_option maxRecDepth 100000 in
theorem in_X6_readChoice : Cond.initialized mi_X6_readChoice.1.cls ∈ pd_TB := pd_tb (i := 95) (by decide +kernel) (by decide +kernel)
theorem cb_X6_readChoice : pd_CB mi_X6_readChoice 1 := ⟨hd_X6_readChoice, in_X6_readChoice, by decide +kernel, by decide +kernel, by decide, rfl⟩
set_option maxRecDepth 100000 in
theorem im_X6_readChoice : Cond.instanceMethod mi_X6_readChoice.1 ∈ pd_TB := pd_tb (i := 780) (by decide +kernel) (by decide +kernel)
set_option maxRecDepth 100000 in
theorem se_X6_readChoice : Cond.selects mi_X6_readChoice.1.cls mi_X6_readChoice.1 mi_X6_readChoice.1 ∈ pd_TB := pd_tb (i := 33) (by decide +kernel) (by decide +kernel)
set_option maxRecDepth 100000 in
theorem mlX6_58 : Cond.methodLink RX6 58 mi_X6_readChoice.1 ∈ pd_TB := pd_tb (i := 778) (by decide +kernel) (by decide +kernel)
theorem cvX6_58 : pd_CV RX6 58 mi_X6_readChoice 1 5 := ⟨cb_X6_readChoice, mlX6_58, im_X6_readChoice, se_X6_readChoice, _, rfl, rfl, by decide⟩
set_option maxRecDepth 100000 in
theorem hd_X6_readChain : pd_hd mi_X6_readChain ∈ pd_TB := pd_tb (i := 785) (by rfl) (by decide +kernel)
set_option maxRecDepth 100000 in
theorem in_X6_readChain : Cond.initialized mi_X6_readChain.1.cls ∈ pd_TB := pd_tb (i := 95) (by decide +kernel) (by decide +kernel)
theorem cb_X6_readChain : pd_CB mi_X6_readChain 1 := ⟨hd_X6_readChain, in_X6_readChain, by decide +kernel, by decide +kernel, by decide, rfl⟩
set_option maxRecDepth 100000 in
theorem im_X6_readChain : Cond.instanceMethod mi_X6_readChain.1 ∈ pd_TB := pd_tb (i := 784) (by decide +kernel) (by decide +kernel)
set_option maxRecDepth 100000 in
theorem se_X6_readChain : Cond.selects mi_X6_readChain.1.cls mi_X6_readChain.1 mi_X6_readChain.1 ∈ pd_TB := pd_tb (i := 34) (by decide +kernel) (by decide +kernel)
set_option maxRecDepth 100000 in
theorem mlX6_131 : Cond.methodLink RX6 131 mi_X6_readChain.1 ∈ pd_TB := pd_tb (i := 782) (by decide +kernel) (by decide +kernel)
theorem cvX6_131 : pd_CV RX6 131 mi_X6_readChain 1 5 := ⟨cb_X6_readChain, mlX6_131, im_X6_readChain, se_X6_readChain, _, rfl, rfl, by decide⟩
set_option maxRecDepth 100000 in
theorem hd_X6_readPart : pd_hd mi_X6_readPart ∈ pd_TB := pd_tb (i := 789) (by rfl) (by decide +kernel)
set_option maxRecDepth 100000 in
theorem in_X6_readPart : Cond.initialized mi_X6_readPart.1.cls ∈ pd_TB := pd_tb (i := 95) (by decide +kernel) (by decide +kernel)
theorem cb_X6_readPart : pd_CB mi_X6_readPart 1 := ⟨hd_X6_readPart, in_X6_readPart, by decide +kernel, by decide +kernel, by decide, rfl⟩
set_option maxRecDepth 100000 in
theorem im_X6_readPart : Cond.instanceMethod mi_X6_readPart.1 ∈ pd_TB := pd_tb (i := 788) (by decide +kernel) (by decide +kernel)
set_option maxRecDepth 100000 in
theorem se_X6_readPart : Cond.selects mi_X6_readPart.1.cls mi_X6_readPart.1 mi_X6_readPart.1 ∈ pd_TB := pd_tb (i := 35) (by decide +kernel) (by decide +kernel)
set_option maxRecDepth 100000 in
theorem mlX6_143 : Cond.methodLink RX6 143 mi_X6_readPart.1 ∈ pd_TB := pd_tb (i := 786) (by decide +kernel) (by decide +kernel)
theorem cvX6_143 : pd_CV RX6 143 mi_X6_readPart 1 5 := ⟨cb_X6_readPart, mlX6_143, im_X6_readPart, se_X6_readPart, _, rfl, rfl, by decide⟩
set_option maxRecDepth 100000 in
theorem hd_X6_readComparison : pd_hd mi_X6_readComparison ∈ pd_TB := pd_tb (i := 793) (by rfl) (by decide +kernel)
set_option maxRecDepth 100000 in
theorem in_X6_readComparison : Cond.initialized mi_X6_readComparison.1.cls ∈ pd_TB := pd_tb (i := 95) (by decide +kernel) (by decide +kernel)
theorem cb_X6_readComparison : pd_CB mi_X6_readComparison 0 := ⟨hd_X6_readComparison, in_X6_readComparison, by decide +kernel, by decide +kernel, by decide, rfl⟩
set_option maxRecDepth 100000 in
theorem im_X6_readComparison : Cond.instanceMethod mi_X6_readComparison.1 ∈ pd_TB := pd_tb (i := 792) (by decide +kernel) (by decide +kernel)
set_option maxRecDepth 100000 in
theorem se_X6_readComparison : Cond.selects mi_X6_readComparison.1.cls mi_X6_readComparison.1 mi_X6_readComparison.1 ∈ pd_TB := pd_tb (i := 36) (by decide +kernel) (by decide +kernel)
set_option maxRecDepth 100000 in
theorem mlX6_146 : Cond.methodLink RX6 146 mi_X6_readComparison.1 ∈ pd_TB := pd_tb (i := 790) (by decide +kernel) (by decide +kernel)
theorem cvX6_146 : pd_CV RX6 146 mi_X6_readComparison 0 5 := ⟨cb_X6_readComparison, mlX6_146, im_X6_readComparison, se_X6_readComparison, _, rfl, rfl, by decide⟩
set_option maxRecDepth 100000 in
theorem hd_X6_takeOperand : pd_hd mi_X6_takeOperand ∈ pd_TB := pd_tb (i := 797) (by rfl) (by decide +kernel)
set_option maxRecDepth 100000 in
theorem in_X6_takeOperand : Cond.initialized mi_X6_takeOperand.1.cls ∈ pd_TB := pd_tb (i := 95) (by decide +kernel) (by decide +kernel)
theorem cb_X6_takeOperand : pd_CB mi_X6_takeOperand 0 := ⟨hd_X6_takeOperand, in_X6_takeOperand, by decide +kernel, by decide +kernel, by decide, rfl⟩
set_option maxRecDepth 100000 in
theorem im_X6_takeOperand : Cond.instanceMethod mi_X6_takeOperand.1 ∈ pd_TB := pd_tb (i := 796) (by decide +kernel) (by decide +kernel)
set_option maxRecDepth 100000 in
theorem se_X6_takeOperand : Cond.selects mi_X6_takeOperand.1.cls mi_X6_takeOperand.1 mi_X6_takeOperand.1 ∈ pd_TB := pd_tb (i := 37) (by decide +kernel) (by decide +kernel)
set_option maxRecDepth 100000 in
theorem mlX6_149 : Cond.methodLink RX6 149 mi_X6_takeOperand.1 ∈ pd_TB := pd_tb (i := 794) (by decide +kernel) (by decide +kernel)
theorem cvX6_149 : pd_CV RX6 149 mi_X6_takeOperand 0 5 := ⟨cb_X6_takeOperand, mlX6_149, im_X6_takeOperand, se_X6_takeOperand, _, rfl, rfl, by decide⟩
set_option maxRecDepth 100000 in
theorem hd_X6_factOf : pd_hd mi_X6_factOf ∈ pd_TB := pd_tb (i := 800) (by rfl) (by decide +kernel)
set_option maxRecDepth 100000 in
theorem in_X6_factOf : Cond.initialized mi_X6_factOf.1.cls ∈ pd_TB := pd_tb (i := 95) (by decide +kernel) (by decide +kernel)
theorem cb_X6_factOf : pd_CB mi_X6_factOf 1 := ⟨hd_X6_factOf, in_X6_factOf, by decide +kernel, by decide +kernel, by decide, rfl⟩
set_option maxRecDepth 100000 in
theorem st_X6_factOf : Cond.static mi_X6_factOf.1 ∈ pd_TB := pd_tb (i := 799) (by decide +kernel) (by decide +kernel)
set_option maxRecDepth 100000 in
theorem mlX6_159 : Cond.methodLink RX6 159 mi_X6_factOf.1 ∈ pd_TB := pd_tb (i := 798) (by decide +kernel) (by decide +kernel)
theorem csX6_159 : pd_CS RX6 159 mi_X6_factOf 1 := ⟨cb_X6_factOf, mlX6_159, st_X6_factOf⟩
set_option maxRecDepth 100000 in
theorem hd_X4_addComparison : pd_hd mi_X4_addComparison ∈ pd_TB := pd_tb (i := 804) (by rfl) (by decide +kernel)
set_option maxRecDepth 100000 in
theorem in_X4_addComparison : Cond.initialized mi_X4_addComparison.1.cls ∈ pd_TB := pd_tb (i := 99) (by decide +kernel) (by decide +kernel)
theorem cb_X4_addComparison : pd_CB mi_X4_addComparison 3 := ⟨hd_X4_addComparison, in_X4_addComparison, by decide +kernel, by decide +kernel, by decide, rfl⟩
set_option maxRecDepth 100000 in
theorem im_X4_addComparison : Cond.instanceMethod mi_X4_addComparison.1 ∈ pd_TB := pd_tb (i := 802) (by decide +kernel) (by decide +kernel)
set_option maxRecDepth 100000 in
theorem se_X4_addComparison : Cond.selects mi_X4_addComparison.1.cls mi_X4_addComparison.1 mi_X4_addComparison.1 ∈ pd_TB := pd_tb (i := 803) (by decide +kernel) (by decide +kernel)
set_option maxRecDepth 100000 in
theorem mlX6_152 : Cond.methodLink RX6 152 mi_X4_addComparison.1 ∈ pd_TB := pd_tb (i := 801) (by decide +kernel) (by decide +kernel)
theorem cvX6_152 : pd_CV RX6 152 mi_X4_addComparison 3 3 := ⟨cb_X4_addComparison, mlX6_152, im_X4_addComparison, se_X4_addComparison, _, rfl, rfl, by decide⟩
set_option maxRecDepth 100000 in
theorem hd_X4_add : pd_hd mi_X4_add ∈ pd_TB := pd_tb (i := 808) (by rfl) (by decide +kernel)
set_option maxRecDepth 100000 in
theorem in_X4_add : Cond.initialized mi_X4_add.1.cls ∈ pd_TB := pd_tb (i := 99) (by decide +kernel) (by decide +kernel)
theorem cb_X4_add : pd_CB mi_X4_add 1 := ⟨hd_X4_add, in_X4_add, by decide +kernel, by decide +kernel, by decide, rfl⟩
set_option maxRecDepth 100000 in
theorem im_X4_add : Cond.instanceMethod mi_X4_add.1 ∈ pd_TB := pd_tb (i := 806) (by decide +kernel) (by decide +kernel)
set_option maxRecDepth 100000 in
theorem se_X4_add : Cond.selects mi_X4_add.1.cls mi_X4_add.1 mi_X4_add.1 ∈ pd_TB := pd_tb (i := 807) (by decide +kernel) (by decide +kernel)
set_option maxRecDepth 100000 in
theorem mlX4_19 : Cond.methodLink RX4 19 mi_X4_add.1 ∈ pd_TB := pd_tb (i := 805) (by decide +kernel) (by decide +kernel)
theorem cvX4_19 : pd_CV RX4 19 mi_X4_add 1 3 := ⟨cb_X4_add, mlX4_19, im_X4_add, se_X4_add, _, rfl, rfl, by decide⟩
set_option maxRecDepth 100000 in
theorem hd_X6_takeSign : pd_hd mi_X6_takeSign ∈ pd_TB := pd_tb (i := 812) (by rfl) (by decide +kernel)
set_option maxRecDepth 100000 in
theorem in_X6_takeSign : Cond.initialized mi_X6_takeSign.1.cls ∈ pd_TB := pd_tb (i := 95) (by decide +kernel) (by decide +kernel)
theorem cb_X6_takeSign : pd_CB mi_X6_takeSign 1 := ⟨hd_X6_takeSign, in_X6_takeSign, by decide +kernel, by decide +kernel, by decide, rfl⟩
set_option maxRecDepth 100000 in
theorem im_X6_takeSign : Cond.instanceMethod mi_X6_takeSign.1 ∈ pd_TB := pd_tb (i := 811) (by decide +kernel) (by decide +kernel)
set_option maxRecDepth 100000 in
theorem se_X6_takeSign : Cond.selects mi_X6_takeSign.1.cls mi_X6_takeSign.1 mi_X6_takeSign.1 ∈ pd_TB := pd_tb (i := 38) (by decide +kernel) (by decide +kernel)
set_option maxRecDepth 100000 in
theorem mlX6_69 : Cond.methodLink RX6 69 mi_X6_takeSign.1 ∈ pd_TB := pd_tb (i := 809) (by decide +kernel) (by decide +kernel)
theorem cvX6_69 : pd_CV RX6 69 mi_X6_takeSign 1 5 := ⟨cb_X6_takeSign, mlX6_69, im_X6_takeSign, se_X6_takeSign, _, rfl, rfl, by decide⟩
set_option maxRecDepth 100000 in
theorem mlX6_140 : Cond.methodLink RX6 140 mi_X4_add.1 ∈ pd_TB := pd_tb (i := 813) (by decide +kernel) (by decide +kernel)
theorem cvX6_140 : pd_CV RX6 140 mi_X4_add 1 3 := ⟨cb_X4_add, mlX6_140, im_X4_add, se_X4_add, _, rfl, rfl, by decide⟩
set_option maxRecDepth 100000 in
theorem hd_X8_keepForUndo : pd_hd mi_X8_keepForUndo ∈ pd_TB := pd_tb (i := 817) (by rfl) (by decide +kernel)
set_option maxRecDepth 100000 in
theorem in_X8_keepForUndo : Cond.initialized mi_X8_keepForUndo.1.cls ∈ pd_TB := pd_tb (i := 94) (by decide +kernel) (by decide +kernel)
theorem cb_X8_keepForUndo : pd_CB mi_X8_keepForUndo 0 := ⟨hd_X8_keepForUndo, in_X8_keepForUndo, by decide +kernel, by decide +kernel, by decide, rfl⟩
set_option maxRecDepth 100000 in
theorem im_X8_keepForUndo : Cond.instanceMethod mi_X8_keepForUndo.1 ∈ pd_TB := pd_tb (i := 816) (by decide +kernel) (by decide +kernel)
set_option maxRecDepth 100000 in
theorem se_X8_keepForUndo : Cond.selects mi_X8_keepForUndo.1.cls mi_X8_keepForUndo.1 mi_X8_keepForUndo.1 ∈ pd_TB := pd_tb (i := 39) (by decide +kernel) (by decide +kernel)
set_option maxRecDepth 100000 in
theorem mlX8_85 : Cond.methodLink RX8 85 mi_X8_keepForUndo.1 ∈ pd_TB := pd_tb (i := 814) (by decide +kernel) (by decide +kernel)
theorem cvX8_85 : pd_CV RX8 85 mi_X8_keepForUndo 0 7 := ⟨cb_X8_keepForUndo, mlX8_85, im_X8_keepForUndo, se_X8_keepForUndo, _, rfl, rfl, by decide⟩
set_option maxRecDepth 100000 in
theorem hd_X3_copyFrom : pd_hd mi_X3_copyFrom ∈ pd_TB := pd_tb (i := 821) (by rfl) (by decide +kernel)
set_option maxRecDepth 100000 in
theorem in_X3_copyFrom : Cond.initialized mi_X3_copyFrom.1.cls ∈ pd_TB := pd_tb (i := 98) (by decide +kernel) (by decide +kernel)
theorem cb_X3_copyFrom : pd_CB mi_X3_copyFrom 1 := ⟨hd_X3_copyFrom, in_X3_copyFrom, by decide +kernel, by decide +kernel, by decide, rfl⟩
set_option maxRecDepth 100000 in
theorem im_X3_copyFrom : Cond.instanceMethod mi_X3_copyFrom.1 ∈ pd_TB := pd_tb (i := 819) (by decide +kernel) (by decide +kernel)
set_option maxRecDepth 100000 in
theorem se_X3_copyFrom : Cond.selects mi_X3_copyFrom.1.cls mi_X3_copyFrom.1 mi_X3_copyFrom.1 ∈ pd_TB := pd_tb (i := 820) (by decide +kernel) (by decide +kernel)
set_option maxRecDepth 100000 in
theorem mlX8_91 : Cond.methodLink RX8 91 mi_X3_copyFrom.1 ∈ pd_TB := pd_tb (i := 818) (by decide +kernel) (by decide +kernel)
theorem cvX8_91 : pd_CV RX8 91 mi_X3_copyFrom 1 2 := ⟨cb_X3_copyFrom, mlX8_91, im_X3_copyFrom, se_X3_copyFrom, _, rfl, rfl, by decide⟩
set_option maxRecDepth 100000 in
theorem hd_X4_copyFrom : pd_hd mi_X4_copyFrom ∈ pd_TB := pd_tb (i := 825) (by rfl) (by decide +kernel)
set_option maxRecDepth 100000 in
theorem in_X4_copyFrom : Cond.initialized mi_X4_copyFrom.1.cls ∈ pd_TB := pd_tb (i := 99) (by decide +kernel) (by decide +kernel)
theorem cb_X4_copyFrom : pd_CB mi_X4_copyFrom 1 := ⟨hd_X4_copyFrom, in_X4_copyFrom, by decide +kernel, by decide +kernel, by decide, rfl⟩
set_option maxRecDepth 100000 in
theorem im_X4_copyFrom : Cond.instanceMethod mi_X4_copyFrom.1 ∈ pd_TB := pd_tb (i := 823) (by decide +kernel) (by decide +kernel)
set_option maxRecDepth 100000 in
theorem se_X4_copyFrom : Cond.selects mi_X4_copyFrom.1.cls mi_X4_copyFrom.1 mi_X4_copyFrom.1 ∈ pd_TB := pd_tb (i := 824) (by decide +kernel) (by decide +kernel)
set_option maxRecDepth 100000 in
theorem mlX3_80 : Cond.methodLink RX3 80 mi_X4_copyFrom.1 ∈ pd_TB := pd_tb (i := 822) (by decide +kernel) (by decide +kernel)
theorem cvX3_80 : pd_CV RX3 80 mi_X4_copyFrom 1 3 := ⟨cb_X4_copyFrom, mlX3_80, im_X4_copyFrom, se_X4_copyFrom, _, rfl, rfl, by decide⟩
set_option maxRecDepth 100000 in
theorem hd_L_sample : pd_hd mi_L_sample ∈ pd_TB := pd_tb (i := 829) (by rfl) (by decide +kernel)
set_option maxRecDepth 100000 in
theorem in_L_sample : Cond.initialized mi_L_sample.1.cls ∈ pd_TB := pd_tb (i := 93) (by decide +kernel) (by decide +kernel)
set_option maxRecDepth 100000 in
theorem st_L_sample : Cond.static mi_L_sample.1 ∈ pd_TB := pd_tb (i := 828) (by decide +kernel) (by decide +kernel)
set_option maxRecDepth 100000 in
theorem mlL_94 : Cond.methodLink RL 94 mi_L_sample.1 ∈ pd_TB := pd_tb (i := 827) (by decide +kernel) (by decide +kernel)
set_option maxRecDepth 100000 in
theorem hd_X8_sample : pd_hd mi_X8_sample ∈ pd_TB := pd_tb (i := 833) (by rfl) (by decide +kernel)
set_option maxRecDepth 100000 in
theorem in_X8_sample : Cond.initialized mi_X8_sample.1.cls ∈ pd_TB := pd_tb (i := 94) (by decide +kernel) (by decide +kernel)
theorem cb_X8_sample : pd_CB mi_X8_sample 3 := ⟨hd_X8_sample, in_X8_sample, by decide +kernel, by decide +kernel, by decide, rfl⟩
set_option maxRecDepth 100000 in
theorem im_X8_sample : Cond.instanceMethod mi_X8_sample.1 ∈ pd_TB := pd_tb (i := 831) (by decide +kernel) (by decide +kernel)
set_option maxRecDepth 100000 in
theorem se_X8_sample : Cond.selects mi_X8_sample.1.cls mi_X8_sample.1 mi_X8_sample.1 ∈ pd_TB := pd_tb (i := 832) (by decide +kernel) (by decide +kernel)
set_option maxRecDepth 100000 in
theorem mlL_15 : Cond.methodLink RL 15 mi_X8_sample.1 ∈ pd_TB := pd_tb (i := 830) (by decide +kernel) (by decide +kernel)
theorem cvL_15 : pd_CV RL 15 mi_X8_sample 3 7 := ⟨cb_X8_sample, mlL_15, im_X8_sample, se_X8_sample, _, rfl, rfl, by decide⟩
set_option maxRecDepth 100000 in
theorem hd_X8_drawLines : pd_hd mi_X8_drawLines ∈ pd_TB := pd_tb (i := 837) (by rfl) (by decide +kernel)
set_option maxRecDepth 100000 in
theorem in_X8_drawLines : Cond.initialized mi_X8_drawLines.1.cls ∈ pd_TB := pd_tb (i := 94) (by decide +kernel) (by decide +kernel)
theorem cb_X8_drawLines : pd_CB mi_X8_drawLines 2 := ⟨hd_X8_drawLines, in_X8_drawLines, by decide +kernel, by decide +kernel, by decide, rfl⟩
set_option maxRecDepth 100000 in
theorem im_X8_drawLines : Cond.instanceMethod mi_X8_drawLines.1 ∈ pd_TB := pd_tb (i := 836) (by decide +kernel) (by decide +kernel)
set_option maxRecDepth 100000 in
theorem se_X8_drawLines : Cond.selects mi_X8_drawLines.1.cls mi_X8_drawLines.1 mi_X8_drawLines.1 ∈ pd_TB := pd_tb (i := 40) (by decide +kernel) (by decide +kernel)
set_option maxRecDepth 100000 in
theorem mlX8_101 : Cond.methodLink RX8 101 mi_X8_drawLines.1 ∈ pd_TB := pd_tb (i := 834) (by decide +kernel) (by decide +kernel)
theorem cvX8_101 : pd_CV RX8 101 mi_X8_drawLines 2 7 := ⟨cb_X8_drawLines, mlX8_101, im_X8_drawLines, se_X8_drawLines, _, rfl, rfl, by decide⟩
set_option maxRecDepth 100000 in
theorem hd_X8_indexOfUndrawn : pd_hd mi_X8_indexOfUndrawn ∈ pd_TB := pd_tb (i := 842) (by rfl) (by decide +kernel)
set_option maxRecDepth 100000 in
theorem in_X8_indexOfUndrawn : Cond.initialized mi_X8_indexOfUndrawn.1.cls ∈ pd_TB := pd_tb (i := 94) (by decide +kernel) (by decide +kernel)
theorem cb_X8_indexOfUndrawn : pd_CB mi_X8_indexOfUndrawn 2 := ⟨hd_X8_indexOfUndrawn, in_X8_indexOfUndrawn, by decide +kernel, by decide +kernel, by decide, rfl⟩
set_option maxRecDepth 100000 in
theorem im_X8_indexOfUndrawn : Cond.instanceMethod mi_X8_indexOfUndrawn.1 ∈ pd_TB := pd_tb (i := 841) (by decide +kernel) (by decide +kernel)
set_option maxRecDepth 100000 in
theorem se_X8_indexOfUndrawn : Cond.selects mi_X8_indexOfUndrawn.1.cls mi_X8_indexOfUndrawn.1 mi_X8_indexOfUndrawn.1 ∈ pd_TB := pd_tb (i := 41) (by decide +kernel) (by decide +kernel)
set_option maxRecDepth 100000 in
theorem mlX8_308 : Cond.methodLink RX8 308 mi_X8_indexOfUndrawn.1 ∈ pd_TB := pd_tb (i := 839) (by decide +kernel) (by decide +kernel)
theorem cvX8_308 : pd_CV RX8 308 mi_X8_indexOfUndrawn 2 7 := ⟨cb_X8_indexOfUndrawn, mlX8_308, im_X8_indexOfUndrawn, se_X8_indexOfUndrawn, _, rfl, rfl, by decide⟩
set_option maxRecDepth 100000 in
theorem hd_X1_goodIn : pd_hd mi_X1_goodIn ∈ pd_TB := pd_tb (i := 846) (by rfl) (by decide +kernel)
set_option maxRecDepth 100000 in
theorem in_X1_goodIn : Cond.initialized mi_X1_goodIn.1.cls ∈ pd_TB := pd_tb (i := 100) (by decide +kernel) (by decide +kernel)
theorem cb_X1_goodIn : pd_CB mi_X1_goodIn 1 := ⟨hd_X1_goodIn, in_X1_goodIn, by decide +kernel, by decide +kernel, by decide, rfl⟩
set_option maxRecDepth 100000 in
theorem im_X1_goodIn : Cond.instanceMethod mi_X1_goodIn.1 ∈ pd_TB := pd_tb (i := 844) (by decide +kernel) (by decide +kernel)
set_option maxRecDepth 100000 in
theorem se_X1_goodIn : Cond.selects mi_X1_goodIn.1.cls mi_X1_goodIn.1 mi_X1_goodIn.1 ∈ pd_TB := pd_tb (i := 845) (by decide +kernel) (by decide +kernel)
set_option maxRecDepth 100000 in
theorem mlX8_112 : Cond.methodLink RX8 112 mi_X1_goodIn.1 ∈ pd_TB := pd_tb (i := 843) (by decide +kernel) (by decide +kernel)
theorem cvX8_112 : pd_CV RX8 112 mi_X1_goodIn 1 1 := ⟨cb_X1_goodIn, mlX8_112, im_X1_goodIn, se_X1_goodIn, _, rfl, rfl, by decide⟩
set_option maxRecDepth 100000 in
theorem hd_X1_isGoodIn : pd_hd mi_X1_isGoodIn ∈ pd_TB := pd_tb (i := 850) (by rfl) (by decide +kernel)
set_option maxRecDepth 100000 in
theorem in_X1_isGoodIn : Cond.initialized mi_X1_isGoodIn.1.cls ∈ pd_TB := pd_tb (i := 100) (by decide +kernel) (by decide +kernel)
theorem cb_X1_isGoodIn : pd_CB mi_X1_isGoodIn 2 := ⟨hd_X1_isGoodIn, in_X1_isGoodIn, by decide +kernel, by decide +kernel, by decide, rfl⟩
set_option maxRecDepth 100000 in
theorem im_X1_isGoodIn : Cond.instanceMethod mi_X1_isGoodIn.1 ∈ pd_TB := pd_tb (i := 849) (by decide +kernel) (by decide +kernel)
set_option maxRecDepth 100000 in
theorem se_X1_isGoodIn : Cond.selects mi_X1_isGoodIn.1.cls mi_X1_isGoodIn.1 mi_X1_isGoodIn.1 ∈ pd_TB := pd_tb (i := 42) (by decide +kernel) (by decide +kernel)
set_option maxRecDepth 100000 in
theorem mlX1_122 : Cond.methodLink RX1 122 mi_X1_isGoodIn.1 ∈ pd_TB := pd_tb (i := 847) (by decide +kernel) (by decide +kernel)
theorem cvX1_122 : pd_CV RX1 122 mi_X1_isGoodIn 2 1 := ⟨cb_X1_isGoodIn, mlX1_122, im_X1_isGoodIn, se_X1_isGoodIn, _, rfl, rfl, by decide⟩
set_option maxRecDepth 100000 in
theorem hd_X1_isGood : pd_hd mi_X1_isGood ∈ pd_TB := pd_tb (i := 854) (by rfl) (by decide +kernel)
set_option maxRecDepth 100000 in
theorem in_X1_isGood : Cond.initialized mi_X1_isGood.1.cls ∈ pd_TB := pd_tb (i := 100) (by decide +kernel) (by decide +kernel)
theorem cb_X1_isGood : pd_CB mi_X1_isGood 1 := ⟨hd_X1_isGood, in_X1_isGood, by decide +kernel, by decide +kernel, by decide, rfl⟩
set_option maxRecDepth 100000 in
theorem im_X1_isGood : Cond.instanceMethod mi_X1_isGood.1 ∈ pd_TB := pd_tb (i := 853) (by decide +kernel) (by decide +kernel)
set_option maxRecDepth 100000 in
theorem se_X1_isGood : Cond.selects mi_X1_isGood.1.cls mi_X1_isGood.1 mi_X1_isGood.1 ∈ pd_TB := pd_tb (i := 43) (by decide +kernel) (by decide +kernel)
set_option maxRecDepth 100000 in
theorem mlX1_119 : Cond.methodLink RX1 119 mi_X1_isGood.1 ∈ pd_TB := pd_tb (i := 851) (by decide +kernel) (by decide +kernel)
theorem cvX1_119 : pd_CV RX1 119 mi_X1_isGood 1 1 := ⟨cb_X1_isGood, mlX1_119, im_X1_isGood, se_X1_isGood, _, rfl, rfl, by decide⟩
set_option maxRecDepth 100000 in
theorem hd_L_strike : pd_hd mi_L_strike ∈ pd_TB := pd_tb (i := 857) (by rfl) (by decide +kernel)
set_option maxRecDepth 100000 in
theorem in_L_strike : Cond.initialized mi_L_strike.1.cls ∈ pd_TB := pd_tb (i := 93) (by decide +kernel) (by decide +kernel)
set_option maxRecDepth 100000 in
theorem st_L_strike : Cond.static mi_L_strike.1 ∈ pd_TB := pd_tb (i := 856) (by decide +kernel) (by decide +kernel)
set_option maxRecDepth 100000 in
theorem mlL_98 : Cond.methodLink RL 98 mi_L_strike.1 ∈ pd_TB := pd_tb (i := 855) (by decide +kernel) (by decide +kernel)
set_option maxRecDepth 100000 in
theorem hd_X8_strike : pd_hd mi_X8_strike ∈ pd_TB := pd_tb (i := 862) (by rfl) (by decide +kernel)
set_option maxRecDepth 100000 in
theorem in_X8_strike : Cond.initialized mi_X8_strike.1.cls ∈ pd_TB := pd_tb (i := 94) (by decide +kernel) (by decide +kernel)
theorem cb_X8_strike : pd_CB mi_X8_strike 2 := ⟨hd_X8_strike, in_X8_strike, by decide +kernel, by decide +kernel, by decide, rfl⟩
set_option maxRecDepth 100000 in
theorem im_X8_strike : Cond.instanceMethod mi_X8_strike.1 ∈ pd_TB := pd_tb (i := 860) (by decide +kernel) (by decide +kernel)
set_option maxRecDepth 100000 in
theorem se_X8_strike : Cond.selects mi_X8_strike.1.cls mi_X8_strike.1 mi_X8_strike.1 ∈ pd_TB := pd_tb (i := 861) (by decide +kernel) (by decide +kernel)
set_option maxRecDepth 100000 in
theorem mlL_19 : Cond.methodLink RL 19 mi_X8_strike.1 ∈ pd_TB := pd_tb (i := 859) (by decide +kernel) (by decide +kernel)
theorem cvL_19 : pd_CV RL 19 mi_X8_strike 2 7 := ⟨cb_X8_strike, mlL_19, im_X8_strike, se_X8_strike, _, rfl, rfl, by decide⟩
set_option maxRecDepth 100000 in
theorem hd_X8_isSheet : pd_hd mi_X8_isSheet ∈ pd_TB := pd_tb (i := 866) (by rfl) (by decide +kernel)
set_option maxRecDepth 100000 in
theorem in_X8_isSheet : Cond.initialized mi_X8_isSheet.1.cls ∈ pd_TB := pd_tb (i := 94) (by decide +kernel) (by decide +kernel)
theorem cb_X8_isSheet : pd_CB mi_X8_isSheet 1 := ⟨hd_X8_isSheet, in_X8_isSheet, by decide +kernel, by decide +kernel, by decide, rfl⟩
set_option maxRecDepth 100000 in
theorem im_X8_isSheet : Cond.instanceMethod mi_X8_isSheet.1 ∈ pd_TB := pd_tb (i := 865) (by decide +kernel) (by decide +kernel)
set_option maxRecDepth 100000 in
theorem se_X8_isSheet : Cond.selects mi_X8_isSheet.1.cls mi_X8_isSheet.1 mi_X8_isSheet.1 ∈ pd_TB := pd_tb (i := 44) (by decide +kernel) (by decide +kernel)
set_option maxRecDepth 100000 in
theorem mlX8_116 : Cond.methodLink RX8 116 mi_X8_isSheet.1 ∈ pd_TB := pd_tb (i := 863) (by decide +kernel) (by decide +kernel)
theorem cvX8_116 : pd_CV RX8 116 mi_X8_isSheet 1 7 := ⟨cb_X8_isSheet, mlX8_116, im_X8_isSheet, se_X8_isSheet, _, rfl, rfl, by decide⟩
set_option maxRecDepth 100000 in
theorem hd_X8_requireFound : pd_hd mi_X8_requireFound ∈ pd_TB := pd_tb (i := 870) (by rfl) (by decide +kernel)
set_option maxRecDepth 100000 in
theorem in_X8_requireFound : Cond.initialized mi_X8_requireFound.1.cls ∈ pd_TB := pd_tb (i := 94) (by decide +kernel) (by decide +kernel)
theorem cb_X8_requireFound : pd_CB mi_X8_requireFound 1 := ⟨hd_X8_requireFound, in_X8_requireFound, by decide +kernel, by decide +kernel, by decide, rfl⟩
set_option maxRecDepth 100000 in
theorem im_X8_requireFound : Cond.instanceMethod mi_X8_requireFound.1 ∈ pd_TB := pd_tb (i := 869) (by decide +kernel) (by decide +kernel)
set_option maxRecDepth 100000 in
theorem se_X8_requireFound : Cond.selects mi_X8_requireFound.1.cls mi_X8_requireFound.1 mi_X8_requireFound.1 ∈ pd_TB := pd_tb (i := 45) (by decide +kernel) (by decide +kernel)
set_option maxRecDepth 100000 in
theorem mlX8_119 : Cond.methodLink RX8 119 mi_X8_requireFound.1 ∈ pd_TB := pd_tb (i := 867) (by decide +kernel) (by decide +kernel)
theorem cvX8_119 : pd_CV RX8 119 mi_X8_requireFound 1 7 := ⟨cb_X8_requireFound, mlX8_119, im_X8_requireFound, se_X8_requireFound, _, rfl, rfl, by decide⟩
set_option maxRecDepth 100000 in
theorem hd_X3_isByHand : pd_hd mi_X3_isByHand ∈ pd_TB := pd_tb (i := 890) (by rfl) (by decide +kernel)
set_option maxRecDepth 100000 in
theorem in_X3_isByHand : Cond.initialized mi_X3_isByHand.1.cls ∈ pd_TB := pd_tb (i := 98) (by decide +kernel) (by decide +kernel)
theorem cb_X3_isByHand : pd_CB mi_X3_isByHand 1 := ⟨hd_X3_isByHand, in_X3_isByHand, by decide +kernel, by decide +kernel, by decide, rfl⟩
set_option maxRecDepth 100000 in
theorem im_X3_isByHand : Cond.instanceMethod mi_X3_isByHand.1 ∈ pd_TB := pd_tb (i := 888) (by decide +kernel) (by decide +kernel)
set_option maxRecDepth 100000 in
theorem se_X3_isByHand : Cond.selects mi_X3_isByHand.1.cls mi_X3_isByHand.1 mi_X3_isByHand.1 ∈ pd_TB := pd_tb (i := 889) (by decide +kernel) (by decide +kernel)
set_option maxRecDepth 100000 in
theorem mlX8_122 : Cond.methodLink RX8 122 mi_X3_isByHand.1 ∈ pd_TB := pd_tb (i := 887) (by decide +kernel) (by decide +kernel)
theorem cvX8_122 : pd_CV RX8 122 mi_X3_isByHand 1 2 := ⟨cb_X3_isByHand, mlX8_122, im_X3_isByHand, se_X3_isByHand, _, rfl, rfl, by decide⟩
set_option maxRecDepth 100000 in
theorem hd_L_sign : pd_hd mi_L_sign ∈ pd_TB := pd_tb (i := 893) (by rfl) (by decide +kernel)
set_option maxRecDepth 100000 in
theorem in_L_sign : Cond.initialized mi_L_sign.1.cls ∈ pd_TB := pd_tb (i := 93) (by decide +kernel) (by decide +kernel)
set_option maxRecDepth 100000 in
theorem st_L_sign : Cond.static mi_L_sign.1 ∈ pd_TB := pd_tb (i := 892) (by decide +kernel) (by decide +kernel)
set_option maxRecDepth 100000 in
theorem mlL_102 : Cond.methodLink RL 102 mi_L_sign.1 ∈ pd_TB := pd_tb (i := 891) (by decide +kernel) (by decide +kernel)
set_option maxRecDepth 100000 in
theorem hd_X8_sign : pd_hd mi_X8_sign ∈ pd_TB := pd_tb (i := 898) (by rfl) (by decide +kernel)
set_option maxRecDepth 100000 in
theorem in_X8_sign : Cond.initialized mi_X8_sign.1.cls ∈ pd_TB := pd_tb (i := 94) (by decide +kernel) (by decide +kernel)
theorem cb_X8_sign : pd_CB mi_X8_sign 3 := ⟨hd_X8_sign, in_X8_sign, by decide +kernel, by decide +kernel, by decide, rfl⟩
set_option maxRecDepth 100000 in
theorem im_X8_sign : Cond.instanceMethod mi_X8_sign.1 ∈ pd_TB := pd_tb (i := 896) (by decide +kernel) (by decide +kernel)
set_option maxRecDepth 100000 in
theorem se_X8_sign : Cond.selects mi_X8_sign.1.cls mi_X8_sign.1 mi_X8_sign.1 ∈ pd_TB := pd_tb (i := 897) (by decide +kernel) (by decide +kernel)
set_option maxRecDepth 100000 in
theorem mlL_25 : Cond.methodLink RL 25 mi_X8_sign.1 ∈ pd_TB := pd_tb (i := 895) (by decide +kernel) (by decide +kernel)
theorem cvL_25 : pd_CV RL 25 mi_X8_sign 3 7 := ⟨cb_X8_sign, mlL_25, im_X8_sign, se_X8_sign, _, rfl, rfl, by decide⟩
set_option maxRecDepth 100000 in
theorem hd_X8_isVoter : pd_hd mi_X8_isVoter ∈ pd_TB := pd_tb (i := 902) (by rfl) (by decide +kernel)
set_option maxRecDepth 100000 in
theorem in_X8_isVoter : Cond.initialized mi_X8_isVoter.1.cls ∈ pd_TB := pd_tb (i := 94) (by decide +kernel) (by decide +kernel)
theorem cb_X8_isVoter : pd_CB mi_X8_isVoter 1 := ⟨hd_X8_isVoter, in_X8_isVoter, by decide +kernel, by decide +kernel, by decide, rfl⟩
set_option maxRecDepth 100000 in
theorem im_X8_isVoter : Cond.instanceMethod mi_X8_isVoter.1 ∈ pd_TB := pd_tb (i := 901) (by decide +kernel) (by decide +kernel)
set_option maxRecDepth 100000 in
theorem se_X8_isVoter : Cond.selects mi_X8_isVoter.1.cls mi_X8_isVoter.1 mi_X8_isVoter.1 ∈ pd_TB := pd_tb (i := 46) (by decide +kernel) (by decide +kernel)
set_option maxRecDepth 100000 in
theorem mlX8_128 : Cond.methodLink RX8 128 mi_X8_isVoter.1 ∈ pd_TB := pd_tb (i := 899) (by decide +kernel) (by decide +kernel)
theorem cvX8_128 : pd_CV RX8 128 mi_X8_isVoter 1 7 := ⟨cb_X8_isVoter, mlX8_128, im_X8_isVoter, se_X8_isVoter, _, rfl, rfl, by decide⟩
set_option maxRecDepth 100000 in
theorem hd_X8_requireState : pd_hd mi_X8_requireState ∈ pd_TB := pd_tb (i := 906) (by rfl) (by decide +kernel)
set_option maxRecDepth 100000 in
theorem in_X8_requireState : Cond.initialized mi_X8_requireState.1.cls ∈ pd_TB := pd_tb (i := 94) (by decide +kernel) (by decide +kernel)
theorem cb_X8_requireState : pd_CB mi_X8_requireState 1 := ⟨hd_X8_requireState, in_X8_requireState, by decide +kernel, by decide +kernel, by decide, rfl⟩
set_option maxRecDepth 100000 in
theorem im_X8_requireState : Cond.instanceMethod mi_X8_requireState.1 ∈ pd_TB := pd_tb (i := 905) (by decide +kernel) (by decide +kernel)
set_option maxRecDepth 100000 in
theorem se_X8_requireState : Cond.selects mi_X8_requireState.1.cls mi_X8_requireState.1 mi_X8_requireState.1 ∈ pd_TB := pd_tb (i := 47) (by decide +kernel) (by decide +kernel)
set_option maxRecDepth 100000 in
theorem mlX8_131 : Cond.methodLink RX8 131 mi_X8_requireState.1 ∈ pd_TB := pd_tb (i := 903) (by decide +kernel) (by decide +kernel)
theorem cvX8_131 : pd_CV RX8 131 mi_X8_requireState 1 7 := ⟨cb_X8_requireState, mlX8_131, im_X8_requireState, se_X8_requireState, _, rfl, rfl, by decide⟩
set_option maxRecDepth 100000 in
theorem hd_X3_linesOn : pd_hd mi_X3_linesOn ∈ pd_TB := pd_tb (i := 926) (by rfl) (by decide +kernel)
set_option maxRecDepth 100000 in
theorem in_X3_linesOn : Cond.initialized mi_X3_linesOn.1.cls ∈ pd_TB := pd_tb (i := 98) (by decide +kernel) (by decide +kernel)
theorem cb_X3_linesOn : pd_CB mi_X3_linesOn 1 := ⟨hd_X3_linesOn, in_X3_linesOn, by decide +kernel, by decide +kernel, by decide, rfl⟩
set_option maxRecDepth 100000 in
theorem im_X3_linesOn : Cond.instanceMethod mi_X3_linesOn.1 ∈ pd_TB := pd_tb (i := 924) (by decide +kernel) (by decide +kernel)
set_option maxRecDepth 100000 in
theorem se_X3_linesOn : Cond.selects mi_X3_linesOn.1.cls mi_X3_linesOn.1 mi_X3_linesOn.1 ∈ pd_TB := pd_tb (i := 925) (by decide +kernel) (by decide +kernel)
set_option maxRecDepth 100000 in
theorem mlX8_134 : Cond.methodLink RX8 134 mi_X3_linesOn.1 ∈ pd_TB := pd_tb (i := 923) (by decide +kernel) (by decide +kernel)
theorem cvX8_134 : pd_CV RX8 134 mi_X3_linesOn 1 2 := ⟨cb_X3_linesOn, mlX8_134, im_X3_linesOn, se_X3_linesOn, _, rfl, rfl, by decide⟩
set_option maxRecDepth 100000 in
theorem mlX8_145 : Cond.methodLink RX8 145 mi_X3_addLine.1 ∈ pd_TB := pd_tb (i := 927) (by decide +kernel) (by decide +kernel)
theorem cvX8_145 : pd_CV RX8 145 mi_X3_addLine 4 2 := ⟨cb_X3_addLine, mlX8_145, im_X3_addLine, se_X3_addLine, _, rfl, rfl, by decide⟩
set_option maxRecDepth 100000 in
theorem mlX8_149 : Cond.methodLink RX8 149 mi_X3_emptySamples.1 ∈ pd_TB := pd_tb (i := 928) (by decide +kernel) (by decide +kernel)
theorem cvX8_149 : pd_CV RX8 149 mi_X3_emptySamples 0 2 := ⟨cb_X3_emptySamples, mlX8_149, im_X3_emptySamples, se_X3_emptySamples, _, rfl, rfl, by decide⟩
set_option maxRecDepth 100000 in
theorem hd_L_erase : pd_hd mi_L_erase ∈ pd_TB := pd_tb (i := 931) (by rfl) (by decide +kernel)
set_option maxRecDepth 100000 in
theorem in_L_erase : Cond.initialized mi_L_erase.1.cls ∈ pd_TB := pd_tb (i := 93) (by decide +kernel) (by decide +kernel)
set_option maxRecDepth 100000 in
theorem st_L_erase : Cond.static mi_L_erase.1 ∈ pd_TB := pd_tb (i := 930) (by decide +kernel) (by decide +kernel)
set_option maxRecDepth 100000 in
theorem mlL_105 : Cond.methodLink RL 105 mi_L_erase.1 ∈ pd_TB := pd_tb (i := 929) (by decide +kernel) (by decide +kernel)
set_option maxRecDepth 100000 in
theorem hd_X8_erase : pd_hd mi_X8_erase ∈ pd_TB := pd_tb (i := 935) (by rfl) (by decide +kernel)
set_option maxRecDepth 100000 in
theorem in_X8_erase : Cond.initialized mi_X8_erase.1.cls ∈ pd_TB := pd_tb (i := 94) (by decide +kernel) (by decide +kernel)
theorem cb_X8_erase : pd_CB mi_X8_erase 2 := ⟨hd_X8_erase, in_X8_erase, by decide +kernel, by decide +kernel, by decide, rfl⟩
set_option maxRecDepth 100000 in
theorem im_X8_erase : Cond.instanceMethod mi_X8_erase.1 ∈ pd_TB := pd_tb (i := 933) (by decide +kernel) (by decide +kernel)
set_option maxRecDepth 100000 in
theorem se_X8_erase : Cond.selects mi_X8_erase.1.cls mi_X8_erase.1 mi_X8_erase.1 ∈ pd_TB := pd_tb (i := 934) (by decide +kernel) (by decide +kernel)
set_option maxRecDepth 100000 in
theorem mlL_30 : Cond.methodLink RL 30 mi_X8_erase.1 ∈ pd_TB := pd_tb (i := 932) (by decide +kernel) (by decide +kernel)
theorem cvL_30 : pd_CV RL 30 mi_X8_erase 2 7 := ⟨cb_X8_erase, mlL_30, im_X8_erase, se_X8_erase, _, rfl, rfl, by decide⟩
set_option maxRecDepth 100000 in
theorem hd_X8_isLine : pd_hd mi_X8_isLine ∈ pd_TB := pd_tb (i := 939) (by rfl) (by decide +kernel)
set_option maxRecDepth 100000 in
theorem in_X8_isLine : Cond.initialized mi_X8_isLine.1.cls ∈ pd_TB := pd_tb (i := 94) (by decide +kernel) (by decide +kernel)
theorem cb_X8_isLine : pd_CB mi_X8_isLine 2 := ⟨hd_X8_isLine, in_X8_isLine, by decide +kernel, by decide +kernel, by decide, rfl⟩
set_option maxRecDepth 100000 in
theorem im_X8_isLine : Cond.instanceMethod mi_X8_isLine.1 ∈ pd_TB := pd_tb (i := 938) (by decide +kernel) (by decide +kernel)
set_option maxRecDepth 100000 in
theorem se_X8_isLine : Cond.selects mi_X8_isLine.1.cls mi_X8_isLine.1 mi_X8_isLine.1 ∈ pd_TB := pd_tb (i := 48) (by decide +kernel) (by decide +kernel)
set_option maxRecDepth 100000 in
theorem mlX8_152 : Cond.methodLink RX8 152 mi_X8_isLine.1 ∈ pd_TB := pd_tb (i := 936) (by decide +kernel) (by decide +kernel)
theorem cvX8_152 : pd_CV RX8 152 mi_X8_isLine 2 7 := ⟨cb_X8_isLine, mlX8_152, im_X8_isLine, se_X8_isLine, _, rfl, rfl, by decide⟩
set_option maxRecDepth 100000 in
theorem mlX8_156 : Cond.methodLink RX8 156 mi_X3_firstOf.1 ∈ pd_TB := pd_tb (i := 940) (by decide +kernel) (by decide +kernel)
theorem cvX8_156 : pd_CV RX8 156 mi_X3_firstOf 1 2 := ⟨cb_X3_firstOf, mlX8_156, im_X3_firstOf, se_X3_firstOf, _, rfl, rfl, by decide⟩
set_option maxRecDepth 100000 in
theorem hd_X3_removeLine : pd_hd mi_X3_removeLine ∈ pd_TB := pd_tb (i := 944) (by rfl) (by decide +kernel)
set_option maxRecDepth 100000 in
theorem in_X3_removeLine : Cond.initialized mi_X3_removeLine.1.cls ∈ pd_TB := pd_tb (i := 98) (by decide +kernel) (by decide +kernel)
theorem cb_X3_removeLine : pd_CB mi_X3_removeLine 1 := ⟨hd_X3_removeLine, in_X3_removeLine, by decide +kernel, by decide +kernel, by decide, rfl⟩
set_option maxRecDepth 100000 in
theorem im_X3_removeLine : Cond.instanceMethod mi_X3_removeLine.1 ∈ pd_TB := pd_tb (i := 942) (by decide +kernel) (by decide +kernel)
set_option maxRecDepth 100000 in
theorem se_X3_removeLine : Cond.selects mi_X3_removeLine.1.cls mi_X3_removeLine.1 mi_X3_removeLine.1 ∈ pd_TB := pd_tb (i := 943) (by decide +kernel) (by decide +kernel)
set_option maxRecDepth 100000 in
theorem mlX8_162 : Cond.methodLink RX8 162 mi_X3_removeLine.1 ∈ pd_TB := pd_tb (i := 941) (by decide +kernel) (by decide +kernel)
theorem cvX8_162 : pd_CV RX8 162 mi_X3_removeLine 1 2 := ⟨cb_X3_removeLine, mlX8_162, im_X3_removeLine, se_X3_removeLine, _, rfl, rfl, by decide⟩
set_option maxRecDepth 100000 in
theorem hd_L_told : pd_hd mi_L_told ∈ pd_TB := pd_tb (i := 947) (by rfl) (by decide +kernel)
set_option maxRecDepth 100000 in
theorem in_L_told : Cond.initialized mi_L_told.1.cls ∈ pd_TB := pd_tb (i := 93) (by decide +kernel) (by decide +kernel)
set_option maxRecDepth 100000 in
theorem st_L_told : Cond.static mi_L_told.1 ∈ pd_TB := pd_tb (i := 946) (by decide +kernel) (by decide +kernel)
set_option maxRecDepth 100000 in
theorem mlL_113 : Cond.methodLink RL 113 mi_L_told.1 ∈ pd_TB := pd_tb (i := 945) (by decide +kernel) (by decide +kernel)
set_option maxRecDepth 100000 in
theorem hd_X8_told : pd_hd mi_X8_told ∈ pd_TB := pd_tb (i := 951) (by rfl) (by decide +kernel)
set_option maxRecDepth 100000 in
theorem in_X8_told : Cond.initialized mi_X8_told.1.cls ∈ pd_TB := pd_tb (i := 94) (by decide +kernel) (by decide +kernel)
theorem cb_X8_told : pd_CB mi_X8_told 1 := ⟨hd_X8_told, in_X8_told, by decide +kernel, by decide +kernel, by decide, rfl⟩
set_option maxRecDepth 100000 in
theorem im_X8_told : Cond.instanceMethod mi_X8_told.1 ∈ pd_TB := pd_tb (i := 949) (by decide +kernel) (by decide +kernel)
set_option maxRecDepth 100000 in
theorem se_X8_told : Cond.selects mi_X8_told.1.cls mi_X8_told.1 mi_X8_told.1 ∈ pd_TB := pd_tb (i := 950) (by decide +kernel) (by decide +kernel)
set_option maxRecDepth 100000 in
theorem mlL_34 : Cond.methodLink RL 34 mi_X8_told.1 ∈ pd_TB := pd_tb (i := 948) (by decide +kernel) (by decide +kernel)
theorem cvL_34 : pd_CV RL 34 mi_X8_told 1 7 := ⟨cb_X8_told, mlL_34, im_X8_told, se_X8_told, _, rfl, rfl, by decide⟩
set_option maxRecDepth 100000 in
theorem hd_L_voter : pd_hd mi_L_voter ∈ pd_TB := pd_tb (i := 954) (by rfl) (by decide +kernel)
set_option maxRecDepth 100000 in
theorem in_L_voter : Cond.initialized mi_L_voter.1.cls ∈ pd_TB := pd_tb (i := 93) (by decide +kernel) (by decide +kernel)
set_option maxRecDepth 100000 in
theorem st_L_voter : Cond.static mi_L_voter.1 ∈ pd_TB := pd_tb (i := 953) (by decide +kernel) (by decide +kernel)
set_option maxRecDepth 100000 in
theorem mlL_116 : Cond.methodLink RL 116 mi_L_voter.1 ∈ pd_TB := pd_tb (i := 952) (by decide +kernel) (by decide +kernel)
set_option maxRecDepth 100000 in
theorem hd_X8_voter : pd_hd mi_X8_voter ∈ pd_TB := pd_tb (i := 958) (by rfl) (by decide +kernel)
set_option maxRecDepth 100000 in
theorem in_X8_voter : Cond.initialized mi_X8_voter.1.cls ∈ pd_TB := pd_tb (i := 94) (by decide +kernel) (by decide +kernel)
theorem cb_X8_voter : pd_CB mi_X8_voter 2 := ⟨hd_X8_voter, in_X8_voter, by decide +kernel, by decide +kernel, by decide, rfl⟩
set_option maxRecDepth 100000 in
theorem im_X8_voter : Cond.instanceMethod mi_X8_voter.1 ∈ pd_TB := pd_tb (i := 956) (by decide +kernel) (by decide +kernel)
set_option maxRecDepth 100000 in
theorem se_X8_voter : Cond.selects mi_X8_voter.1.cls mi_X8_voter.1 mi_X8_voter.1 ∈ pd_TB := pd_tb (i := 957) (by decide +kernel) (by decide +kernel)
set_option maxRecDepth 100000 in
theorem mlL_37 : Cond.methodLink RL 37 mi_X8_voter.1 ∈ pd_TB := pd_tb (i := 955) (by decide +kernel) (by decide +kernel)
theorem cvL_37 : pd_CV RL 37 mi_X8_voter 2 7 := ⟨cb_X8_voter, mlL_37, im_X8_voter, se_X8_voter, _, rfl, rfl, by decide⟩
set_option maxRecDepth 100000 in
theorem hd_X1_linesOf : pd_hd mi_X1_linesOf ∈ pd_TB := pd_tb (i := 962) (by rfl) (by decide +kernel)
set_option maxRecDepth 100000 in
theorem in_X1_linesOf : Cond.initialized mi_X1_linesOf.1.cls ∈ pd_TB := pd_tb (i := 100) (by decide +kernel) (by decide +kernel)
theorem cb_X1_linesOf : pd_CB mi_X1_linesOf 1 := ⟨hd_X1_linesOf, in_X1_linesOf, by decide +kernel, by decide +kernel, by decide, rfl⟩
set_option maxRecDepth 100000 in
theorem im_X1_linesOf : Cond.instanceMethod mi_X1_linesOf.1 ∈ pd_TB := pd_tb (i := 960) (by decide +kernel) (by decide +kernel)
set_option maxRecDepth 100000 in
theorem se_X1_linesOf : Cond.selects mi_X1_linesOf.1.cls mi_X1_linesOf.1 mi_X1_linesOf.1 ∈ pd_TB := pd_tb (i := 961) (by decide +kernel) (by decide +kernel)
set_option maxRecDepth 100000 in
theorem mlX8_195 : Cond.methodLink RX8 195 mi_X1_linesOf.1 ∈ pd_TB := pd_tb (i := 959) (by decide +kernel) (by decide +kernel)
theorem cvX8_195 : pd_CV RX8 195 mi_X1_linesOf 1 1 := ⟨cb_X1_linesOf, mlX8_195, im_X1_linesOf, se_X1_linesOf, _, rfl, rfl, by decide⟩
set_option maxRecDepth 100000 in
theorem hd_X1_trueLinesOf : pd_hd mi_X1_trueLinesOf ∈ pd_TB := pd_tb (i := 966) (by rfl) (by decide +kernel)
set_option maxRecDepth 100000 in
theorem in_X1_trueLinesOf : Cond.initialized mi_X1_trueLinesOf.1.cls ∈ pd_TB := pd_tb (i := 100) (by decide +kernel) (by decide +kernel)
theorem cb_X1_trueLinesOf : pd_CB mi_X1_trueLinesOf 1 := ⟨hd_X1_trueLinesOf, in_X1_trueLinesOf, by decide +kernel, by decide +kernel, by decide, rfl⟩
set_option maxRecDepth 100000 in
theorem im_X1_trueLinesOf : Cond.instanceMethod mi_X1_trueLinesOf.1 ∈ pd_TB := pd_tb (i := 964) (by decide +kernel) (by decide +kernel)
set_option maxRecDepth 100000 in
theorem se_X1_trueLinesOf : Cond.selects mi_X1_trueLinesOf.1.cls mi_X1_trueLinesOf.1 mi_X1_trueLinesOf.1 ∈ pd_TB := pd_tb (i := 965) (by decide +kernel) (by decide +kernel)
set_option maxRecDepth 100000 in
theorem mlX8_198 : Cond.methodLink RX8 198 mi_X1_trueLinesOf.1 ∈ pd_TB := pd_tb (i := 963) (by decide +kernel) (by decide +kernel)
theorem cvX8_198 : pd_CV RX8 198 mi_X1_trueLinesOf 1 1 := ⟨cb_X1_trueLinesOf, mlX8_198, im_X1_trueLinesOf, se_X1_trueLinesOf, _, rfl, rfl, by decide⟩
set_option maxRecDepth 100000 in
theorem hd_L_letter : pd_hd mi_L_letter ∈ pd_TB := pd_tb (i := 969) (by rfl) (by decide +kernel)
set_option maxRecDepth 100000 in
theorem in_L_letter : Cond.initialized mi_L_letter.1.cls ∈ pd_TB := pd_tb (i := 93) (by decide +kernel) (by decide +kernel)
set_option maxRecDepth 100000 in
theorem st_L_letter : Cond.static mi_L_letter.1 ∈ pd_TB := pd_tb (i := 968) (by decide +kernel) (by decide +kernel)
set_option maxRecDepth 100000 in
theorem mlL_119 : Cond.methodLink RL 119 mi_L_letter.1 ∈ pd_TB := pd_tb (i := 967) (by decide +kernel) (by decide +kernel)
set_option maxRecDepth 100000 in
theorem hd_X8_letter : pd_hd mi_X8_letter ∈ pd_TB := pd_tb (i := 973) (by rfl) (by decide +kernel)
set_option maxRecDepth 100000 in
theorem in_X8_letter : Cond.initialized mi_X8_letter.1.cls ∈ pd_TB := pd_tb (i := 94) (by decide +kernel) (by decide +kernel)
theorem cb_X8_letter : pd_CB mi_X8_letter 2 := ⟨hd_X8_letter, in_X8_letter, by decide +kernel, by decide +kernel, by decide, rfl⟩
set_option maxRecDepth 100000 in
theorem im_X8_letter : Cond.instanceMethod mi_X8_letter.1 ∈ pd_TB := pd_tb (i := 971) (by decide +kernel) (by decide +kernel)
set_option maxRecDepth 100000 in
theorem se_X8_letter : Cond.selects mi_X8_letter.1.cls mi_X8_letter.1 mi_X8_letter.1 ∈ pd_TB := pd_tb (i := 972) (by decide +kernel) (by decide +kernel)
set_option maxRecDepth 100000 in
theorem mlL_40 : Cond.methodLink RL 40 mi_X8_letter.1 ∈ pd_TB := pd_tb (i := 970) (by decide +kernel) (by decide +kernel)
theorem cvL_40 : pd_CV RL 40 mi_X8_letter 2 7 := ⟨cb_X8_letter, mlL_40, im_X8_letter, se_X8_letter, _, rfl, rfl, by decide⟩
set_option maxRecDepth 100000 in
theorem hd_X2_length : pd_hd mi_X2_length ∈ pd_TB := pd_tb (i := 976) (by rfl) (by decide +kernel)
set_option maxRecDepth 100000 in
theorem in_X2_length : Cond.initialized mi_X2_length.1.cls ∈ pd_TB := pd_tb (i := 112) (by decide +kernel) (by decide +kernel)
theorem cb_X2_length : pd_CB mi_X2_length 1 := ⟨hd_X2_length, in_X2_length, by decide +kernel, by decide +kernel, by decide, rfl⟩
set_option maxRecDepth 100000 in
theorem st_X2_length : Cond.static mi_X2_length.1 ∈ pd_TB := pd_tb (i := 975) (by decide +kernel) (by decide +kernel)
set_option maxRecDepth 100000 in
theorem mlX8_201 : Cond.methodLink RX8 201 mi_X2_length.1 ∈ pd_TB := pd_tb (i := 974) (by decide +kernel) (by decide +kernel)
theorem csX8_201 : pd_CS RX8 201 mi_X2_length 1 := ⟨cb_X2_length, mlX8_201, st_X2_length⟩
set_option maxRecDepth 100000 in
theorem hd_X2_letterAt : pd_hd mi_X2_letterAt ∈ pd_TB := pd_tb (i := 979) (by rfl) (by decide +kernel)
set_option maxRecDepth 100000 in
theorem in_X2_letterAt : Cond.initialized mi_X2_letterAt.1.cls ∈ pd_TB := pd_tb (i := 112) (by decide +kernel) (by decide +kernel)
theorem cb_X2_letterAt : pd_CB mi_X2_letterAt 2 := ⟨hd_X2_letterAt, in_X2_letterAt, by decide +kernel, by decide +kernel, by decide, rfl⟩
set_option maxRecDepth 100000 in
theorem st_X2_letterAt : Cond.static mi_X2_letterAt.1 ∈ pd_TB := pd_tb (i := 978) (by decide +kernel) (by decide +kernel)
set_option maxRecDepth 100000 in
theorem mlX8_206 : Cond.methodLink RX8 206 mi_X2_letterAt.1 ∈ pd_TB := pd_tb (i := 977) (by decide +kernel) (by decide +kernel)
theorem csX8_206 : pd_CS RX8 206 mi_X2_letterAt 2 := ⟨cb_X2_letterAt, mlX8_206, st_X2_letterAt⟩
set_option maxRecDepth 100000 in
theorem hd_L_sheet : pd_hd mi_L_sheet ∈ pd_TB := pd_tb (i := 982) (by rfl) (by decide +kernel)
set_option maxRecDepth 100000 in
theorem in_L_sheet : Cond.initialized mi_L_sheet.1.cls ∈ pd_TB := pd_tb (i := 93) (by decide +kernel) (by decide +kernel)
set_option maxRecDepth 100000 in
theorem st_L_sheet : Cond.static mi_L_sheet.1 ∈ pd_TB := pd_tb (i := 981) (by decide +kernel) (by decide +kernel)
set_option maxRecDepth 100000 in
theorem mlL_122 : Cond.methodLink RL 122 mi_L_sheet.1 ∈ pd_TB := pd_tb (i := 980) (by decide +kernel) (by decide +kernel)
set_option maxRecDepth 100000 in
theorem hd_X8_sheet : pd_hd mi_X8_sheet ∈ pd_TB := pd_tb (i := 986) (by rfl) (by decide +kernel)
set_option maxRecDepth 100000 in
theorem in_X8_sheet : Cond.initialized mi_X8_sheet.1.cls ∈ pd_TB := pd_tb (i := 94) (by decide +kernel) (by decide +kernel)
theorem cb_X8_sheet : pd_CB mi_X8_sheet 2 := ⟨hd_X8_sheet, in_X8_sheet, by decide +kernel, by decide +kernel, by decide, rfl⟩
set_option maxRecDepth 100000 in
theorem im_X8_sheet : Cond.instanceMethod mi_X8_sheet.1 ∈ pd_TB := pd_tb (i := 984) (by decide +kernel) (by decide +kernel)
set_option maxRecDepth 100000 in
theorem se_X8_sheet : Cond.selects mi_X8_sheet.1.cls mi_X8_sheet.1 mi_X8_sheet.1 ∈ pd_TB := pd_tb (i := 985) (by decide +kernel) (by decide +kernel)
set_option maxRecDepth 100000 in
theorem mlL_43 : Cond.methodLink RL 43 mi_X8_sheet.1 ∈ pd_TB := pd_tb (i := 983) (by decide +kernel) (by decide +kernel)
theorem cvL_43 : pd_CV RL 43 mi_X8_sheet 2 7 := ⟨cb_X8_sheet, mlL_43, im_X8_sheet, se_X8_sheet, _, rfl, rfl, by decide⟩
set_option maxRecDepth 100000 in
theorem hd_L_line : pd_hd mi_L_line ∈ pd_TB := pd_tb (i := 989) (by rfl) (by decide +kernel)
set_option maxRecDepth 100000 in
theorem in_L_line : Cond.initialized mi_L_line.1.cls ∈ pd_TB := pd_tb (i := 93) (by decide +kernel) (by decide +kernel)
set_option maxRecDepth 100000 in
theorem st_L_line : Cond.static mi_L_line.1 ∈ pd_TB := pd_tb (i := 988) (by decide +kernel) (by decide +kernel)
set_option maxRecDepth 100000 in
theorem mlL_125 : Cond.methodLink RL 125 mi_L_line.1 ∈ pd_TB := pd_tb (i := 987) (by decide +kernel) (by decide +kernel)
set_option maxRecDepth 100000 in
theorem hd_X8_line : pd_hd mi_X8_line ∈ pd_TB := pd_tb (i := 993) (by rfl) (by decide +kernel)
set_option maxRecDepth 100000 in
theorem in_X8_line : Cond.initialized mi_X8_line.1.cls ∈ pd_TB := pd_tb (i := 94) (by decide +kernel) (by decide +kernel)
theorem cb_X8_line : pd_CB mi_X8_line 3 := ⟨hd_X8_line, in_X8_line, by decide +kernel, by decide +kernel, by decide, rfl⟩
set_option maxRecDepth 100000 in
theorem im_X8_line : Cond.instanceMethod mi_X8_line.1 ∈ pd_TB := pd_tb (i := 991) (by decide +kernel) (by decide +kernel)
set_option maxRecDepth 100000 in
theorem se_X8_line : Cond.selects mi_X8_line.1.cls mi_X8_line.1 mi_X8_line.1 ∈ pd_TB := pd_tb (i := 992) (by decide +kernel) (by decide +kernel)
set_option maxRecDepth 100000 in
theorem mlL_46 : Cond.methodLink RL 46 mi_X8_line.1 ∈ pd_TB := pd_tb (i := 990) (by decide +kernel) (by decide +kernel)
theorem cvL_46 : pd_CV RL 46 mi_X8_line 3 7 := ⟨cb_X8_line, mlL_46, im_X8_line, se_X8_line, _, rfl, rfl, by decide⟩
set_option maxRecDepth 100000 in
theorem hd_L_judged : pd_hd mi_L_judged ∈ pd_TB := pd_tb (i := 996) (by rfl) (by decide +kernel)
set_option maxRecDepth 100000 in
theorem in_L_judged : Cond.initialized mi_L_judged.1.cls ∈ pd_TB := pd_tb (i := 93) (by decide +kernel) (by decide +kernel)
set_option maxRecDepth 100000 in
theorem st_L_judged : Cond.static mi_L_judged.1 ∈ pd_TB := pd_tb (i := 995) (by decide +kernel) (by decide +kernel)
set_option maxRecDepth 100000 in
theorem mlL_128 : Cond.methodLink RL 128 mi_L_judged.1 ∈ pd_TB := pd_tb (i := 994) (by decide +kernel) (by decide +kernel)
set_option maxRecDepth 100000 in
theorem hd_X8_judged : pd_hd mi_X8_judged ∈ pd_TB := pd_tb (i := 1000) (by rfl) (by decide +kernel)
set_option maxRecDepth 100000 in
theorem in_X8_judged : Cond.initialized mi_X8_judged.1.cls ∈ pd_TB := pd_tb (i := 94) (by decide +kernel) (by decide +kernel)
theorem cb_X8_judged : pd_CB mi_X8_judged 1 := ⟨hd_X8_judged, in_X8_judged, by decide +kernel, by decide +kernel, by decide, rfl⟩
set_option maxRecDepth 100000 in
theorem im_X8_judged : Cond.instanceMethod mi_X8_judged.1 ∈ pd_TB := pd_tb (i := 998) (by decide +kernel) (by decide +kernel)
set_option maxRecDepth 100000 in
theorem se_X8_judged : Cond.selects mi_X8_judged.1.cls mi_X8_judged.1 mi_X8_judged.1 ∈ pd_TB := pd_tb (i := 999) (by decide +kernel) (by decide +kernel)
set_option maxRecDepth 100000 in
theorem mlL_49 : Cond.methodLink RL 49 mi_X8_judged.1 ∈ pd_TB := pd_tb (i := 997) (by decide +kernel) (by decide +kernel)
theorem cvL_49 : pd_CV RL 49 mi_X8_judged 1 7 := ⟨cb_X8_judged, mlL_49, im_X8_judged, se_X8_judged, _, rfl, rfl, by decide⟩
set_option maxRecDepth 100000 in
theorem hd_L_drawn : pd_hd mi_L_drawn ∈ pd_TB := pd_tb (i := 1003) (by rfl) (by decide +kernel)
set_option maxRecDepth 100000 in
theorem in_L_drawn : Cond.initialized mi_L_drawn.1.cls ∈ pd_TB := pd_tb (i := 93) (by decide +kernel) (by decide +kernel)
set_option maxRecDepth 100000 in
theorem st_L_drawn : Cond.static mi_L_drawn.1 ∈ pd_TB := pd_tb (i := 1002) (by decide +kernel) (by decide +kernel)
set_option maxRecDepth 100000 in
theorem mlL_135 : Cond.methodLink RL 135 mi_L_drawn.1 ∈ pd_TB := pd_tb (i := 1001) (by decide +kernel) (by decide +kernel)
set_option maxRecDepth 100000 in
theorem hd_X8_drawn : pd_hd mi_X8_drawn ∈ pd_TB := pd_tb (i := 1007) (by rfl) (by decide +kernel)
set_option maxRecDepth 100000 in
theorem in_X8_drawn : Cond.initialized mi_X8_drawn.1.cls ∈ pd_TB := pd_tb (i := 94) (by decide +kernel) (by decide +kernel)
theorem cb_X8_drawn : pd_CB mi_X8_drawn 2 := ⟨hd_X8_drawn, in_X8_drawn, by decide +kernel, by decide +kernel, by decide, rfl⟩
set_option maxRecDepth 100000 in
theorem im_X8_drawn : Cond.instanceMethod mi_X8_drawn.1 ∈ pd_TB := pd_tb (i := 1005) (by decide +kernel) (by decide +kernel)
set_option maxRecDepth 100000 in
theorem se_X8_drawn : Cond.selects mi_X8_drawn.1.cls mi_X8_drawn.1 mi_X8_drawn.1 ∈ pd_TB := pd_tb (i := 1006) (by decide +kernel) (by decide +kernel)
set_option maxRecDepth 100000 in
theorem mlL_52 : Cond.methodLink RL 52 mi_X8_drawn.1 ∈ pd_TB := pd_tb (i := 1004) (by decide +kernel) (by decide +kernel)
theorem cvL_52 : pd_CV RL 52 mi_X8_drawn 2 7 := ⟨cb_X8_drawn, mlL_52, im_X8_drawn, se_X8_drawn, _, rfl, rfl, by decide⟩
set_option maxRecDepth 100000 in
theorem hd_X8_sampleOf : pd_hd mi_X8_sampleOf ∈ pd_TB := pd_tb (i := 1011) (by rfl) (by decide +kernel)
set_option maxRecDepth 100000 in
theorem in_X8_sampleOf : Cond.initialized mi_X8_sampleOf.1.cls ∈ pd_TB := pd_tb (i := 94) (by decide +kernel) (by decide +kernel)
theorem cb_X8_sampleOf : pd_CB mi_X8_sampleOf 1 := ⟨hd_X8_sampleOf, in_X8_sampleOf, by decide +kernel, by decide +kernel, by decide, rfl⟩
set_option maxRecDepth 100000 in
theorem im_X8_sampleOf : Cond.instanceMethod mi_X8_sampleOf.1 ∈ pd_TB := pd_tb (i := 1010) (by decide +kernel) (by decide +kernel)
set_option maxRecDepth 100000 in
theorem se_X8_sampleOf : Cond.selects mi_X8_sampleOf.1.cls mi_X8_sampleOf.1 mi_X8_sampleOf.1 ∈ pd_TB := pd_tb (i := 49) (by decide +kernel) (by decide +kernel)
set_option maxRecDepth 100000 in
theorem mlX8_223 : Cond.methodLink RX8 223 mi_X8_sampleOf.1 ∈ pd_TB := pd_tb (i := 1008) (by decide +kernel) (by decide +kernel)
theorem cvX8_223 : pd_CV RX8 223 mi_X8_sampleOf 1 7 := ⟨cb_X8_sampleOf, mlX8_223, im_X8_sampleOf, se_X8_sampleOf, _, rfl, rfl, by decide⟩
set_option maxRecDepth 100000 in
theorem hd_J13_bitCount_95d88 : pd_hd mi_J13_bitCount_95d88 ∈ pd_TB := pd_tb (i := 1014) (by rfl) (by decide +kernel)
set_option maxRecDepth 100000 in
theorem in_J13_bitCount_95d88 : Cond.initialized mi_J13_bitCount_95d88.1.cls ∈ pd_TB := pd_tb (i := 117) (by decide +kernel) (by decide +kernel)
theorem cb_J13_bitCount_95d88 : pd_CB mi_J13_bitCount_95d88 1 := ⟨hd_J13_bitCount_95d88, in_J13_bitCount_95d88, by decide +kernel, by decide +kernel, by decide, rfl⟩
set_option maxRecDepth 100000 in
theorem st_J13_bitCount_95d88 : Cond.static mi_J13_bitCount_95d88.1 ∈ pd_TB := pd_tb (i := 1013) (by decide +kernel) (by decide +kernel)
set_option maxRecDepth 100000 in
theorem mlX8_227 : Cond.methodLink RX8 227 mi_J13_bitCount_95d88.1 ∈ pd_TB := pd_tb (i := 1012) (by decide +kernel) (by decide +kernel)
theorem csX8_227 : pd_CS RX8 227 mi_J13_bitCount_95d88 1 := ⟨cb_J13_bitCount_95d88, mlX8_227, st_J13_bitCount_95d88⟩
set_option maxRecDepth 100000 in
theorem hd_X1_pairsIn : pd_hd mi_X1_pairsIn ∈ pd_TB := pd_tb (i := 1021) (by rfl) (by decide +kernel)
set_option maxRecDepth 100000 in
theorem in_X1_pairsIn : Cond.initialized mi_X1_pairsIn.1.cls ∈ pd_TB := pd_tb (i := 100) (by decide +kernel) (by decide +kernel)
theorem cb_X1_pairsIn : pd_CB mi_X1_pairsIn 1 := ⟨hd_X1_pairsIn, in_X1_pairsIn, by decide +kernel, by decide +kernel, by decide, rfl⟩
set_option maxRecDepth 100000 in
theorem im_X1_pairsIn : Cond.instanceMethod mi_X1_pairsIn.1 ∈ pd_TB := pd_tb (i := 1019) (by decide +kernel) (by decide +kernel)
set_option maxRecDepth 100000 in
theorem se_X1_pairsIn : Cond.selects mi_X1_pairsIn.1.cls mi_X1_pairsIn.1 mi_X1_pairsIn.1 ∈ pd_TB := pd_tb (i := 1020) (by decide +kernel) (by decide +kernel)
set_option maxRecDepth 100000 in
theorem mlX8_232 : Cond.methodLink RX8 232 mi_X1_pairsIn.1 ∈ pd_TB := pd_tb (i := 1018) (by decide +kernel) (by decide +kernel)
theorem cvX8_232 : pd_CV RX8 232 mi_X1_pairsIn 1 1 := ⟨cb_X1_pairsIn, mlX8_232, im_X1_pairsIn, se_X1_pairsIn, _, rfl, rfl, by decide⟩
set_option maxRecDepth 100000 in
theorem hd_X1_tallyGood : pd_hd mi_X1_tallyGood ∈ pd_TB := pd_tb (i := 1025) (by rfl) (by decide +kernel)
set_option maxRecDepth 100000 in
theorem in_X1_tallyGood : Cond.initialized mi_X1_tallyGood.1.cls ∈ pd_TB := pd_tb (i := 100) (by decide +kernel) (by decide +kernel)
theorem cb_X1_tallyGood : pd_CB mi_X1_tallyGood 1 := ⟨hd_X1_tallyGood, in_X1_tallyGood, by decide +kernel, by decide +kernel, by decide, rfl⟩
set_option maxRecDepth 100000 in
theorem im_X1_tallyGood : Cond.instanceMethod mi_X1_tallyGood.1 ∈ pd_TB := pd_tb (i := 1023) (by decide +kernel) (by decide +kernel)
set_option maxRecDepth 100000 in
theorem se_X1_tallyGood : Cond.selects mi_X1_tallyGood.1.cls mi_X1_tallyGood.1 mi_X1_tallyGood.1 ∈ pd_TB := pd_tb (i := 1024) (by decide +kernel) (by decide +kernel)
set_option maxRecDepth 100000 in
theorem mlX1_126 : Cond.methodLink RX1 126 mi_X1_tallyGood.1 ∈ pd_TB := pd_tb (i := 1022) (by decide +kernel) (by decide +kernel)
theorem cvX1_126 : pd_CV RX1 126 mi_X1_tallyGood 1 1 := ⟨cb_X1_tallyGood, mlX1_126, im_X1_tallyGood, se_X1_tallyGood, _, rfl, rfl, by decide⟩
set_option maxRecDepth 100000 in
theorem hd_L_estimate : pd_hd mi_L_estimate ∈ pd_TB := pd_tb (i := 1028) (by rfl) (by decide +kernel)
set_option maxRecDepth 100000 in
theorem in_L_estimate : Cond.initialized mi_L_estimate.1.cls ∈ pd_TB := pd_tb (i := 93) (by decide +kernel) (by decide +kernel)
set_option maxRecDepth 100000 in
theorem st_L_estimate : Cond.static mi_L_estimate.1 ∈ pd_TB := pd_tb (i := 1027) (by decide +kernel) (by decide +kernel)
set_option maxRecDepth 100000 in
theorem mlL_138 : Cond.methodLink RL 138 mi_L_estimate.1 ∈ pd_TB := pd_tb (i := 1026) (by decide +kernel) (by decide +kernel)
set_option maxRecDepth 100000 in
theorem hd_X8_estimate : pd_hd mi_X8_estimate ∈ pd_TB := pd_tb (i := 1032) (by rfl) (by decide +kernel)
set_option maxRecDepth 100000 in
theorem in_X8_estimate : Cond.initialized mi_X8_estimate.1.cls ∈ pd_TB := pd_tb (i := 94) (by decide +kernel) (by decide +kernel)
theorem cb_X8_estimate : pd_CB mi_X8_estimate 2 := ⟨hd_X8_estimate, in_X8_estimate, by decide +kernel, by decide +kernel, by decide, rfl⟩
set_option maxRecDepth 100000 in
theorem im_X8_estimate : Cond.instanceMethod mi_X8_estimate.1 ∈ pd_TB := pd_tb (i := 1030) (by decide +kernel) (by decide +kernel)
set_option maxRecDepth 100000 in
theorem se_X8_estimate : Cond.selects mi_X8_estimate.1.cls mi_X8_estimate.1 mi_X8_estimate.1 ∈ pd_TB := pd_tb (i := 1031) (by decide +kernel) (by decide +kernel)
set_option maxRecDepth 100000 in
theorem mlL_55 : Cond.methodLink RL 55 mi_X8_estimate.1 ∈ pd_TB := pd_tb (i := 1029) (by decide +kernel) (by decide +kernel)
theorem cvL_55 : pd_CV RL 55 mi_X8_estimate 2 7 := ⟨cb_X8_estimate, mlL_55, im_X8_estimate, se_X8_estimate, _, rfl, rfl, by decide⟩
set_option maxRecDepth 100000 in
theorem hd_X8_inLowestTerms : pd_hd mi_X8_inLowestTerms ∈ pd_TB := pd_tb (i := 1036) (by rfl) (by decide +kernel)
set_option maxRecDepth 100000 in
theorem in_X8_inLowestTerms : Cond.initialized mi_X8_inLowestTerms.1.cls ∈ pd_TB := pd_tb (i := 94) (by decide +kernel) (by decide +kernel)
theorem cb_X8_inLowestTerms : pd_CB mi_X8_inLowestTerms 3 := ⟨hd_X8_inLowestTerms, in_X8_inLowestTerms, by decide +kernel, by decide +kernel, by decide, rfl⟩
set_option maxRecDepth 100000 in
theorem st_X8_inLowestTerms : Cond.static mi_X8_inLowestTerms.1 ∈ pd_TB := pd_tb (i := 1035) (by decide +kernel) (by decide +kernel)
set_option maxRecDepth 100000 in
theorem mlX8_247 : Cond.methodLink RX8 247 mi_X8_inLowestTerms.1 ∈ pd_TB := pd_tb (i := 1034) (by decide +kernel) (by decide +kernel)
theorem csX8_247 : pd_CS RX8 247 mi_X8_inLowestTerms 3 := ⟨cb_X8_inLowestTerms, mlX8_247, st_X8_inLowestTerms⟩
set_option maxRecDepth 100000 in
theorem hd_X0_commonDivisor : pd_hd mi_X0_commonDivisor ∈ pd_TB := pd_tb (i := 1039) (by rfl) (by decide +kernel)
set_option maxRecDepth 100000 in
theorem in_X0_commonDivisor : Cond.initialized mi_X0_commonDivisor.1.cls ∈ pd_TB := pd_tb (i := 101) (by decide +kernel) (by decide +kernel)
theorem cb_X0_commonDivisor : pd_CB mi_X0_commonDivisor 2 := ⟨hd_X0_commonDivisor, in_X0_commonDivisor, by decide +kernel, by decide +kernel, by decide, rfl⟩
set_option maxRecDepth 100000 in
theorem st_X0_commonDivisor : Cond.static mi_X0_commonDivisor.1 ∈ pd_TB := pd_tb (i := 1038) (by decide +kernel) (by decide +kernel)
set_option maxRecDepth 100000 in
theorem mlX8_312 : Cond.methodLink RX8 312 mi_X0_commonDivisor.1 ∈ pd_TB := pd_tb (i := 1037) (by decide +kernel) (by decide +kernel)
theorem csX8_312 : pd_CS RX8 312 mi_X0_commonDivisor 2 := ⟨cb_X0_commonDivisor, mlX8_312, st_X0_commonDivisor⟩
set_option maxRecDepth 100000 in
theorem hd_J9_abs_067f4 : pd_hd mi_J9_abs_067f4 ∈ pd_TB := pd_tb (i := 1042) (by rfl) (by decide +kernel)
set_option maxRecDepth 100000 in
theorem in_J9_abs_067f4 : Cond.initialized mi_J9_abs_067f4.1.cls ∈ pd_TB := pd_tb (i := 107) (by decide +kernel) (by decide +kernel)
theorem cb_J9_abs_067f4 : pd_CB mi_J9_abs_067f4 1 := ⟨hd_J9_abs_067f4, in_J9_abs_067f4, by decide +kernel, by decide +kernel, by decide, rfl⟩
set_option maxRecDepth 100000 in
theorem st_J9_abs_067f4 : Cond.static mi_J9_abs_067f4.1 ∈ pd_TB := pd_tb (i := 1041) (by decide +kernel) (by decide +kernel)
set_option maxRecDepth 100000 in
theorem mlX0_28 : Cond.methodLink RX0 28 mi_J9_abs_067f4.1 ∈ pd_TB := pd_tb (i := 1040) (by decide +kernel) (by decide +kernel)
theorem csX0_28 : pd_CS RX0 28 mi_J9_abs_067f4 1 := ⟨cb_J9_abs_067f4, mlX0_28, st_J9_abs_067f4⟩
set_option maxRecDepth 100000 in
theorem hd_L_unlike : pd_hd mi_L_unlike ∈ pd_TB := pd_tb (i := 1045) (by rfl) (by decide +kernel)
set_option maxRecDepth 100000 in
theorem in_L_unlike : Cond.initialized mi_L_unlike.1.cls ∈ pd_TB := pd_tb (i := 93) (by decide +kernel) (by decide +kernel)
set_option maxRecDepth 100000 in
theorem st_L_unlike : Cond.static mi_L_unlike.1 ∈ pd_TB := pd_tb (i := 1044) (by decide +kernel) (by decide +kernel)
set_option maxRecDepth 100000 in
theorem mlL_141 : Cond.methodLink RL 141 mi_L_unlike.1 ∈ pd_TB := pd_tb (i := 1043) (by decide +kernel) (by decide +kernel)
set_option maxRecDepth 100000 in
theorem hd_X8_unlike : pd_hd mi_X8_unlike ∈ pd_TB := pd_tb (i := 1049) (by rfl) (by decide +kernel)
set_option maxRecDepth 100000 in
theorem in_X8_unlike : Cond.initialized mi_X8_unlike.1.cls ∈ pd_TB := pd_tb (i := 94) (by decide +kernel) (by decide +kernel)
theorem cb_X8_unlike : pd_CB mi_X8_unlike 1 := ⟨hd_X8_unlike, in_X8_unlike, by decide +kernel, by decide +kernel, by decide, rfl⟩
set_option maxRecDepth 100000 in
theorem im_X8_unlike : Cond.instanceMethod mi_X8_unlike.1 ∈ pd_TB := pd_tb (i := 1047) (by decide +kernel) (by decide +kernel)
set_option maxRecDepth 100000 in
theorem se_X8_unlike : Cond.selects mi_X8_unlike.1.cls mi_X8_unlike.1 mi_X8_unlike.1 ∈ pd_TB := pd_tb (i := 1048) (by decide +kernel) (by decide +kernel)
set_option maxRecDepth 100000 in
theorem mlL_59 : Cond.methodLink RL 59 mi_X8_unlike.1 ∈ pd_TB := pd_tb (i := 1046) (by decide +kernel) (by decide +kernel)
theorem cvL_59 : pd_CV RL 59 mi_X8_unlike 1 7 := ⟨cb_X8_unlike, mlL_59, im_X8_unlike, se_X8_unlike, _, rfl, rfl, by decide⟩
set_option maxRecDepth 100000 in
theorem hd_X1_votersIn : pd_hd mi_X1_votersIn ∈ pd_TB := pd_tb (i := 1053) (by rfl) (by decide +kernel)
set_option maxRecDepth 100000 in
theorem in_X1_votersIn : Cond.initialized mi_X1_votersIn.1.cls ∈ pd_TB := pd_tb (i := 100) (by decide +kernel) (by decide +kernel)
theorem cb_X1_votersIn : pd_CB mi_X1_votersIn 1 := ⟨hd_X1_votersIn, in_X1_votersIn, by decide +kernel, by decide +kernel, by decide, rfl⟩
set_option maxRecDepth 100000 in
theorem im_X1_votersIn : Cond.instanceMethod mi_X1_votersIn.1 ∈ pd_TB := pd_tb (i := 1051) (by decide +kernel) (by decide +kernel)
set_option maxRecDepth 100000 in
theorem se_X1_votersIn : Cond.selects mi_X1_votersIn.1.cls mi_X1_votersIn.1 mi_X1_votersIn.1 ∈ pd_TB := pd_tb (i := 1052) (by decide +kernel) (by decide +kernel)
set_option maxRecDepth 100000 in
theorem mlX8_251 : Cond.methodLink RX8 251 mi_X1_votersIn.1 ∈ pd_TB := pd_tb (i := 1050) (by decide +kernel) (by decide +kernel)
theorem cvX8_251 : pd_CV RX8 251 mi_X1_votersIn 1 1 := ⟨cb_X1_votersIn, mlX8_251, im_X1_votersIn, se_X1_votersIn, _, rfl, rfl, by decide⟩
set_option maxRecDepth 100000 in
theorem hd_J6_bitCount_0f7a4 : pd_hd mi_J6_bitCount_0f7a4 ∈ pd_TB := pd_tb (i := 1056) (by rfl) (by decide +kernel)
set_option maxRecDepth 100000 in
theorem in_J6_bitCount_0f7a4 : Cond.initialized mi_J6_bitCount_0f7a4.1.cls ∈ pd_TB := pd_tb (i := 118) (by decide +kernel) (by decide +kernel)
theorem cb_J6_bitCount_0f7a4 : pd_CB mi_J6_bitCount_0f7a4 1 := ⟨hd_J6_bitCount_0f7a4, in_J6_bitCount_0f7a4, by decide +kernel, by decide +kernel, by decide, rfl⟩
set_option maxRecDepth 100000 in
theorem st_J6_bitCount_0f7a4 : Cond.static mi_J6_bitCount_0f7a4.1 ∈ pd_TB := pd_tb (i := 1055) (by decide +kernel) (by decide +kernel)
set_option maxRecDepth 100000 in
theorem mlX8_254 : Cond.methodLink RX8 254 mi_J6_bitCount_0f7a4.1 ∈ pd_TB := pd_tb (i := 1054) (by decide +kernel) (by decide +kernel)
theorem csX8_254 : pd_CS RX8 254 mi_J6_bitCount_0f7a4 1 := ⟨cb_J6_bitCount_0f7a4, mlX8_254, st_J6_bitCount_0f7a4⟩
set_option maxRecDepth 100000 in
theorem hd_L_unseen : pd_hd mi_L_unseen ∈ pd_TB := pd_tb (i := 1062) (by rfl) (by decide +kernel)
set_option maxRecDepth 100000 in
theorem in_L_unseen : Cond.initialized mi_L_unseen.1.cls ∈ pd_TB := pd_tb (i := 93) (by decide +kernel) (by decide +kernel)
set_option maxRecDepth 100000 in
theorem st_L_unseen : Cond.static mi_L_unseen.1 ∈ pd_TB := pd_tb (i := 1061) (by decide +kernel) (by decide +kernel)
set_option maxRecDepth 100000 in
theorem mlL_144 : Cond.methodLink RL 144 mi_L_unseen.1 ∈ pd_TB := pd_tb (i := 1060) (by decide +kernel) (by decide +kernel)
set_option maxRecDepth 100000 in
theorem hd_X8_unseen : pd_hd mi_X8_unseen ∈ pd_TB := pd_tb (i := 1066) (by rfl) (by decide +kernel)
set_option maxRecDepth 100000 in
theorem in_X8_unseen : Cond.initialized mi_X8_unseen.1.cls ∈ pd_TB := pd_tb (i := 94) (by decide +kernel) (by decide +kernel)
theorem cb_X8_unseen : pd_CB mi_X8_unseen 2 := ⟨hd_X8_unseen, in_X8_unseen, by decide +kernel, by decide +kernel, by decide, rfl⟩
set_option maxRecDepth 100000 in
theorem im_X8_unseen : Cond.instanceMethod mi_X8_unseen.1 ∈ pd_TB := pd_tb (i := 1064) (by decide +kernel) (by decide +kernel)
set_option maxRecDepth 100000 in
theorem se_X8_unseen : Cond.selects mi_X8_unseen.1.cls mi_X8_unseen.1 mi_X8_unseen.1 ∈ pd_TB := pd_tb (i := 1065) (by decide +kernel) (by decide +kernel)
set_option maxRecDepth 100000 in
theorem mlL_62 : Cond.methodLink RL 62 mi_X8_unseen.1 ∈ pd_TB := pd_tb (i := 1063) (by decide +kernel) (by decide +kernel)
theorem cvL_62 : pd_CV RL 62 mi_X8_unseen 2 7 := ⟨cb_X8_unseen, mlL_62, im_X8_unseen, se_X8_unseen, _, rfl, rfl, by decide⟩
set_option maxRecDepth 100000 in
theorem mlX8_260 : Cond.methodLink RX8 260 mi_X1_tallyGood.1 ∈ pd_TB := pd_tb (i := 1068) (by decide +kernel) (by decide +kernel)
theorem cvX8_260 : pd_CV RX8 260 mi_X1_tallyGood 1 1 := ⟨cb_X1_tallyGood, mlX8_260, im_X1_tallyGood, se_X1_tallyGood, _, rfl, rfl, by decide⟩
set_option maxRecDepth 100000 in
theorem hd_X0_waysWithoutPair : pd_hd mi_X0_waysWithoutPair ∈ pd_TB := pd_tb (i := 1072) (by rfl) (by decide +kernel)
set_option maxRecDepth 100000 in
theorem in_X0_waysWithoutPair : Cond.initialized mi_X0_waysWithoutPair.1.cls ∈ pd_TB := pd_tb (i := 101) (by decide +kernel) (by decide +kernel)
theorem cb_X0_waysWithoutPair : pd_CB mi_X0_waysWithoutPair 3 := ⟨hd_X0_waysWithoutPair, in_X0_waysWithoutPair, by decide +kernel, by decide +kernel, by decide, rfl⟩
set_option maxRecDepth 100000 in
theorem im_X0_waysWithoutPair : Cond.instanceMethod mi_X0_waysWithoutPair.1 ∈ pd_TB := pd_tb (i := 1070) (by decide +kernel) (by decide +kernel)
set_option maxRecDepth 100000 in
theorem se_X0_waysWithoutPair : Cond.selects mi_X0_waysWithoutPair.1.cls mi_X0_waysWithoutPair.1 mi_X0_waysWithoutPair.1 ∈ pd_TB := pd_tb (i := 1071) (by decide +kernel) (by decide +kernel)
set_option maxRecDepth 100000 in
theorem mlX8_267 : Cond.methodLink RX8 267 mi_X0_waysWithoutPair.1 ∈ pd_TB := pd_tb (i := 1069) (by decide +kernel) (by decide +kernel)
theorem cvX8_267 : pd_CV RX8 267 mi_X0_waysWithoutPair 3 0 := ⟨cb_X0_waysWithoutPair, mlX8_267, im_X0_waysWithoutPair, se_X0_waysWithoutPair, _, rfl, rfl, by decide⟩
set_option maxRecDepth 100000 in
theorem mlX8_271 : Cond.methodLink RX8 271 mi_X0_choose.1 ∈ pd_TB := pd_tb (i := 1073) (by decide +kernel) (by decide +kernel)
theorem cvX8_271 : pd_CV RX8 271 mi_X0_choose 2 0 := ⟨cb_X0_choose, mlX8_271, im_X0_choose, se_X0_choose, _, rfl, rfl, by decide⟩
set_option maxRecDepth 100000 in
theorem hd_L_worst : pd_hd mi_L_worst ∈ pd_TB := pd_tb (i := 1076) (by rfl) (by decide +kernel)
set_option maxRecDepth 100000 in
theorem in_L_worst : Cond.initialized mi_L_worst.1.cls ∈ pd_TB := pd_tb (i := 93) (by decide +kernel) (by decide +kernel)
set_option maxRecDepth 100000 in
theorem st_L_worst : Cond.static mi_L_worst.1 ∈ pd_TB := pd_tb (i := 1075) (by decide +kernel) (by decide +kernel)
set_option maxRecDepth 100000 in
theorem mlL_151 : Cond.methodLink RL 151 mi_L_worst.1 ∈ pd_TB := pd_tb (i := 1074) (by decide +kernel) (by decide +kernel)
set_option maxRecDepth 100000 in
theorem hd_X8_worst : pd_hd mi_X8_worst ∈ pd_TB := pd_tb (i := 1080) (by rfl) (by decide +kernel)
set_option maxRecDepth 100000 in
theorem in_X8_worst : Cond.initialized mi_X8_worst.1.cls ∈ pd_TB := pd_tb (i := 94) (by decide +kernel) (by decide +kernel)
theorem cb_X8_worst : pd_CB mi_X8_worst 2 := ⟨hd_X8_worst, in_X8_worst, by decide +kernel, by decide +kernel, by decide, rfl⟩
set_option maxRecDepth 100000 in
theorem im_X8_worst : Cond.instanceMethod mi_X8_worst.1 ∈ pd_TB := pd_tb (i := 1078) (by decide +kernel) (by decide +kernel)
set_option maxRecDepth 100000 in
theorem se_X8_worst : Cond.selects mi_X8_worst.1.cls mi_X8_worst.1 mi_X8_worst.1 ∈ pd_TB := pd_tb (i := 1079) (by decide +kernel) (by decide +kernel)
set_option maxRecDepth 100000 in
theorem mlL_65 : Cond.methodLink RL 65 mi_X8_worst.1 ∈ pd_TB := pd_tb (i := 1077) (by decide +kernel) (by decide +kernel)
theorem cvL_65 : pd_CV RL 65 mi_X8_worst 2 7 := ⟨cb_X8_worst, mlL_65, im_X8_worst, se_X8_worst, _, rfl, rfl, by decide⟩
set_option maxRecDepth 100000 in
theorem hd_X1_trueWithout : pd_hd mi_X1_trueWithout ∈ pd_TB := pd_tb (i := 1084) (by rfl) (by decide +kernel)
set_option maxRecDepth 100000 in
theorem in_X1_trueWithout : Cond.initialized mi_X1_trueWithout.1.cls ∈ pd_TB := pd_tb (i := 100) (by decide +kernel) (by decide +kernel)
theorem cb_X1_trueWithout : pd_CB mi_X1_trueWithout 1 := ⟨hd_X1_trueWithout, in_X1_trueWithout, by decide +kernel, by decide +kernel, by decide, rfl⟩
set_option maxRecDepth 100000 in
theorem im_X1_trueWithout : Cond.instanceMethod mi_X1_trueWithout.1 ∈ pd_TB := pd_tb (i := 1082) (by decide +kernel) (by decide +kernel)
set_option maxRecDepth 100000 in
theorem se_X1_trueWithout : Cond.selects mi_X1_trueWithout.1.cls mi_X1_trueWithout.1 mi_X1_trueWithout.1 ∈ pd_TB := pd_tb (i := 1083) (by decide +kernel) (by decide +kernel)
set_option maxRecDepth 100000 in
theorem mlX8_274 : Cond.methodLink RX8 274 mi_X1_trueWithout.1 ∈ pd_TB := pd_tb (i := 1081) (by decide +kernel) (by decide +kernel)
theorem cvX8_274 : pd_CV RX8 274 mi_X1_trueWithout 1 1 := ⟨cb_X1_trueWithout, mlX8_274, im_X1_trueWithout, se_X1_trueWithout, _, rfl, rfl, by decide⟩
set_option maxRecDepth 100000 in
theorem mlX1_130 : Cond.methodLink RX1 130 mi_J6_bitCount_0f7a4.1 ∈ pd_TB := pd_tb (i := 1085) (by decide +kernel) (by decide +kernel)
theorem csX1_130 : pd_CS RX1 130 mi_J6_bitCount_0f7a4 1 := ⟨cb_J6_bitCount_0f7a4, mlX1_130, st_J6_bitCount_0f7a4⟩
set_option maxRecDepth 100000 in
theorem hd_L_cost : pd_hd mi_L_cost ∈ pd_TB := pd_tb (i := 1088) (by rfl) (by decide +kernel)
set_option maxRecDepth 100000 in
theorem in_L_cost : Cond.initialized mi_L_cost.1.cls ∈ pd_TB := pd_tb (i := 93) (by decide +kernel) (by decide +kernel)
set_option maxRecDepth 100000 in
theorem st_L_cost : Cond.static mi_L_cost.1 ∈ pd_TB := pd_tb (i := 1087) (by decide +kernel) (by decide +kernel)
set_option maxRecDepth 100000 in
theorem mlL_154 : Cond.methodLink RL 154 mi_L_cost.1 ∈ pd_TB := pd_tb (i := 1086) (by decide +kernel) (by decide +kernel)
set_option maxRecDepth 100000 in
theorem hd_X8_cost : pd_hd mi_X8_cost ∈ pd_TB := pd_tb (i := 1092) (by rfl) (by decide +kernel)
set_option maxRecDepth 100000 in
theorem in_X8_cost : Cond.initialized mi_X8_cost.1.cls ∈ pd_TB := pd_tb (i := 94) (by decide +kernel) (by decide +kernel)
theorem cb_X8_cost : pd_CB mi_X8_cost 1 := ⟨hd_X8_cost, in_X8_cost, by decide +kernel, by decide +kernel, by decide, rfl⟩
set_option maxRecDepth 100000 in
theorem im_X8_cost : Cond.instanceMethod mi_X8_cost.1 ∈ pd_TB := pd_tb (i := 1090) (by decide +kernel) (by decide +kernel)
set_option maxRecDepth 100000 in
theorem se_X8_cost : Cond.selects mi_X8_cost.1.cls mi_X8_cost.1 mi_X8_cost.1 ∈ pd_TB := pd_tb (i := 1091) (by decide +kernel) (by decide +kernel)
set_option maxRecDepth 100000 in
theorem mlL_68 : Cond.methodLink RL 68 mi_X8_cost.1 ∈ pd_TB := pd_tb (i := 1089) (by decide +kernel) (by decide +kernel)
theorem cvL_68 : pd_CV RL 68 mi_X8_cost 1 7 := ⟨cb_X8_cost, mlL_68, im_X8_cost, se_X8_cost, _, rfl, rfl, by decide⟩
set_option maxRecDepth 100000 in
theorem hd_X9_init : pd_hd mi_X9_init ∈ pd_TB := pd_tb (i := 1098) (by rfl) (by decide +kernel)
set_option maxRecDepth 100000 in
theorem in_X9_init : Cond.initialized mi_X9_init.1.cls ∈ pd_TB := pd_tb (i := 102) (by decide +kernel) (by decide +kernel)
theorem cb_X9_init : pd_CB mi_X9_init 0 := ⟨hd_X9_init, in_X9_init, by decide +kernel, by decide +kernel, by decide, rfl⟩
set_option maxRecDepth 100000 in
theorem im_X9_init : Cond.instanceMethod mi_X9_init.1 ∈ pd_TB := pd_tb (i := 1097) (by decide +kernel) (by decide +kernel)
set_option maxRecDepth 100000 in
theorem mlL_74 : Cond.methodLink RL 74 mi_X9_init.1 ∈ pd_TB := pd_tb (i := 1096) (by decide +kernel) (by decide +kernel)
set_option maxRecDepth 100000 in
theorem hd_X9_begins : pd_hd mi_X9_begins ∈ pd_TB := pd_tb (i := 1104) (by rfl) (by decide +kernel)
set_option maxRecDepth 100000 in
theorem in_X9_begins : Cond.initialized mi_X9_begins.1.cls ∈ pd_TB := pd_tb (i := 102) (by decide +kernel) (by decide +kernel)
theorem cb_X9_begins : pd_CB mi_X9_begins 1 := ⟨hd_X9_begins, in_X9_begins, by decide +kernel, by decide +kernel, by decide, rfl⟩
set_option maxRecDepth 100000 in
theorem st_X9_begins : Cond.static mi_X9_begins.1 ∈ pd_TB := pd_tb (i := 1103) (by decide +kernel) (by decide +kernel)
set_option maxRecDepth 100000 in
theorem mlX9_44 : Cond.methodLink RX9 44 mi_X9_begins.1 ∈ pd_TB := pd_tb (i := 1102) (by decide +kernel) (by decide +kernel)
theorem csX9_44 : pd_CS RX9 44 mi_X9_begins 1 := ⟨cb_X9_begins, mlX9_44, st_X9_begins⟩
set_option maxRecDepth 100000 in
theorem hd_X9_thrown : pd_hd mi_X9_thrown ∈ pd_TB := pd_tb (i := 1172) (by rfl) (by decide +kernel)
set_option maxRecDepth 100000 in
theorem in_X9_thrown : Cond.initialized mi_X9_thrown.1.cls ∈ pd_TB := pd_tb (i := 102) (by decide +kernel) (by decide +kernel)
theorem cb_X9_thrown : pd_CB mi_X9_thrown 0 := ⟨hd_X9_thrown, in_X9_thrown, by decide +kernel, by decide +kernel, by decide, rfl⟩
set_option maxRecDepth 100000 in
theorem im_X9_thrown : Cond.instanceMethod mi_X9_thrown.1 ∈ pd_TB := pd_tb (i := 1170) (by decide +kernel) (by decide +kernel)
set_option maxRecDepth 100000 in
theorem se_X9_thrown : Cond.selects mi_X9_thrown.1.cls mi_X9_thrown.1 mi_X9_thrown.1 ∈ pd_TB := pd_tb (i := 1171) (by decide +kernel) (by decide +kernel)
set_option maxRecDepth 100000 in
theorem mlL_86 : Cond.methodLink RL 86 mi_X9_thrown.1 ∈ pd_TB := pd_tb (i := 1169) (by decide +kernel) (by decide +kernel)
theorem cvL_86 : pd_CV RL 86 mi_X9_thrown 0 8 := ⟨cb_X9_thrown, mlL_86, im_X9_thrown, se_X9_thrown, _, rfl, rfl, by decide⟩
set_option maxRecDepth 100000 in
theorem hd_X9_feed : pd_hd mi_X9_feed ∈ pd_TB := pd_tb (i := 1176) (by rfl) (by decide +kernel)
set_option maxRecDepth 100000 in
theorem in_X9_feed : Cond.initialized mi_X9_feed.1.cls ∈ pd_TB := pd_tb (i := 102) (by decide +kernel) (by decide +kernel)
theorem cb_X9_feed : pd_CB mi_X9_feed 5 := ⟨hd_X9_feed, in_X9_feed, by decide +kernel, by decide +kernel, by decide, rfl⟩
set_option maxRecDepth 100000 in
theorem im_X9_feed : Cond.instanceMethod mi_X9_feed.1 ∈ pd_TB := pd_tb (i := 1174) (by decide +kernel) (by decide +kernel)
set_option maxRecDepth 100000 in
theorem se_X9_feed : Cond.selects mi_X9_feed.1.cls mi_X9_feed.1 mi_X9_feed.1 ∈ pd_TB := pd_tb (i := 1175) (by decide +kernel) (by decide +kernel)
set_option maxRecDepth 100000 in
theorem mlL_79 : Cond.methodLink RL 79 mi_X9_feed.1 ∈ pd_TB := pd_tb (i := 1173) (by decide +kernel) (by decide +kernel)
theorem cvL_79 : pd_CV RL 79 mi_X9_feed 5 8 := ⟨cb_X9_feed, mlL_79, im_X9_feed, se_X9_feed, _, rfl, rfl, by decide⟩
set_option maxRecDepth 100000 in
theorem hd_X9_text : pd_hd mi_X9_text ∈ pd_TB := pd_tb (i := 1180) (by rfl) (by decide +kernel)
set_option maxRecDepth 100000 in
theorem in_X9_text : Cond.initialized mi_X9_text.1.cls ∈ pd_TB := pd_tb (i := 102) (by decide +kernel) (by decide +kernel)
theorem cb_X9_text : pd_CB mi_X9_text 1 := ⟨hd_X9_text, in_X9_text, by decide +kernel, by decide +kernel, by decide, rfl⟩
set_option maxRecDepth 100000 in
theorem im_X9_text : Cond.instanceMethod mi_X9_text.1 ∈ pd_TB := pd_tb (i := 1178) (by decide +kernel) (by decide +kernel)
set_option maxRecDepth 100000 in
theorem se_X9_text : Cond.selects mi_X9_text.1.cls mi_X9_text.1 mi_X9_text.1 ∈ pd_TB := pd_tb (i := 1179) (by decide +kernel) (by decide +kernel)
set_option maxRecDepth 100000 in
theorem mlL_85 : Cond.methodLink RL 85 mi_X9_text.1 ∈ pd_TB := pd_tb (i := 1177) (by decide +kernel) (by decide +kernel)
theorem cvL_85 : pd_CV RL 85 mi_X9_text 1 8 := ⟨cb_X9_text, mlL_85, im_X9_text, se_X9_text, _, rfl, rfl, by decide⟩
set_option maxRecDepth 100000 in
theorem hd_X9_in : pd_hd mi_X9_in ∈ pd_TB := pd_tb (i := 1183) (by rfl) (by decide +kernel)
set_option maxRecDepth 100000 in
theorem in_X9_in : Cond.initialized mi_X9_in.1.cls ∈ pd_TB := pd_tb (i := 102) (by decide +kernel) (by decide +kernel)
theorem cb_X9_in : pd_CB mi_X9_in 3 := ⟨hd_X9_in, in_X9_in, by decide +kernel, by decide +kernel, by decide, rfl⟩
set_option maxRecDepth 100000 in
theorem st_X9_in : Cond.static mi_X9_in.1 ∈ pd_TB := pd_tb (i := 1182) (by decide +kernel) (by decide +kernel)
set_option maxRecDepth 100000 in
theorem mlX9_107 : Cond.methodLink RX9 107 mi_X9_in.1 ∈ pd_TB := pd_tb (i := 1181) (by decide +kernel) (by decide +kernel)
theorem csX9_107 : pd_CS RX9 107 mi_X9_in 3 := ⟨cb_X9_in, mlX9_107, st_X9_in⟩
set_option maxRecDepth 100000 in
theorem hd_X9_bad : pd_hd mi_X9_bad ∈ pd_TB := pd_tb (i := 1187) (by rfl) (by decide +kernel)
set_option maxRecDepth 100000 in
theorem in_X9_bad : Cond.initialized mi_X9_bad.1.cls ∈ pd_TB := pd_tb (i := 102) (by decide +kernel) (by decide +kernel)
theorem cb_X9_bad : pd_CB mi_X9_bad 3 := ⟨hd_X9_bad, in_X9_bad, by decide +kernel, by decide +kernel, by decide, rfl⟩
set_option maxRecDepth 100000 in
theorem im_X9_bad : Cond.instanceMethod mi_X9_bad.1 ∈ pd_TB := pd_tb (i := 1186) (by decide +kernel) (by decide +kernel)
set_option maxRecDepth 100000 in
theorem se_X9_bad : Cond.selects mi_X9_bad.1.cls mi_X9_bad.1 mi_X9_bad.1 ∈ pd_TB := pd_tb (i := 50) (by decide +kernel) (by decide +kernel)
set_option maxRecDepth 100000 in
theorem mlX9_204 : Cond.methodLink RX9 204 mi_X9_bad.1 ∈ pd_TB := pd_tb (i := 1184) (by decide +kernel) (by decide +kernel)
theorem cvX9_204 : pd_CV RX9 204 mi_X9_bad 3 8 := ⟨cb_X9_bad, mlX9_204, im_X9_bad, se_X9_bad, _, rfl, rfl, by decide⟩
set_option maxRecDepth 100000 in
theorem hd_X9_fine : pd_hd mi_X9_fine ∈ pd_TB := pd_tb (i := 1191) (by rfl) (by decide +kernel)
set_option maxRecDepth 100000 in
theorem in_X9_fine : Cond.initialized mi_X9_fine.1.cls ∈ pd_TB := pd_tb (i := 102) (by decide +kernel) (by decide +kernel)
theorem cb_X9_fine : pd_CB mi_X9_fine 0 := ⟨hd_X9_fine, in_X9_fine, by decide +kernel, by decide +kernel, by decide, rfl⟩
set_option maxRecDepth 100000 in
theorem im_X9_fine : Cond.instanceMethod mi_X9_fine.1 ∈ pd_TB := pd_tb (i := 1190) (by decide +kernel) (by decide +kernel)
set_option maxRecDepth 100000 in
theorem se_X9_fine : Cond.selects mi_X9_fine.1.cls mi_X9_fine.1 mi_X9_fine.1 ∈ pd_TB := pd_tb (i := 51) (by decide +kernel) (by decide +kernel)
set_option maxRecDepth 100000 in
theorem mlX9_87 : Cond.methodLink RX9 87 mi_X9_fine.1 ∈ pd_TB := pd_tb (i := 1188) (by decide +kernel) (by decide +kernel)
theorem cvX9_87 : pd_CV RX9 87 mi_X9_fine 0 8 := ⟨cb_X9_fine, mlX9_87, im_X9_fine, se_X9_fine, _, rfl, rfl, by decide⟩
set_option maxRecDepth 100000 in
theorem hd_X9_here : pd_hd mi_X9_here ∈ pd_TB := pd_tb (i := 1195) (by rfl) (by decide +kernel)
set_option maxRecDepth 100000 in
theorem in_X9_here : Cond.initialized mi_X9_here.1.cls ∈ pd_TB := pd_tb (i := 102) (by decide +kernel) (by decide +kernel)
theorem cb_X9_here : pd_CB mi_X9_here 0 := ⟨hd_X9_here, in_X9_here, by decide +kernel, by decide +kernel, by decide, rfl⟩
set_option maxRecDepth 100000 in
theorem im_X9_here : Cond.instanceMethod mi_X9_here.1 ∈ pd_TB := pd_tb (i := 1194) (by decide +kernel) (by decide +kernel)
set_option maxRecDepth 100000 in
theorem se_X9_here : Cond.selects mi_X9_here.1.cls mi_X9_here.1 mi_X9_here.1 ∈ pd_TB := pd_tb (i := 52) (by decide +kernel) (by decide +kernel)
set_option maxRecDepth 100000 in
theorem mlX9_70 : Cond.methodLink RX9 70 mi_X9_here.1 ∈ pd_TB := pd_tb (i := 1192) (by decide +kernel) (by decide +kernel)
theorem cvX9_70 : pd_CV RX9 70 mi_X9_here 0 8 := ⟨cb_X9_here, mlX9_70, im_X9_here, se_X9_here, _, rfl, rfl, by decide⟩
set_option maxRecDepth 100000 in
theorem hd_X9_byteAt : pd_hd mi_X9_byteAt ∈ pd_TB := pd_tb (i := 1199) (by rfl) (by decide +kernel)
set_option maxRecDepth 100000 in
theorem in_X9_byteAt : Cond.initialized mi_X9_byteAt.1.cls ∈ pd_TB := pd_tb (i := 102) (by decide +kernel) (by decide +kernel)
theorem cb_X9_byteAt : pd_CB mi_X9_byteAt 1 := ⟨hd_X9_byteAt, in_X9_byteAt, by decide +kernel, by decide +kernel, by decide, rfl⟩
set_option maxRecDepth 100000 in
theorem im_X9_byteAt : Cond.instanceMethod mi_X9_byteAt.1 ∈ pd_TB := pd_tb (i := 1198) (by decide +kernel) (by decide +kernel)
set_option maxRecDepth 100000 in
theorem se_X9_byteAt : Cond.selects mi_X9_byteAt.1.cls mi_X9_byteAt.1 mi_X9_byteAt.1 ∈ pd_TB := pd_tb (i := 53) (by decide +kernel) (by decide +kernel)
set_option maxRecDepth 100000 in
theorem mlX9_60 : Cond.methodLink RX9 60 mi_X9_byteAt.1 ∈ pd_TB := pd_tb (i := 1196) (by decide +kernel) (by decide +kernel)
theorem cvX9_60 : pd_CV RX9 60 mi_X9_byteAt 1 8 := ⟨cb_X9_byteAt, mlX9_60, im_X9_byteAt, se_X9_byteAt, _, rfl, rfl, by decide⟩
set_option maxRecDepth 100000 in
theorem hd_X9_readsLine : pd_hd mi_X9_readsLine ∈ pd_TB := pd_tb (i := 1203) (by rfl) (by decide +kernel)
set_option maxRecDepth 100000 in
theorem in_X9_readsLine : Cond.initialized mi_X9_readsLine.1.cls ∈ pd_TB := pd_tb (i := 102) (by decide +kernel) (by decide +kernel)
theorem cb_X9_readsLine : pd_CB mi_X9_readsLine 0 := ⟨hd_X9_readsLine, in_X9_readsLine, by decide +kernel, by decide +kernel, by decide, rfl⟩
set_option maxRecDepth 100000 in
theorem im_X9_readsLine : Cond.instanceMethod mi_X9_readsLine.1 ∈ pd_TB := pd_tb (i := 1202) (by decide +kernel) (by decide +kernel)
set_option maxRecDepth 100000 in
theorem se_X9_readsLine : Cond.selects mi_X9_readsLine.1.cls mi_X9_readsLine.1 mi_X9_readsLine.1 ∈ pd_TB := pd_tb (i := 54) (by decide +kernel) (by decide +kernel)
set_option maxRecDepth 100000 in
theorem mlX9_208 : Cond.methodLink RX9 208 mi_X9_readsLine.1 ∈ pd_TB := pd_tb (i := 1200) (by decide +kernel) (by decide +kernel)
theorem cvX9_208 : pd_CV RX9 208 mi_X9_readsLine 0 8 := ⟨cb_X9_readsLine, mlX9_208, im_X9_readsLine, se_X9_readsLine, _, rfl, rfl, by decide⟩
set_option maxRecDepth 100000 in
theorem hd_X9_takes : pd_hd mi_X9_takes ∈ pd_TB := pd_tb (i := 1208) (by rfl) (by decide +kernel)
set_option maxRecDepth 100000 in
theorem in_X9_takes : Cond.initialized mi_X9_takes.1.cls ∈ pd_TB := pd_tb (i := 102) (by decide +kernel) (by decide +kernel)
theorem cb_X9_takes : pd_CB mi_X9_takes 1 := ⟨hd_X9_takes, in_X9_takes, by decide +kernel, by decide +kernel, by decide, rfl⟩
set_option maxRecDepth 100000 in
theorem im_X9_takes : Cond.instanceMethod mi_X9_takes.1 ∈ pd_TB := pd_tb (i := 1207) (by decide +kernel) (by decide +kernel)
set_option maxRecDepth 100000 in
theorem se_X9_takes : Cond.selects mi_X9_takes.1.cls mi_X9_takes.1 mi_X9_takes.1 ∈ pd_TB := pd_tb (i := 55) (by decide +kernel) (by decide +kernel)
set_option maxRecDepth 100000 in
theorem mlX9_150 : Cond.methodLink RX9 150 mi_X9_takes.1 ∈ pd_TB := pd_tb (i := 1205) (by decide +kernel) (by decide +kernel)
theorem cvX9_150 : pd_CV RX9 150 mi_X9_takes 1 8 := ⟨cb_X9_takes, mlX9_150, im_X9_takes, se_X9_takes, _, rfl, rfl, by decide⟩
set_option maxRecDepth 100000 in
theorem hd_X9_isWord : pd_hd mi_X9_isWord ∈ pd_TB := pd_tb (i := 1212) (by rfl) (by decide +kernel)
set_option maxRecDepth 100000 in
theorem in_X9_isWord : Cond.initialized mi_X9_isWord.1.cls ∈ pd_TB := pd_tb (i := 102) (by decide +kernel) (by decide +kernel)
theorem cb_X9_isWord : pd_CB mi_X9_isWord 1 := ⟨hd_X9_isWord, in_X9_isWord, by decide +kernel, by decide +kernel, by decide, rfl⟩
set_option maxRecDepth 100000 in
theorem im_X9_isWord : Cond.instanceMethod mi_X9_isWord.1 ∈ pd_TB := pd_tb (i := 1211) (by decide +kernel) (by decide +kernel)
set_option maxRecDepth 100000 in
theorem se_X9_isWord : Cond.selects mi_X9_isWord.1.cls mi_X9_isWord.1 mi_X9_isWord.1 ∈ pd_TB := pd_tb (i := 56) (by decide +kernel) (by decide +kernel)
set_option maxRecDepth 100000 in
theorem mlX9_91 : Cond.methodLink RX9 91 mi_X9_isWord.1 ∈ pd_TB := pd_tb (i := 1209) (by decide +kernel) (by decide +kernel)
theorem cvX9_91 : pd_CV RX9 91 mi_X9_isWord 1 8 := ⟨cb_X9_isWord, mlX9_91, im_X9_isWord, se_X9_isWord, _, rfl, rfl, by decide⟩
set_option maxRecDepth 100000 in
theorem mlX9_74 : Cond.methodLink RX9 74 mi_J0_length_8abf5.1 ∈ pd_TB := pd_tb (i := 1213) (by decide +kernel) (by decide +kernel)
set_option maxRecDepth 100000 in
theorem mlX9_79 : Cond.methodLink RX9 79 mi_J0_charAt_5068e.1 ∈ pd_TB := pd_tb (i := 1214) (by decide +kernel) (by decide +kernel)
set_option maxRecDepth 100000 in
theorem hd_X9_isSmall : pd_hd mi_X9_isSmall ∈ pd_TB := pd_tb (i := 1217) (by rfl) (by decide +kernel)
set_option maxRecDepth 100000 in
theorem in_X9_isSmall : Cond.initialized mi_X9_isSmall.1.cls ∈ pd_TB := pd_tb (i := 102) (by decide +kernel) (by decide +kernel)
theorem cb_X9_isSmall : pd_CB mi_X9_isSmall 1 := ⟨hd_X9_isSmall, in_X9_isSmall, by decide +kernel, by decide +kernel, by decide, rfl⟩
set_option maxRecDepth 100000 in
theorem st_X9_isSmall : Cond.static mi_X9_isSmall.1 ∈ pd_TB := pd_tb (i := 1216) (by decide +kernel) (by decide +kernel)
set_option maxRecDepth 100000 in
theorem mlX9_83 : Cond.methodLink RX9 83 mi_X9_isSmall.1 ∈ pd_TB := pd_tb (i := 1215) (by decide +kernel) (by decide +kernel)
theorem csX9_83 : pd_CS RX9 83 mi_X9_isSmall 1 := ⟨cb_X9_isSmall, mlX9_83, st_X9_isSmall⟩
set_option maxRecDepth 100000 in
theorem hd_X9_readsVoter : pd_hd mi_X9_readsVoter ∈ pd_TB := pd_tb (i := 1221) (by rfl) (by decide +kernel)
set_option maxRecDepth 100000 in
theorem in_X9_readsVoter : Cond.initialized mi_X9_readsVoter.1.cls ∈ pd_TB := pd_tb (i := 102) (by decide +kernel) (by decide +kernel)
theorem cb_X9_readsVoter : pd_CB mi_X9_readsVoter 1 := ⟨hd_X9_readsVoter, in_X9_readsVoter, by decide +kernel, by decide +kernel, by decide, rfl⟩
set_option maxRecDepth 100000 in
theorem im_X9_readsVoter : Cond.instanceMethod mi_X9_readsVoter.1 ∈ pd_TB := pd_tb (i := 1220) (by decide +kernel) (by decide +kernel)
set_option maxRecDepth 100000 in
theorem se_X9_readsVoter : Cond.selects mi_X9_readsVoter.1.cls mi_X9_readsVoter.1 mi_X9_readsVoter.1 ∈ pd_TB := pd_tb (i := 57) (by decide +kernel) (by decide +kernel)
set_option maxRecDepth 100000 in
theorem mlX9_182 : Cond.methodLink RX9 182 mi_X9_readsVoter.1 ∈ pd_TB := pd_tb (i := 1218) (by decide +kernel) (by decide +kernel)
theorem cvX9_182 : pd_CV RX9 182 mi_X9_readsVoter 1 8 := ⟨cb_X9_readsVoter, mlX9_182, im_X9_readsVoter, se_X9_readsVoter, _, rfl, rfl, by decide⟩
set_option maxRecDepth 100000 in
theorem hd_X9_wrong : pd_hd mi_X9_wrong ∈ pd_TB := pd_tb (i := 1225) (by rfl) (by decide +kernel)
set_option maxRecDepth 100000 in
theorem in_X9_wrong : Cond.initialized mi_X9_wrong.1.cls ∈ pd_TB := pd_tb (i := 102) (by decide +kernel) (by decide +kernel)
theorem cb_X9_wrong : pd_CB mi_X9_wrong 2 := ⟨hd_X9_wrong, in_X9_wrong, by decide +kernel, by decide +kernel, by decide, rfl⟩
set_option maxRecDepth 100000 in
theorem im_X9_wrong : Cond.instanceMethod mi_X9_wrong.1 ∈ pd_TB := pd_tb (i := 1224) (by decide +kernel) (by decide +kernel)
set_option maxRecDepth 100000 in
theorem se_X9_wrong : Cond.selects mi_X9_wrong.1.cls mi_X9_wrong.1 mi_X9_wrong.1 ∈ pd_TB := pd_tb (i := 58) (by decide +kernel) (by decide +kernel)
set_option maxRecDepth 100000 in
theorem mlX9_95 : Cond.methodLink RX9 95 mi_X9_wrong.1 ∈ pd_TB := pd_tb (i := 1222) (by decide +kernel) (by decide +kernel)
theorem cvX9_95 : pd_CV RX9 95 mi_X9_wrong 2 8 := ⟨cb_X9_wrong, mlX9_95, im_X9_wrong, se_X9_wrong, _, rfl, rfl, by decide⟩
set_option maxRecDepth 100000 in
theorem hd_X9_name : pd_hd mi_X9_name ∈ pd_TB := pd_tb (i := 1229) (by rfl) (by decide +kernel)
set_option maxRecDepth 100000 in
theorem in_X9_name : Cond.initialized mi_X9_name.1.cls ∈ pd_TB := pd_tb (i := 102) (by decide +kernel) (by decide +kernel)
theorem cb_X9_name : pd_CB mi_X9_name 0 := ⟨hd_X9_name, in_X9_name, by decide +kernel, by decide +kernel, by decide, rfl⟩
set_option maxRecDepth 100000 in
theorem im_X9_name : Cond.instanceMethod mi_X9_name.1 ∈ pd_TB := pd_tb (i := 1228) (by decide +kernel) (by decide +kernel)
set_option maxRecDepth 100000 in
theorem se_X9_name : Cond.selects mi_X9_name.1.cls mi_X9_name.1 mi_X9_name.1 ∈ pd_TB := pd_tb (i := 59) (by decide +kernel) (by decide +kernel)
set_option maxRecDepth 100000 in
theorem mlX9_114 : Cond.methodLink RX9 114 mi_X9_name.1 ∈ pd_TB := pd_tb (i := 1226) (by decide +kernel) (by decide +kernel)
theorem cvX9_114 : pd_CV RX9 114 mi_X9_name 0 8 := ⟨cb_X9_name, mlX9_114, im_X9_name, se_X9_name, _, rfl, rfl, by decide⟩
set_option maxRecDepth 100000 in
theorem hd_X9_number : pd_hd mi_X9_number ∈ pd_TB := pd_tb (i := 1233) (by rfl) (by decide +kernel)
set_option maxRecDepth 100000 in
theorem in_X9_number : Cond.initialized mi_X9_number.1.cls ∈ pd_TB := pd_tb (i := 102) (by decide +kernel) (by decide +kernel)
theorem cb_X9_number : pd_CB mi_X9_number 2 := ⟨hd_X9_number, in_X9_number, by decide +kernel, by decide +kernel, by decide, rfl⟩
set_option maxRecDepth 100000 in
theorem im_X9_number : Cond.instanceMethod mi_X9_number.1 ∈ pd_TB := pd_tb (i := 1232) (by decide +kernel) (by decide +kernel)
set_option maxRecDepth 100000 in
theorem se_X9_number : Cond.selects mi_X9_number.1.cls mi_X9_number.1 mi_X9_number.1 ∈ pd_TB := pd_tb (i := 60) (by decide +kernel) (by decide +kernel)
set_option maxRecDepth 100000 in
theorem mlX9_117 : Cond.methodLink RX9 117 mi_X9_number.1 ∈ pd_TB := pd_tb (i := 1230) (by decide +kernel) (by decide +kernel)
theorem cvX9_117 : pd_CV RX9 117 mi_X9_number 2 8 := ⟨cb_X9_number, mlX9_117, im_X9_number, se_X9_number, _, rfl, rfl, by decide⟩
set_option maxRecDepth 100000 in
theorem hd_X9_isDigit : pd_hd mi_X9_isDigit ∈ pd_TB := pd_tb (i := 1236) (by rfl) (by decide +kernel)
set_option maxRecDepth 100000 in
theorem in_X9_isDigit : Cond.initialized mi_X9_isDigit.1.cls ∈ pd_TB := pd_tb (i := 102) (by decide +kernel) (by decide +kernel)
theorem cb_X9_isDigit : pd_CB mi_X9_isDigit 1 := ⟨hd_X9_isDigit, in_X9_isDigit, by decide +kernel, by decide +kernel, by decide, rfl⟩
set_option maxRecDepth 100000 in
theorem st_X9_isDigit : Cond.static mi_X9_isDigit.1 ∈ pd_TB := pd_tb (i := 1235) (by decide +kernel) (by decide +kernel)
set_option maxRecDepth 100000 in
theorem mlX9_99 : Cond.methodLink RX9 99 mi_X9_isDigit.1 ∈ pd_TB := pd_tb (i := 1234) (by decide +kernel) (by decide +kernel)
theorem csX9_99 : pd_CS RX9 99 mi_X9_isDigit 1 := ⟨cb_X9_isDigit, mlX9_99, st_X9_isDigit⟩
set_option maxRecDepth 100000 in
theorem hd_X9_less : pd_hd mi_X9_less ∈ pd_TB := pd_tb (i := 1240) (by rfl) (by decide +kernel)
set_option maxRecDepth 100000 in
theorem in_X9_less : Cond.initialized mi_X9_less.1.cls ∈ pd_TB := pd_tb (i := 102) (by decide +kernel) (by decide +kernel)
theorem cb_X9_less : pd_CB mi_X9_less 2 := ⟨hd_X9_less, in_X9_less, by decide +kernel, by decide +kernel, by decide, rfl⟩
set_option maxRecDepth 100000 in
theorem st_X9_less : Cond.static mi_X9_less.1 ∈ pd_TB := pd_tb (i := 1239) (by decide +kernel) (by decide +kernel)
set_option maxRecDepth 100000 in
theorem mlX9_103 : Cond.methodLink RX9 103 mi_X9_less.1 ∈ pd_TB := pd_tb (i := 1238) (by decide +kernel) (by decide +kernel)
theorem csX9_103 : pd_CS RX9 103 mi_X9_less 2 := ⟨cb_X9_less, mlX9_103, st_X9_less⟩
set_option maxRecDepth 100000 in
theorem hd_X9_voterOf : pd_hd mi_X9_voterOf ∈ pd_TB := pd_tb (i := 1243) (by rfl) (by decide +kernel)
set_option maxRecDepth 100000 in
theorem in_X9_voterOf : Cond.initialized mi_X9_voterOf.1.cls ∈ pd_TB := pd_tb (i := 102) (by decide +kernel) (by decide +kernel)
theorem cb_X9_voterOf : pd_CB mi_X9_voterOf 3 := ⟨hd_X9_voterOf, in_X9_voterOf, by decide +kernel, by decide +kernel, by decide, rfl⟩
set_option maxRecDepth 100000 in
theorem st_X9_voterOf : Cond.static mi_X9_voterOf.1 ∈ pd_TB := pd_tb (i := 1242) (by decide +kernel) (by decide +kernel)
set_option maxRecDepth 100000 in
theorem mlX9_120 : Cond.methodLink RX9 120 mi_X9_voterOf.1 ∈ pd_TB := pd_tb (i := 1241) (by decide +kernel) (by decide +kernel)
theorem csX9_120 : pd_CS RX9 120 mi_X9_voterOf 3 := ⟨cb_X9_voterOf, mlX9_120, st_X9_voterOf⟩
set_option maxRecDepth 100000 in
theorem hd_X9_voterAt : pd_hd mi_X9_voterAt ∈ pd_TB := pd_tb (i := 1246) (by rfl) (by decide +kernel)
set_option maxRecDepth 100000 in
theorem in_X9_voterAt : Cond.initialized mi_X9_voterAt.1.cls ∈ pd_TB := pd_tb (i := 102) (by decide +kernel) (by decide +kernel)
theorem cb_X9_voterAt : pd_CB mi_X9_voterAt 2 := ⟨hd_X9_voterAt, in_X9_voterAt, by decide +kernel, by decide +kernel, by decide, rfl⟩
set_option maxRecDepth 100000 in
theorem st_X9_voterAt : Cond.static mi_X9_voterAt.1 ∈ pd_TB := pd_tb (i := 1245) (by decide +kernel) (by decide +kernel)
set_option maxRecDepth 100000 in
theorem mlX9_111 : Cond.methodLink RX9 111 mi_X9_voterAt.1 ∈ pd_TB := pd_tb (i := 1244) (by decide +kernel) (by decide +kernel)
theorem csX9_111 : pd_CS RX9 111 mi_X9_voterAt 2 := ⟨cb_X9_voterAt, mlX9_111, st_X9_voterAt⟩
set_option maxRecDepth 100000 in
theorem hd_X9_readsSign : pd_hd mi_X9_readsSign ∈ pd_TB := pd_tb (i := 1252) (by rfl) (by decide +kernel)
set_option maxRecDepth 100000 in
theorem in_X9_readsSign : Cond.initialized mi_X9_readsSign.1.cls ∈ pd_TB := pd_tb (i := 102) (by decide +kernel) (by decide +kernel)
theorem cb_X9_readsSign : pd_CB mi_X9_readsSign 1 := ⟨hd_X9_readsSign, in_X9_readsSign, by decide +kernel, by decide +kernel, by decide, rfl⟩
set_option maxRecDepth 100000 in
theorem im_X9_readsSign : Cond.instanceMethod mi_X9_readsSign.1 ∈ pd_TB := pd_tb (i := 1251) (by decide +kernel) (by decide +kernel)
set_option maxRecDepth 100000 in
theorem se_X9_readsSign : Cond.selects mi_X9_readsSign.1.cls mi_X9_readsSign.1 mi_X9_readsSign.1 ∈ pd_TB := pd_tb (i := 61) (by decide +kernel) (by decide +kernel)
set_option maxRecDepth 100000 in
theorem mlX9_187 : Cond.methodLink RX9 187 mi_X9_readsSign.1 ∈ pd_TB := pd_tb (i := 1249) (by decide +kernel) (by decide +kernel)
theorem cvX9_187 : pd_CV RX9 187 mi_X9_readsSign 1 8 := ⟨cb_X9_readsSign, mlX9_187, im_X9_readsSign, se_X9_readsSign, _, rfl, rfl, by decide⟩
set_option maxRecDepth 100000 in
theorem hd_X9_lineAt : pd_hd mi_X9_lineAt ∈ pd_TB := pd_tb (i := 1255) (by rfl) (by decide +kernel)
set_option maxRecDepth 100000 in
theorem in_X9_lineAt : Cond.initialized mi_X9_lineAt.1.cls ∈ pd_TB := pd_tb (i := 102) (by decide +kernel) (by decide +kernel)
theorem cb_X9_lineAt : pd_CB mi_X9_lineAt 2 := ⟨hd_X9_lineAt, in_X9_lineAt, by decide +kernel, by decide +kernel, by decide, rfl⟩
set_option maxRecDepth 100000 in
theorem st_X9_lineAt : Cond.static mi_X9_lineAt.1 ∈ pd_TB := pd_tb (i := 1254) (by decide +kernel) (by decide +kernel)
set_option maxRecDepth 100000 in
theorem mlX9_124 : Cond.methodLink RX9 124 mi_X9_lineAt.1 ∈ pd_TB := pd_tb (i := 1253) (by decide +kernel) (by decide +kernel)
theorem csX9_124 : pd_CS RX9 124 mi_X9_lineAt 2 := ⟨cb_X9_lineAt, mlX9_124, st_X9_lineAt⟩
set_option maxRecDepth 100000 in
theorem hd_X9_takesOnce : pd_hd mi_X9_takesOnce ∈ pd_TB := pd_tb (i := 1260) (by rfl) (by decide +kernel)
set_option maxRecDepth 100000 in
theorem in_X9_takesOnce : Cond.initialized mi_X9_takesOnce.1.cls ∈ pd_TB := pd_tb (i := 102) (by decide +kernel) (by decide +kernel)
theorem cb_X9_takesOnce : pd_CB mi_X9_takesOnce 2 := ⟨hd_X9_takesOnce, in_X9_takesOnce, by decide +kernel, by decide +kernel, by decide, rfl⟩
set_option maxRecDepth 100000 in
theorem im_X9_takesOnce : Cond.instanceMethod mi_X9_takesOnce.1 ∈ pd_TB := pd_tb (i := 1259) (by decide +kernel) (by decide +kernel)
set_option maxRecDepth 100000 in
theorem se_X9_takesOnce : Cond.selects mi_X9_takesOnce.1.cls mi_X9_takesOnce.1 mi_X9_takesOnce.1 ∈ pd_TB := pd_tb (i := 62) (by decide +kernel) (by decide +kernel)
set_option maxRecDepth 100000 in
theorem mlX9_192 : Cond.methodLink RX9 192 mi_X9_takesOnce.1 ∈ pd_TB := pd_tb (i := 1257) (by decide +kernel) (by decide +kernel)
theorem cvX9_192 : pd_CV RX9 192 mi_X9_takesOnce 2 8 := ⟨cb_X9_takesOnce, mlX9_192, im_X9_takesOnce, se_X9_takesOnce, _, rfl, rfl, by decide⟩
set_option maxRecDepth 100000 in
theorem hd_X9_any : pd_hd mi_X9_any ∈ pd_TB := pd_tb (i := 1268) (by rfl) (by decide +kernel)
set_option maxRecDepth 100000 in
theorem in_X9_any : Cond.initialized mi_X9_any.1.cls ∈ pd_TB := pd_tb (i := 102) (by decide +kernel) (by decide +kernel)
theorem cb_X9_any : pd_CB mi_X9_any 0 := ⟨hd_X9_any, in_X9_any, by decide +kernel, by decide +kernel, by decide, rfl⟩
set_option maxRecDepth 100000 in
theorem im_X9_any : Cond.instanceMethod mi_X9_any.1 ∈ pd_TB := pd_tb (i := 1267) (by decide +kernel) (by decide +kernel)
set_option maxRecDepth 100000 in
theorem se_X9_any : Cond.selects mi_X9_any.1.cls mi_X9_any.1 mi_X9_any.1 ∈ pd_TB := pd_tb (i := 63) (by decide +kernel) (by decide +kernel)
set_option maxRecDepth 100000 in
theorem mlX9_164 : Cond.methodLink RX9 164 mi_X9_any.1 ∈ pd_TB := pd_tb (i := 1265) (by decide +kernel) (by decide +kernel)
theorem cvX9_164 : pd_CV RX9 164 mi_X9_any 0 8 := ⟨cb_X9_any, mlX9_164, im_X9_any, se_X9_any, _, rfl, rfl, by decide⟩
set_option maxRecDepth 100000 in
theorem hd_X9_all : pd_hd mi_X9_all ∈ pd_TB := pd_tb (i := 1272) (by rfl) (by decide +kernel)
set_option maxRecDepth 100000 in
theorem in_X9_all : Cond.initialized mi_X9_all.1.cls ∈ pd_TB := pd_tb (i := 102) (by decide +kernel) (by decide +kernel)
theorem cb_X9_all : pd_CB mi_X9_all 0 := ⟨hd_X9_all, in_X9_all, by decide +kernel, by decide +kernel, by decide, rfl⟩
set_option maxRecDepth 100000 in
theorem im_X9_all : Cond.instanceMethod mi_X9_all.1 ∈ pd_TB := pd_tb (i := 1271) (by decide +kernel) (by decide +kernel)
set_option maxRecDepth 100000 in
theorem se_X9_all : Cond.selects mi_X9_all.1.cls mi_X9_all.1 mi_X9_all.1 ∈ pd_TB := pd_tb (i := 64) (by decide +kernel) (by decide +kernel)
set_option maxRecDepth 100000 in
theorem mlX9_172 : Cond.methodLink RX9 172 mi_X9_all.1 ∈ pd_TB := pd_tb (i := 1269) (by decide +kernel) (by decide +kernel)
theorem cvX9_172 : pd_CV RX9 172 mi_X9_all 0 8 := ⟨cb_X9_all, mlX9_172, im_X9_all, se_X9_all, _, rfl, rfl, by decide⟩
set_option maxRecDepth 100000 in
theorem hd_X9_part : pd_hd mi_X9_part ∈ pd_TB := pd_tb (i := 1276) (by rfl) (by decide +kernel)
set_option maxRecDepth 100000 in
theorem in_X9_part : Cond.initialized mi_X9_part.1.cls ∈ pd_TB := pd_tb (i := 102) (by decide +kernel) (by decide +kernel)
theorem cb_X9_part : pd_CB mi_X9_part 0 := ⟨hd_X9_part, in_X9_part, by decide +kernel, by decide +kernel, by decide, rfl⟩
set_option maxRecDepth 100000 in
theorem im_X9_part : Cond.instanceMethod mi_X9_part.1 ∈ pd_TB := pd_tb (i := 1275) (by decide +kernel) (by decide +kernel)
set_option maxRecDepth 100000 in
theorem se_X9_part : Cond.selects mi_X9_part.1.cls mi_X9_part.1 mi_X9_part.1 ∈ pd_TB := pd_tb (i := 65) (by decide +kernel) (by decide +kernel)
set_option maxRecDepth 100000 in
theorem mlX9_161 : Cond.methodLink RX9 161 mi_X9_part.1 ∈ pd_TB := pd_tb (i := 1273) (by decide +kernel) (by decide +kernel)
theorem cvX9_161 : pd_CV RX9 161 mi_X9_part 0 8 := ⟨cb_X9_part, mlX9_161, im_X9_part, se_X9_part, _, rfl, rfl, by decide⟩
set_option maxRecDepth 100000 in
theorem hd_X9_side : pd_hd mi_X9_side ∈ pd_TB := pd_tb (i := 1281) (by rfl) (by decide +kernel)
set_option maxRecDepth 100000 in
theorem in_X9_side : Cond.initialized mi_X9_side.1.cls ∈ pd_TB := pd_tb (i := 102) (by decide +kernel) (by decide +kernel)
theorem cb_X9_side : pd_CB mi_X9_side 0 := ⟨hd_X9_side, in_X9_side, by decide +kernel, by decide +kernel, by decide, rfl⟩
set_option maxRecDepth 100000 in
theorem im_X9_side : Cond.instanceMethod mi_X9_side.1 ∈ pd_TB := pd_tb (i := 1280) (by decide +kernel) (by decide +kernel)
set_option maxRecDepth 100000 in
theorem se_X9_side : Cond.selects mi_X9_side.1.cls mi_X9_side.1 mi_X9_side.1 ∈ pd_TB := pd_tb (i := 66) (by decide +kernel) (by decide +kernel)
set_option maxRecDepth 100000 in
theorem mlX9_155 : Cond.methodLink RX9 155 mi_X9_side.1 ∈ pd_TB := pd_tb (i := 1278) (by decide +kernel) (by decide +kernel)
theorem cvX9_155 : pd_CV RX9 155 mi_X9_side 0 8 := ⟨cb_X9_side, mlX9_155, im_X9_side, se_X9_side, _, rfl, rfl, by decide⟩
set_option maxRecDepth 100000 in
theorem hd_X9_tells : pd_hd mi_X9_tells ∈ pd_TB := pd_tb (i := 1285) (by rfl) (by decide +kernel)
set_option maxRecDepth 100000 in
theorem in_X9_tells : Cond.initialized mi_X9_tells.1.cls ∈ pd_TB := pd_tb (i := 102) (by decide +kernel) (by decide +kernel)
theorem cb_X9_tells : pd_CB mi_X9_tells 1 := ⟨hd_X9_tells, in_X9_tells, by decide +kernel, by decide +kernel, by decide, rfl⟩
set_option maxRecDepth 100000 in
theorem im_X9_tells : Cond.instanceMethod mi_X9_tells.1 ∈ pd_TB := pd_tb (i := 1284) (by decide +kernel) (by decide +kernel)
set_option maxRecDepth 100000 in
theorem se_X9_tells : Cond.selects mi_X9_tells.1.cls mi_X9_tells.1 mi_X9_tells.1 ∈ pd_TB := pd_tb (i := 67) (by decide +kernel) (by decide +kernel)
set_option maxRecDepth 100000 in
theorem mlX9_142 : Cond.methodLink RX9 142 mi_X9_tells.1 ∈ pd_TB := pd_tb (i := 1282) (by decide +kernel) (by decide +kernel)
theorem cvX9_142 : pd_CV RX9 142 mi_X9_tells 1 8 := ⟨cb_X9_tells, mlX9_142, im_X9_tells, se_X9_tells, _, rfl, rfl, by decide⟩
set_option maxRecDepth 100000 in
theorem hd_X9_factOf : pd_hd mi_X9_factOf ∈ pd_TB := pd_tb (i := 1288) (by rfl) (by decide +kernel)
set_option maxRecDepth 100000 in
theorem in_X9_factOf : Cond.initialized mi_X9_factOf.1.cls ∈ pd_TB := pd_tb (i := 102) (by decide +kernel) (by decide +kernel)
theorem cb_X9_factOf : pd_CB mi_X9_factOf 1 := ⟨hd_X9_factOf, in_X9_factOf, by decide +kernel, by decide +kernel, by decide, rfl⟩
set_option maxRecDepth 100000 in
theorem st_X9_factOf : Cond.static mi_X9_factOf.1 ∈ pd_TB := pd_tb (i := 1287) (by decide +kernel) (by decide +kernel)
set_option maxRecDepth 100000 in
theorem mlX9_146 : Cond.methodLink RX9 146 mi_X9_factOf.1 ∈ pd_TB := pd_tb (i := 1286) (by decide +kernel) (by decide +kernel)
theorem csX9_146 : pd_CS RX9 146 mi_X9_factOf 1 := ⟨cb_X9_factOf, mlX9_146, st_X9_factOf⟩
set_option maxRecDepth 100000 in
theorem hd_X9_must : pd_hd mi_X9_must ∈ pd_TB := pd_tb (i := 1297) (by rfl) (by decide +kernel)
set_option maxRecDepth 100000 in
theorem in_X9_must : Cond.initialized mi_X9_must.1.cls ∈ pd_TB := pd_tb (i := 102) (by decide +kernel) (by decide +kernel)
theorem cb_X9_must : pd_CB mi_X9_must 1 := ⟨hd_X9_must, in_X9_must, by decide +kernel, by decide +kernel, by decide, rfl⟩
set_option maxRecDepth 100000 in
theorem im_X9_must : Cond.instanceMethod mi_X9_must.1 ∈ pd_TB := pd_tb (i := 1296) (by decide +kernel) (by decide +kernel)
set_option maxRecDepth 100000 in
theorem se_X9_must : Cond.selects mi_X9_must.1.cls mi_X9_must.1 mi_X9_must.1 ∈ pd_TB := pd_tb (i := 68) (by decide +kernel) (by decide +kernel)
set_option maxRecDepth 100000 in
theorem mlX9_167 : Cond.methodLink RX9 167 mi_X9_must.1 ∈ pd_TB := pd_tb (i := 1294) (by decide +kernel) (by decide +kernel)
theorem cvX9_167 : pd_CV RX9 167 mi_X9_must 1 8 := ⟨cb_X9_must, mlX9_167, im_X9_must, se_X9_must, _, rfl, rfl, by decide⟩
set_option maxRecDepth 100000 in
theorem hd_X9_remembers : pd_hd mi_X9_remembers ∈ pd_TB := pd_tb (i := 1303) (by rfl) (by decide +kernel)
set_option maxRecDepth 100000 in
theorem in_X9_remembers : Cond.initialized mi_X9_remembers.1.cls ∈ pd_TB := pd_tb (i := 102) (by decide +kernel) (by decide +kernel)
theorem cb_X9_remembers : pd_CB mi_X9_remembers 0 := ⟨hd_X9_remembers, in_X9_remembers, by decide +kernel, by decide +kernel, by decide, rfl⟩
set_option maxRecDepth 100000 in
theorem im_X9_remembers : Cond.instanceMethod mi_X9_remembers.1 ∈ pd_TB := pd_tb (i := 1302) (by decide +kernel) (by decide +kernel)
set_option maxRecDepth 100000 in
theorem se_X9_remembers : Cond.selects mi_X9_remembers.1.cls mi_X9_remembers.1 mi_X9_remembers.1 ∈ pd_TB := pd_tb (i := 69) (by decide +kernel) (by decide +kernel)
set_option maxRecDepth 100000 in
theorem mlX9_211 : Cond.methodLink RX9 211 mi_X9_remembers.1 ∈ pd_TB := pd_tb (i := 1300) (by decide +kernel) (by decide +kernel)
theorem cvX9_211 : pd_CV RX9 211 mi_X9_remembers 0 8 := ⟨cb_X9_remembers, mlX9_211, im_X9_remembers, se_X9_remembers, _, rfl, rfl, by decide⟩
set_option maxRecDepth 100000 in
theorem hd_X9_copies : pd_hd mi_X9_copies ∈ pd_TB := pd_tb (i := 1306) (by rfl) (by decide +kernel)
set_option maxRecDepth 100000 in
theorem in_X9_copies : Cond.initialized mi_X9_copies.1.cls ∈ pd_TB := pd_tb (i := 102) (by decide +kernel) (by decide +kernel)
theorem cb_X9_copies : pd_CB mi_X9_copies 2 := ⟨hd_X9_copies, in_X9_copies, by decide +kernel, by decide +kernel, by decide, rfl⟩
set_option maxRecDepth 100000 in
theorem st_X9_copies : Cond.static mi_X9_copies.1 ∈ pd_TB := pd_tb (i := 1305) (by decide +kernel) (by decide +kernel)
set_option maxRecDepth 100000 in
theorem mlX9_214 : Cond.methodLink RX9 214 mi_X9_copies.1 ∈ pd_TB := pd_tb (i := 1304) (by decide +kernel) (by decide +kernel)
theorem csX9_214 : pd_CS RX9 214 mi_X9_copies 2 := ⟨cb_X9_copies, mlX9_214, st_X9_copies⟩
set_option maxRecDepth 100000 in
theorem hd_X9_lines : pd_hd mi_X9_lines ∈ pd_TB := pd_tb (i := 1310) (by rfl) (by decide +kernel)
set_option maxRecDepth 100000 in
theorem in_X9_lines : Cond.initialized mi_X9_lines.1.cls ∈ pd_TB := pd_tb (i := 102) (by decide +kernel) (by decide +kernel)
theorem cb_X9_lines : pd_CB mi_X9_lines 0 := ⟨hd_X9_lines, in_X9_lines, by decide +kernel, by decide +kernel, by decide, rfl⟩
set_option maxRecDepth 100000 in
theorem im_X9_lines : Cond.instanceMethod mi_X9_lines.1 ∈ pd_TB := pd_tb (i := 1309) (by decide +kernel) (by decide +kernel)
set_option maxRecDepth 100000 in
theorem se_X9_lines : Cond.selects mi_X9_lines.1.cls mi_X9_lines.1 mi_X9_lines.1 ∈ pd_TB := pd_tb (i := 70) (by decide +kernel) (by decide +kernel)
set_option maxRecDepth 100000 in
theorem mlX9_218 : Cond.methodLink RX9 218 mi_X9_lines.1 ∈ pd_TB := pd_tb (i := 1307) (by decide +kernel) (by decide +kernel)
theorem cvX9_218 : pd_CV RX9 218 mi_X9_lines 0 8 := ⟨cb_X9_lines, mlX9_218, im_X9_lines, se_X9_lines, _, rfl, rfl, by decide⟩
set_option maxRecDepth 100000 in
theorem hd_X9_fault : pd_hd mi_X9_fault ∈ pd_TB := pd_tb (i := 1314) (by rfl) (by decide +kernel)
set_option maxRecDepth 100000 in
theorem in_X9_fault : Cond.initialized mi_X9_fault.1.cls ∈ pd_TB := pd_tb (i := 102) (by decide +kernel) (by decide +kernel)
theorem cb_X9_fault : pd_CB mi_X9_fault 0 := ⟨hd_X9_fault, in_X9_fault, by decide +kernel, by decide +kernel, by decide, rfl⟩
set_option maxRecDepth 100000 in
theorem im_X9_fault : Cond.instanceMethod mi_X9_fault.1 ∈ pd_TB := pd_tb (i := 1312) (by decide +kernel) (by decide +kernel)
set_option maxRecDepth 100000 in
theorem se_X9_fault : Cond.selects mi_X9_fault.1.cls mi_X9_fault.1 mi_X9_fault.1 ∈ pd_TB := pd_tb (i := 1313) (by decide +kernel) (by decide +kernel)
set_option maxRecDepth 100000 in
theorem mlL_93 : Cond.methodLink RL 93 mi_X9_fault.1 ∈ pd_TB := pd_tb (i := 1311) (by decide +kernel) (by decide +kernel)
theorem cvL_93 : pd_CV RL 93 mi_X9_fault 0 8 := ⟨cb_X9_fault, mlL_93, im_X9_fault, se_X9_fault, _, rfl, rfl, by decide⟩
set_option maxRecDepth 100000 in
theorem hd_X9_undo : pd_hd mi_X9_undo ∈ pd_TB := pd_tb (i := 1318) (by rfl) (by decide +kernel)
set_option maxRecDepth 100000 in
theorem in_X9_undo : Cond.initialized mi_X9_undo.1.cls ∈ pd_TB := pd_tb (i := 102) (by decide +kernel) (by decide +kernel)
theorem cb_X9_undo : pd_CB mi_X9_undo 0 := ⟨hd_X9_undo, in_X9_undo, by decide +kernel, by decide +kernel, by decide, rfl⟩
set_option maxRecDepth 100000 in
theorem im_X9_undo : Cond.instanceMethod mi_X9_undo.1 ∈ pd_TB := pd_tb (i := 1316) (by decide +kernel) (by decide +kernel)
set_option maxRecDepth 100000 in
theorem se_X9_undo : Cond.selects mi_X9_undo.1.cls mi_X9_undo.1 mi_X9_undo.1 ∈ pd_TB := pd_tb (i := 1317) (by decide +kernel) (by decide +kernel)
set_option maxRecDepth 100000 in
theorem mlL_112 : Cond.methodLink RL 112 mi_X9_undo.1 ∈ pd_TB := pd_tb (i := 1315) (by decide +kernel) (by decide +kernel)
theorem cvL_112 : pd_CV RL 112 mi_X9_undo 0 8 := ⟨cb_X9_undo, mlL_112, im_X9_undo, se_X9_undo, _, rfl, rfl, by decide⟩
set_option maxRecDepth 100000 in
theorem hd_X9_sample : pd_hd mi_X9_sample ∈ pd_TB := pd_tb (i := 1322) (by rfl) (by decide +kernel)
set_option maxRecDepth 100000 in
theorem in_X9_sample : Cond.initialized mi_X9_sample.1.cls ∈ pd_TB := pd_tb (i := 102) (by decide +kernel) (by decide +kernel)
theorem cb_X9_sample : pd_CB mi_X9_sample 3 := ⟨hd_X9_sample, in_X9_sample, by decide +kernel, by decide +kernel, by decide, rfl⟩
set_option maxRecDepth 100000 in
theorem im_X9_sample : Cond.instanceMethod mi_X9_sample.1 ∈ pd_TB := pd_tb (i := 1320) (by decide +kernel) (by decide +kernel)
set_option maxRecDepth 100000 in
theorem se_X9_sample : Cond.selects mi_X9_sample.1.cls mi_X9_sample.1 mi_X9_sample.1 ∈ pd_TB := pd_tb (i := 1321) (by decide +kernel) (by decide +kernel)
set_option maxRecDepth 100000 in
theorem mlL_97 : Cond.methodLink RL 97 mi_X9_sample.1 ∈ pd_TB := pd_tb (i := 1319) (by decide +kernel) (by decide +kernel)
theorem cvL_97 : pd_CV RL 97 mi_X9_sample 3 8 := ⟨cb_X9_sample, mlL_97, im_X9_sample, se_X9_sample, _, rfl, rfl, by decide⟩
set_option maxRecDepth 100000 in
theorem hd_X9_isSample : pd_hd mi_X9_isSample ∈ pd_TB := pd_tb (i := 1325) (by rfl) (by decide +kernel)
set_option maxRecDepth 100000 in
theorem in_X9_isSample : Cond.initialized mi_X9_isSample.1.cls ∈ pd_TB := pd_tb (i := 102) (by decide +kernel) (by decide +kernel)
theorem cb_X9_isSample : pd_CB mi_X9_isSample 1 := ⟨hd_X9_isSample, in_X9_isSample, by decide +kernel, by decide +kernel, by decide, rfl⟩
set_option maxRecDepth 100000 in
theorem st_X9_isSample : Cond.static mi_X9_isSample.1 ∈ pd_TB := pd_tb (i := 1324) (by decide +kernel) (by decide +kernel)
set_option maxRecDepth 100000 in
theorem mlX9_251 : Cond.methodLink RX9 251 mi_X9_isSample.1 ∈ pd_TB := pd_tb (i := 1323) (by decide +kernel) (by decide +kernel)
theorem csX9_251 : pd_CS RX9 251 mi_X9_isSample 1 := ⟨cb_X9_isSample, mlX9_251, st_X9_isSample⟩
set_option maxRecDepth 100000 in
theorem hd_X9_isIn : pd_hd mi_X9_isIn ∈ pd_TB := pd_tb (i := 1330) (by rfl) (by decide +kernel)
set_option maxRecDepth 100000 in
theorem in_X9_isIn : Cond.initialized mi_X9_isIn.1.cls ∈ pd_TB := pd_tb (i := 102) (by decide +kernel) (by decide +kernel)
theorem cb_X9_isIn : pd_CB mi_X9_isIn 2 := ⟨hd_X9_isIn, in_X9_isIn, by decide +kernel, by decide +kernel, by decide, rfl⟩
set_option maxRecDepth 100000 in
theorem im_X9_isIn : Cond.instanceMethod mi_X9_isIn.1 ∈ pd_TB := pd_tb (i := 1329) (by decide +kernel) (by decide +kernel)
set_option maxRecDepth 100000 in
theorem se_X9_isIn : Cond.selects mi_X9_isIn.1.cls mi_X9_isIn.1 mi_X9_isIn.1 ∈ pd_TB := pd_tb (i := 71) (by decide +kernel) (by decide +kernel)
set_option maxRecDepth 100000 in
theorem mlX9_244 : Cond.methodLink RX9 244 mi_X9_isIn.1 ∈ pd_TB := pd_tb (i := 1327) (by decide +kernel) (by decide +kernel)
theorem cvX9_244 : pd_CV RX9 244 mi_X9_isIn 2 8 := ⟨cb_X9_isIn, mlX9_244, im_X9_isIn, se_X9_isIn, _, rfl, rfl, by decide⟩
set_option maxRecDepth 100000 in
theorem hd_X9_judges : pd_hd mi_X9_judges ∈ pd_TB := pd_tb (i := 1334) (by rfl) (by decide +kernel)
set_option maxRecDepth 100000 in
theorem in_X9_judges : Cond.initialized mi_X9_judges.1.cls ∈ pd_TB := pd_tb (i := 102) (by decide +kernel) (by decide +kernel)
theorem cb_X9_judges : pd_CB mi_X9_judges 2 := ⟨hd_X9_judges, in_X9_judges, by decide +kernel, by decide +kernel, by decide, rfl⟩
set_option maxRecDepth 100000 in
theorem im_X9_judges : Cond.instanceMethod mi_X9_judges.1 ∈ pd_TB := pd_tb (i := 1333) (by decide +kernel) (by decide +kernel)
set_option maxRecDepth 100000 in
theorem se_X9_judges : Cond.selects mi_X9_judges.1.cls mi_X9_judges.1 mi_X9_judges.1 ∈ pd_TB := pd_tb (i := 72) (by decide +kernel) (by decide +kernel)
set_option maxRecDepth 100000 in
theorem mlX9_255 : Cond.methodLink RX9 255 mi_X9_judges.1 ∈ pd_TB := pd_tb (i := 1331) (by decide +kernel) (by decide +kernel)
theorem cvX9_255 : pd_CV RX9 255 mi_X9_judges 2 8 := ⟨cb_X9_judges, mlX9_255, im_X9_judges, se_X9_judges, _, rfl, rfl, by decide⟩
set_option maxRecDepth 100000 in
theorem hd_X9_isGood : pd_hd mi_X9_isGood ∈ pd_TB := pd_tb (i := 1338) (by rfl) (by decide +kernel)
set_option maxRecDepth 100000 in
theorem in_X9_isGood : Cond.initialized mi_X9_isGood.1.cls ∈ pd_TB := pd_tb (i := 102) (by decide +kernel) (by decide +kernel)
theorem cb_X9_isGood : pd_CB mi_X9_isGood 2 := ⟨hd_X9_isGood, in_X9_isGood, by decide +kernel, by decide +kernel, by decide, rfl⟩
set_option maxRecDepth 100000 in
theorem im_X9_isGood : Cond.instanceMethod mi_X9_isGood.1 ∈ pd_TB := pd_tb (i := 1337) (by decide +kernel) (by decide +kernel)
set_option maxRecDepth 100000 in
theorem se_X9_isGood : Cond.selects mi_X9_isGood.1.cls mi_X9_isGood.1 mi_X9_isGood.1 ∈ pd_TB := pd_tb (i := 73) (by decide +kernel) (by decide +kernel)
set_option maxRecDepth 100000 in
theorem mlX9_231 : Cond.methodLink RX9 231 mi_X9_isGood.1 ∈ pd_TB := pd_tb (i := 1335) (by decide +kernel) (by decide +kernel)
theorem cvX9_231 : pd_CV RX9 231 mi_X9_isGood 2 8 := ⟨cb_X9_isGood, mlX9_231, im_X9_isGood, se_X9_isGood, _, rfl, rfl, by decide⟩
set_option maxRecDepth 100000 in
theorem hd_X9_fact : pd_hd mi_X9_fact ∈ pd_TB := pd_tb (i := 1342) (by rfl) (by decide +kernel)
set_option maxRecDepth 100000 in
theorem in_X9_fact : Cond.initialized mi_X9_fact.1.cls ∈ pd_TB := pd_tb (i := 102) (by decide +kernel) (by decide +kernel)
theorem cb_X9_fact : pd_CB mi_X9_fact 3 := ⟨hd_X9_fact, in_X9_fact, by decide +kernel, by decide +kernel, by decide, rfl⟩
set_option maxRecDepth 100000 in
theorem im_X9_fact : Cond.instanceMethod mi_X9_fact.1 ∈ pd_TB := pd_tb (i := 1341) (by decide +kernel) (by decide +kernel)
set_option maxRecDepth 100000 in
theorem se_X9_fact : Cond.selects mi_X9_fact.1.cls mi_X9_fact.1 mi_X9_fact.1 ∈ pd_TB := pd_tb (i := 74) (by decide +kernel) (by decide +kernel)
set_option maxRecDepth 100000 in
theorem mlX9_225 : Cond.methodLink RX9 225 mi_X9_fact.1 ∈ pd_TB := pd_tb (i := 1339) (by decide +kernel) (by decide +kernel)
theorem cvX9_225 : pd_CV RX9 225 mi_X9_fact 3 8 := ⟨cb_X9_fact, mlX9_225, im_X9_fact, se_X9_fact, _, rfl, rfl, by decide⟩
set_option maxRecDepth 100000 in
theorem hd_X9_numberOf : pd_hd mi_X9_numberOf ∈ pd_TB := pd_tb (i := 1345) (by rfl) (by decide +kernel)
set_option maxRecDepth 100000 in
theorem in_X9_numberOf : Cond.initialized mi_X9_numberOf.1.cls ∈ pd_TB := pd_tb (i := 102) (by decide +kernel) (by decide +kernel)
theorem cb_X9_numberOf : pd_CB mi_X9_numberOf 2 := ⟨hd_X9_numberOf, in_X9_numberOf, by decide +kernel, by decide +kernel, by decide, rfl⟩
set_option maxRecDepth 100000 in
theorem st_X9_numberOf : Cond.static mi_X9_numberOf.1 ∈ pd_TB := pd_tb (i := 1344) (by decide +kernel) (by decide +kernel)
set_option maxRecDepth 100000 in
theorem mlX9_221 : Cond.methodLink RX9 221 mi_X9_numberOf.1 ∈ pd_TB := pd_tb (i := 1343) (by decide +kernel) (by decide +kernel)
theorem csX9_221 : pd_CS RX9 221 mi_X9_numberOf 2 := ⟨cb_X9_numberOf, mlX9_221, st_X9_numberOf⟩
set_option maxRecDepth 100000 in
theorem hd_X9_goodIn : pd_hd mi_X9_goodIn ∈ pd_TB := pd_tb (i := 1349) (by rfl) (by decide +kernel)
set_option maxRecDepth 100000 in
theorem in_X9_goodIn : Cond.initialized mi_X9_goodIn.1.cls ∈ pd_TB := pd_tb (i := 102) (by decide +kernel) (by decide +kernel)
theorem cb_X9_goodIn : pd_CB mi_X9_goodIn 1 := ⟨hd_X9_goodIn, in_X9_goodIn, by decide +kernel, by decide +kernel, by decide, rfl⟩
set_option maxRecDepth 100000 in
theorem im_X9_goodIn : Cond.instanceMethod mi_X9_goodIn.1 ∈ pd_TB := pd_tb (i := 1348) (by decide +kernel) (by decide +kernel)
set_option maxRecDepth 100000 in
theorem se_X9_goodIn : Cond.selects mi_X9_goodIn.1.cls mi_X9_goodIn.1 mi_X9_goodIn.1 ∈ pd_TB := pd_tb (i := 75) (by decide +kernel) (by decide +kernel)
set_option maxRecDepth 100000 in
theorem mlX9_259 : Cond.methodLink RX9 259 mi_X9_goodIn.1 ∈ pd_TB := pd_tb (i := 1346) (by decide +kernel) (by decide +kernel)
theorem cvX9_259 : pd_CV RX9 259 mi_X9_goodIn 1 8 := ⟨cb_X9_goodIn, mlX9_259, im_X9_goodIn, se_X9_goodIn, _, rfl, rfl, by decide⟩
set_option maxRecDepth 100000 in
theorem hd_X9_isClean : pd_hd mi_X9_isClean ∈ pd_TB := pd_tb (i := 1353) (by rfl) (by decide +kernel)
set_option maxRecDepth 100000 in
theorem in_X9_isClean : Cond.initialized mi_X9_isClean.1.cls ∈ pd_TB := pd_tb (i := 102) (by decide +kernel) (by decide +kernel)
theorem cb_X9_isClean : pd_CB mi_X9_isClean 1 := ⟨hd_X9_isClean, in_X9_isClean, by decide +kernel, by decide +kernel, by decide, rfl⟩
set_option maxRecDepth 100000 in
theorem im_X9_isClean : Cond.instanceMethod mi_X9_isClean.1 ∈ pd_TB := pd_tb (i := 1352) (by decide +kernel) (by decide +kernel)
set_option maxRecDepth 100000 in
theorem se_X9_isClean : Cond.selects mi_X9_isClean.1.cls mi_X9_isClean.1 mi_X9_isClean.1 ∈ pd_TB := pd_tb (i := 76) (by decide +kernel) (by decide +kernel)
set_option maxRecDepth 100000 in
theorem mlX9_248 : Cond.methodLink RX9 248 mi_X9_isClean.1 ∈ pd_TB := pd_tb (i := 1350) (by decide +kernel) (by decide +kernel)
theorem cvX9_248 : pd_CV RX9 248 mi_X9_isClean 1 8 := ⟨cb_X9_isClean, mlX9_248, im_X9_isClean, se_X9_isClean, _, rfl, rfl, by decide⟩
set_option maxRecDepth 100000 in
theorem hd_X9_strike : pd_hd mi_X9_strike ∈ pd_TB := pd_tb (i := 1357) (by rfl) (by decide +kernel)
set_option maxRecDepth 100000 in
theorem in_X9_strike : Cond.initialized mi_X9_strike.1.cls ∈ pd_TB := pd_tb (i := 102) (by decide +kernel) (by decide +kernel)
theorem cb_X9_strike : pd_CB mi_X9_strike 2 := ⟨hd_X9_strike, in_X9_strike, by decide +kernel, by decide +kernel, by decide, rfl⟩
set_option maxRecDepth 100000 in
theorem im_X9_strike : Cond.instanceMethod mi_X9_strike.1 ∈ pd_TB := pd_tb (i := 1355) (by decide +kernel) (by decide +kernel)
set_option maxRecDepth 100000 in
theorem se_X9_strike : Cond.selects mi_X9_strike.1.cls mi_X9_strike.1 mi_X9_strike.1 ∈ pd_TB := pd_tb (i := 1356) (by decide +kernel) (by decide +kernel)
set_option maxRecDepth 100000 in
theorem mlL_101 : Cond.methodLink RL 101 mi_X9_strike.1 ∈ pd_TB := pd_tb (i := 1354) (by decide +kernel) (by decide +kernel)
theorem cvL_101 : pd_CV RL 101 mi_X9_strike 2 8 := ⟨cb_X9_strike, mlL_101, im_X9_strike, se_X9_strike, _, rfl, rfl, by decide⟩
set_option maxRecDepth 100000 in
theorem hd_X9_isSheet : pd_hd mi_X9_isSheet ∈ pd_TB := pd_tb (i := 1361) (by rfl) (by decide +kernel)
set_option maxRecDepth 100000 in
theorem in_X9_isSheet : Cond.initialized mi_X9_isSheet.1.cls ∈ pd_TB := pd_tb (i := 102) (by decide +kernel) (by decide +kernel)
theorem cb_X9_isSheet : pd_CB mi_X9_isSheet 1 := ⟨hd_X9_isSheet, in_X9_isSheet, by decide +kernel, by decide +kernel, by decide, rfl⟩
set_option maxRecDepth 100000 in
theorem im_X9_isSheet : Cond.instanceMethod mi_X9_isSheet.1 ∈ pd_TB := pd_tb (i := 1360) (by decide +kernel) (by decide +kernel)
set_option maxRecDepth 100000 in
theorem se_X9_isSheet : Cond.selects mi_X9_isSheet.1.cls mi_X9_isSheet.1 mi_X9_isSheet.1 ∈ pd_TB := pd_tb (i := 77) (by decide +kernel) (by decide +kernel)
set_option maxRecDepth 100000 in
theorem mlX9_238 : Cond.methodLink RX9 238 mi_X9_isSheet.1 ∈ pd_TB := pd_tb (i := 1358) (by decide +kernel) (by decide +kernel)
theorem cvX9_238 : pd_CV RX9 238 mi_X9_isSheet 1 8 := ⟨cb_X9_isSheet, mlX9_238, im_X9_isSheet, se_X9_isSheet, _, rfl, rfl, by decide⟩
set_option maxRecDepth 100000 in
theorem hd_X9_sign : pd_hd mi_X9_sign ∈ pd_TB := pd_tb (i := 1365) (by rfl) (by decide +kernel)
set_option maxRecDepth 100000 in
theorem in_X9_sign : Cond.initialized mi_X9_sign.1.cls ∈ pd_TB := pd_tb (i := 102) (by decide +kernel) (by decide +kernel)
theorem cb_X9_sign : pd_CB mi_X9_sign 3 := ⟨hd_X9_sign, in_X9_sign, by decide +kernel, by decide +kernel, by decide, rfl⟩
set_option maxRecDepth 100000 in
theorem im_X9_sign : Cond.instanceMethod mi_X9_sign.1 ∈ pd_TB := pd_tb (i := 1363) (by decide +kernel) (by decide +kernel)
set_option maxRecDepth 100000 in
theorem se_X9_sign : Cond.selects mi_X9_sign.1.cls mi_X9_sign.1 mi_X9_sign.1 ∈ pd_TB := pd_tb (i := 1364) (by decide +kernel) (by decide +kernel)
set_option maxRecDepth 100000 in
theorem mlL_104 : Cond.methodLink RL 104 mi_X9_sign.1 ∈ pd_TB := pd_tb (i := 1362) (by decide +kernel) (by decide +kernel)
theorem cvL_104 : pd_CV RL 104 mi_X9_sign 3 8 := ⟨cb_X9_sign, mlL_104, im_X9_sign, se_X9_sign, _, rfl, rfl, by decide⟩
set_option maxRecDepth 100000 in
theorem hd_X9_isVoter : pd_hd mi_X9_isVoter ∈ pd_TB := pd_tb (i := 1369) (by rfl) (by decide +kernel)
set_option maxRecDepth 100000 in
theorem in_X9_isVoter : Cond.initialized mi_X9_isVoter.1.cls ∈ pd_TB := pd_tb (i := 102) (by decide +kernel) (by decide +kernel)
theorem cb_X9_isVoter : pd_CB mi_X9_isVoter 1 := ⟨hd_X9_isVoter, in_X9_isVoter, by decide +kernel, by decide +kernel, by decide, rfl⟩
set_option maxRecDepth 100000 in
theorem im_X9_isVoter : Cond.instanceMethod mi_X9_isVoter.1 ∈ pd_TB := pd_tb (i := 1368) (by decide +kernel) (by decide +kernel)
set_option maxRecDepth 100000 in
theorem se_X9_isVoter : Cond.selects mi_X9_isVoter.1.cls mi_X9_isVoter.1 mi_X9_isVoter.1 ∈ pd_TB := pd_tb (i := 78) (by decide +kernel) (by decide +kernel)
set_option maxRecDepth 100000 in
theorem mlX9_262 : Cond.methodLink RX9 262 mi_X9_isVoter.1 ∈ pd_TB := pd_tb (i := 1366) (by decide +kernel) (by decide +kernel)
theorem cvX9_262 : pd_CV RX9 262 mi_X9_isVoter 1 8 := ⟨cb_X9_isVoter, mlX9_262, im_X9_isVoter, se_X9_isVoter, _, rfl, rfl, by decide⟩
set_option maxRecDepth 100000 in
theorem hd_X9_linesOf : pd_hd mi_X9_linesOf ∈ pd_TB := pd_tb (i := 1374) (by rfl) (by decide +kernel)
set_option maxRecDepth 100000 in
theorem in_X9_linesOf : Cond.initialized mi_X9_linesOf.1.cls ∈ pd_TB := pd_tb (i := 102) (by decide +kernel) (by decide +kernel)
theorem cb_X9_linesOf : pd_CB mi_X9_linesOf 1 := ⟨hd_X9_linesOf, in_X9_linesOf, by decide +kernel, by decide +kernel, by decide, rfl⟩
set_option maxRecDepth 100000 in
theorem im_X9_linesOf : Cond.instanceMethod mi_X9_linesOf.1 ∈ pd_TB := pd_tb (i := 1373) (by decide +kernel) (by decide +kernel)
set_option maxRecDepth 100000 in
theorem se_X9_linesOf : Cond.selects mi_X9_linesOf.1.cls mi_X9_linesOf.1 mi_X9_linesOf.1 ∈ pd_TB := pd_tb (i := 79) (by decide +kernel) (by decide +kernel)
set_option maxRecDepth 100000 in
theorem mlX9_241 : Cond.methodLink RX9 241 mi_X9_linesOf.1 ∈ pd_TB := pd_tb (i := 1371) (by decide +kernel) (by decide +kernel)
theorem cvX9_241 : pd_CV RX9 241 mi_X9_linesOf 1 8 := ⟨cb_X9_linesOf, mlX9_241, im_X9_linesOf, se_X9_linesOf, _, rfl, rfl, by decide⟩
set_option maxRecDepth 100000 in
theorem hd_X9_spotOf : pd_hd mi_X9_spotOf ∈ pd_TB := pd_tb (i := 1378) (by rfl) (by decide +kernel)
set_option maxRecDepth 100000 in
theorem in_X9_spotOf : Cond.initialized mi_X9_spotOf.1.cls ∈ pd_TB := pd_tb (i := 102) (by decide +kernel) (by decide +kernel)
theorem cb_X9_spotOf : pd_CB mi_X9_spotOf 2 := ⟨hd_X9_spotOf, in_X9_spotOf, by decide +kernel, by decide +kernel, by decide, rfl⟩
set_option maxRecDepth 100000 in
theorem im_X9_spotOf : Cond.instanceMethod mi_X9_spotOf.1 ∈ pd_TB := pd_tb (i := 1377) (by decide +kernel) (by decide +kernel)
set_option maxRecDepth 100000 in
theorem se_X9_spotOf : Cond.selects mi_X9_spotOf.1.cls mi_X9_spotOf.1 mi_X9_spotOf.1 ∈ pd_TB := pd_tb (i := 80) (by decide +kernel) (by decide +kernel)
set_option maxRecDepth 100000 in
theorem mlX9_267 : Cond.methodLink RX9 267 mi_X9_spotOf.1 ∈ pd_TB := pd_tb (i := 1375) (by decide +kernel) (by decide +kernel)
theorem cvX9_267 : pd_CV RX9 267 mi_X9_spotOf 2 8 := ⟨cb_X9_spotOf, mlX9_267, im_X9_spotOf, se_X9_spotOf, _, rfl, rfl, by decide⟩
set_option maxRecDepth 100000 in
theorem hd_X9_moves : pd_hd mi_X9_moves ∈ pd_TB := pd_tb (i := 1382) (by rfl) (by decide +kernel)
set_option maxRecDepth 100000 in
theorem in_X9_moves : Cond.initialized mi_X9_moves.1.cls ∈ pd_TB := pd_tb (i := 102) (by decide +kernel) (by decide +kernel)
theorem cb_X9_moves : pd_CB mi_X9_moves 2 := ⟨hd_X9_moves, in_X9_moves, by decide +kernel, by decide +kernel, by decide, rfl⟩
set_option maxRecDepth 100000 in
theorem im_X9_moves : Cond.instanceMethod mi_X9_moves.1 ∈ pd_TB := pd_tb (i := 1381) (by decide +kernel) (by decide +kernel)
set_option maxRecDepth 100000 in
theorem se_X9_moves : Cond.selects mi_X9_moves.1.cls mi_X9_moves.1 mi_X9_moves.1 ∈ pd_TB := pd_tb (i := 81) (by decide +kernel) (by decide +kernel)
set_option maxRecDepth 100000 in
theorem mlX9_270 : Cond.methodLink RX9 270 mi_X9_moves.1 ∈ pd_TB := pd_tb (i := 1379) (by decide +kernel) (by decide +kernel)
theorem cvX9_270 : pd_CV RX9 270 mi_X9_moves 2 8 := ⟨cb_X9_moves, mlX9_270, im_X9_moves, se_X9_moves, _, rfl, rfl, by decide⟩
set_option maxRecDepth 100000 in
theorem hd_X9_emptiesSamples : pd_hd mi_X9_emptiesSamples ∈ pd_TB := pd_tb (i := 1386) (by rfl) (by decide +kernel)
set_option maxRecDepth 100000 in
theorem in_X9_emptiesSamples : Cond.initialized mi_X9_emptiesSamples.1.cls ∈ pd_TB := pd_tb (i := 102) (by decide +kernel) (by decide +kernel)
theorem cb_X9_emptiesSamples : pd_CB mi_X9_emptiesSamples 0 := ⟨hd_X9_emptiesSamples, in_X9_emptiesSamples, by decide +kernel, by decide +kernel, by decide, rfl⟩
set_option maxRecDepth 100000 in
theorem im_X9_emptiesSamples : Cond.instanceMethod mi_X9_emptiesSamples.1 ∈ pd_TB := pd_tb (i := 1385) (by decide +kernel) (by decide +kernel)
set_option maxRecDepth 100000 in
theorem se_X9_emptiesSamples : Cond.selects mi_X9_emptiesSamples.1.cls mi_X9_emptiesSamples.1 mi_X9_emptiesSamples.1 ∈ pd_TB := pd_tb (i := 82) (by decide +kernel) (by decide +kernel)
set_option maxRecDepth 100000 in
theorem mlX9_273 : Cond.methodLink RX9 273 mi_X9_emptiesSamples.1 ∈ pd_TB := pd_tb (i := 1383) (by decide +kernel) (by decide +kernel)
theorem cvX9_273 : pd_CV RX9 273 mi_X9_emptiesSamples 0 8 := ⟨cb_X9_emptiesSamples, mlX9_273, im_X9_emptiesSamples, se_X9_emptiesSamples, _, rfl, rfl, by decide⟩
set_option maxRecDepth 100000 in
theorem hd_X9_erase : pd_hd mi_X9_erase ∈ pd_TB := pd_tb (i := 1390) (by rfl) (by decide +kernel)
set_option maxRecDepth 100000 in
theorem in_X9_erase : Cond.initialized mi_X9_erase.1.cls ∈ pd_TB := pd_tb (i := 102) (by decide +kernel) (by decide +kernel)
theorem cb_X9_erase : pd_CB mi_X9_erase 2 := ⟨hd_X9_erase, in_X9_erase, by decide +kernel, by decide +kernel, by decide, rfl⟩
set_option maxRecDepth 100000 in
theorem im_X9_erase : Cond.instanceMethod mi_X9_erase.1 ∈ pd_TB := pd_tb (i := 1388) (by decide +kernel) (by decide +kernel)
set_option maxRecDepth 100000 in
theorem se_X9_erase : Cond.selects mi_X9_erase.1.cls mi_X9_erase.1 mi_X9_erase.1 ∈ pd_TB := pd_tb (i := 1389) (by decide +kernel) (by decide +kernel)
set_option maxRecDepth 100000 in
theorem mlL_108 : Cond.methodLink RL 108 mi_X9_erase.1 ∈ pd_TB := pd_tb (i := 1387) (by decide +kernel) (by decide +kernel)
theorem cvL_108 : pd_CV RL 108 mi_X9_erase 2 8 := ⟨cb_X9_erase, mlL_108, im_X9_erase, se_X9_erase, _, rfl, rfl, by decide⟩
set_option maxRecDepth 100000 in
theorem hd_X9_isLine : pd_hd mi_X9_isLine ∈ pd_TB := pd_tb (i := 1394) (by rfl) (by decide +kernel)
set_option maxRecDepth 100000 in
theorem in_X9_isLine : Cond.initialized mi_X9_isLine.1.cls ∈ pd_TB := pd_tb (i := 102) (by decide +kernel) (by decide +kernel)
theorem cb_X9_isLine : pd_CB mi_X9_isLine 2 := ⟨hd_X9_isLine, in_X9_isLine, by decide +kernel, by decide +kernel, by decide, rfl⟩
set_option maxRecDepth 100000 in
theorem im_X9_isLine : Cond.instanceMethod mi_X9_isLine.1 ∈ pd_TB := pd_tb (i := 1393) (by decide +kernel) (by decide +kernel)
set_option maxRecDepth 100000 in
theorem se_X9_isLine : Cond.selects mi_X9_isLine.1.cls mi_X9_isLine.1 mi_X9_isLine.1 ∈ pd_TB := pd_tb (i := 83) (by decide +kernel) (by decide +kernel)
set_option maxRecDepth 100000 in
theorem mlX9_276 : Cond.methodLink RX9 276 mi_X9_isLine.1 ∈ pd_TB := pd_tb (i := 1391) (by decide +kernel) (by decide +kernel)
theorem cvX9_276 : pd_CV RX9 276 mi_X9_isLine 2 8 := ⟨cb_X9_isLine, mlX9_276, im_X9_isLine, se_X9_isLine, _, rfl, rfl, by decide⟩
set_option maxRecDepth 100000 in
theorem hd_X9_told : pd_hd mi_X9_told ∈ pd_TB := pd_tb (i := 1398) (by rfl) (by decide +kernel)
set_option maxRecDepth 100000 in
theorem in_X9_told : Cond.initialized mi_X9_told.1.cls ∈ pd_TB := pd_tb (i := 102) (by decide +kernel) (by decide +kernel)
theorem cb_X9_told : pd_CB mi_X9_told 1 := ⟨hd_X9_told, in_X9_told, by decide +kernel, by decide +kernel, by decide, rfl⟩
set_option maxRecDepth 100000 in
theorem im_X9_told : Cond.instanceMethod mi_X9_told.1 ∈ pd_TB := pd_tb (i := 1396) (by decide +kernel) (by decide +kernel)
set_option maxRecDepth 100000 in
theorem se_X9_told : Cond.selects mi_X9_told.1.cls mi_X9_told.1 mi_X9_told.1 ∈ pd_TB := pd_tb (i := 1397) (by decide +kernel) (by decide +kernel)
set_option maxRecDepth 100000 in
theorem mlL_115 : Cond.methodLink RL 115 mi_X9_told.1 ∈ pd_TB := pd_tb (i := 1395) (by decide +kernel) (by decide +kernel)
theorem cvL_115 : pd_CV RL 115 mi_X9_told 1 8 := ⟨cb_X9_told, mlL_115, im_X9_told, se_X9_told, _, rfl, rfl, by decide⟩
set_option maxRecDepth 100000 in
theorem hd_X9_voter : pd_hd mi_X9_voter ∈ pd_TB := pd_tb (i := 1403) (by rfl) (by decide +kernel)
set_option maxRecDepth 100000 in
theorem in_X9_voter : Cond.initialized mi_X9_voter.1.cls ∈ pd_TB := pd_tb (i := 102) (by decide +kernel) (by decide +kernel)
theorem cb_X9_voter : pd_CB mi_X9_voter 2 := ⟨hd_X9_voter, in_X9_voter, by decide +kernel, by decide +kernel, by decide, rfl⟩
set_option maxRecDepth 100000 in
theorem im_X9_voter : Cond.instanceMethod mi_X9_voter.1 ∈ pd_TB := pd_tb (i := 1401) (by decide +kernel) (by decide +kernel)
set_option maxRecDepth 100000 in
theorem se_X9_voter : Cond.selects mi_X9_voter.1.cls mi_X9_voter.1 mi_X9_voter.1 ∈ pd_TB := pd_tb (i := 1402) (by decide +kernel) (by decide +kernel)
set_option maxRecDepth 100000 in
theorem mlL_118 : Cond.methodLink RL 118 mi_X9_voter.1 ∈ pd_TB := pd_tb (i := 1400) (by decide +kernel) (by decide +kernel)
theorem cvL_118 : pd_CV RL 118 mi_X9_voter 2 8 := ⟨cb_X9_voter, mlL_118, im_X9_voter, se_X9_voter, _, rfl, rfl, by decide⟩
set_option maxRecDepth 100000 in
theorem hd_X9_letter : pd_hd mi_X9_letter ∈ pd_TB := pd_tb (i := 1408) (by rfl) (by decide +kernel)
set_option maxRecDepth 100000 in
theorem in_X9_letter : Cond.initialized mi_X9_letter.1.cls ∈ pd_TB := pd_tb (i := 102) (by decide +kernel) (by decide +kernel)
theorem cb_X9_letter : pd_CB mi_X9_letter 2 := ⟨hd_X9_letter, in_X9_letter, by decide +kernel, by decide +kernel, by decide, rfl⟩
set_option maxRecDepth 100000 in
theorem im_X9_letter : Cond.instanceMethod mi_X9_letter.1 ∈ pd_TB := pd_tb (i := 1406) (by decide +kernel) (by decide +kernel)
set_option maxRecDepth 100000 in
theorem se_X9_letter : Cond.selects mi_X9_letter.1.cls mi_X9_letter.1 mi_X9_letter.1 ∈ pd_TB := pd_tb (i := 1407) (by decide +kernel) (by decide +kernel)
set_option maxRecDepth 100000 in
theorem mlL_121 : Cond.methodLink RL 121 mi_X9_letter.1 ∈ pd_TB := pd_tb (i := 1405) (by decide +kernel) (by decide +kernel)
theorem cvL_121 : pd_CV RL 121 mi_X9_letter 2 8 := ⟨cb_X9_letter, mlL_121, im_X9_letter, se_X9_letter, _, rfl, rfl, by decide⟩
set_option maxRecDepth 100000 in
theorem hd_X9_sheet : pd_hd mi_X9_sheet ∈ pd_TB := pd_tb (i := 1412) (by rfl) (by decide +kernel)
set_option maxRecDepth 100000 in
theorem in_X9_sheet : Cond.initialized mi_X9_sheet.1.cls ∈ pd_TB := pd_tb (i := 102) (by decide +kernel) (by decide +kernel)
theorem cb_X9_sheet : pd_CB mi_X9_sheet 2 := ⟨hd_X9_sheet, in_X9_sheet, by decide +kernel, by decide +kernel, by decide, rfl⟩
set_option maxRecDepth 100000 in
theorem im_X9_sheet : Cond.instanceMethod mi_X9_sheet.1 ∈ pd_TB := pd_tb (i := 1410) (by decide +kernel) (by decide +kernel)
set_option maxRecDepth 100000 in
theorem se_X9_sheet : Cond.selects mi_X9_sheet.1.cls mi_X9_sheet.1 mi_X9_sheet.1 ∈ pd_TB := pd_tb (i := 1411) (by decide +kernel) (by decide +kernel)
set_option maxRecDepth 100000 in
theorem mlL_124 : Cond.methodLink RL 124 mi_X9_sheet.1 ∈ pd_TB := pd_tb (i := 1409) (by decide +kernel) (by decide +kernel)
theorem cvL_124 : pd_CV RL 124 mi_X9_sheet 2 8 := ⟨cb_X9_sheet, mlL_124, im_X9_sheet, se_X9_sheet, _, rfl, rfl, by decide⟩
set_option maxRecDepth 100000 in
theorem hd_X9_line : pd_hd mi_X9_line ∈ pd_TB := pd_tb (i := 1417) (by rfl) (by decide +kernel)
set_option maxRecDepth 100000 in
theorem in_X9_line : Cond.initialized mi_X9_line.1.cls ∈ pd_TB := pd_tb (i := 102) (by decide +kernel) (by decide +kernel)
theorem cb_X9_line : pd_CB mi_X9_line 3 := ⟨hd_X9_line, in_X9_line, by decide +kernel, by decide +kernel, by decide, rfl⟩
set_option maxRecDepth 100000 in
theorem im_X9_line : Cond.instanceMethod mi_X9_line.1 ∈ pd_TB := pd_tb (i := 1415) (by decide +kernel) (by decide +kernel)
set_option maxRecDepth 100000 in
theorem se_X9_line : Cond.selects mi_X9_line.1.cls mi_X9_line.1 mi_X9_line.1 ∈ pd_TB := pd_tb (i := 1416) (by decide +kernel) (by decide +kernel)
set_option maxRecDepth 100000 in
theorem mlL_127 : Cond.methodLink RL 127 mi_X9_line.1 ∈ pd_TB := pd_tb (i := 1414) (by decide +kernel) (by decide +kernel)
theorem cvL_127 : pd_CV RL 127 mi_X9_line 3 8 := ⟨cb_X9_line, mlL_127, im_X9_line, se_X9_line, _, rfl, rfl, by decide⟩
set_option maxRecDepth 100000 in
theorem hd_X9_judged : pd_hd mi_X9_judged ∈ pd_TB := pd_tb (i := 1422) (by rfl) (by decide +kernel)
set_option maxRecDepth 100000 in
theorem in_X9_judged : Cond.initialized mi_X9_judged.1.cls ∈ pd_TB := pd_tb (i := 102) (by decide +kernel) (by decide +kernel)
theorem cb_X9_judged : pd_CB mi_X9_judged 1 := ⟨hd_X9_judged, in_X9_judged, by decide +kernel, by decide +kernel, by decide, rfl⟩
set_option maxRecDepth 100000 in
theorem im_X9_judged : Cond.instanceMethod mi_X9_judged.1 ∈ pd_TB := pd_tb (i := 1420) (by decide +kernel) (by decide +kernel)
set_option maxRecDepth 100000 in
theorem se_X9_judged : Cond.selects mi_X9_judged.1.cls mi_X9_judged.1 mi_X9_judged.1 ∈ pd_TB := pd_tb (i := 1421) (by decide +kernel) (by decide +kernel)
set_option maxRecDepth 100000 in
theorem mlL_130 : Cond.methodLink RL 130 mi_X9_judged.1 ∈ pd_TB := pd_tb (i := 1419) (by decide +kernel) (by decide +kernel)
theorem cvL_130 : pd_CV RL 130 mi_X9_judged 1 8 := ⟨cb_X9_judged, mlL_130, im_X9_judged, se_X9_judged, _, rfl, rfl, by decide⟩
set_option maxRecDepth 100000 in
theorem hd_X9_count : pd_hd mi_X9_count ∈ pd_TB := pd_tb (i := 1426) (by rfl) (by decide +kernel)
set_option maxRecDepth 100000 in
theorem in_X9_count : Cond.initialized mi_X9_count.1.cls ∈ pd_TB := pd_tb (i := 102) (by decide +kernel) (by decide +kernel)
theorem cb_X9_count : pd_CB mi_X9_count 1 := ⟨hd_X9_count, in_X9_count, by decide +kernel, by decide +kernel, by decide, rfl⟩
set_option maxRecDepth 100000 in
theorem im_X9_count : Cond.instanceMethod mi_X9_count.1 ∈ pd_TB := pd_tb (i := 1425) (by decide +kernel) (by decide +kernel)
set_option maxRecDepth 100000 in
theorem se_X9_count : Cond.selects mi_X9_count.1.cls mi_X9_count.1 mi_X9_count.1 ∈ pd_TB := pd_tb (i := 84) (by decide +kernel) (by decide +kernel)
set_option maxRecDepth 100000 in
theorem mlX9_287 : Cond.methodLink RX9 287 mi_X9_count.1 ∈ pd_TB := pd_tb (i := 1423) (by decide +kernel) (by decide +kernel)
theorem cvX9_287 : pd_CV RX9 287 mi_X9_count 1 8 := ⟨cb_X9_count, mlX9_287, im_X9_count, se_X9_count, _, rfl, rfl, by decide⟩
set_option maxRecDepth 100000 in
theorem hd_X9_passes : pd_hd mi_X9_passes ∈ pd_TB := pd_tb (i := 1430) (by rfl) (by decide +kernel)
set_option maxRecDepth 100000 in
theorem in_X9_passes : Cond.initialized mi_X9_passes.1.cls ∈ pd_TB := pd_tb (i := 102) (by decide +kernel) (by decide +kernel)
theorem cb_X9_passes : pd_CB mi_X9_passes 0 := ⟨hd_X9_passes, in_X9_passes, by decide +kernel, by decide +kernel, by decide, rfl⟩
set_option maxRecDepth 100000 in
theorem im_X9_passes : Cond.instanceMethod mi_X9_passes.1 ∈ pd_TB := pd_tb (i := 1428) (by decide +kernel) (by decide +kernel)
set_option maxRecDepth 100000 in
theorem se_X9_passes : Cond.selects mi_X9_passes.1.cls mi_X9_passes.1 mi_X9_passes.1 ∈ pd_TB := pd_tb (i := 1429) (by decide +kernel) (by decide +kernel)
set_option maxRecDepth 100000 in
theorem mlL_134 : Cond.methodLink RL 134 mi_X9_passes.1 ∈ pd_TB := pd_tb (i := 1427) (by decide +kernel) (by decide +kernel)
theorem cvL_134 : pd_CV RL 134 mi_X9_passes 0 8 := ⟨cb_X9_passes, mlL_134, im_X9_passes, se_X9_passes, _, rfl, rfl, by decide⟩
set_option maxRecDepth 100000 in
theorem hd_X9_drawn : pd_hd mi_X9_drawn ∈ pd_TB := pd_tb (i := 1434) (by rfl) (by decide +kernel)
set_option maxRecDepth 100000 in
theorem in_X9_drawn : Cond.initialized mi_X9_drawn.1.cls ∈ pd_TB := pd_tb (i := 102) (by decide +kernel) (by decide +kernel)
theorem cb_X9_drawn : pd_CB mi_X9_drawn 2 := ⟨hd_X9_drawn, in_X9_drawn, by decide +kernel, by decide +kernel, by decide, rfl⟩
set_option maxRecDepth 100000 in
theorem im_X9_drawn : Cond.instanceMethod mi_X9_drawn.1 ∈ pd_TB := pd_tb (i := 1432) (by decide +kernel) (by decide +kernel)
set_option maxRecDepth 100000 in
theorem se_X9_drawn : Cond.selects mi_X9_drawn.1.cls mi_X9_drawn.1 mi_X9_drawn.1 ∈ pd_TB := pd_tb (i := 1433) (by decide +kernel) (by decide +kernel)
set_option maxRecDepth 100000 in
theorem mlL_137 : Cond.methodLink RL 137 mi_X9_drawn.1 ∈ pd_TB := pd_tb (i := 1431) (by decide +kernel) (by decide +kernel)
theorem cvL_137 : pd_CV RL 137 mi_X9_drawn 2 8 := ⟨cb_X9_drawn, mlL_137, im_X9_drawn, se_X9_drawn, _, rfl, rfl, by decide⟩
set_option maxRecDepth 100000 in
theorem hd_X9_sizeOf : pd_hd mi_X9_sizeOf ∈ pd_TB := pd_tb (i := 1438) (by rfl) (by decide +kernel)
set_option maxRecDepth 100000 in
theorem in_X9_sizeOf : Cond.initialized mi_X9_sizeOf.1.cls ∈ pd_TB := pd_tb (i := 102) (by decide +kernel) (by decide +kernel)
theorem cb_X9_sizeOf : pd_CB mi_X9_sizeOf 1 := ⟨hd_X9_sizeOf, in_X9_sizeOf, by decide +kernel, by decide +kernel, by decide, rfl⟩
set_option maxRecDepth 100000 in
theorem im_X9_sizeOf : Cond.instanceMethod mi_X9_sizeOf.1 ∈ pd_TB := pd_tb (i := 1437) (by decide +kernel) (by decide +kernel)
set_option maxRecDepth 100000 in
theorem se_X9_sizeOf : Cond.selects mi_X9_sizeOf.1.cls mi_X9_sizeOf.1 mi_X9_sizeOf.1 ∈ pd_TB := pd_tb (i := 85) (by decide +kernel) (by decide +kernel)
set_option maxRecDepth 100000 in
theorem mlX9_304 : Cond.methodLink RX9 304 mi_X9_sizeOf.1 ∈ pd_TB := pd_tb (i := 1435) (by decide +kernel) (by decide +kernel)
theorem cvX9_304 : pd_CV RX9 304 mi_X9_sizeOf 1 8 := ⟨cb_X9_sizeOf, mlX9_304, im_X9_sizeOf, se_X9_sizeOf, _, rfl, rfl, by decide⟩
set_option maxRecDepth 100000 in
theorem hd_X9_pairsIn : pd_hd mi_X9_pairsIn ∈ pd_TB := pd_tb (i := 1442) (by rfl) (by decide +kernel)
set_option maxRecDepth 100000 in
theorem in_X9_pairsIn : Cond.initialized mi_X9_pairsIn.1.cls ∈ pd_TB := pd_tb (i := 102) (by decide +kernel) (by decide +kernel)
theorem cb_X9_pairsIn : pd_CB mi_X9_pairsIn 1 := ⟨hd_X9_pairsIn, in_X9_pairsIn, by decide +kernel, by decide +kernel, by decide, rfl⟩
set_option maxRecDepth 100000 in
theorem im_X9_pairsIn : Cond.instanceMethod mi_X9_pairsIn.1 ∈ pd_TB := pd_tb (i := 1441) (by decide +kernel) (by decide +kernel)
set_option maxRecDepth 100000 in
theorem se_X9_pairsIn : Cond.selects mi_X9_pairsIn.1.cls mi_X9_pairsIn.1 mi_X9_pairsIn.1 ∈ pd_TB := pd_tb (i := 86) (by decide +kernel) (by decide +kernel)
set_option maxRecDepth 100000 in
theorem mlX9_307 : Cond.methodLink RX9 307 mi_X9_pairsIn.1 ∈ pd_TB := pd_tb (i := 1439) (by decide +kernel) (by decide +kernel)
theorem cvX9_307 : pd_CV RX9 307 mi_X9_pairsIn 1 8 := ⟨cb_X9_pairsIn, mlX9_307, im_X9_pairsIn, se_X9_pairsIn, _, rfl, rfl, by decide⟩
set_option maxRecDepth 100000 in
theorem hd_X9_lowOf : pd_hd mi_X9_lowOf ∈ pd_TB := pd_tb (i := 1446) (by rfl) (by decide +kernel)
set_option maxRecDepth 100000 in
theorem in_X9_lowOf : Cond.initialized mi_X9_lowOf.1.cls ∈ pd_TB := pd_tb (i := 102) (by decide +kernel) (by decide +kernel)
theorem cb_X9_lowOf : pd_CB mi_X9_lowOf 2 := ⟨hd_X9_lowOf, in_X9_lowOf, by decide +kernel, by decide +kernel, by decide, rfl⟩
set_option maxRecDepth 100000 in
theorem im_X9_lowOf : Cond.instanceMethod mi_X9_lowOf.1 ∈ pd_TB := pd_tb (i := 1445) (by decide +kernel) (by decide +kernel)
set_option maxRecDepth 100000 in
theorem se_X9_lowOf : Cond.selects mi_X9_lowOf.1.cls mi_X9_lowOf.1 mi_X9_lowOf.1 ∈ pd_TB := pd_tb (i := 87) (by decide +kernel) (by decide +kernel)
set_option maxRecDepth 100000 in
theorem mlX9_310 : Cond.methodLink RX9 310 mi_X9_lowOf.1 ∈ pd_TB := pd_tb (i := 1443) (by decide +kernel) (by decide +kernel)
theorem cvX9_310 : pd_CV RX9 310 mi_X9_lowOf 2 8 := ⟨cb_X9_lowOf, mlX9_310, im_X9_lowOf, se_X9_lowOf, _, rfl, rfl, by decide⟩
set_option maxRecDepth 100000 in
theorem hd_X9_waysBy : pd_hd mi_X9_waysBy ∈ pd_TB := pd_tb (i := 1450) (by rfl) (by decide +kernel)
set_option maxRecDepth 100000 in
theorem in_X9_waysBy : Cond.initialized mi_X9_waysBy.1.cls ∈ pd_TB := pd_tb (i := 102) (by decide +kernel) (by decide +kernel)
theorem cb_X9_waysBy : pd_CB mi_X9_waysBy 4 := ⟨hd_X9_waysBy, in_X9_waysBy, by decide +kernel, by decide +kernel, by decide, rfl⟩
set_option maxRecDepth 100000 in
theorem im_X9_waysBy : Cond.instanceMethod mi_X9_waysBy.1 ∈ pd_TB := pd_tb (i := 1449) (by decide +kernel) (by decide +kernel)
set_option maxRecDepth 100000 in
theorem se_X9_waysBy : Cond.selects mi_X9_waysBy.1.cls mi_X9_waysBy.1 mi_X9_waysBy.1 ∈ pd_TB := pd_tb (i := 88) (by decide +kernel) (by decide +kernel)
set_option maxRecDepth 100000 in
theorem mlX9_296 : Cond.methodLink RX9 296 mi_X9_waysBy.1 ∈ pd_TB := pd_tb (i := 1447) (by decide +kernel) (by decide +kernel)
theorem cvX9_296 : pd_CV RX9 296 mi_X9_waysBy 4 8 := ⟨cb_X9_waysBy, mlX9_296, im_X9_waysBy, se_X9_waysBy, _, rfl, rfl, by decide⟩
set_option maxRecDepth 100000 in
theorem hd_X9_ways : pd_hd mi_X9_ways ∈ pd_TB := pd_tb (i := 1453) (by rfl) (by decide +kernel)
set_option maxRecDepth 100000 in
theorem in_X9_ways : Cond.initialized mi_X9_ways.1.cls ∈ pd_TB := pd_tb (i := 102) (by decide +kernel) (by decide +kernel)
theorem cb_X9_ways : pd_CB mi_X9_ways 2 := ⟨hd_X9_ways, in_X9_ways, by decide +kernel, by decide +kernel, by decide, rfl⟩
set_option maxRecDepth 100000 in
theorem st_X9_ways : Cond.static mi_X9_ways.1 ∈ pd_TB := pd_tb (i := 1452) (by decide +kernel) (by decide +kernel)
set_option maxRecDepth 100000 in
theorem mlX9_290 : Cond.methodLink RX9 290 mi_X9_ways.1 ∈ pd_TB := pd_tb (i := 1451) (by decide +kernel) (by decide +kernel)
theorem csX9_290 : pd_CS RX9 290 mi_X9_ways 2 := ⟨cb_X9_ways, mlX9_290, st_X9_ways⟩
set_option maxRecDepth 100000 in
theorem hd_X9_isMuch : pd_hd mi_X9_isMuch ∈ pd_TB := pd_tb (i := 1457) (by rfl) (by decide +kernel)
set_option maxRecDepth 100000 in
theorem in_X9_isMuch : Cond.initialized mi_X9_isMuch.1.cls ∈ pd_TB := pd_tb (i := 102) (by decide +kernel) (by decide +kernel)
theorem cb_X9_isMuch : pd_CB mi_X9_isMuch 2 := ⟨hd_X9_isMuch, in_X9_isMuch, by decide +kernel, by decide +kernel, by decide, rfl⟩
set_option maxRecDepth 100000 in
theorem im_X9_isMuch : Cond.instanceMethod mi_X9_isMuch.1 ∈ pd_TB := pd_tb (i := 1456) (by decide +kernel) (by decide +kernel)
set_option maxRecDepth 100000 in
theorem se_X9_isMuch : Cond.selects mi_X9_isMuch.1.cls mi_X9_isMuch.1 mi_X9_isMuch.1 ∈ pd_TB := pd_tb (i := 89) (by decide +kernel) (by decide +kernel)
set_option maxRecDepth 100000 in
theorem mlX9_300 : Cond.methodLink RX9 300 mi_X9_isMuch.1 ∈ pd_TB := pd_tb (i := 1454) (by decide +kernel) (by decide +kernel)
theorem cvX9_300 : pd_CV RX9 300 mi_X9_isMuch 2 8 := ⟨cb_X9_isMuch, mlX9_300, im_X9_isMuch, se_X9_isMuch, _, rfl, rfl, by decide⟩
set_option maxRecDepth 100000 in
theorem hd_X9_highOf : pd_hd mi_X9_highOf ∈ pd_TB := pd_tb (i := 1462) (by rfl) (by decide +kernel)
set_option maxRecDepth 100000 in
theorem in_X9_highOf : Cond.initialized mi_X9_highOf.1.cls ∈ pd_TB := pd_tb (i := 102) (by decide +kernel) (by decide +kernel)
theorem cb_X9_highOf : pd_CB mi_X9_highOf 2 := ⟨hd_X9_highOf, in_X9_highOf, by decide +kernel, by decide +kernel, by decide, rfl⟩
set_option maxRecDepth 100000 in
theorem im_X9_highOf : Cond.instanceMethod mi_X9_highOf.1 ∈ pd_TB := pd_tb (i := 1461) (by decide +kernel) (by decide +kernel)
set_option maxRecDepth 100000 in
theorem se_X9_highOf : Cond.selects mi_X9_highOf.1.cls mi_X9_highOf.1 mi_X9_highOf.1 ∈ pd_TB := pd_tb (i := 90) (by decide +kernel) (by decide +kernel)
set_option maxRecDepth 100000 in
theorem mlX9_313 : Cond.methodLink RX9 313 mi_X9_highOf.1 ∈ pd_TB := pd_tb (i := 1459) (by decide +kernel) (by decide +kernel)
theorem cvX9_313 : pd_CV RX9 313 mi_X9_highOf 2 8 := ⟨cb_X9_highOf, mlX9_313, im_X9_highOf, se_X9_highOf, _, rfl, rfl, by decide⟩
set_option maxRecDepth 100000 in
theorem hd_X9_estimate : pd_hd mi_X9_estimate ∈ pd_TB := pd_tb (i := 1466) (by rfl) (by decide +kernel)
set_option maxRecDepth 100000 in
theorem in_X9_estimate : Cond.initialized mi_X9_estimate.1.cls ∈ pd_TB := pd_tb (i := 102) (by decide +kernel) (by decide +kernel)
theorem cb_X9_estimate : pd_CB mi_X9_estimate 2 := ⟨hd_X9_estimate, in_X9_estimate, by decide +kernel, by decide +kernel, by decide, rfl⟩
set_option maxRecDepth 100000 in
theorem im_X9_estimate : Cond.instanceMethod mi_X9_estimate.1 ∈ pd_TB := pd_tb (i := 1464) (by decide +kernel) (by decide +kernel)
set_option maxRecDepth 100000 in
theorem se_X9_estimate : Cond.selects mi_X9_estimate.1.cls mi_X9_estimate.1 mi_X9_estimate.1 ∈ pd_TB := pd_tb (i := 1465) (by decide +kernel) (by decide +kernel)
set_option maxRecDepth 100000 in
theorem mlL_140 : Cond.methodLink RL 140 mi_X9_estimate.1 ∈ pd_TB := pd_tb (i := 1463) (by decide +kernel) (by decide +kernel)
theorem cvL_140 : pd_CV RL 140 mi_X9_estimate 2 8 := ⟨cb_X9_estimate, mlL_140, im_X9_estimate, se_X9_estimate, _, rfl, rfl, by decide⟩
set_option maxRecDepth 100000 in
theorem hd_X9_terms : pd_hd mi_X9_terms ∈ pd_TB := pd_tb (i := 1469) (by rfl) (by decide +kernel)
set_option maxRecDepth 100000 in
theorem in_X9_terms : Cond.initialized mi_X9_terms.1.cls ∈ pd_TB := pd_tb (i := 102) (by decide +kernel) (by decide +kernel)
theorem cb_X9_terms : pd_CB mi_X9_terms 3 := ⟨hd_X9_terms, in_X9_terms, by decide +kernel, by decide +kernel, by decide, rfl⟩
set_option maxRecDepth 100000 in
theorem st_X9_terms : Cond.static mi_X9_terms.1 ∈ pd_TB := pd_tb (i := 1468) (by decide +kernel) (by decide +kernel)
set_option maxRecDepth 100000 in
theorem mlX9_316 : Cond.methodLink RX9 316 mi_X9_terms.1 ∈ pd_TB := pd_tb (i := 1467) (by decide +kernel) (by decide +kernel)
theorem csX9_316 : pd_CS RX9 316 mi_X9_terms 3 := ⟨cb_X9_terms, mlX9_316, st_X9_terms⟩
set_option maxRecDepth 100000 in
theorem hd_X9_unlike : pd_hd mi_X9_unlike ∈ pd_TB := pd_tb (i := 1473) (by rfl) (by decide +kernel)
set_option maxRecDepth 100000 in
theorem in_X9_unlike : Cond.initialized mi_X9_unlike.1.cls ∈ pd_TB := pd_tb (i := 102) (by decide +kernel) (by decide +kernel)
theorem cb_X9_unlike : pd_CB mi_X9_unlike 1 := ⟨hd_X9_unlike, in_X9_unlike, by decide +kernel, by decide +kernel, by decide, rfl⟩
set_option maxRecDepth 100000 in
theorem im_X9_unlike : Cond.instanceMethod mi_X9_unlike.1 ∈ pd_TB := pd_tb (i := 1471) (by decide +kernel) (by decide +kernel)
set_option maxRecDepth 100000 in
theorem se_X9_unlike : Cond.selects mi_X9_unlike.1.cls mi_X9_unlike.1 mi_X9_unlike.1 ∈ pd_TB := pd_tb (i := 1472) (by decide +kernel) (by decide +kernel)
set_option maxRecDepth 100000 in
theorem mlL_143 : Cond.methodLink RL 143 mi_X9_unlike.1 ∈ pd_TB := pd_tb (i := 1470) (by decide +kernel) (by decide +kernel)
theorem cvL_143 : pd_CV RL 143 mi_X9_unlike 1 8 := ⟨cb_X9_unlike, mlL_143, im_X9_unlike, se_X9_unlike, _, rfl, rfl, by decide⟩
set_option maxRecDepth 100000 in
theorem hd_X9_votersIn : pd_hd mi_X9_votersIn ∈ pd_TB := pd_tb (i := 1477) (by rfl) (by decide +kernel)
set_option maxRecDepth 100000 in
theorem in_X9_votersIn : Cond.initialized mi_X9_votersIn.1.cls ∈ pd_TB := pd_tb (i := 102) (by decide +kernel) (by decide +kernel)
theorem cb_X9_votersIn : pd_CB mi_X9_votersIn 1 := ⟨hd_X9_votersIn, in_X9_votersIn, by decide +kernel, by decide +kernel, by decide, rfl⟩
set_option maxRecDepth 100000 in
theorem im_X9_votersIn : Cond.instanceMethod mi_X9_votersIn.1 ∈ pd_TB := pd_tb (i := 1476) (by decide +kernel) (by decide +kernel)
set_option maxRecDepth 100000 in
theorem se_X9_votersIn : Cond.selects mi_X9_votersIn.1.cls mi_X9_votersIn.1 mi_X9_votersIn.1 ∈ pd_TB := pd_tb (i := 91) (by decide +kernel) (by decide +kernel)
set_option maxRecDepth 100000 in
theorem mlX9_320 : Cond.methodLink RX9 320 mi_X9_votersIn.1 ∈ pd_TB := pd_tb (i := 1474) (by decide +kernel) (by decide +kernel)
theorem cvX9_320 : pd_CV RX9 320 mi_X9_votersIn 1 8 := ⟨cb_X9_votersIn, mlX9_320, im_X9_votersIn, se_X9_votersIn, _, rfl, rfl, by decide⟩
set_option maxRecDepth 100000 in
theorem hd_X9_ones : pd_hd mi_X9_ones ∈ pd_TB := pd_tb (i := 1480) (by rfl) (by decide +kernel)
set_option maxRecDepth 100000 in
theorem in_X9_ones : Cond.initialized mi_X9_ones.1.cls ∈ pd_TB := pd_tb (i := 102) (by decide +kernel) (by decide +kernel)
theorem cb_X9_ones : pd_CB mi_X9_ones 1 := ⟨hd_X9_ones, in_X9_ones, by decide +kernel, by decide +kernel, by decide, rfl⟩
set_option maxRecDepth 100000 in
theorem st_X9_ones : Cond.static mi_X9_ones.1 ∈ pd_TB := pd_tb (i := 1479) (by decide +kernel) (by decide +kernel)
set_option maxRecDepth 100000 in
theorem mlX9_323 : Cond.methodLink RX9 323 mi_X9_ones.1 ∈ pd_TB := pd_tb (i := 1478) (by decide +kernel) (by decide +kernel)
theorem csX9_323 : pd_CS RX9 323 mi_X9_ones 1 := ⟨cb_X9_ones, mlX9_323, st_X9_ones⟩
set_option maxRecDepth 100000 in
theorem hd_X9_unseen : pd_hd mi_X9_unseen ∈ pd_TB := pd_tb (i := 1484) (by rfl) (by decide +kernel)
set_option maxRecDepth 100000 in
theorem in_X9_unseen : Cond.initialized mi_X9_unseen.1.cls ∈ pd_TB := pd_tb (i := 102) (by decide +kernel) (by decide +kernel)
theorem cb_X9_unseen : pd_CB mi_X9_unseen 2 := ⟨hd_X9_unseen, in_X9_unseen, by decide +kernel, by decide +kernel, by decide, rfl⟩
set_option maxRecDepth 100000 in
theorem im_X9_unseen : Cond.instanceMethod mi_X9_unseen.1 ∈ pd_TB := pd_tb (i := 1482) (by decide +kernel) (by decide +kernel)
set_option maxRecDepth 100000 in
theorem se_X9_unseen : Cond.selects mi_X9_unseen.1.cls mi_X9_unseen.1 mi_X9_unseen.1 ∈ pd_TB := pd_tb (i := 1483) (by decide +kernel) (by decide +kernel)
set_option maxRecDepth 100000 in
theorem mlL_146 : Cond.methodLink RL 146 mi_X9_unseen.1 ∈ pd_TB := pd_tb (i := 1481) (by decide +kernel) (by decide +kernel)
theorem cvL_146 : pd_CV RL 146 mi_X9_unseen 2 8 := ⟨cb_X9_unseen, mlL_146, im_X9_unseen, se_X9_unseen, _, rfl, rfl, by decide⟩
set_option maxRecDepth 100000 in
theorem hd_X9_adds : pd_hd mi_X9_adds ∈ pd_TB := pd_tb (i := 1488) (by rfl) (by decide +kernel)
set_option maxRecDepth 100000 in
theorem in_X9_adds : Cond.initialized mi_X9_adds.1.cls ∈ pd_TB := pd_tb (i := 102) (by decide +kernel) (by decide +kernel)
theorem cb_X9_adds : pd_CB mi_X9_adds 2 := ⟨hd_X9_adds, in_X9_adds, by decide +kernel, by decide +kernel, by decide, rfl⟩
set_option maxRecDepth 100000 in
theorem im_X9_adds : Cond.instanceMethod mi_X9_adds.1 ∈ pd_TB := pd_tb (i := 1487) (by decide +kernel) (by decide +kernel)
set_option maxRecDepth 100000 in
theorem se_X9_adds : Cond.selects mi_X9_adds.1.cls mi_X9_adds.1 mi_X9_adds.1 ∈ pd_TB := pd_tb (i := 92) (by decide +kernel) (by decide +kernel)
set_option maxRecDepth 100000 in
theorem mlX9_326 : Cond.methodLink RX9 326 mi_X9_adds.1 ∈ pd_TB := pd_tb (i := 1485) (by decide +kernel) (by decide +kernel)
theorem cvX9_326 : pd_CV RX9 326 mi_X9_adds 2 8 := ⟨cb_X9_adds, mlX9_326, im_X9_adds, se_X9_adds, _, rfl, rfl, by decide⟩
set_option maxRecDepth 100000 in
theorem hd_X9_fewest : pd_hd mi_X9_fewest ∈ pd_TB := pd_tb (i := 1492) (by rfl) (by decide +kernel)
set_option maxRecDepth 100000 in
theorem in_X9_fewest : Cond.initialized mi_X9_fewest.1.cls ∈ pd_TB := pd_tb (i := 102) (by decide +kernel) (by decide +kernel)
theorem cb_X9_fewest : pd_CB mi_X9_fewest 0 := ⟨hd_X9_fewest, in_X9_fewest, by decide +kernel, by decide +kernel, by decide, rfl⟩
set_option maxRecDepth 100000 in
theorem im_X9_fewest : Cond.instanceMethod mi_X9_fewest.1 ∈ pd_TB := pd_tb (i := 1490) (by decide +kernel) (by decide +kernel)
set_option maxRecDepth 100000 in
theorem se_X9_fewest : Cond.selects mi_X9_fewest.1.cls mi_X9_fewest.1 mi_X9_fewest.1 ∈ pd_TB := pd_tb (i := 1491) (by decide +kernel) (by decide +kernel)
set_option maxRecDepth 100000 in
theorem mlL_150 : Cond.methodLink RL 150 mi_X9_fewest.1 ∈ pd_TB := pd_tb (i := 1489) (by decide +kernel) (by decide +kernel)
theorem cvL_150 : pd_CV RL 150 mi_X9_fewest 0 8 := ⟨cb_X9_fewest, mlL_150, im_X9_fewest, se_X9_fewest, _, rfl, rfl, by decide⟩
set_option maxRecDepth 100000 in
theorem hd_X9_worst : pd_hd mi_X9_worst ∈ pd_TB := pd_tb (i := 1496) (by rfl) (by decide +kernel)
set_option maxRecDepth 100000 in
theorem in_X9_worst : Cond.initialized mi_X9_worst.1.cls ∈ pd_TB := pd_tb (i := 102) (by decide +kernel) (by decide +kernel)
theorem cb_X9_worst : pd_CB mi_X9_worst 2 := ⟨hd_X9_worst, in_X9_worst, by decide +kernel, by decide +kernel, by decide, rfl⟩
set_option maxRecDepth 100000 in
theorem im_X9_worst : Cond.instanceMethod mi_X9_worst.1 ∈ pd_TB := pd_tb (i := 1494) (by decide +kernel) (by decide +kernel)
set_option maxRecDepth 100000 in
theorem se_X9_worst : Cond.selects mi_X9_worst.1.cls mi_X9_worst.1 mi_X9_worst.1 ∈ pd_TB := pd_tb (i := 1495) (by decide +kernel) (by decide +kernel)
set_option maxRecDepth 100000 in
theorem mlL_153 : Cond.methodLink RL 153 mi_X9_worst.1 ∈ pd_TB := pd_tb (i := 1493) (by decide +kernel) (by decide +kernel)
theorem cvL_153 : pd_CV RL 153 mi_X9_worst 2 8 := ⟨cb_X9_worst, mlL_153, im_X9_worst, se_X9_worst, _, rfl, rfl, by decide⟩
set_option maxRecDepth 100000 in
theorem hd_X9_cost : pd_hd mi_X9_cost ∈ pd_TB := pd_tb (i := 1500) (by rfl) (by decide +kernel)
set_option maxRecDepth 100000 in
theorem in_X9_cost : Cond.initialized mi_X9_cost.1.cls ∈ pd_TB := pd_tb (i := 102) (by decide +kernel) (by decide +kernel)
theorem cb_X9_cost : pd_CB mi_X9_cost 1 := ⟨hd_X9_cost, in_X9_cost, by decide +kernel, by decide +kernel, by decide, rfl⟩
set_option maxRecDepth 100000 in
theorem im_X9_cost : Cond.instanceMethod mi_X9_cost.1 ∈ pd_TB := pd_tb (i := 1498) (by decide +kernel) (by decide +kernel)
set_option maxRecDepth 100000 in
theorem se_X9_cost : Cond.selects mi_X9_cost.1.cls mi_X9_cost.1 mi_X9_cost.1 ∈ pd_TB := pd_tb (i := 1499) (by decide +kernel) (by decide +kernel)
set_option maxRecDepth 100000 in
theorem mlL_156 : Cond.methodLink RL 156 mi_X9_cost.1 ∈ pd_TB := pd_tb (i := 1497) (by decide +kernel) (by decide +kernel)
theorem cvL_156 : pd_CV RL 156 mi_X9_cost 1 8 := ⟨cb_X9_cost, mlL_156, im_X9_cost, se_X9_cost, _, rfl, rfl, by decide⟩
set_option maxRecDepth 100000 in
theorem hd_X9_print : pd_hd mi_X9_print ∈ pd_TB := pd_tb (i := 1505) (by rfl) (by decide +kernel)
set_option maxRecDepth 100000 in
theorem in_X9_print : Cond.initialized mi_X9_print.1.cls ∈ pd_TB := pd_tb (i := 102) (by decide +kernel) (by decide +kernel)
theorem cb_X9_print : pd_CB mi_X9_print 0 := ⟨hd_X9_print, in_X9_print, by decide +kernel, by decide +kernel, by decide, rfl⟩
set_option maxRecDepth 100000 in
theorem im_X9_print : Cond.instanceMethod mi_X9_print.1 ∈ pd_TB := pd_tb (i := 1503) (by decide +kernel) (by decide +kernel)
set_option maxRecDepth 100000 in
theorem se_X9_print : Cond.selects mi_X9_print.1.cls mi_X9_print.1 mi_X9_print.1 ∈ pd_TB := pd_tb (i := 1504) (by decide +kernel) (by decide +kernel)
set_option maxRecDepth 100000 in
theorem mlL_161 : Cond.methodLink RL 161 mi_X9_print.1 ∈ pd_TB := pd_tb (i := 1502) (by decide +kernel) (by decide +kernel)
theorem cvL_161 : pd_CV RL 161 mi_X9_print 0 8 := ⟨cb_X9_print, mlL_161, im_X9_print, se_X9_print, _, rfl, rfl, by decide⟩
set_option maxRecDepth 100000 in
theorem hd_X9_status : pd_hd mi_X9_status ∈ pd_TB := pd_tb (i := 1510) (by rfl) (by decide +kernel)
set_option maxRecDepth 100000 in
theorem in_X9_status : Cond.initialized mi_X9_status.1.cls ∈ pd_TB := pd_tb (i := 102) (by decide +kernel) (by decide +kernel)
theorem cb_X9_status : pd_CB mi_X9_status 1 := ⟨hd_X9_status, in_X9_status, by decide +kernel, by decide +kernel, by decide, rfl⟩
set_option maxRecDepth 100000 in
theorem im_X9_status : Cond.instanceMethod mi_X9_status.1 ∈ pd_TB := pd_tb (i := 1508) (by decide +kernel) (by decide +kernel)
set_option maxRecDepth 100000 in
theorem se_X9_status : Cond.selects mi_X9_status.1.cls mi_X9_status.1 mi_X9_status.1 ∈ pd_TB := pd_tb (i := 1509) (by decide +kernel) (by decide +kernel)
set_option maxRecDepth 100000 in
theorem mlL_165 : Cond.methodLink RL 165 mi_X9_status.1 ∈ pd_TB := pd_tb (i := 1507) (by decide +kernel) (by decide +kernel)
theorem cvL_165 : pd_CV RL 165 mi_X9_status 1 8 := ⟨cb_X9_status, mlL_165, im_X9_status, se_X9_status, _, rfl, rfl, by decide⟩
set_option maxRecDepth 100000 in
theorem hd_X6_init : pd_hd mi_X6_init ∈ pd_TB := pd_tb (i := 131) (by rfl) (by decide +kernel)
set_option maxRecDepth 100000 in
theorem in_X6_init : Cond.initialized mi_X6_init.1.cls ∈ pd_TB := pd_tb (i := 95) (by decide +kernel) (by decide +kernel)
theorem cb_X6_init : pd_CB mi_X6_init 0 := ⟨hd_X6_init, in_X6_init, by decide +kernel, by decide +kernel, by decide, rfl⟩
set_option maxRecDepth 100000 in
theorem im_X6_init : Cond.instanceMethod mi_X6_init.1 ∈ pd_TB := pd_tb (i := 130) (by decide +kernel) (by decide +kernel)
set_option maxRecDepth 100000 in
theorem mnX8_9 : Cond.methodLinkNest RX8 9 mi_X6_init.1 "PetitionDesk" ∈ lw_tbl := List.mem_of_getElem? (i := 129) (by decide +kernel)
set_option maxRecDepth 100000 in
theorem hd_X7_init : pd_hd mi_X7_init ∈ pd_TB := pd_tb (i := 137) (by rfl) (by decide +kernel)
set_option maxRecDepth 100000 in
theorem in_X7_init : Cond.initialized mi_X7_init.1.cls ∈ pd_TB := pd_tb (i := 96) (by decide +kernel) (by decide +kernel)
theorem cb_X7_init : pd_CB mi_X7_init 0 := ⟨hd_X7_init, in_X7_init, by decide +kernel, by decide +kernel, by decide, rfl⟩
set_option maxRecDepth 100000 in
theorem im_X7_init : Cond.instanceMethod mi_X7_init.1 ∈ pd_TB := pd_tb (i := 136) (by decide +kernel) (by decide +kernel)
set_option maxRecDepth 100000 in
theorem mnX6_11 : Cond.methodLinkNest RX6 11 mi_X7_init.1 "PetitionDesk" ∈ lw_tbl := List.mem_of_getElem? (i := 135) (by decide +kernel)
set_option maxRecDepth 100000 in
theorem hd_X5_init : pd_hd mi_X5_init ∈ pd_TB := pd_tb (i := 143) (by rfl) (by decide +kernel)
set_option maxRecDepth 100000 in
theorem in_X5_init : Cond.initialized mi_X5_init.1.cls ∈ pd_TB := pd_tb (i := 97) (by decide +kernel) (by decide +kernel)
theorem cb_X5_init : pd_CB mi_X5_init 0 := ⟨hd_X5_init, in_X5_init, by decide +kernel, by decide +kernel, by decide, rfl⟩
set_option maxRecDepth 100000 in
theorem im_X5_init : Cond.instanceMethod mi_X5_init.1 ∈ pd_TB := pd_tb (i := 142) (by decide +kernel) (by decide +kernel)
set_option maxRecDepth 100000 in
theorem mnX7_23 : Cond.methodLinkNest RX7 23 mi_X5_init.1 "PetitionDesk" ∈ lw_tbl := List.mem_of_getElem? (i := 141) (by decide +kernel)
set_option maxRecDepth 100000 in
theorem hd_X3_init : pd_hd mi_X3_init ∈ pd_TB := pd_tb (i := 183) (by rfl) (by decide +kernel)
set_option maxRecDepth 100000 in
theorem in_X3_init : Cond.initialized mi_X3_init.1.cls ∈ pd_TB := pd_tb (i := 98) (by decide +kernel) (by decide +kernel)
theorem cb_X3_init : pd_CB mi_X3_init 0 := ⟨hd_X3_init, in_X3_init, by decide +kernel, by decide +kernel, by decide, rfl⟩
set_option maxRecDepth 100000 in
theorem im_X3_init : Cond.instanceMethod mi_X3_init.1 ∈ pd_TB := pd_tb (i := 182) (by decide +kernel) (by decide +kernel)
set_option maxRecDepth 100000 in
theorem mnX6_20 : Cond.methodLinkNest RX6 20 mi_X3_init.1 "PetitionDesk" ∈ lw_tbl := List.mem_of_getElem? (i := 181) (by decide +kernel)
set_option maxRecDepth 100000 in
theorem hd_X4_init : pd_hd mi_X4_init ∈ pd_TB := pd_tb (i := 189) (by rfl) (by decide +kernel)
set_option maxRecDepth 100000 in
theorem in_X4_init : Cond.initialized mi_X4_init.1.cls ∈ pd_TB := pd_tb (i := 99) (by decide +kernel) (by decide +kernel)
theorem cb_X4_init : pd_CB mi_X4_init 0 := ⟨hd_X4_init, in_X4_init, by decide +kernel, by decide +kernel, by decide, rfl⟩
set_option maxRecDepth 100000 in
theorem im_X4_init : Cond.instanceMethod mi_X4_init.1 ∈ pd_TB := pd_tb (i := 188) (by decide +kernel) (by decide +kernel)
set_option maxRecDepth 100000 in
theorem mnX3_48 : Cond.methodLinkNest RX3 48 mi_X4_init.1 "PetitionDesk" ∈ lw_tbl := List.mem_of_getElem? (i := 187) (by decide +kernel)
set_option maxRecDepth 100000 in
theorem hd_X1_init : pd_hd mi_X1_init ∈ pd_TB := pd_tb (i := 321) (by rfl) (by decide +kernel)
set_option maxRecDepth 100000 in
theorem in_X1_init : Cond.initialized mi_X1_init.1.cls ∈ pd_TB := pd_tb (i := 100) (by decide +kernel) (by decide +kernel)
theorem cb_X1_init : pd_CB mi_X1_init 0 := ⟨hd_X1_init, in_X1_init, by decide +kernel, by decide +kernel, by decide, rfl⟩
set_option maxRecDepth 100000 in
theorem im_X1_init : Cond.instanceMethod mi_X1_init.1 ∈ pd_TB := pd_tb (i := 320) (by decide +kernel) (by decide +kernel)
set_option maxRecDepth 100000 in
theorem mnX8_29 : Cond.methodLinkNest RX8 29 mi_X1_init.1 "PetitionDesk" ∈ lw_tbl := List.mem_of_getElem? (i := 319) (by decide +kernel)
set_option maxRecDepth 100000 in
theorem mnX8_47 : Cond.methodLinkNest RX8 47 mi_X3_init.1 "PetitionDesk" ∈ lw_tbl := List.mem_of_getElem? (i := 368) (by decide +kernel)
set_option maxRecDepth 100000 in
theorem coX4_29 : Cond.constantLong RX4 29 (-2) ∈ pd_TB := pd_tb (i := 460) (by decide +kernel) (by decide +kernel)
set_option maxRecDepth 100000 in
theorem coX0_22 : Cond.constantLong RX0 22 (1000) ∈ pd_TB := pd_tb (i := 499) (by decide +kernel) (by decide +kernel)
set_option maxRecDepth 100000 in
theorem coX8_279 : Cond.constantLong RX8 279 (31) ∈ pd_TB := pd_tb (i := 512) (by decide +kernel) (by decide +kernel)
set_option maxRecDepth 100000 in
theorem coX8_307 : Cond.constant RX8 307 (1103515245) ∈ pd_TB := pd_tb (i := 838) (by decide +kernel) (by decide +kernel)
set_option maxRecDepth 100000 in
theorem coJ13_314 : Cond.constantLong RJ13 314 (6148914691236517205) ∈ pd_TB := pd_tb (i := 1015) (by decide +kernel) (by decide +kernel)
set_option maxRecDepth 100000 in
theorem coJ13_316 : Cond.constantLong RJ13 316 (3689348814741910323) ∈ pd_TB := pd_tb (i := 1016) (by decide +kernel) (by decide +kernel)
set_option maxRecDepth 100000 in
theorem coJ13_318 : Cond.constantLong RJ13 318 (1085102592571150095) ∈ pd_TB := pd_tb (i := 1017) (by decide +kernel) (by decide +kernel)
set_option maxRecDepth 100000 in
theorem coX8_245 : Cond.constantLong RX8 245 (2) ∈ pd_TB := pd_tb (i := 1033) (by decide +kernel) (by decide +kernel)
set_option maxRecDepth 100000 in
theorem coJ6_265 : Cond.constant RJ6 265 (1431655765) ∈ pd_TB := pd_tb (i := 1057) (by decide +kernel) (by decide +kernel)
set_option maxRecDepth 100000 in
theorem coJ6_266 : Cond.constant RJ6 266 (858993459) ∈ pd_TB := pd_tb (i := 1058) (by decide +kernel) (by decide +kernel)
set_option maxRecDepth 100000 in
theorem coJ6_267 : Cond.constant RJ6 267 (252645135) ∈ pd_TB := pd_tb (i := 1059) (by decide +kernel) (by decide +kernel)
set_option maxRecDepth 100000 in
theorem coX8_258 : Cond.constantLong RX8 258 (-1) ∈ pd_TB := pd_tb (i := 1067) (by decide +kernel) (by decide +kernel)
set_option maxRecDepth 100000 in
theorem coX8_277 : Cond.constantLong RX8 277 (2147483647) ∈ pd_TB := pd_tb (i := 1093) (by decide +kernel) (by decide +kernel)
set_option maxRecDepth 100000 in
theorem coX9_102 : Cond.constant RX9 102 (100000) ∈ pd_TB := pd_tb (i := 1237) (by decide +kernel) (by decide +kernel)
set_option maxRecDepth 100000 in
theorem coX9_254 : Cond.constant RX9 254 (1103515245) ∈ pd_TB := pd_tb (i := 1326) (by decide +kernel) (by decide +kernel)
set_option maxRecDepth 100000 in
theorem coX9_265 : Cond.constantLong RX9 265 (999) ∈ pd_TB := pd_tb (i := 1370) (by decide +kernel) (by decide +kernel)
set_option maxRecDepth 100000 in
theorem coX9_279 : Cond.constantLong RX9 279 (10) ∈ pd_TB := pd_tb (i := 1399) (by decide +kernel) (by decide +kernel)
set_option maxRecDepth 100000 in
theorem coX9_281 : Cond.constantLong RX9 281 (3) ∈ pd_TB := pd_tb (i := 1404) (by decide +kernel) (by decide +kernel)
set_option maxRecDepth 100000 in
theorem coX9_283 : Cond.constantLong RX9 283 (8) ∈ pd_TB := pd_tb (i := 1413) (by decide +kernel) (by decide +kernel)
set_option maxRecDepth 100000 in
theorem coX9_285 : Cond.constantLong RX9 285 (5) ∈ pd_TB := pd_tb (i := 1418) (by decide +kernel) (by decide +kernel)
set_option maxRecDepth 100000 in
theorem coX9_294 : Cond.constantLong RX9 294 (1000) ∈ pd_TB := pd_tb (i := 1458) (by decide +kernel) (by decide +kernel)
set_option maxRecDepth 100000 in
theorem coX9_331 : Cond.constantLong RX9 331 (2147483647) ∈ pd_TB := pd_tb (i := 1501) (by decide +kernel) (by decide +kernel)
set_option maxRecDepth 100000 in
theorem coX9_333 : Cond.constantLong RX9 333 (31) ∈ pd_TB := pd_tb (i := 1506) (by decide +kernel) (by decide +kernel)
set_option maxRecDepth 100000 in
theorem coX9_335 : Cond.constantLong RX9 335 (2) ∈ pd_TB := pd_tb (i := 1511) (by decide +kernel) (by decide +kernel)
set_option maxRecDepth 100000 in
theorem klL_8 : Cond.classLink RL 8 "PetitionDesk" ∈ pd_TB := pd_tb (i := 119) (by decide +kernel) (by decide +kernel)
set_option maxRecDepth 100000 in
theorem klX8_7 : Cond.classLink RX8 7 "PetitionDesk$TextReader" ∈ pd_TB := pd_tb (i := 127) (by decide +kernel) (by decide +kernel)
set_option maxRecDepth 100000 in
theorem klX6_9 : Cond.classLink RX6 9 "PetitionDesk$Tokens" ∈ pd_TB := pd_tb (i := 133) (by decide +kernel) (by decide +kernel)
set_option maxRecDepth 100000 in
theorem klX7_21 : Cond.classLink RX7 21 "PetitionDesk$Tape" ∈ pd_TB := pd_tb (i := 139) (by decide +kernel) (by decide +kernel)
set_option maxRecDepth 100000 in
theorem klX6_18 : Cond.classLink RX6 18 "PetitionDesk$Petition" ∈ pd_TB := pd_tb (i := 179) (by decide +kernel) (by decide +kernel)
set_option maxRecDepth 100000 in
theorem klX3_46 : Cond.classLink RX3 46 "PetitionDesk$Rule" ∈ pd_TB := pd_tb (i := 185) (by decide +kernel) (by decide +kernel)
set_option maxRecDepth 100000 in
theorem klX8_27 : Cond.classLink RX8 27 "PetitionDesk$Judgement" ∈ pd_TB := pd_tb (i := 317) (by decide +kernel) (by decide +kernel)
set_option maxRecDepth 100000 in
theorem klX8_34 : Cond.classLink RX8 34 "PetitionDesk$Chances" ∈ pd_TB := pd_tb (i := 352) (by decide +kernel) (by decide +kernel)
set_option maxRecDepth 100000 in
theorem klX8_41 : Cond.classLink RX8 41 "PetitionDesk$Petition" ∈ pd_TB := pd_tb (i := 366) (by decide +kernel) (by decide +kernel)
set_option maxRecDepth 100000 in
theorem klL_13 : Cond.classLink RL 13 "java/lang/IllegalArgumentException" ∈ pd_TB := pd_tb (i := 520) (by decide +kernel) (by decide +kernel)
set_option maxRecDepth 100000 in
theorem klX8_297 : Cond.classLink RX8 297 "java/lang/IllegalArgumentException" ∈ pd_TB := pd_tb (i := 532) (by decide +kernel) (by decide +kernel)
set_option maxRecDepth 100000 in
theorem klL_23 : Cond.classLink RL 23 "java/util/NoSuchElementException" ∈ pd_TB := pd_tb (i := 858) (by decide +kernel) (by decide +kernel)
set_option maxRecDepth 100000 in
theorem klX8_290 : Cond.classLink RX8 290 "java/util/NoSuchElementException" ∈ pd_TB := pd_tb (i := 871) (by decide +kernel) (by decide +kernel)
set_option maxRecDepth 100000 in
theorem klL_28 : Cond.classLink RL 28 "java/lang/IllegalStateException" ∈ pd_TB := pd_tb (i := 894) (by decide +kernel) (by decide +kernel)
set_option maxRecDepth 100000 in
theorem klX8_302 : Cond.classLink RX8 302 "java/lang/IllegalStateException" ∈ pd_TB := pd_tb (i := 907) (by decide +kernel) (by decide +kernel)
set_option maxRecDepth 100000 in
theorem klL_72 : Cond.classLink RL 72 "PetitionDeskModel" ∈ pd_TB := pd_tb (i := 1094) (by decide +kernel) (by decide +kernel)
set_option maxRecDepth 100000 in
theorem klX9_26 : Cond.classLink RX9 26 "[[I" ∈ pd_TB := pd_tb (i := 1100) (by decide +kernel) (by decide +kernel)
set_option maxRecDepth 100000 in
theorem niX8 : Cond.instantiable RX8 11 ∈ pd_TB := pd_tb (i := 120) (by decide +kernel) (by decide +kernel)
set_option maxRecDepth 100000 in
theorem niX6 : Cond.instantiable RX6 6 ∈ pd_TB := pd_tb (i := 128) (by decide +kernel) (by decide +kernel)
set_option maxRecDepth 100000 in
theorem niX7 : Cond.instantiable RX7 6 ∈ pd_TB := pd_tb (i := 134) (by decide +kernel) (by decide +kernel)
set_option maxRecDepth 100000 in
theorem niX5 : Cond.instantiable RX5 2 ∈ pd_TB := pd_tb (i := 140) (by decide +kernel) (by decide +kernel)
set_option maxRecDepth 100000 in
theorem niX3 : Cond.instantiable RX3 19 ∈ pd_TB := pd_tb (i := 180) (by decide +kernel) (by decide +kernel)
set_option maxRecDepth 100000 in
theorem niX4 : Cond.instantiable RX4 2 ∈ pd_TB := pd_tb (i := 186) (by decide +kernel) (by decide +kernel)
set_option maxRecDepth 100000 in
theorem niX1 : Cond.instantiable RX1 8 ∈ pd_TB := pd_tb (i := 318) (by decide +kernel) (by decide +kernel)
set_option maxRecDepth 100000 in
theorem niX0 : Cond.instantiable RX0 2 ∈ pd_TB := pd_tb (i := 353) (by decide +kernel) (by decide +kernel)
set_option maxRecDepth 100000 in
theorem niX9 : Cond.instantiable RX9 21 ∈ pd_TB := pd_tb (i := 1095) (by decide +kernel) (by decide +kernel)
