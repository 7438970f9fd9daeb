/-! ===== the small constructors (printed by program) ===== -/
theorem aw_boolean : Cond.arrayClass (newarray.typeOf .boolean) ∈ xTS := xTS_in (tin_2 _ (List.mem_of_getElem? (i := 106) rfl)) rfl
theorem aw_byte : Cond.arrayClass (newarray.typeOf .byte) ∈ xTS := xTS_in (tin_7 _ (List.mem_of_getElem? (i := 161) rfl)) rfl
theorem aw_int : Cond.arrayClass (newarray.typeOf .int) ∈ xTS := xTS_in (tin_1 _ (List.mem_of_getElem? (i := 58) rfl)) rfl
theorem aw_long : Cond.arrayClass (newarray.typeOf .long) ∈ xTS := xTS_in (tin_1 _ (List.mem_of_getElem? (i := 199) rfl)) rfl
theorem cl_RX11_25 : Cond.classLink RX11 25 (xC 4) ∈ xTS := xTS_in (tin_1 _ (List.mem_of_getElem? (i := 105) rfl)) rfl
theorem cl_RX11_35 : Cond.classLink RX11 35 (xC 8) ∈ xTS := xTS_in (tin_1 _ (List.mem_of_getElem? (i := 200) rfl)) rfl
theorem vw_RX12_190 : Cond.constantLong RX12 190 1936287598 ∈ xTS := xTS_in (tin_6 _ (List.mem_of_getElem? (i := 108) rfl)) rfl
theorem vw_RX12_192 : Cond.constantLong RX12 192 1802071652 ∈ xTS := xTS_in (tin_6 _ (List.mem_of_getElem? (i := 109) rfl)) rfl
theorem vw_RX12_194 : Cond.constantLong RX12 194 1920298085 ∈ xTS := xTS_in (tin_6 _ (List.mem_of_getElem? (i := 110) rfl)) rfl
theorem vw_RX12_196 : Cond.constantLong RX12 196 1685221232 ∈ xTS := xTS_in (tin_6 _ (List.mem_of_getElem? (i := 111) rfl)) rfl
theorem vw_RX12_198 : Cond.constantLong RX12 198 469853431653 ∈ xTS := xTS_in (tin_6 _ (List.mem_of_getElem? (i := 112) rfl)) rfl
theorem vw_RX12_200 : Cond.constantLong RX12 200 431198598248 ∈ xTS := xTS_in (tin_6 _ (List.mem_of_getElem? (i := 113) rfl)) rfl
theorem vw_RX12_202 : Cond.constantLong RX12 202 28530 ∈ xTS := xTS_in (tin_6 _ (List.mem_of_getElem? (i := 114) rfl)) rfl
theorem vw_RX12_204 : Cond.constantLong RX12 204 6385252 ∈ xTS := xTS_in (tin_6 _ (List.mem_of_getElem? (i := 115) rfl)) rfl
theorem vw_RX12_206 : Cond.constantLong RX12 206 7237492 ∈ xTS := xTS_in (tin_6 _ (List.mem_of_getElem? (i := 116) rfl)) rfl
theorem vw_RX12_208 : Cond.constantLong RX12 208 439855772532 ∈ xTS := xTS_in (tin_6 _ (List.mem_of_getElem? (i := 117) rfl)) rfl
theorem vw_RX12_210 : Cond.constantLong RX12 210 1818325876 ∈ xTS := xTS_in (tin_6 _ (List.mem_of_getElem? (i := 118) rfl)) rfl
theorem vw_RX12_212 : Cond.constantLong RX12 212 418431069797 ∈ xTS := xTS_in (tin_6 _ (List.mem_of_getElem? (i := 119) rfl)) rfl
theorem vw_RX12_214 : Cond.constantLong RX12 214 28518 ∈ xTS := xTS_in (tin_6 _ (List.mem_of_getElem? (i := 120) rfl)) rfl
theorem vw_RX12_216 : Cond.constantLong RX12 216 1852143732 ∈ xTS := xTS_in (tin_6 _ (List.mem_of_getElem? (i := 121) rfl)) rfl
theorem vw_RX12_218 : Cond.constantLong RX12 218 6582132 ∈ xTS := xTS_in (tin_6 _ (List.mem_of_getElem? (i := 122) rfl)) rfl
theorem vw_RX12_220 : Cond.constantLong RX12 220 121450625394034 ∈ xTS := xTS_in (tin_6 _ (List.mem_of_getElem? (i := 123) rfl)) rfl
theorem vw_RX12_83 : Cond.constant RX12 83 76800 ∈ xTS := xTS_in (tin_6 _ (List.mem_of_getElem? (i := 107) rfl)) rfl
theorem vf_RX0_15 : xlink RX0 15 0 1 := xTS_in (tin_1 _ (List.mem_of_getElem? (i := 209) rfl)) rfl
theorem vf_RX0_9 : xlink RX0 9 0 0 := xTS_in (tin_1 _ (List.mem_of_getElem? (i := 208) rfl)) rfl
theorem vf_RX1_15 : xlink RX1 15 1 3 := xTS_in (tin_2 _ (List.mem_of_getElem? (i := 164) rfl)) rfl
theorem vf_RX1_19 : xlink RX1 19 1 4 := xTS_in (tin_2 _ (List.mem_of_getElem? (i := 165) rfl)) rfl
theorem vf_RX1_22 : xlink RX1 22 1 5 := xTS_in (tin_2 _ (List.mem_of_getElem? (i := 167) rfl)) rfl
theorem vf_RX1_25 : xlink RX1 25 1 8 := xTS_in (tin_2 _ (List.mem_of_getElem? (i := 172) rfl)) rfl
theorem vf_RX1_28 : xlink RX1 28 1 9 := xTS_in (tin_2 _ (List.mem_of_getElem? (i := 173) rfl)) rfl
theorem vf_RX1_31 : xlink RX1 31 1 10 := xTS_in (tin_2 _ (List.mem_of_getElem? (i := 174) rfl)) rfl
theorem vf_RX1_34 : xlink RX1 34 1 11 := xTS_in (tin_2 _ (List.mem_of_getElem? (i := 175) rfl)) rfl
theorem vf_RX1_37 : xlink RX1 37 1 12 := xTS_in (tin_2 _ (List.mem_of_getElem? (i := 176) rfl)) rfl
theorem vf_RX1_40 : xlink RX1 40 1 13 := xTS_in (tin_2 _ (List.mem_of_getElem? (i := 177) rfl)) rfl
theorem vf_RX1_9 : xlink RX1 9 1 2 := xTS_in (tin_2 _ (List.mem_of_getElem? (i := 161) rfl)) rfl
theorem vf_RX10_11 : xlink RX10 11 10 4 := xTS_in (tin_2 _ (List.mem_of_getElem? (i := 120) rfl)) rfl
theorem vf_RX10_15 : xlink RX10 15 10 5 := xTS_in (tin_2 _ (List.mem_of_getElem? (i := 122) rfl)) rfl
theorem vf_RX10_18 : xlink RX10 18 10 6 := xTS_in (tin_2 _ (List.mem_of_getElem? (i := 124) rfl)) rfl
theorem vf_RX10_21 : xlink RX10 21 10 7 := xTS_in (tin_2 _ (List.mem_of_getElem? (i := 125) rfl)) rfl
theorem vf_RX10_25 : xlink RX10 25 10 10 := xTS_in (tin_2 _ (List.mem_of_getElem? (i := 128) rfl)) rfl
theorem vf_RX11_10 : xlink RX11 10 11 0 := xTS_in (tin_3 _ (List.mem_of_getElem? (i := 14) rfl)) rfl
theorem vf_RX11_102 : xlink RX11 102 11 14 := xTS_in (tin_3 _ (List.mem_of_getElem? (i := 28) rfl)) rfl
theorem vf_RX11_106 : xlink RX11 106 11 15 := xTS_in (tin_3 _ (List.mem_of_getElem? (i := 29) rfl)) rfl
theorem vf_RX11_21 : xlink RX11 21 11 1 := xTS_in (tin_3 _ (List.mem_of_getElem? (i := 15) rfl)) rfl
theorem vf_RX11_28 : xlink RX11 28 11 2 := xTS_in (tin_3 _ (List.mem_of_getElem? (i := 16) rfl)) rfl
theorem vf_RX11_32 : xlink RX11 32 11 3 := xTS_in (tin_3 _ (List.mem_of_getElem? (i := 17) rfl)) rfl
theorem vf_RX11_38 : xlink RX11 38 11 4 := xTS_in (tin_3 _ (List.mem_of_getElem? (i := 18) rfl)) rfl
theorem vf_RX11_45 : xlink RX11 45 11 5 := xTS_in (tin_3 _ (List.mem_of_getElem? (i := 19) rfl)) rfl
theorem vf_RX11_52 : xlink RX11 52 11 6 := xTS_in (tin_3 _ (List.mem_of_getElem? (i := 20) rfl)) rfl
theorem vf_RX11_59 : xlink RX11 59 11 7 := xTS_in (tin_3 _ (List.mem_of_getElem? (i := 21) rfl)) rfl
theorem vf_RX11_66 : xlink RX11 66 11 8 := xTS_in (tin_3 _ (List.mem_of_getElem? (i := 22) rfl)) rfl
theorem vf_RX11_75 : xlink RX11 75 11 9 := xTS_in (tin_3 _ (List.mem_of_getElem? (i := 23) rfl)) rfl
theorem vf_RX11_82 : xlink RX11 82 11 10 := xTS_in (tin_3 _ (List.mem_of_getElem? (i := 24) rfl)) rfl
theorem vf_RX11_91 : xlink RX11 91 11 11 := xTS_in (tin_3 _ (List.mem_of_getElem? (i := 25) rfl)) rfl
theorem vf_RX11_95 : xlink RX11 95 11 12 := xTS_in (tin_3 _ (List.mem_of_getElem? (i := 26) rfl)) rfl
theorem vf_RX11_99 : xlink RX11 99 11 13 := xTS_in (tin_3 _ (List.mem_of_getElem? (i := 27) rfl)) rfl
theorem vf_RX12_100 : xlink RX12 100 12 45 := xTS_in (tin_6 _ (List.mem_of_getElem? (i := 169) rfl)) rfl
theorem vf_RX12_103 : xlink RX12 103 12 46 := xTS_in (tin_6 _ (List.mem_of_getElem? (i := 170) rfl)) rfl
theorem vf_RX12_106 : xlink RX12 106 12 53 := xTS_in (tin_6 _ (List.mem_of_getElem? (i := 177) rfl)) rfl
theorem vf_RX12_109 : xlink RX12 109 12 54 := xTS_in (tin_6 _ (List.mem_of_getElem? (i := 178) rfl)) rfl
theorem vf_RX12_11 : xlink RX12 11 12 0 := xTS_in (tin_6 _ (List.mem_of_getElem? (i := 124) rfl)) rfl
theorem vf_RX12_112 : xlink RX12 112 12 55 := xTS_in (tin_6 _ (List.mem_of_getElem? (i := 179) rfl)) rfl
theorem vf_RX12_115 : xlink RX12 115 12 56 := xTS_in (tin_6 _ (List.mem_of_getElem? (i := 180) rfl)) rfl
theorem vf_RX12_118 : xlink RX12 118 12 58 := xTS_in (tin_6 _ (List.mem_of_getElem? (i := 182) rfl)) rfl
theorem vf_RX12_121 : xlink RX12 121 12 59 := xTS_in (tin_6 _ (List.mem_of_getElem? (i := 183) rfl)) rfl
theorem vf_RX12_124 : xlink RX12 124 12 60 := xTS_in (tin_6 _ (List.mem_of_getElem? (i := 184) rfl)) rfl
theorem vf_RX12_127 : xlink RX12 127 12 61 := xTS_in (tin_6 _ (List.mem_of_getElem? (i := 185) rfl)) rfl
theorem vf_RX12_130 : xlink RX12 130 12 62 := xTS_in (tin_6 _ (List.mem_of_getElem? (i := 186) rfl)) rfl
theorem vf_RX12_133 : xlink RX12 133 12 63 := xTS_in (tin_6 _ (List.mem_of_getElem? (i := 187) rfl)) rfl
theorem vf_RX12_136 : xlink RX12 136 12 64 := xTS_in (tin_6 _ (List.mem_of_getElem? (i := 188) rfl)) rfl
theorem vf_RX12_139 : xlink RX12 139 12 65 := xTS_in (tin_6 _ (List.mem_of_getElem? (i := 189) rfl)) rfl
theorem vf_RX12_142 : xlink RX12 142 12 66 := xTS_in (tin_6 _ (List.mem_of_getElem? (i := 190) rfl)) rfl
theorem vf_RX12_145 : xlink RX12 145 12 67 := xTS_in (tin_6 _ (List.mem_of_getElem? (i := 191) rfl)) rfl
theorem vf_RX12_148 : xlink RX12 148 12 68 := xTS_in (tin_6 _ (List.mem_of_getElem? (i := 192) rfl)) rfl
theorem vf_RX12_151 : xlink RX12 151 12 69 := xTS_in (tin_6 _ (List.mem_of_getElem? (i := 193) rfl)) rfl
theorem vf_RX12_154 : xlink RX12 154 12 70 := xTS_in (tin_6 _ (List.mem_of_getElem? (i := 194) rfl)) rfl
theorem vf_RX12_157 : xlink RX12 157 12 71 := xTS_in (tin_6 _ (List.mem_of_getElem? (i := 195) rfl)) rfl
theorem vf_RX12_160 : xlink RX12 160 12 73 := xTS_in (tin_6 _ (List.mem_of_getElem? (i := 197) rfl)) rfl
theorem vf_RX12_163 : xlink RX12 163 12 74 := xTS_in (tin_6 _ (List.mem_of_getElem? (i := 198) rfl)) rfl
theorem vf_RX12_166 : xlink RX12 166 12 75 := xTS_in (tin_6 _ (List.mem_of_getElem? (i := 199) rfl)) rfl
theorem vf_RX12_169 : xlink RX12 169 12 76 := xTS_in (tin_6 _ (List.mem_of_getElem? (i := 200) rfl)) rfl
theorem vf_RX12_172 : xlink RX12 172 12 80 := xTS_in (tin_6 _ (List.mem_of_getElem? (i := 204) rfl)) rfl
theorem vf_RX12_175 : xlink RX12 175 12 82 := xTS_in (tin_6 _ (List.mem_of_getElem? (i := 206) rfl)) rfl
theorem vf_RX12_178 : xlink RX12 178 12 88 := xTS_in (tin_6 _ (List.mem_of_getElem? (i := 212) rfl)) rfl
theorem vf_RX12_181 : xlink RX12 181 12 89 := xTS_in (tin_6 _ (List.mem_of_getElem? (i := 213) rfl)) rfl
theorem vf_RX12_184 : xlink RX12 184 12 90 := xTS_in (tin_6 _ (List.mem_of_getElem? (i := 214) rfl)) rfl
theorem vf_RX12_187 : xlink RX12 187 12 91 := xTS_in (tin_6 _ (List.mem_of_getElem? (i := 215) rfl)) rfl
theorem vf_RX12_30 : xlink RX12 30 12 5 := xTS_in (tin_6 _ (List.mem_of_getElem? (i := 129) rfl)) rfl
theorem vf_RX12_34 : xlink RX12 34 12 6 := xTS_in (tin_6 _ (List.mem_of_getElem? (i := 130) rfl)) rfl
theorem vf_RX12_37 : xlink RX12 37 12 7 := xTS_in (tin_6 _ (List.mem_of_getElem? (i := 131) rfl)) rfl
theorem vf_RX12_40 : xlink RX12 40 12 8 := xTS_in (tin_6 _ (List.mem_of_getElem? (i := 132) rfl)) rfl
theorem vf_RX12_43 : xlink RX12 43 12 9 := xTS_in (tin_6 _ (List.mem_of_getElem? (i := 133) rfl)) rfl
theorem vf_RX12_47 : xlink RX12 47 12 10 := xTS_in (tin_6 _ (List.mem_of_getElem? (i := 134) rfl)) rfl
theorem vf_RX12_50 : xlink RX12 50 12 20 := xTS_in (tin_6 _ (List.mem_of_getElem? (i := 144) rfl)) rfl
theorem vf_RX12_53 : xlink RX12 53 12 21 := xTS_in (tin_6 _ (List.mem_of_getElem? (i := 145) rfl)) rfl
theorem vf_RX12_56 : xlink RX12 56 12 22 := xTS_in (tin_6 _ (List.mem_of_getElem? (i := 146) rfl)) rfl
theorem vf_RX12_59 : xlink RX12 59 12 23 := xTS_in (tin_6 _ (List.mem_of_getElem? (i := 147) rfl)) rfl
theorem vf_RX12_62 : xlink RX12 62 12 31 := xTS_in (tin_6 _ (List.mem_of_getElem? (i := 155) rfl)) rfl
theorem vf_RX12_65 : xlink RX12 65 12 32 := xTS_in (tin_6 _ (List.mem_of_getElem? (i := 156) rfl)) rfl
theorem vf_RX12_68 : xlink RX12 68 12 33 := xTS_in (tin_6 _ (List.mem_of_getElem? (i := 157) rfl)) rfl
theorem vf_RX12_71 : xlink RX12 71 12 34 := xTS_in (tin_6 _ (List.mem_of_getElem? (i := 158) rfl)) rfl
theorem vf_RX12_74 : xlink RX12 74 12 35 := xTS_in (tin_6 _ (List.mem_of_getElem? (i := 159) rfl)) rfl
theorem vf_RX12_77 : xlink RX12 77 12 36 := xTS_in (tin_6 _ (List.mem_of_getElem? (i := 160) rfl)) rfl
theorem vf_RX12_80 : xlink RX12 80 12 37 := xTS_in (tin_6 _ (List.mem_of_getElem? (i := 161) rfl)) rfl
theorem vf_RX12_84 : xlink RX12 84 12 38 := xTS_in (tin_6 _ (List.mem_of_getElem? (i := 162) rfl)) rfl
theorem vf_RX12_87 : xlink RX12 87 12 39 := xTS_in (tin_6 _ (List.mem_of_getElem? (i := 163) rfl)) rfl
theorem vf_RX12_91 : xlink RX12 91 12 42 := xTS_in (tin_6 _ (List.mem_of_getElem? (i := 166) rfl)) rfl
theorem vf_RX12_94 : xlink RX12 94 12 43 := xTS_in (tin_6 _ (List.mem_of_getElem? (i := 167) rfl)) rfl
theorem vf_RX12_97 : xlink RX12 97 12 44 := xTS_in (tin_6 _ (List.mem_of_getElem? (i := 168) rfl)) rfl
theorem vf_RX3_15 : xlink RX3 15 3 5 := xTS_in (tin_2 _ (List.mem_of_getElem? (i := 25) rfl)) rfl
theorem vf_RX3_18 : xlink RX3 18 3 6 := xTS_in (tin_2 _ (List.mem_of_getElem? (i := 27) rfl)) rfl
theorem vf_RX3_9 : xlink RX3 9 3 4 := xTS_in (tin_2 _ (List.mem_of_getElem? (i := 23) rfl)) rfl
theorem vf_RX4_15 : xlink RX4 15 4 5 := xTS_in (tin_1 _ (List.mem_of_getElem? (i := 142) rfl)) rfl
theorem vf_RX4_19 : xlink RX4 19 4 6 := xTS_in (tin_1 _ (List.mem_of_getElem? (i := 143) rfl)) rfl
theorem vf_RX4_22 : xlink RX4 22 4 7 := xTS_in (tin_1 _ (List.mem_of_getElem? (i := 145) rfl)) rfl
theorem vf_RX4_26 : xlink RX4 26 4 8 := xTS_in (tin_1 _ (List.mem_of_getElem? (i := 151) rfl)) rfl
theorem vf_RX4_29 : xlink RX4 29 4 9 := xTS_in (tin_1 _ (List.mem_of_getElem? (i := 155) rfl)) rfl
theorem vf_RX4_32 : xlink RX4 32 4 10 := xTS_in (tin_1 _ (List.mem_of_getElem? (i := 158) rfl)) rfl
theorem vf_RX4_35 : xlink RX4 35 4 11 := xTS_in (tin_1 _ (List.mem_of_getElem? (i := 159) rfl)) rfl
theorem vf_RX4_38 : xlink RX4 38 4 12 := xTS_in (tin_1 _ (List.mem_of_getElem? (i := 163) rfl)) rfl
theorem vf_RX4_41 : xlink RX4 41 4 13 := xTS_in (tin_1 _ (List.mem_of_getElem? (i := 166) rfl)) rfl
theorem vf_RX4_9 : xlink RX4 9 4 3 := xTS_in (tin_1 _ (List.mem_of_getElem? (i := 135) rfl)) rfl
theorem vf_RX5_18 : xlink RX5 18 5 2 := xTS_in (tin_1 _ (List.mem_of_getElem? (i := 88) rfl)) rfl
theorem vf_RX5_22 : xlink RX5 22 5 0 := xTS_in (tin_1 _ (List.mem_of_getElem? (i := 86) rfl)) rfl
theorem vf_RX5_9 : xlink RX5 9 5 1 := xTS_in (tin_1 _ (List.mem_of_getElem? (i := 87) rfl)) rfl
theorem vf_RX6_15 : xlink RX6 15 6 3 := xTS_in (tin_2 _ (List.mem_of_getElem? (i := 218) rfl)) rfl
theorem vf_RX6_18 : xlink RX6 18 6 5 := xTS_in (tin_2 _ (List.mem_of_getElem? (i := 220) rfl)) rfl
theorem vf_RX6_21 : xlink RX6 21 6 2 := xTS_in (tin_2 _ (List.mem_of_getElem? (i := 217) rfl)) rfl
theorem vf_RX6_9 : xlink RX6 9 6 0 := xTS_in (tin_2 _ (List.mem_of_getElem? (i := 213) rfl)) rfl
theorem vf_RX7_15 : xlink RX7 15 7 4 := xTS_in (tin_2 _ (List.mem_of_getElem? (i := 58) rfl)) rfl
theorem vf_RX7_18 : xlink RX7 18 7 5 := xTS_in (tin_2 _ (List.mem_of_getElem? (i := 60) rfl)) rfl
theorem vf_RX7_22 : xlink RX7 22 7 6 := xTS_in (tin_2 _ (List.mem_of_getElem? (i := 62) rfl)) rfl
theorem vf_RX7_25 : xlink RX7 25 7 7 := xTS_in (tin_2 _ (List.mem_of_getElem? (i := 64) rfl)) rfl
theorem vf_RX7_28 : xlink RX7 28 7 8 := xTS_in (tin_2 _ (List.mem_of_getElem? (i := 66) rfl)) rfl
theorem vf_RX7_31 : xlink RX7 31 7 9 := xTS_in (tin_2 _ (List.mem_of_getElem? (i := 68) rfl)) rfl
theorem vf_RX7_35 : xlink RX7 35 7 10 := xTS_in (tin_2 _ (List.mem_of_getElem? (i := 70) rfl)) rfl
theorem vf_RX7_38 : xlink RX7 38 7 11 := xTS_in (tin_2 _ (List.mem_of_getElem? (i := 71) rfl)) rfl
theorem vf_RX7_41 : xlink RX7 41 7 12 := xTS_in (tin_2 _ (List.mem_of_getElem? (i := 72) rfl)) rfl
theorem vf_RX7_44 : xlink RX7 44 7 13 := xTS_in (tin_2 _ (List.mem_of_getElem? (i := 73) rfl)) rfl
theorem vf_RX7_47 : xlink RX7 47 7 14 := xTS_in (tin_2 _ (List.mem_of_getElem? (i := 74) rfl)) rfl
theorem vf_RX7_9 : xlink RX7 9 7 3 := xTS_in (tin_2 _ (List.mem_of_getElem? (i := 56) rfl)) rfl
theorem vf_RX8_15 : xlink RX8 15 8 1 := xTS_in (tin_1 _ (List.mem_of_getElem? (i := 72) rfl)) rfl
theorem vf_RX8_9 : xlink RX8 9 8 0 := xTS_in (tin_1 _ (List.mem_of_getElem? (i := 71) rfl)) rfl
theorem vf_RX9_9 : xlink RX9 9 9 0 := xTS_in (tin_1 _ (List.mem_of_getElem? (i := 31) rfl)) rfl
theorem if_X0_init : xIF yX0_init cX0_init 1 0 := ⟨⟨by decide +kernel, by decide +kernel, by decide +kernel⟩, xTS_in (tin_1 _ (List.mem_of_getElem? (i := 206) rfl)) rfl, xTS_in (tin_1 _ (List.mem_of_getElem? (i := 205) rfl)) rfl, xTS_in (tin_1 _ (List.mem_of_getElem? (i := 6) rfl)) rfl, rfl⟩
theorem if_X10_init : xIF yX10_init cX10_init 2 1 := ⟨⟨by decide +kernel, by decide +kernel, by decide +kernel⟩, xTS_in (tin_2 _ (List.mem_of_getElem? (i := 111) rfl)) rfl, xTS_in (tin_2 _ (List.mem_of_getElem? (i := 110) rfl)) rfl, xTS_in (tin_1 _ (List.mem_of_getElem? (i := 10) rfl)) rfl, rfl⟩
theorem if_X1_init : xIF yX1_init cX1_init 1 0 := ⟨⟨by decide +kernel, by decide +kernel, by decide +kernel⟩, xTS_in (tin_2 _ (List.mem_of_getElem? (i := 156) rfl)) rfl, xTS_in (tin_2 _ (List.mem_of_getElem? (i := 155) rfl)) rfl, xTS_in (tin_1 _ (List.mem_of_getElem? (i := 11) rfl)) rfl, rfl⟩
theorem if_X2_init : xIF yX2_init cX2_init 1 0 := ⟨⟨by decide +kernel, by decide +kernel, by decide +kernel⟩, xTS_in (tin_2 _ (List.mem_of_getElem? (i := 3) rfl)) rfl, xTS_in (tin_2 _ (List.mem_of_getElem? (i := 2) rfl)) rfl, xTS_in (tin_1 _ (List.mem_of_getElem? (i := 7) rfl)) rfl, rfl⟩
theorem if_X3_init : xIF yX3_init cX3_init 1 0 := ⟨⟨by decide +kernel, by decide +kernel, by decide +kernel⟩, xTS_in (tin_2 _ (List.mem_of_getElem? (i := 13) rfl)) rfl, xTS_in (tin_2 _ (List.mem_of_getElem? (i := 12) rfl)) rfl, xTS_in (tin_1 _ (List.mem_of_getElem? (i := 8) rfl)) rfl, rfl⟩
theorem if_X4_init : xIF yX4_init cX4_init 1 0 := ⟨⟨by decide +kernel, by decide +kernel, by decide +kernel⟩, xTS_in (tin_1 _ (List.mem_of_getElem? (i := 109) rfl)) rfl, xTS_in (tin_1 _ (List.mem_of_getElem? (i := 108) rfl)) rfl, xTS_in (tin_1 _ (List.mem_of_getElem? (i := 5) rfl)) rfl, rfl⟩
theorem if_X5_init : xIF yX5_init cX5_init 2 1 := ⟨⟨by decide +kernel, by decide +kernel, by decide +kernel⟩, xTS_in (tin_1 _ (List.mem_of_getElem? (i := 63) rfl)) rfl, xTS_in (tin_1 _ (List.mem_of_getElem? (i := 62) rfl)) rfl, xTS_in (tin_1 _ (List.mem_of_getElem? (i := 3) rfl)) rfl, rfl⟩
theorem if_X6_init : xIF yX6_init cX6_init 2 1 := ⟨⟨by decide +kernel, by decide +kernel, by decide +kernel⟩, xTS_in (tin_2 _ (List.mem_of_getElem? (i := 211) rfl)) rfl, xTS_in (tin_2 _ (List.mem_of_getElem? (i := 210) rfl)) rfl, xTS_in (tin_1 _ (List.mem_of_getElem? (i := 12) rfl)) rfl, rfl⟩
theorem if_X7_init : xIF yX7_init cX7_init 1 0 := ⟨⟨by decide +kernel, by decide +kernel, by decide +kernel⟩, xTS_in (tin_2 _ (List.mem_of_getElem? (i := 47) rfl)) rfl, xTS_in (tin_2 _ (List.mem_of_getElem? (i := 46) rfl)) rfl, xTS_in (tin_1 _ (List.mem_of_getElem? (i := 9) rfl)) rfl, rfl⟩
theorem if_X8_init : xIF yX8_init cX8_init 1 0 := ⟨⟨by decide +kernel, by decide +kernel, by decide +kernel⟩, xTS_in (tin_1 _ (List.mem_of_getElem? (i := 69) rfl)) rfl, xTS_in (tin_1 _ (List.mem_of_getElem? (i := 68) rfl)) rfl, xTS_in (tin_1 _ (List.mem_of_getElem? (i := 4) rfl)) rfl, rfl⟩
theorem if_X9_init : xIF yX9_init cX9_init 1 0 := ⟨⟨by decide +kernel, by decide +kernel, by decide +kernel⟩, xTS_in (tin_1 _ (List.mem_of_getElem? (i := 29) rfl)) rfl, xTS_in (tin_1 _ (List.mem_of_getElem? (i := 28) rfl)) rfl, xTS_in (tin_1 _ (List.mem_of_getElem? (i := 2) rfl)) rfl, rfl⟩
theorem vm_RX11_18 : Cond.methodLink RX11 18 yX5_init ∈ xTS := xTS_in (tin_1 _ (List.mem_of_getElem? (i := 61) rfl)) rfl
theorem vm_RX11_27 : Cond.methodLink RX11 27 yX4_init ∈ xTS := xTS_in (tin_1 _ (List.mem_of_getElem? (i := 107) rfl)) rfl
theorem vm_RX11_72 : Cond.methodLink RX11 72 yX10_init ∈ xTS := xTS_in (tin_2 _ (List.mem_of_getElem? (i := 109) rfl)) rfl
theorem vm_RX11_88 : Cond.methodLink RX11 88 yX6_init ∈ xTS := xTS_in (tin_2 _ (List.mem_of_getElem? (i := 209) rfl)) rfl
theorem vm_RX4_44 : Cond.methodLink RX4 44 yX4_renumber ∈ xTS := xTS_in (tin_1 _ (List.mem_of_getElem? (i := 111) rfl)) rfl
theorem nw_RX11_16 : xNW RX11 16 5 := ⟨xTS_in (tin_1 _ (List.mem_of_getElem? (i := 59) rfl)) rfl, xTS_in (tin_1 _ (List.mem_of_getElem? (i := 60) rfl)) rfl, xTS_in (tin_1 _ (List.mem_of_getElem? (i := 3) rfl)) rfl⟩
theorem nw_RX11_25 : xNW RX11 25 4 := ⟨xTS_in (tin_1 _ (List.mem_of_getElem? (i := 105) rfl)) rfl, xTS_in (tin_1 _ (List.mem_of_getElem? (i := 106) rfl)) rfl, xTS_in (tin_1 _ (List.mem_of_getElem? (i := 5) rfl)) rfl⟩
theorem nw_RX11_35 : xNW RX11 35 8 := ⟨xTS_in (tin_1 _ (List.mem_of_getElem? (i := 200) rfl)) rfl, xTS_in (tin_1 _ (List.mem_of_getElem? (i := 66) rfl)) rfl, xTS_in (tin_1 _ (List.mem_of_getElem? (i := 4) rfl)) rfl⟩
theorem nw_RX11_42 : xNW RX11 42 0 := ⟨xTS_in (tin_1 _ (List.mem_of_getElem? (i := 202) rfl)) rfl, xTS_in (tin_1 _ (List.mem_of_getElem? (i := 203) rfl)) rfl, xTS_in (tin_1 _ (List.mem_of_getElem? (i := 6) rfl)) rfl⟩
theorem nw_RX11_49 : xNW RX11 49 2 := ⟨xTS_in (tin_1 _ (List.mem_of_getElem? (i := 239) rfl)) rfl, xTS_in (tin_2 _ (List.mem_of_getElem? (i := 0) rfl)) rfl, xTS_in (tin_1 _ (List.mem_of_getElem? (i := 7) rfl)) rfl⟩
theorem nw_RX11_56 : xNW RX11 56 3 := ⟨xTS_in (tin_2 _ (List.mem_of_getElem? (i := 9) rfl)) rfl, xTS_in (tin_2 _ (List.mem_of_getElem? (i := 10) rfl)) rfl, xTS_in (tin_1 _ (List.mem_of_getElem? (i := 8) rfl)) rfl⟩
theorem nw_RX11_63 : xNW RX11 63 7 := ⟨xTS_in (tin_2 _ (List.mem_of_getElem? (i := 43) rfl)) rfl, xTS_in (tin_2 _ (List.mem_of_getElem? (i := 44) rfl)) rfl, xTS_in (tin_1 _ (List.mem_of_getElem? (i := 9) rfl)) rfl⟩
theorem nw_RX11_7 : xNW RX11 7 9 := ⟨xTS_in (tin_1 _ (List.mem_of_getElem? (i := 25) rfl)) rfl, xTS_in (tin_1 _ (List.mem_of_getElem? (i := 26) rfl)) rfl, xTS_in (tin_1 _ (List.mem_of_getElem? (i := 2) rfl)) rfl⟩
theorem nw_RX11_70 : xNW RX11 70 10 := ⟨xTS_in (tin_2 _ (List.mem_of_getElem? (i := 107) rfl)) rfl, xTS_in (tin_2 _ (List.mem_of_getElem? (i := 108) rfl)) rfl, xTS_in (tin_1 _ (List.mem_of_getElem? (i := 10) rfl)) rfl⟩
theorem nw_RX11_79 : xNW RX11 79 1 := ⟨xTS_in (tin_2 _ (List.mem_of_getElem? (i := 152) rfl)) rfl, xTS_in (tin_2 _ (List.mem_of_getElem? (i := 153) rfl)) rfl, xTS_in (tin_1 _ (List.mem_of_getElem? (i := 11) rfl)) rfl⟩
theorem nw_RX11_86 : xNW RX11 86 6 := ⟨xTS_in (tin_2 _ (List.mem_of_getElem? (i := 207) rfl)) rfl, xTS_in (tin_2 _ (List.mem_of_getElem? (i := 208) rfl)) rfl, xTS_in (tin_1 _ (List.mem_of_getElem? (i := 12) rfl)) rfl⟩
theorem nw_RX5_15 : xNW RX5 15 8 := ⟨xTS_in (tin_1 _ (List.mem_of_getElem? (i := 65) rfl)) rfl, xTS_in (tin_1 _ (List.mem_of_getElem? (i := 66) rfl)) rfl, xTS_in (tin_1 _ (List.mem_of_getElem? (i := 4) rfl)) rfl⟩
theorem oi_RX0_3 : Cond.methodLink RX0 3 objectInit ∈ xTS := xTS_in (tin_1 _ (List.mem_of_getElem? (i := 207) rfl)) rfl
theorem oi_RX1_3 : Cond.methodLink RX1 3 objectInit ∈ xTS := xTS_in (tin_2 _ (List.mem_of_getElem? (i := 157) rfl)) rfl
theorem oi_RX10_3 : Cond.methodLink RX10 3 objectInit ∈ xTS := xTS_in (tin_2 _ (List.mem_of_getElem? (i := 112) rfl)) rfl
theorem oi_RX11_1 : Cond.methodLink RX11 1 objectInit ∈ xTS := xTS_in (tin_1 _ (List.mem_of_getElem? (i := 22) rfl)) rfl
theorem oi_RX12_24 : Cond.methodLink RX12 24 objectInit ∈ xTS := xTS_in (tin_6 _ (List.mem_of_getElem? (i := 106) rfl)) rfl
theorem oi_RX2_3 : Cond.methodLink RX2 3 objectInit ∈ xTS := xTS_in (tin_2 _ (List.mem_of_getElem? (i := 4) rfl)) rfl
theorem oi_RX3_3 : Cond.methodLink RX3 3 objectInit ∈ xTS := xTS_in (tin_2 _ (List.mem_of_getElem? (i := 14) rfl)) rfl
theorem oi_RX4_3 : Cond.methodLink RX4 3 objectInit ∈ xTS := xTS_in (tin_1 _ (List.mem_of_getElem? (i := 110) rfl)) rfl
theorem oi_RX5_3 : Cond.methodLink RX5 3 objectInit ∈ xTS := xTS_in (tin_1 _ (List.mem_of_getElem? (i := 64) rfl)) rfl
theorem oi_RX6_3 : Cond.methodLink RX6 3 objectInit ∈ xTS := xTS_in (tin_2 _ (List.mem_of_getElem? (i := 212) rfl)) rfl
theorem oi_RX7_3 : Cond.methodLink RX7 3 objectInit ∈ xTS := xTS_in (tin_2 _ (List.mem_of_getElem? (i := 48) rfl)) rfl
theorem oi_RX8_3 : Cond.methodLink RX8 3 objectInit ∈ xTS := xTS_in (tin_1 _ (List.mem_of_getElem? (i := 70) rfl)) rfl
theorem oi_RX9_3 : Cond.methodLink RX9 3 objectInit ∈ xTS := xTS_in (tin_1 _ (List.mem_of_getElem? (i := 30) rfl)) rfl
theorem oi_inst : Cond.instanceMethod objectInit ∈ xTS := xTS_in (tin_1 _ (List.mem_of_getElem? (i := 23) rfl)) rfl
theorem oi_code : Cond.code objectInit ⟨#[0xb1]⟩ 1 none ∈ xTS := xTS_in (tin_1 _ (List.mem_of_getElem? (i := 24) rfl)) rfl
theorem d_X0_init_0 : decode cX0_init 0 = .ok (.aload_n 0, 1) := by decide +kernel
theorem d_X0_init_1 : decode cX0_init 1 = .ok (.invokespecial 3, 3) := by decide +kernel
theorem d_X0_init_4 : decode cX0_init 4 = .ok (.aload_n 0, 1) := by decide +kernel
theorem d_X0_init_5 : decode cX0_init 5 = .ok (.bipush 40, 2) := by decide +kernel
theorem d_X0_init_7 : decode cX0_init 7 = .ok (.newarray .int, 2) := by decide +kernel
theorem d_X0_init_9 : decode cX0_init 9 = .ok (.putfield 9, 3) := by decide +kernel
theorem d_X0_init_12 : decode cX0_init 12 = .ok (.aload_n 0, 1) := by decide +kernel
theorem d_X0_init_13 : decode cX0_init 13 = .ok (.sipush 200, 3) := by decide +kernel
theorem d_X0_init_16 : decode cX0_init 16 = .ok (.newarray .int, 2) := by decide +kernel
theorem d_X0_init_18 : decode cX0_init 18 = .ok (.putfield 15, 3) := by decide +kernel
theorem d_X0_init_21 : decode cX0_init 21 = .ok (.return_, 1) := by decide +kernel
def k_X0_init (n : Nat) (P : xP) : xK := x_aload 0 (x_oini (x_aload 0 (x_push (.int 40) (x_newa (n) 1 40 (x_putF (n + 1) 0 0 (x_aload 0 (x_push (.int 200) (x_newa (n + 1) 1 200 (x_putF (n + 2) 0 1 (x_vret P))))))))))
def f_X0_init (n : Nat) (a0 : Nat) (A : xH) (P : xP) : Prop := k_X0_init n P [some (.ref a0)] [] A
set_option maxRecDepth 20000 in
theorem t_X0_init {p : Program} {l : Launch} {e : Env} {s : State} {m : MethodId} {args : Array Value} {below : List Frame} {meth : Method} {c : Code} {g : xG} {n : Nat} (hn : n + 2 ≤ 231) (X : xX p s m args c meth cX0_init RX0 1 g) (hr : meth.sig.returnType = none) (hin : meth.name = "<init>") {P : xP} : xAt p l e { frames := 1, cells := (n + 2) - n, slots := 240, locals := 20 } s m args below meth c g 1 xFF n 0 0 (MQ below (xQc g xFF (n + 2) P) args s ((n + 2) - n) 240 (xFr g)) (k_X0_init n P) 0 := by
  unfold k_X0_init
  refine r_aload_n (pc := 0) X d_X0_init_0 fn0 ?_
  refine r_oini (pc := 1) X oi_RX0_3 oi_inst oi_code (Nat.le_of_ble_eq_true rfl) (Nat.le_of_ble_eq_true rfl) d_X0_init_1 ?_
  refine r_aload_n (pc := 4) X d_X0_init_4 fn0 ?_
  refine r_bipush (pc := 5) X d_X0_init_5 (by decide +kernel) ?_
  refine r_newa (pc := 7) (atype := .int) X ⟨rfl, by decide⟩ (by decide) (by omega) (Nat.ne_of_lt (show n + 0 < 231 by omega)) aw_int (show 1 ≤ n + 2 - n by omega) (Nat.le_of_ble_eq_true rfl) d_X0_init_7 ?_
  refine r_putF (pc := 9) X hin xok0 (by decide +kernel) (by decide +kernel) (by decide +kernel) (by decide +kernel) rfl (fun _ => ⟨rfl, rfl⟩) vf_RX0_9 d_X0_init_9 ?_
  refine r_aload_n (pc := 12) X d_X0_init_12 fn0 ?_
  refine r_sipush (pc := 13) X d_X0_init_13 (by decide +kernel) ?_
  refine r_newa (pc := 16) (atype := .int) X ⟨rfl, by decide⟩ (by decide) (by omega) (Nat.ne_of_lt (show n + 1 < 231 by omega)) aw_int (show 2 ≤ n + 2 - n by omega) (Nat.le_of_ble_eq_true rfl) d_X0_init_16 ?_
  refine r_putF (pc := 18) X hin xok0 (by decide +kernel) (by decide +kernel) (by decide +kernel) (by decide +kernel) rfl (fun _ => ⟨rfl, rfl⟩) vf_RX0_15 d_X0_init_18 ?_
  exact r_vretN (by omega) rfl X hr d_X0_init_21
set_option maxRecDepth 20000 in
theorem con_X0_init (l : Launch) (n : Nat) (hn : n + 2 ≤ 231) : xCon l yX0_init cX0_init 1 none 1 20 n (n + 2) 240 xFF xFF (w_R (f_X0_init n)) :=
  xc_R (by decide +kernel) (by decide +kernel) (fun p e s m args below meth c g a0 A P h X hr hin => ⟨_, h, t_X0_init hn X hr hin⟩)
theorem d_X2_init_0 : decode cX2_init 0 = .ok (.aload_n 0, 1) := by decide +kernel
theorem d_X2_init_1 : decode cX2_init 1 = .ok (.invokespecial 3, 3) := by decide +kernel
theorem d_X2_init_4 : decode cX2_init 4 = .ok (.return_, 1) := by decide +kernel
def k_X2_init (n : Nat) (P : xP) : xK := x_aload 0 (x_oini (x_vret P))
def f_X2_init (n : Nat) (a0 : Nat) (A : xH) (P : xP) : Prop := k_X2_init n P [some (.ref a0)] [] A
set_option maxRecDepth 20000 in
theorem t_X2_init {p : Program} {l : Launch} {e : Env} {s : State} {m : MethodId} {args : Array Value} {below : List Frame} {meth : Method} {c : Code} {g : xG} {n : Nat} (X : xX p s m args c meth cX2_init RX2 1 g) (hr : meth.sig.returnType = none) (hin : meth.name = "<init>") {P : xP} : xAt p l e { frames := 1, cells := n - n, slots := 0, locals := 20 } s m args below meth c g 1 xFF n 0 0 (MQ below (xQc g xFF n P) args s (n - n) 0 (xFr g)) (k_X2_init n P) 0 := by
  unfold k_X2_init
  refine r_aload_n (pc := 0) X d_X2_init_0 fn0 ?_
  refine r_oini (pc := 1) X oi_RX2_3 oi_inst oi_code (Nat.le_of_ble_eq_true rfl) (Nat.le_of_ble_eq_true rfl) d_X2_init_1 ?_
  exact r_vretN (by omega) rfl X hr d_X2_init_4
set_option maxRecDepth 20000 in
theorem con_X2_init (l : Launch) (n : Nat) : xCon l yX2_init cX2_init 1 none 1 20 n n 0 xFF xFF (w_R (f_X2_init n)) :=
  xc_R (by decide +kernel) (by decide +kernel) (fun p e s m args below meth c g a0 A P h X hr hin => ⟨_, h, t_X2_init X hr hin⟩)
theorem d_X3_init_0 : decode cX3_init 0 = .ok (.aload_n 0, 1) := by decide +kernel
theorem d_X3_init_1 : decode cX3_init 1 = .ok (.invokespecial 3, 3) := by decide +kernel
theorem d_X3_init_4 : decode cX3_init 4 = .ok (.aload_n 0, 1) := by decide +kernel
theorem d_X3_init_5 : decode cX3_init 5 = .ok (.iconst 5, 1) := by decide +kernel
theorem d_X3_init_6 : decode cX3_init 6 = .ok (.newarray .int, 2) := by decide +kernel
theorem d_X3_init_8 : decode cX3_init 8 = .ok (.putfield 9, 3) := by decide +kernel
theorem d_X3_init_11 : decode cX3_init 11 = .ok (.aload_n 0, 1) := by decide +kernel
theorem d_X3_init_12 : decode cX3_init 12 = .ok (.iconst 5, 1) := by decide +kernel
theorem d_X3_init_13 : decode cX3_init 13 = .ok (.newarray .int, 2) := by decide +kernel
theorem d_X3_init_15 : decode cX3_init 15 = .ok (.putfield 15, 3) := by decide +kernel
theorem d_X3_init_18 : decode cX3_init 18 = .ok (.aload_n 0, 1) := by decide +kernel
theorem d_X3_init_19 : decode cX3_init 19 = .ok (.iconst 5, 1) := by decide +kernel
theorem d_X3_init_20 : decode cX3_init 20 = .ok (.newarray .int, 2) := by decide +kernel
theorem d_X3_init_22 : decode cX3_init 22 = .ok (.putfield 18, 3) := by decide +kernel
theorem d_X3_init_25 : decode cX3_init 25 = .ok (.return_, 1) := by decide +kernel
def k_X3_init (n : Nat) (P : xP) : xK := x_aload 0 (x_oini (x_aload 0 (x_push (.int 5) (x_newa (n) 1 5 (x_putF (n + 1) 3 4 (x_aload 0 (x_push (.int 5) (x_newa (n + 1) 1 5 (x_putF (n + 2) 3 5 (x_aload 0 (x_push (.int 5) (x_newa (n + 2) 1 5 (x_putF (n + 3) 3 6 (x_vret P))))))))))))))
def f_X3_init (n : Nat) (a0 : Nat) (A : xH) (P : xP) : Prop := k_X3_init n P [some (.ref a0)] [] A
set_option maxRecDepth 20000 in
theorem t_X3_init {p : Program} {l : Launch} {e : Env} {s : State} {m : MethodId} {args : Array Value} {below : List Frame} {meth : Method} {c : Code} {g : xG} {n : Nat} (hn : n + 3 ≤ 231) (X : xX p s m args c meth cX3_init RX3 1 g) (hr : meth.sig.returnType = none) (hin : meth.name = "<init>") {P : xP} : xAt p l e { frames := 1, cells := (n + 3) - n, slots := 15, locals := 20 } s m args below meth c g 1 xFF n 0 0 (MQ below (xQc g xFF (n + 3) P) args s ((n + 3) - n) 15 (xFr g)) (k_X3_init n P) 0 := by
  unfold k_X3_init
  refine r_aload_n (pc := 0) X d_X3_init_0 fn0 ?_
  refine r_oini (pc := 1) X oi_RX3_3 oi_inst oi_code (Nat.le_of_ble_eq_true rfl) (Nat.le_of_ble_eq_true rfl) d_X3_init_1 ?_
  refine r_aload_n (pc := 4) X d_X3_init_4 fn0 ?_
  refine r_iconst (pc := 5) X d_X3_init_5 (by decide +kernel) ?_
  refine r_newa (pc := 6) (atype := .int) X ⟨rfl, by decide⟩ (by decide) (by omega) (Nat.ne_of_lt (show n + 0 < 231 by omega)) aw_int (show 1 ≤ n + 3 - n by omega) (Nat.le_of_ble_eq_true rfl) d_X3_init_6 ?_
  refine r_putF (pc := 8) X hin xok3 (by decide +kernel) (by decide +kernel) (by decide +kernel) (by decide +kernel) rfl (fun _ => ⟨rfl, rfl⟩) vf_RX3_9 d_X3_init_8 ?_
  refine r_aload_n (pc := 11) X d_X3_init_11 fn0 ?_
  refine r_iconst (pc := 12) X d_X3_init_12 (by decide +kernel) ?_
  refine r_newa (pc := 13) (atype := .int) X ⟨rfl, by decide⟩ (by decide) (by omega) (Nat.ne_of_lt (show n + 1 < 231 by omega)) aw_int (show 2 ≤ n + 3 - n by omega) (Nat.le_of_ble_eq_true rfl) d_X3_init_13 ?_
  refine r_putF (pc := 15) X hin xok3 (by decide +kernel) (by decide +kernel) (by decide +kernel) (by decide +kernel) rfl (fun _ => ⟨rfl, rfl⟩) vf_RX3_15 d_X3_init_15 ?_
  refine r_aload_n (pc := 18) X d_X3_init_18 fn0 ?_
  refine r_iconst (pc := 19) X d_X3_init_19 (by decide +kernel) ?_
  refine r_newa (pc := 20) (atype := .int) X ⟨rfl, by decide⟩ (by decide) (by omega) (Nat.ne_of_lt (show n + 2 < 231 by omega)) aw_int (show 3 ≤ n + 3 - n by omega) (Nat.le_of_ble_eq_true rfl) d_X3_init_20 ?_
  refine r_putF (pc := 22) X hin xok3 (by decide +kernel) (by decide +kernel) (by decide +kernel) (by decide +kernel) rfl (fun _ => ⟨rfl, rfl⟩) vf_RX3_18 d_X3_init_22 ?_
  exact r_vretN (by omega) rfl X hr d_X3_init_25
set_option maxRecDepth 20000 in
theorem con_X3_init (l : Launch) (n : Nat) (hn : n + 3 ≤ 231) : xCon l yX3_init cX3_init 1 none 1 20 n (n + 3) 15 xFF xFF (w_R (f_X3_init n)) :=
  xc_R (by decide +kernel) (by decide +kernel) (fun p e s m args below meth c g a0 A P h X hr hin => ⟨_, h, t_X3_init hn X hr hin⟩)
theorem d_X8_init_0 : decode cX8_init 0 = .ok (.aload_n 0, 1) := by decide +kernel
theorem d_X8_init_1 : decode cX8_init 1 = .ok (.invokespecial 3, 3) := by decide +kernel
theorem d_X8_init_4 : decode cX8_init 4 = .ok (.aload_n 0, 1) := by decide +kernel
theorem d_X8_init_5 : decode cX8_init 5 = .ok (.bipush 40, 2) := by decide +kernel
theorem d_X8_init_7 : decode cX8_init 7 = .ok (.newarray .int, 2) := by decide +kernel
theorem d_X8_init_9 : decode cX8_init 9 = .ok (.putfield 9, 3) := by decide +kernel
theorem d_X8_init_12 : decode cX8_init 12 = .ok (.aload_n 0, 1) := by decide +kernel
theorem d_X8_init_13 : decode cX8_init 13 = .ok (.bipush 40, 2) := by decide +kernel
theorem d_X8_init_15 : decode cX8_init 15 = .ok (.newarray .int, 2) := by decide +kernel
theorem d_X8_init_17 : decode cX8_init 17 = .ok (.putfield 15, 3) := by decide +kernel
theorem d_X8_init_20 : decode cX8_init 20 = .ok (.return_, 1) := by decide +kernel
def k_X8_init (n : Nat) (P : xP) : xK := x_aload 0 (x_oini (x_aload 0 (x_push (.int 40) (x_newa (n) 1 40 (x_putF (n + 1) 8 0 (x_aload 0 (x_push (.int 40) (x_newa (n + 1) 1 40 (x_putF (n + 2) 8 1 (x_vret P))))))))))
def f_X8_init (n : Nat) (a0 : Nat) (A : xH) (P : xP) : Prop := k_X8_init n P [some (.ref a0)] [] A
set_option maxRecDepth 20000 in
theorem t_X8_init {p : Program} {l : Launch} {e : Env} {s : State} {m : MethodId} {args : Array Value} {below : List Frame} {meth : Method} {c : Code} {g : xG} {n : Nat} (hn : n + 2 ≤ 231) (X : xX p s m args c meth cX8_init RX8 1 g) (hr : meth.sig.returnType = none) (hin : meth.name = "<init>") {P : xP} : xAt p l e { frames := 1, cells := (n + 2) - n, slots := 80, locals := 20 } s m args below meth c g 1 xFF n 0 0 (MQ below (xQc g xFF (n + 2) P) args s ((n + 2) - n) 80 (xFr g)) (k_X8_init n P) 0 := by
  unfold k_X8_init
  refine r_aload_n (pc := 0) X d_X8_init_0 fn0 ?_
  refine r_oini (pc := 1) X oi_RX8_3 oi_inst oi_code (Nat.le_of_ble_eq_true rfl) (Nat.le_of_ble_eq_true rfl) d_X8_init_1 ?_
  refine r_aload_n (pc := 4) X d_X8_init_4 fn0 ?_
  refine r_bipush (pc := 5) X d_X8_init_5 (by decide +kernel) ?_
  refine r_newa (pc := 7) (atype := .int) X ⟨rfl, by decide⟩ (by decide) (by omega) (Nat.ne_of_lt (show n + 0 < 231 by omega)) aw_int (show 1 ≤ n + 2 - n by omega) (Nat.le_of_ble_eq_true rfl) d_X8_init_7 ?_
  refine r_putF (pc := 9) X hin xok8 (by decide +kernel) (by decide +kernel) (by decide +kernel) (by decide +kernel) rfl (fun _ => ⟨rfl, rfl⟩) vf_RX8_9 d_X8_init_9 ?_
  refine r_aload_n (pc := 12) X d_X8_init_12 fn0 ?_
  refine r_bipush (pc := 13) X d_X8_init_13 (by decide +kernel) ?_
  refine r_newa (pc := 15) (atype := .int) X ⟨rfl, by decide⟩ (by decide) (by omega) (Nat.ne_of_lt (show n + 1 < 231 by omega)) aw_int (show 2 ≤ n + 2 - n by omega) (Nat.le_of_ble_eq_true rfl) d_X8_init_15 ?_
  refine r_putF (pc := 17) X hin xok8 (by decide +kernel) (by decide +kernel) (by decide +kernel) (by decide +kernel) rfl (fun _ => ⟨rfl, rfl⟩) vf_RX8_15 d_X8_init_17 ?_
  exact r_vretN (by omega) rfl X hr d_X8_init_20
set_option maxRecDepth 20000 in
theorem con_X8_init (l : Launch) (n : Nat) (hn : n + 2 ≤ 231) : xCon l yX8_init cX8_init 1 none 1 20 n (n + 2) 80 xFF xFF (w_R (f_X8_init n)) :=
  xc_R (by decide +kernel) (by decide +kernel) (fun p e s m args below meth c g a0 A P h X hr hin => ⟨_, h, t_X8_init hn X hr hin⟩)
theorem d_X9_init_0 : decode cX9_init 0 = .ok (.aload_n 0, 1) := by decide +kernel
theorem d_X9_init_1 : decode cX9_init 1 = .ok (.invokespecial 3, 3) := by decide +kernel
theorem d_X9_init_4 : decode cX9_init 4 = .ok (.aload_n 0, 1) := by decide +kernel
theorem d_X9_init_5 : decode cX9_init 5 = .ok (.sipush 940, 3) := by decide +kernel
theorem d_X9_init_8 : decode cX9_init 8 = .ok (.newarray .int, 2) := by decide +kernel
theorem d_X9_init_10 : decode cX9_init 10 = .ok (.putfield 9, 3) := by decide +kernel
theorem d_X9_init_13 : decode cX9_init 13 = .ok (.return_, 1) := by decide +kernel
def k_X9_init (n : Nat) (P : xP) : xK := x_aload 0 (x_oini (x_aload 0 (x_push (.int 940) (x_newa (n) 1 940 (x_putF (n + 1) 9 0 (x_vret P))))))
def f_X9_init (n : Nat) (a0 : Nat) (A : xH) (P : xP) : Prop := k_X9_init n P [some (.ref a0)] [] A
set_option maxRecDepth 20000 in
theorem t_X9_init {p : Program} {l : Launch} {e : Env} {s : State} {m : MethodId} {args : Array Value} {below : List Frame} {meth : Method} {c : Code} {g : xG} {n : Nat} (hn : n + 1 ≤ 231) (X : xX p s m args c meth cX9_init RX9 1 g) (hr : meth.sig.returnType = none) (hin : meth.name = "<init>") {P : xP} : xAt p l e { frames := 1, cells := (n + 1) - n, slots := 940, locals := 20 } s m args below meth c g 1 xFF n 0 0 (MQ below (xQc g xFF (n + 1) P) args s ((n + 1) - n) 940 (xFr g)) (k_X9_init n P) 0 := by
  unfold k_X9_init
  refine r_aload_n (pc := 0) X d_X9_init_0 fn0 ?_
  refine r_oini (pc := 1) X oi_RX9_3 oi_inst oi_code (Nat.le_of_ble_eq_true rfl) (Nat.le_of_ble_eq_true rfl) d_X9_init_1 ?_
  refine r_aload_n (pc := 4) X d_X9_init_4 fn0 ?_
  refine r_sipush (pc := 5) X d_X9_init_5 (by decide +kernel) ?_
  refine r_newa (pc := 8) (atype := .int) X ⟨rfl, by decide⟩ (by decide) (by omega) (Nat.ne_of_lt (show n + 0 < 231 by omega)) aw_int (show 1 ≤ n + 1 - n by omega) (Nat.le_of_ble_eq_true rfl) d_X9_init_8 ?_
  refine r_putF (pc := 10) X hin xok9 (by decide +kernel) (by decide +kernel) (by decide +kernel) (by decide +kernel) rfl (fun _ => ⟨rfl, rfl⟩) vf_RX9_9 d_X9_init_10 ?_
  exact r_vretN (by omega) rfl X hr d_X9_init_13
set_option maxRecDepth 20000 in
theorem con_X9_init (l : Launch) (n : Nat) (hn : n + 1 ≤ 231) : xCon l yX9_init cX9_init 1 none 1 20 n (n + 1) 940 xFF xFF (w_R (f_X9_init n)) :=
  xc_R (by decide +kernel) (by decide +kernel) (fun p e s m args below meth c g a0 A P h X hr hin => ⟨_, h, t_X9_init hn X hr hin⟩)
theorem d_X7_init_0 : decode cX7_init 0 = .ok (.aload_n 0, 1) := by decide +kernel
theorem d_X7_init_1 : decode cX7_init 1 = .ok (.invokespecial 3, 3) := by decide +kernel
theorem d_X7_init_4 : decode cX7_init 4 = .ok (.aload_n 0, 1) := by decide +kernel
theorem d_X7_init_5 : decode cX7_init 5 = .ok (.bipush 80, 2) := by decide +kernel
theorem d_X7_init_7 : decode cX7_init 7 = .ok (.newarray .int, 2) := by decide +kernel
theorem d_X7_init_9 : decode cX7_init 9 = .ok (.putfield 9, 3) := by decide +kernel
theorem d_X7_init_12 : decode cX7_init 12 = .ok (.aload_n 0, 1) := by decide +kernel
theorem d_X7_init_13 : decode cX7_init 13 = .ok (.bipush 80, 2) := by decide +kernel
theorem d_X7_init_15 : decode cX7_init 15 = .ok (.newarray .int, 2) := by decide +kernel
theorem d_X7_init_17 : decode cX7_init 17 = .ok (.putfield 15, 3) := by decide +kernel
theorem d_X7_init_20 : decode cX7_init 20 = .ok (.aload_n 0, 1) := by decide +kernel
theorem d_X7_init_21 : decode cX7_init 21 = .ok (.sipush 3840, 3) := by decide +kernel
theorem d_X7_init_24 : decode cX7_init 24 = .ok (.newarray .long, 2) := by decide +kernel
theorem d_X7_init_26 : decode cX7_init 26 = .ok (.putfield 18, 3) := by decide +kernel
theorem d_X7_init_29 : decode cX7_init 29 = .ok (.aload_n 0, 1) := by decide +kernel
theorem d_X7_init_30 : decode cX7_init 30 = .ok (.sipush 800, 3) := by decide +kernel
theorem d_X7_init_33 : decode cX7_init 33 = .ok (.newarray .long, 2) := by decide +kernel
theorem d_X7_init_35 : decode cX7_init 35 = .ok (.putfield 22, 3) := by decide +kernel
theorem d_X7_init_38 : decode cX7_init 38 = .ok (.aload_n 0, 1) := by decide +kernel
theorem d_X7_init_39 : decode cX7_init 39 = .ok (.sipush 160, 3) := by decide +kernel
theorem d_X7_init_42 : decode cX7_init 42 = .ok (.newarray .long, 2) := by decide +kernel
theorem d_X7_init_44 : decode cX7_init 44 = .ok (.putfield 25, 3) := by decide +kernel
theorem d_X7_init_47 : decode cX7_init 47 = .ok (.aload_n 0, 1) := by decide +kernel
theorem d_X7_init_48 : decode cX7_init 48 = .ok (.sipush 160, 3) := by decide +kernel
theorem d_X7_init_51 : decode cX7_init 51 = .ok (.newarray .long, 2) := by decide +kernel
theorem d_X7_init_53 : decode cX7_init 53 = .ok (.putfield 28, 3) := by decide +kernel
theorem d_X7_init_56 : decode cX7_init 56 = .ok (.aload_n 0, 1) := by decide +kernel
theorem d_X7_init_57 : decode cX7_init 57 = .ok (.bipush 80, 2) := by decide +kernel
theorem d_X7_init_59 : decode cX7_init 59 = .ok (.newarray .boolean, 2) := by decide +kernel
theorem d_X7_init_61 : decode cX7_init 61 = .ok (.putfield 31, 3) := by decide +kernel
theorem d_X7_init_64 : decode cX7_init 64 = .ok (.aload_n 0, 1) := by decide +kernel
theorem d_X7_init_65 : decode cX7_init 65 = .ok (.sipush 1764, 3) := by decide +kernel
theorem d_X7_init_68 : decode cX7_init 68 = .ok (.newarray .int, 2) := by decide +kernel
theorem d_X7_init_70 : decode cX7_init 70 = .ok (.putfield 35, 3) := by decide +kernel
theorem d_X7_init_73 : decode cX7_init 73 = .ok (.aload_n 0, 1) := by decide +kernel
theorem d_X7_init_74 : decode cX7_init 74 = .ok (.bipush 42, 2) := by decide +kernel
theorem d_X7_init_76 : decode cX7_init 76 = .ok (.newarray .int, 2) := by decide +kernel
theorem d_X7_init_78 : decode cX7_init 78 = .ok (.putfield 38, 3) := by decide +kernel
theorem d_X7_init_81 : decode cX7_init 81 = .ok (.aload_n 0, 1) := by decide +kernel
theorem d_X7_init_82 : decode cX7_init 82 = .ok (.bipush 42, 2) := by decide +kernel
theorem d_X7_init_84 : decode cX7_init 84 = .ok (.newarray .int, 2) := by decide +kernel
theorem d_X7_init_86 : decode cX7_init 86 = .ok (.putfield 41, 3) := by decide +kernel
theorem d_X7_init_89 : decode cX7_init 89 = .ok (.aload_n 0, 1) := by decide +kernel
theorem d_X7_init_90 : decode cX7_init 90 = .ok (.bipush 42, 2) := by decide +kernel
theorem d_X7_init_92 : decode cX7_init 92 = .ok (.newarray .int, 2) := by decide +kernel
theorem d_X7_init_94 : decode cX7_init 94 = .ok (.putfield 44, 3) := by decide +kernel
theorem d_X7_init_97 : decode cX7_init 97 = .ok (.aload_n 0, 1) := by decide +kernel
theorem d_X7_init_98 : decode cX7_init 98 = .ok (.bipush 42, 2) := by decide +kernel
theorem d_X7_init_100 : decode cX7_init 100 = .ok (.newarray .int, 2) := by decide +kernel
theorem d_X7_init_102 : decode cX7_init 102 = .ok (.putfield 47, 3) := by decide +kernel
theorem d_X7_init_105 : decode cX7_init 105 = .ok (.return_, 1) := by decide +kernel
def k_X7_init (n : Nat) (P : xP) : xK := x_aload 0 (x_oini (x_aload 0 (x_push (.int 80) (x_newa (n) 1 80 (x_putF (n + 1) 7 3 (x_aload 0 (x_push (.int 80) (x_newa (n + 1) 1 80 (x_putF (n + 2) 7 4 (x_aload 0 (x_push (.int 3840) (x_newa (n + 2) 2 3840 (x_putF (n + 3) 7 5 (x_aload 0 (x_push (.int 800) (x_newa (n + 3) 2 800 (x_putF (n + 4) 7 6 (x_aload 0 (x_push (.int 160) (x_newa (n + 4) 2 160 (x_putF (n + 5) 7 7 (x_aload 0 (x_push (.int 160) (x_newa (n + 5) 2 160 (x_putF (n + 6) 7 8 (x_aload 0 (x_push (.int 80) (x_newa (n + 6) 4 80 (x_putF (n + 7) 7 9 (x_aload 0 (x_push (.int 1764) (x_newa (n + 7) 1 1764 (x_putF (n + 8) 7 10 (x_aload 0 (x_push (.int 42) (x_newa (n + 8) 1 42 (x_putF (n + 9) 7 11 (x_aload 0 (x_push (.int 42) (x_newa (n + 9) 1 42 (x_putF (n + 10) 7 12 (x_aload 0 (x_push (.int 42) (x_newa (n + 10) 1 42 (x_putF (n + 11) 7 13 (x_aload 0 (x_push (.int 42) (x_newa (n + 11) 1 42 (x_putF (n + 12) 7 14 (x_vret P))))))))))))))))))))))))))))))))))))))))))))))))))
def f_X7_init (n : Nat) (a0 : Nat) (A : xH) (P : xP) : Prop := k_X7_init n P [some (.ref a0)] [] A
set_option maxRecDepth 20000 in
theorem t_X7_init {p : Program} {l : Launch} {e : Env} {s : State} {m : MethodId} {args : Array Value} {below : List Frame} {meth : Method} {c : Code} {g : xG} {n : Nat} (hn : n + 12 ≤ 231) (X : xX p s m args c meth cX7_init RX7 1 g) (hr : meth.sig.returnType = none) (hin : meth.name = "<init>") {P : xP} : xAt p l e { frames := 1, cells := (n + 12) - n, slots := 7132, locals := 20 } s m args below meth c g 1 xFF n 0 0 (MQ below (xQc g xFF (n + 12) P) args s ((n + 12) - n) 7132 (xFr g)) (k_X7_init n P) 0 := by
  unfold k_X7_init
  refine r_aload_n (pc := 0) X d_X7_init_0 fn0 ?_
  refine r_oini (pc := 1) X oi_RX7_3 oi_inst oi_code (Nat.le_of_ble_eq_true rfl) (Nat.le_of_ble_eq_true rfl) d_X7_init_1 ?_
  refine r_aload_n (pc := 4) X d_X7_init_4 fn0 ?_
  refine r_bipush (pc := 5) X d_X7_init_5 (by decide +kernel) ?_
  refine r_newa (pc := 7) (atype := .int) X ⟨rfl, by decide⟩ (by decide) (by omega) (Nat.ne_of_lt (show n + 0 < 231 by omega)) aw_int (show 1 ≤ n + 12 - n by omega) (Nat.le_of_ble_eq_true rfl) d_X7_init_7 ?_
  refine r_putF (pc := 9) X hin xok7 (by decide +kernel) (by decide +kernel) (by decide +kernel) (by decide +kernel) rfl (fun _ => ⟨rfl, rfl⟩) vf_RX7_9 d_X7_init_9 ?_
  refine r_aload_n (pc := 12) X d_X7_init_12 fn0 ?_
  refine r_bipush (pc := 13) X d_X7_init_13 (by decide +kernel) ?_
  refine r_newa (pc := 15) (atype := .int) X ⟨rfl, by decide⟩ (by decide) (by omega) (Nat.ne_of_lt (show n + 1 < 231 by omega)) aw_int (show 2 ≤ n + 12 - n by omega) (Nat.le_of_ble_eq_true rfl) d_X7_init_15 ?_
  refine r_putF (pc := 17) X hin xok7 (by decide +kernel) (by decide +kernel) (by decide +kernel) (by decide +kernel) rfl (fun _ => ⟨rfl, rfl⟩) vf_RX7_15 d_X7_init_17 ?_
  refine r_aload_n (pc := 20) X d_X7_init_20 fn0 ?_
  refine r_sipush (pc := 21) X d_X7_init_21 (by decide +kernel) ?_
  refine r_newa (pc := 24) (atype := .long) X ⟨rfl, by decide⟩ (by decide) (by omega) (Nat.ne_of_lt (show n + 2 < 231 by omega)) aw_long (show 3 ≤ n + 12 - n by omega) (Nat.le_of_ble_eq_true rfl) d_X7_init_24 ?_
  refine r_putF (pc := 26) X hin xok7 (by decide +kernel) (by decide +kernel) (by decide +kernel) (by decide +kernel) rfl (fun _ => ⟨rfl, rfl⟩) vf_RX7_18 d_X7_init_26 ?_
  refine r_aload_n (pc := 29) X d_X7_init_29 fn0 ?_
  refine r_sipush (pc := 30) X d_X7_init_30 (by decide +kernel) ?_
  refine r_newa (pc := 33) (atype := .long) X ⟨rfl, by decide⟩ (by decide) (by omega) (Nat.ne_of_lt (show n + 3 < 231 by omega)) aw_long (show 4 ≤ n + 12 - n by omega) (Nat.le_of_ble_eq_true rfl) d_X7_init_33 ?_
  refine r_putF (pc := 35) X hin xok7 (by decide +kernel) (by decide +kernel) (by decide +kernel) (by decide +kernel) rfl (fun _ => ⟨rfl, rfl⟩) vf_RX7_22 d_X7_init_35 ?_
  refine r_aload_n (pc := 38) X d_X7_init_38 fn0 ?_
  refine r_sipush (pc := 39) X d_X7_init_39 (by decide +kernel) ?_
  refine r_newa (pc := 42) (atype := .long) X ⟨rfl, by decide⟩ (by decide) (by omega) (Nat.ne_of_lt (show n + 4 < 231 by omega)) aw_long (show 5 ≤ n + 12 - n by omega) (Nat.le_of_ble_eq_true rfl) d_X7_init_42 ?_
  refine r_putF (pc := 44) X hin xok7 (by decide +kernel) (by decide +kernel) (by decide +kernel) (by decide +kernel) rfl (fun _ => ⟨rfl, rfl⟩) vf_RX7_25 d_X7_init_44 ?_
  refine r_aload_n (pc := 47) X d_X7_init_47 fn0 ?_
  refine r_sipush (pc := 48) X d_X7_init_48 (by decide +kernel) ?_
  refine r_newa (pc := 51) (atype := .long) X ⟨rfl, by decide⟩ (by decide) (by omega) (Nat.ne_of_lt (show n + 5 < 231 by omega)) aw_long (show 6 ≤ n + 12 - n by omega) (Nat.le_of_ble_eq_true rfl) d_X7_init_51 ?_
  refine r_putF (pc := 53) X hin xok7 (by decide +kernel) (by decide +kernel) (by decide +kernel) (by decide +kernel) rfl (fun _ => ⟨rfl, rfl⟩) vf_RX7_28 d_X7_init_53 ?_
  refine r_aload_n (pc := 56) X d_X7_init_56 fn0 ?_
  refine r_bipush (pc := 57) X d_X7_init_57 (by decide +kernel) ?_
  refine r_newa (pc := 59) (atype := .boolean) X ⟨rfl, by decide⟩ (by decide) (by omega) (Nat.ne_of_lt (show n + 6 < 231 by omega)) aw_boolean (show 7 ≤ n + 12 - n by omega) (Nat.le_of_ble_eq_true rfl) d_X7_init_59 ?_
  refine r_putF (pc := 61) X hin xok7 (by decide +kernel) (by decide +kernel) (by decide +kernel) (by decide +kernel) rfl (fun _ => ⟨rfl, rfl⟩) vf_RX7_31 d_X7_init_61 ?_
  refine r_aload_n (pc := 64) X d_X7_init_64 fn0 ?_
  refine r_sipush (pc := 65) X d_X7_init_65 (by decide +kernel) ?_
  refine r_newa (pc := 68) (atype := .int) X ⟨rfl, by decide⟩ (by decide) (by omega) (Nat.ne_of_lt (show n + 7 < 231 by omega)) aw_int (show 8 ≤ n + 12 - n by omega) (Nat.le_of_ble_eq_true rfl) d_X7_init_68 ?_
  refine r_putF (pc := 70) X hin xok7 (by decide +kernel) (by decide +kernel) (by decide +kernel) (by decide +kernel) rfl (fun _ => ⟨rfl, rfl⟩) vf_RX7_35 d_X7_init_70 ?_
  refine r_aload_n (pc := 73) X d_X7_init_73 fn0 ?_
  refine r_bipush (pc := 74) X d_X7_init_74 (by decide +kernel) ?_
  refine r_newa (pc := 76) (atype := .int) X ⟨rfl, by decide⟩ (by decide) (by omega) (Nat.ne_of_lt (show n + 8 < 231 by omega)) aw_int (show 9 ≤ n + 12 - n by omega) (Nat.le_of_ble_eq_true rfl) d_X7_init_76 ?_
  refine r_putF (pc := 78) X hin xok7 (by decide +kernel) (by decide +kernel) (by decide +kernel) (by decide +kernel) rfl (fun _ => ⟨rfl, rfl⟩) vf_RX7_38 d_X7_init_78 ?_
  refine r_aload_n (pc := 81) X d_X7_init_81 fn0 ?_
  refine r_bipush (pc := 82) X d_X7_init_82 (by decide +kernel) ?_
  refine r_newa (pc := 84) (atype := .int) X ⟨rfl, by decide⟩ (by decide) (by omega) (Nat.ne_of_lt (show n + 9 < 231 by omega)) aw_int (show 10 ≤ n + 12 - n by omega) (Nat.le_of_ble_eq_true rfl) d_X7_init_84 ?_
  refine r_putF (pc := 86) X hin xok7 (by decide +kernel) (by decide +kernel) (by decide +kernel) (by decide +kernel) rfl (fun _ => ⟨rfl, rfl⟩) vf_RX7_41 d_X7_init_86 ?_
  refine r_aload_n (pc := 89) X d_X7_init_89 fn0 ?_
  refine r_bipush (pc := 90) X d_X7_init_90 (by decide +kernel) ?_
  refine r_newa (pc := 92) (atype := .int) X ⟨rfl, by decide⟩ (by decide) (by omega) (Nat.ne_of_lt (show n + 10 < 231 by omega)) aw_int (show 11 ≤ n + 12 - n by omega) (Nat.le_of_ble_eq_true rfl) d_X7_init_92 ?_
  refine r_putF (pc := 94) X hin xok7 (by decide +kernel) (by decide +kernel) (by decide +kernel) (by decide +kernel) rfl (fun _ => ⟨rfl, rfl⟩) vf_RX7_44 d_X7_init_94 ?_
  refine r_aload_n (pc := 97) X d_X7_init_97 fn0 ?_
  refine r_bipush (pc := 98) X d_X7_init_98 (by decide +kernel) ?_
  refine r_newa (pc := 100) (atype := .int) X ⟨rfl, by decide⟩ (by decide) (by omega) (Nat.ne_of_lt (show n + 11 < 231 by omega)) aw_int (show 12 ≤ n + 12 - n by omega) (Nat.le_of_ble_eq_true rfl) d_X7_init_100 ?_
  refine r_putF (pc := 102) X hin xok7 (by decide +kernel) (by decide +kernel) (by decide +kernel) (by decide +kernel) rfl (fun _ => ⟨rfl, rfl⟩) vf_RX7_47 d_X7_init_102 ?_
  exact r_vretN (by omega) rfl X hr d_X7_init_105
set_option maxRecDepth 20000 in
theorem con_X7_init (l : Launch) (n : Nat) (hn : n + 12 ≤ 231) : xCon l yX7_init cX7_init 1 none 1 20 n (n + 12) 7132 xFF xFF (w_R (f_X7_init n)) :=
  xc_R (by decide +kernel) (by decide +kernel) (fun p e s m args below meth c g a0 A P h X hr hin => ⟨_, h, t_X7_init hn X hr hin⟩)
theorem d_X1_init_0 : decode cX1_init 0 = .ok (.aload_n 0, 1) := by decide +kernel
theorem d_X1_init_1 : decode cX1_init 1 = .ok (.invokespecial 3, 3) := by decide +kernel
theorem d_X1_init_4 : decode cX1_init 4 = .ok (.aload_n 0, 1) := by decide +kernel
theorem d_X1_init_5 : decode cX1_init 5 = .ok (.iconst (-1), 1) := by decide +kernel
theorem d_X1_init_6 : decode cX1_init 6 = .ok (.putfield 9, 3) := by decide +kernel
theorem d_X1_init_9 : decode cX1_init 9 = .ok (.aload_n 0, 1) := by decide +kernel
theorem d_X1_init_10 : decode cX1_init 10 = .ok (.bipush 8, 2) := by decide +kernel
theorem d_X1_init_12 : decode cX1_init 12 = .ok (.newarray .int, 2) := by decide +kernel
theorem d_X1_init_14 : decode cX1_init 14 = .ok (.putfield 15, 3) := by decide +kernel
theorem d_X1_init_17 : decode cX1_init 17 = .ok (.aload_n 0, 1) := by decide +kernel
theorem d_X1_init_18 : decode cX1_init 18 = .ok (.iconst (-1), 1) := by decide +kernel
theorem d_X1_init_19 : decode cX1_init 19 = .ok (.putfield 19, 3) := by decide +kernel
theorem d_X1_init_22 : decode cX1_init 22 = .ok (.aload_n 0, 1) := by decide +kernel
theorem d_X1_init_23 : decode cX1_init 23 = .ok (.iconst 5, 1) := by decide +kernel
theorem d_X1_init_24 : decode cX1_init 24 = .ok (.newarray .int, 2) := by decide +kernel
theorem d_X1_init_26 : decode cX1_init 26 = .ok (.putfield 22, 3) := by decide +kernel
theorem d_X1_init_29 : decode cX1_init 29 = .ok (.aload_n 0, 1) := by decide +kernel
theorem d_X1_init_30 : decode cX1_init 30 = .ok (.bipush 8, 2) := by decide +kernel
theorem d_X1_init_32 : decode cX1_init 32 = .ok (.newarray .int, 2) := by decide +kernel
theorem d_X1_init_34 : decode cX1_init 34 = .ok (.putfield 25, 3) := by decide +kernel
theorem d_X1_init_37 : decode cX1_init 37 = .ok (.aload_n 0, 1) := by decide +kernel
theorem d_X1_init_38 : decode cX1_init 38 = .ok (.sipush 1215, 3) := by decide +kernel
theorem d_X1_init_41 : decode cX1_init 41 = .ok (.newarray .int, 2) := by decide +kernel
theorem d_X1_init_43 : decode cX1_init 43 = .ok (.putfield 28, 3) := by decide +kernel
theorem d_X1_init_46 : decode cX1_init 46 = .ok (.aload_n 0, 1) := by decide +kernel
theorem d_X1_init_47 : decode cX1_init 47 = .ok (.bipush 25, 2) := by decide +kernel
theorem d_X1_init_49 : decode cX1_init 49 = .ok (.newarray .int, 2) := by decide +kernel
theorem d_X1_init_51 : decode cX1_init 51 = .ok (.putfield 31, 3) := by decide +kernel
theorem d_X1_init_54 : decode cX1_init 54 = .ok (.aload_n 0, 1) := by decide +kernel
theorem d_X1_init_55 : decode cX1_init 55 = .ok (.sipush 6075, 3) := by decide +kernel
theorem d_X1_init_58 : decode cX1_init 58 = .ok (.newarray .int, 2) := by decide +kernel
theorem d_X1_init_60 : decode cX1_init 60 = .ok (.putfield 34, 3) := by decide +kernel
theorem d_X1_init_63 : decode cX1_init 63 = .ok (.aload_n 0, 1) := by decide +kernel
theorem d_X1_init_64 : decode cX1_init 64 = .ok (.sipush 405, 3) := by decide +kernel
theorem d_X1_init_67 : decode cX1_init 67 = .ok (.newarray .int, 2) := by decide +kernel
theorem d_X1_init_69 : decode cX1_init 69 = .ok (.putfield 37, 3) := by decide +kernel
theorem d_X1_init_72 : decode cX1_init 72 = .ok (.aload_n 0, 1) := by decide +kernel
theorem d_X1_init_73 : decode cX1_init 73 = .ok (.sipush 405, 3) := by decide +kernel
theorem d_X1_init_76 : decode cX1_init 76 = .ok (.newarray .int, 2) := by decide +kernel
theorem d_X1_init_78 : decode cX1_init 78 = .ok (.putfield 40, 3) := by decide +kernel
theorem d_X1_init_81 : decode cX1_init 81 = .ok (.return_, 1) := by decide +kernel
def k_X1_init (n : Nat) (P : xP) : xK := x_aload 0 (x_oini (x_aload 0 (x_push (.int (-1)) (x_putI (n) 1 2 (x_aload 0 (x_push (.int 8) (x_newa (n) 1 8 (x_putF (n + 1) 1 3 (x_aload 0 (x_push (.int (-1)) (x_putI (n + 1) 1 4 (x_aload 0 (x_push (.int 5) (x_newa (n + 1) 1 5 (x_putF (n + 2) 1 5 (x_aload 0 (x_push (.int 8) (x_newa (n + 2) 1 8 (x_putF (n + 3) 1 8 (x_aload 0 (x_push (.int 1215) (x_newa (n + 3) 1 1215 (x_putF (n + 4) 1 9 (x_aload 0 (x_push (.int 25) (x_newa (n + 4) 1 25 (x_putF (n + 5) 1 10 (x_aload 0 (x_push (.int 6075) (x_newa (n + 5) 1 6075 (x_putF (n + 6) 1 11 (x_aload 0 (x_push (.int 405) (x_newa (n + 6) 1 405 (x_putF (n + 7) 1 12 (x_aload 0 (x_push (.int 405) (x_newa (n + 7) 1 405 (x_putF (n + 8) 1 13 (x_vret P))))))))))))))))))))))))))))))))))))))))
def f_X1_init (n : Nat) (a0 : Nat) (A : xH) (P : xP) : Prop := k_X1_init n P [some (.ref a0)] [] A
set_option maxRecDepth 20000 in
theorem t_X1_init {p : Program} {l : Launch} {e : Env} {s : State} {m : MethodId} {args : Array Value} {below : List Frame} {meth : Method} {c : Code} {g : xG} {n : Nat} (hn : n + 8 ≤ 231) (X : xX p s m args c meth cX1_init RX1 1 g) (hr : meth.sig.returnType = none) (hin : meth.name = "<init>") {P : xP} : xAt p l e { frames := 1, cells := (n + 8) - n, slots := 8146, locals := 20 } s m args below meth c g 1 xFF n 0 0 (MQ below (xQc g xFF (n + 8) P) args s ((n + 8) - n) 8146 (xFr g)) (k_X1_init n P) 0 := by
  unfold k_X1_init
  refine r_aload_n (pc := 0) X d_X1_init_0 fn0 ?_
  refine r_oini (pc := 1) X oi_RX1_3 oi_inst oi_code (Nat.le_of_ble_eq_true rfl) (Nat.le_of_ble_eq_true rfl) d_X1_init_1 ?_
  refine r_aload_n (pc := 4) X d_X1_init_4 fn0 ?_
  refine r_iconst (pc := 5) X d_X1_init_5 (by decide +kernel) ?_
  refine r_putI (pc := 6) X xok1 (by decide +kernel) (by decide +kernel) (by decide +kernel) (by decide +kernel) vf_RX1_9 d_X1_init_6 ?_
  refine r_aload_n (pc := 9) X d_X1_init_9 fn0 ?_
  refine r_bipush (pc := 10) X d_X1_init_10 (by decide +kernel) ?_
  refine r_newa (pc := 12) (atype := .int) X ⟨rfl, by decide⟩ (by decide) (by omega) (Nat.ne_of_lt (show n + 0 < 231 by omega)) aw_int (show 1 ≤ n + 8 - n by omega) (Nat.le_of_ble_eq_true rfl) d_X1_init_12 ?_
  refine r_putF (pc := 14) X hin xok1 (by decide +kernel) (by decide +kernel) (by decide +kernel) (by decide +kernel) rfl (fun _ => ⟨rfl, rfl⟩) vf_RX1_15 d_X1_init_14 ?_
  refine r_aload_n (pc := 17) X d_X1_init_17 fn0 ?_
  refine r_iconst (pc := 18) X d_X1_init_18 (by decide +kernel) ?_
  refine r_putI (pc := 19) X xok1 (by decide +kernel) (by decide +kernel) (by decide +kernel) (by decide +kernel) vf_RX1_19 d_X1_init_19 ?_
  refine r_aload_n (pc := 22) X d_X1_init_22 fn0 ?_
  refine r_iconst (pc := 23) X d_X1_init_23 (by decide +kernel) ?_
  refine r_newa (pc := 24) (atype := .int) X ⟨rfl, by decide⟩ (by decide) (by omega) (Nat.ne_of_lt (show n + 1 < 231 by omega)) aw_int (show 2 ≤ n + 8 - n by omega) (Nat.le_of_ble_eq_true rfl) d_X1_init_24 ?_
  refine r_putF (pc := 26) X hin xok1 (by decide +kernel) (by decide +kernel) (by decide +kernel) (by decide +kernel) rfl (fun _ => ⟨rfl, rfl⟩) vf_RX1_22 d_X1_init_26 ?_
  refine r_aload_n (pc := 29) X d_X1_init_29 fn0 ?_
  refine r_bipush (pc := 30) X d_X1_init_30 (by decide +kernel) ?_
  refine r_newa (pc := 32) (atype := .int) X ⟨rfl, by decide⟩ (by decide) (by omega) (Nat.ne_of_lt (show n + 2 < 231 by omega)) aw_int (show 3 ≤ n + 8 - n by omega) (Nat.le_of_ble_eq_true rfl) d_X1_init_32 ?_
  refine r_putF (pc := 34) X hin xok1 (by decide +kernel) (by decide +kernel) (by decide +kernel) (by decide +kernel) rfl (fun _ => ⟨rfl, rfl⟩) vf_RX1_25 d_X1_init_34 ?_
  refine r_aload_n (pc := 37) X d_X1_init_37 fn0 ?_
  refine r_sipush (pc := 38) X d_X1_init_38 (by decide +kernel) ?_
  refine r_newa (pc := 41) (atype := .int) X ⟨rfl, by decide⟩ (by decide) (by omega) (Nat.ne_of_lt (show n + 3 < 231 by omega)) aw_int (show 4 ≤ n + 8 - n by omega) (Nat.le_of_ble_eq_true rfl) d_X1_init_41 ?_
  refine r_putF (pc := 43) X hin xok1 (by decide +kernel) (by decide +kernel) (by decide +kernel) (by decide +kernel) rfl (fun _ => ⟨rfl, rfl⟩) vf_RX1_28 d_X1_init_43 ?_
  refine r_aload_n (pc := 46) X d_X1_init_46 fn0 ?_
  refine r_bipush (pc := 47) X d_X1_init_47 (by decide +kernel) ?_
  refine r_newa (pc := 49) (atype := .int) X ⟨rfl, by decide⟩ (by decide) (by omega) (Nat.ne_of_lt (show n + 4 < 231 by omega)) aw_int (show 5 ≤ n + 8 - n by omega) (Nat.le_of_ble_eq_true rfl) d_X1_init_49 ?_
  refine r_putF (pc := 51) X hin xok1 (by decide +kernel) (by decide +kernel) (by decide +kernel) (by decide +kernel) rfl (fun _ => ⟨rfl, rfl⟩) vf_RX1_31 d_X1_init_51 ?_
  refine r_aload_n (pc := 54) X d_X1_init_54 fn0 ?_
  refine r_sipush (pc := 55) X d_X1_init_55 (by decide +kernel) ?_
  refine r_newa (pc := 58) (atype := .int) X ⟨rfl, by decide⟩ (by decide) (by omega) (Nat.ne_of_lt (show n + 5 < 231 by omega)) aw_int (show 6 ≤ n + 8 - n by omega) (Nat.le_of_ble_eq_true rfl) d_X1_init_58 ?_
  refine r_putF (pc := 60) X hin xok1 (by decide +kernel) (by decide +kernel) (by decide +kernel) (by decide +kernel) rfl (fun _ => ⟨rfl, rfl⟩) vf_RX1_34 d_X1_init_60 ?_
  refine r_aload_n (pc := 63) X d_X1_init_63 fn0 ?_
  refine r_sipush (pc := 64) X d_X1_init_64 (by decide +kernel) ?_
  refine r_newa (pc := 67) (atype := .int) X ⟨rfl, by decide⟩ (by decide) (by omega) (Nat.ne_of_lt (show n + 6 < 231 by omega)) aw_int (show 7 ≤ n + 8 - n by omega) (Nat.le_of_ble_eq_true rfl) d_X1_init_67 ?_
  refine r_putF (pc := 69) X hin xok1 (by decide +kernel) (by decide +kernel) (by decide +kernel) (by decide +kernel) rfl (fun _ => ⟨rfl, rfl⟩) vf_RX1_37 d_X1_init_69 ?_
  refine r_aload_n (pc := 72) X d_X1_init_72 fn0 ?_
  refine r_sipush (pc := 73) X d_X1_init_73 (by decide +kernel) ?_
  refine r_newa (pc := 76) (atype := .int) X ⟨rfl, by decide⟩ (by decide) (by omega) (Nat.ne_of_lt (show n + 7 < 231 by omega)) aw_int (show 8 ≤ n + 8 - n by omega) (Nat.le_of_ble_eq_true rfl) d_X1_init_76 ?_
  refine r_putF (pc := 78) X hin xok1 (by decide +kernel) (by decide +kernel) (by decide +kernel) (by decide +kernel) rfl (fun _ => ⟨rfl, rfl⟩) vf_RX1_40 d_X1_init_78 ?_
  exact r_vretN (by omega) rfl X hr d_X1_init_81
set_option maxRecDepth 20000 in
theorem con_X1_init (l : Launch) (n : Nat) (hn : n + 8 ≤ 231) : xCon l yX1_init cX1_init 1 none 1 20 n (n + 8) 8146 xFF xFF (w_R (f_X1_init n)) :=
  xc_R (by decide +kernel) (by decide +kernel) (fun p e s m args below meth c g a0 A P h X hr hin => ⟨_, h, t_X1_init hn X hr hin⟩)
theorem d_X4_init_0 : decode cX4_init 0 = .ok (.aload_n 0, 1) := by decide +kernel
theorem d_X4_init_1 : decode cX4_init 1 = .ok (.invokespecial 3, 3) := by decide +kernel
theorem d_X4_init_4 : decode cX4_init 4 = .ok (.aload_n 0, 1) := by decide +kernel
theorem d_X4_init_5 : decode cX4_init 5 = .ok (.iconst 2, 1) := by decide +kernel
theorem d_X4_init_6 : decode cX4_init 6 = .ok (.putfield 9, 3) := by decide +kernel
theorem d_X4_init_9 : decode cX4_init 9 = .ok (.aload_n 0, 1) := by decide +kernel
theorem d_X4_init_10 : decode cX4_init 10 = .ok (.iconst 4, 1) := by decide +kernel
theorem d_X4_init_11 : decode cX4_init 11 = .ok (.newarray .long, 2) := by decide +kernel
theorem d_X4_init_13 : decode cX4_init 13 = .ok (.putfield 15, 3) := by decide +kernel
theorem d_X4_init_16 : decode cX4_init 16 = .ok (.aload_n 0, 1) := by decide +kernel
theorem d_X4_init_17 : decode cX4_init 17 = .ok (.iconst 5, 1) := by decide +kernel
theorem d_X4_init_18 : decode cX4_init 18 = .ok (.newarray .long, 2) := by decide +kernel
theorem d_X4_init_20 : decode cX4_init 20 = .ok (.putfield 19, 3) := by decide +kernel
theorem d_X4_init_23 : decode cX4_init 23 = .ok (.aload_n 0, 1) := by decide +kernel
theorem d_X4_init_24 : decode cX4_init 24 = .ok (.bipush 10, 2) := by decide +kernel
theorem d_X4_init_26 : decode cX4_init 26 = .ok (.newarray .int, 2) := by decide +kernel
theorem d_X4_init_28 : decode cX4_init 28 = .ok (.putfield 22, 3) := by decide +kernel
theorem d_X4_init_31 : decode cX4_init 31 = .ok (.aload_n 0, 1) := by decide +kernel
theorem d_X4_init_32 : decode cX4_init 32 = .ok (.bipush 10, 2) := by decide +kernel
theorem d_X4_init_34 : decode cX4_init 34 = .ok (.newarray .int, 2) := by decide +kernel
theorem d_X4_init_36 : decode cX4_init 36 = .ok (.putfield 26, 3) := by decide +kernel
theorem d_X4_init_39 : decode cX4_init 39 = .ok (.aload_n 0, 1) := by decide +kernel
theorem d_X4_init_40 : decode cX4_init 40 = .ok (.bipush 10, 2) := by decide +kernel
theorem d_X4_init_42 : decode cX4_init 42 = .ok (.newarray .int, 2) := by decide +kernel
theorem d_X4_init_44 : decode cX4_init 44 = .ok (.putfield 29, 3) := by decide +kernel
theorem d_X4_init_47 : decode cX4_init 47 = .ok (.aload_n 0, 1) := by decide +kernel
theorem d_X4_init_48 : decode cX4_init 48 = .ok (.bipush 30, 2) := by decide +kernel
theorem d_X4_init_50 : decode cX4_init 50 = .ok (.newarray .int, 2) := by decide +kernel
theorem d_X4_init_52 : decode cX4_init 52 = .ok (.putfield 32, 3) := by decide +kernel
theorem d_X4_init_55 : decode cX4_init 55 = .ok (.aload_n 0, 1) := by decide +kernel
theorem d_X4_init_56 : decode cX4_init 56 = .ok (.bipush 42, 2) := by decide +kernel
theorem d_X4_init_58 : decode cX4_init 58 = .ok (.newarray .int, 2) := by decide +kernel
theorem d_X4_init_60 : decode cX4_init 60 = .ok (.putfield 35, 3) := by decide +kernel
theorem d_X4_init_63 : decode cX4_init 63 = .ok (.aload_n 0, 1) := by decide +kernel
theorem d_X4_init_64 : decode cX4_init 64 = .ok (.bipush 42, 2) := by decide +kernel
theorem d_X4_init_66 : decode cX4_init 66 = .ok (.newarray .int, 2) := by decide +kernel
theorem d_X4_init_68 : decode cX4_init 68 = .ok (.putfield 38, 3) := by decide +kernel
theorem d_X4_init_71 : decode cX4_init 71 = .ok (.aload_n 0, 1) := by decide +kernel
theorem d_X4_init_72 : decode cX4_init 72 = .ok (.bipush 42, 2) := by decide +kernel
theorem d_X4_init_74 : decode cX4_init 74 = .ok (.newarray .int, 2) := by decide +kernel
theorem d_X4_init_76 : decode cX4_init 76 = .ok (.putfield 41, 3) := by decide +kernel
theorem d_X4_init_79 : decode cX4_init 79 = .ok (.aload_n 0, 1) := by decide +kernel
theorem d_X4_init_80 : decode cX4_init 80 = .ok (.invokevirtual 44, 3) := by decide +kernel
theorem d_X4_init_83 : decode cX4_init 83 = .ok (.return_, 1) := by decide +kernel
def k_X4_init (n : Nat) (P : xP) : xK := x_aload 0 (x_oini (x_aload 0 (x_push (.int 2) (x_putI (n) 4 3 (x_aload 0 (x_push (.int 4) (x_newa (n) 2 4 (x_putF (n + 1) 4 5 (x_aload 0 (x_push (.int 5) (x_newa (n + 1) 2 5 (x_putF (n + 2) 4 6 (x_aload 0 (x_push (.int 10) (x_newa (n + 2) 1 10 (x_putF (n + 3) 4 7 (x_aload 0 (x_push (.int 10) (x_newa (n + 3) 1 10 (x_putF (n + 4) 4 8 (x_aload 0 (x_push (.int 10) (x_newa (n + 4) 1 10 (x_putF (n + 5) 4 9 (x_aload 0 (x_push (.int 30) (x_newa (n + 5) 1 30 (x_putF (n + 6) 4 10 (x_aload 0 (x_push (.int 42) (x_newa (n + 6) 1 42 (x_putF (n + 7) 4 11 (x_aload 0 (x_push (.int 42) (x_newa (n + 7) 1 42 (x_putF (n + 8) 4 12 (x_aload 0 (x_push (.int 42) (x_newa (n + 8) 1 42 (x_putF (n + 9) 4 13 (x_aload 0 (x_cv0 (n + 9) 4 (w_R (f_X4_renumberG (n + 9))) (x_vret P)))))))))))))))))))))))))))))))))))))))))))
def f_X4_init (n : Nat) (a0 : Nat) (A : xH) (P : xP) : Prop := k_X4_init n P [some (.ref a0)] [] A
set_option maxRecDepth 20000 in
theorem t_X4_init {p : Program} {l : Launch} {e : Env} {s : State} {m : MethodId} {args : Array Value} {below : List Frame} {meth : Method} {c : Code} {g : xG} {n : Nat} (hn : n + 9 ≤ 231) (X : xX p s m args c meth cX4_init RX4 1 g) (hr : meth.sig.returnType = none) (hin : meth.name = "<init>") {P : xP} : xAt p l e { frames := 1, cells := (n + 9) - n, slots := 195, locals := 22 } s m args below meth c g 1 xFF n 0 0 (MQ below (xQc g xFF (n + 9) P) args s ((n + 9) - n) 195 (xFr g)) (k_X4_init n P) 0 := by
  unfold k_X4_init
  refine r_aload_n (pc := 0) X d_X4_init_0 fn0 ?_
  refine r_oini (pc := 1) X oi_RX4_3 oi_inst oi_code (Nat.le_of_ble_eq_true rfl) (Nat.le_of_ble_eq_true rfl) d_X4_init_1 ?_
  refine r_aload_n (pc := 4) X d_X4_init_4 fn0 ?_
  refine r_iconst (pc := 5) X d_X4_init_5 (by decide +kernel) ?_
  refine r_putI (pc := 6) X xok4 (by decide +kernel) (by decide +kernel) (by decide +kernel) (by decide +kernel) vf_RX4_9 d_X4_init_6 ?_
  refine r_aload_n (pc := 9) X d_X4_init_9 fn0 ?_
  refine r_iconst (pc := 10) X d_X4_init_10 (by decide +kernel) ?_
  refine r_newa (pc := 11) (atype := .long) X ⟨rfl, by decide⟩ (by decide) (by omega) (Nat.ne_of_lt (show n + 0 < 231 by omega)) aw_long (show 1 ≤ n + 9 - n by omega) (Nat.le_of_ble_eq_true rfl) d_X4_init_11 ?_
  refine r_putF (pc := 13) X hin xok4 (by decide +kernel) (by decide +kernel) (by decide +kernel) (by decide +kernel) rfl (fun _ => ⟨rfl, rfl⟩) vf_RX4_15 d_X4_init_13 ?_
  refine r_aload_n (pc := 16) X d_X4_init_16 fn0 ?_
  refine r_iconst (pc := 17) X d_X4_init_17 (by decide +kernel) ?_
  refine r_newa (pc := 18) (atype := .long) X ⟨rfl, by decide⟩ (by decide) (by omega) (Nat.ne_of_lt (show n + 1 < 231 by omega)) aw_long (show 2 ≤ n + 9 - n by omega) (Nat.le_of_ble_eq_true rfl) d_X4_init_18 ?_
  refine r_putF (pc := 20) X hin xok4 (by decide +kernel) (by decide +kernel) (by decide +kernel) (by decide +kernel) rfl (fun _ => ⟨rfl, rfl⟩) vf_RX4_19 d_X4_init_20 ?_
  refine r_aload_n (pc := 23) X d_X4_init_23 fn0 ?_
  refine r_bipush (pc := 24) X d_X4_init_24 (by decide +kernel) ?_
  refine r_newa (pc := 26) (atype := .int) X ⟨rfl, by decide⟩ (by decide) (by omega) (Nat.ne_of_lt (show n + 2 < 231 by omega)) aw_int (show 3 ≤ n + 9 - n by omega) (Nat.le_of_ble_eq_true rfl) d_X4_init_26 ?_
  refine r_putF (pc := 28) X hin xok4 (by decide +kernel) (by decide +kernel) (by decide +kernel) (by decide +kernel) rfl (fun _ => ⟨rfl, rfl⟩) vf_RX4_22 d_X4_init_28 ?_
  refine r_aload_n (pc := 31) X d_X4_init_31 fn0 ?_
  refine r_bipush (pc := 32) X d_X4_init_32 (by decide +kernel) ?_
  refine r_newa (pc := 34) (atype := .int) X ⟨rfl, by decide⟩ (by decide) (by omega) (Nat.ne_of_lt (show n + 3 < 231 by omega)) aw_int (show 4 ≤ n + 9 - n by omega) (Nat.le_of_ble_eq_true rfl) d_X4_init_34 ?_
  refine r_putF (pc := 36) X hin xok4 (by decide +kernel) (by decide +kernel) (by decide +kernel) (by decide +kernel) rfl (fun _ => ⟨rfl, rfl⟩) vf_RX4_26 d_X4_init_36 ?_
  refine r_aload_n (pc := 39) X d_X4_init_39 fn0 ?_
  refine r_bipush (pc := 40) X d_X4_init_40 (by decide +kernel) ?_
  refine r_newa (pc := 42) (atype := .int) X ⟨rfl, by decide⟩ (by decide) (by omega) (Nat.ne_of_lt (show n + 4 < 231 by omega)) aw_int (show 5 ≤ n + 9 - n by omega) (Nat.le_of_ble_eq_true rfl) d_X4_init_42 ?_
  refine r_putF (pc := 44) X hin xok4 (by decide +kernel) (by decide +kernel) (by decide +kernel) (by decide +kernel) rfl (fun _ => ⟨rfl, rfl⟩) vf_RX4_29 d_X4_init_44 ?_
  refine r_aload_n (pc := 47) X d_X4_init_47 fn0 ?_
  refine r_bipush (pc := 48) X d_X4_init_48 (by decide +kernel) ?_
  refine r_newa (pc := 50) (atype := .int) X ⟨rfl, by decide⟩ (by decide) (by omega) (Nat.ne_of_lt (show n + 5 < 231 by omega)) aw_int (show 6 ≤ n + 9 - n by omega) (Nat.le_of_ble_eq_true rfl) d_X4_init_50 ?_
  refine r_putF (pc := 52) X hin xok4 (by decide +kernel) (by decide +kernel) (by decide +kernel) (by decide +kernel) rfl (fun _ => ⟨rfl, rfl⟩) vf_RX4_32 d_X4_init_52 ?_
  refine r_aload_n (pc := 55) X d_X4_init_55 fn0 ?_
  refine r_bipush (pc := 56) X d_X4_init_56 (by decide +kernel) ?_
  refine r_newa (pc := 58) (atype := .int) X ⟨rfl, by decide⟩ (by decide) (by omega) (Nat.ne_of_lt (show n + 6 < 231 by omega)) aw_int (show 7 ≤ n + 9 - n by omega) (Nat.le_of_ble_eq_true rfl) d_X4_init_58 ?_
  refine r_putF (pc := 60) X hin xok4 (by decide +kernel) (by decide +kernel) (by decide +kernel) (by decide +kernel) rfl (fun _ => ⟨rfl, rfl⟩) vf_RX4_35 d_X4_init_60 ?_
  refine r_aload_n (pc := 63) X d_X4_init_63 fn0 ?_
  refine r_bipush (pc := 64) X d_X4_init_64 (by decide +kernel) ?_
  refine r_newa (pc := 66) (atype := .int) X ⟨rfl, by decide⟩ (by decide) (by omega) (Nat.ne_of_lt (show n + 7 < 231 by omega)) aw_int (show 8 ≤ n + 9 - n by omega) (Nat.le_of_ble_eq_true rfl) d_X4_init_66 ?_
  refine r_putF (pc := 68) X hin xok4 (by decide +kernel) (by decide +kernel) (by decide +kernel) (by decide +kernel) rfl (fun _ => ⟨rfl, rfl⟩) vf_RX4_38 d_X4_init_68 ?_
  refine r_aload_n (pc := 71) X d_X4_init_71 fn0 ?_
  refine r_bipush (pc := 72) X d_X4_init_72 (by decide +kernel) ?_
  refine r_newa (pc := 74) (atype := .int) X ⟨rfl, by decide⟩ (by decide) (by omega) (Nat.ne_of_lt (show n + 8 < 231 by omega)) aw_int (show 9 ≤ n + 9 - n by omega) (Nat.le_of_ble_eq_true rfl) d_X4_init_74 ?_
  refine r_putF (pc := 76) X hin xok4 (by decide +kernel) (by decide +kernel) (by decide +kernel) (by decide +kernel) rfl (fun _ => ⟨rfl, rfl⟩) vf_RX4_41 d_X4_init_76 ?_
  refine r_aload_n (pc := 79) X d_X4_init_79 fn0 ?_
  refine r_cv0 (pc := 80) X xok4 (by decide +kernel) rfl (con_X4_renumberG l) mf_X4_renumber vm_RX4_44 ⟨(Nat.le_of_ble_eq_true rfl), (Nat.le_of_ble_eq_true rfl)⟩ ⟨(show 9 ≤ n + 9 - n by omega), (Nat.le_of_ble_eq_true rfl)⟩ d_X4_init_80 ?_
  exact r_vretN (by omega) rfl X hr d_X4_init_83
set_option maxRecDepth 20000 in
theorem con_X4_init (l : Launch) (n : Nat) (hn : n + 9 ≤ 231) : xCon l yX4_init cX4_init 1 none 1 22 n (n + 9) 195 xFF xFF (w_R (f_X4_init n)) :=
  xc_R (by decide +kernel) (by decide +kernel) (fun p e s m args below meth c g a0 A P h X hr hin => ⟨_, h, t_X4_init hn X hr hin⟩)
theorem d_X5_init_0 : decode cX5_init 0 = .ok (.aload_n 0, 1) := by decide +kernel
theorem d_X5_init_1 : decode cX5_init 1 = .ok (.invokespecial 3, 3) := by decide +kernel
theorem d_X5_init_4 : decode cX5_init 4 = .ok (.aload_n 0, 1) := by decide +kernel
theorem d_X5_init_5 : decode cX5_init 5 = .ok (.iconst 5, 1) := by decide +kernel
theorem d_X5_init_6 : decode cX5_init 6 = .ok (.newarray .int, 2) := by decide +kernel
theorem d_X5_init_8 : decode cX5_init 8 = .ok (.putfield 9, 3) := by decide +kernel
theorem d_X5_init_11 : decode cX5_init 11 = .ok (.aload_n 0, 1) := by decide +kernel
theorem d_X5_init_12 : decode cX5_init 12 = .ok (.new 15, 3) := by decide +kernel
theorem d_X5_init_15 : decode cX5_init 15 = .ok (.dup, 1) := by decide +kernel
theorem d_X5_init_16 : decode cX5_init 16 = .ok (.invokespecial 17, 3) := by decide +kernel
theorem d_X5_init_19 : decode cX5_init 19 = .ok (.putfield 18, 3) := by decide +kernel
theorem d_X5_init_22 : decode cX5_init 22 = .ok (.aload_n 0, 1) := by decide +kernel
theorem d_X5_init_23 : decode cX5_init 23 = .ok (.aload_n 1, 1) := by decide +kernel
theorem d_X5_init_24 : decode cX5_init 24 = .ok (.putfield 22, 3) := by decide +kernel
theorem d_X5_init_27 : decode cX5_init 27 = .ok (.return_, 1) := by decide +kernel
def k_X5_init (n : Nat) (P : xP) : xK := x_aload 0 (x_oini (x_aload 0 (x_push (.int 5) (x_newa (n) 1 5 (x_putF (n + 1) 5 1 (x_aload 0 (x_new (n + 1) 8 (x_dup (z_ci0 (w_R (f_X8_init (n + 2))) (x_putF (n + 4) 5 2 (x_aload 0 (x_aload 1 (x_putF (n + 4) 5 0 (x_vret P))))))))))))))
def f_X5_init (n : Nat) (a0 : Nat) (a1 : Nat) (A : xH) (P : xP) : Prop := k_X5_init n P [some (.ref a0), some (.ref a1)] [] A
set_option maxRecDepth 20000 in
theorem t_X5_init {p : Program} {l : Launch} {e : Env} {s : State} {m : MethodId} {args : Array Value} {below : List Frame} {meth : Method} {c : Code} {g : xG} {n : Nat} (hn : n + 4 ≤ 231) (X : xX p s m args c meth cX5_init RX5 2 g) (hr : meth.sig.returnType = none) (hin : meth.name = "<init>") {P : xP} : xAt p l e { frames := 2, cells := (n + 4) - n, slots := 89, locals := 40 } s m args below meth c g 2 xFF n 0 0 (MQ below (xQc g xFF (n + 4) P) args s ((n + 4) - n) 89 (xFr g)) (k_X5_init n P) 0 := by
  unfold k_X5_init
  refine r_aload_n (pc := 0) X d_X5_init_0 fn0 ?_
  refine r_oini (pc := 1) X oi_RX5_3 oi_inst oi_code (Nat.le_of_ble_eq_true rfl) (Nat.le_of_ble_eq_true rfl) d_X5_init_1 ?_
  refine r_aload_n (pc := 4) X d_X5_init_4 fn0 ?_
  refine r_iconst (pc := 5) X d_X5_init_5 (by decide +kernel) ?_
  refine r_newa (pc := 6) (atype := .int) X ⟨rfl, by decide⟩ (by decide) (by omega) (Nat.ne_of_lt (show n + 0 < 231 by omega)) aw_int (show 1 ≤ n + 4 - n by omega) (Nat.le_of_ble_eq_true rfl) d_X5_init_6 ?_
  refine r_putF (pc := 8) X hin xok5 (by decide +kernel) (by decide +kernel) (by decide +kernel) (by decide +kernel) rfl (fun _ => ⟨rfl, rfl⟩) vf_RX5_9 d_X5_init_8 ?_
  refine r_aload_n (pc := 11) X d_X5_init_11 fn0 ?_
  refine r_new (pc := 12) X xok8 (by omega) (Nat.ne_of_lt (show n + 1 < 231 by omega)) nw_RX5_15 (show 2 ≤ n + 4 - n by omega) (Nat.le_of_ble_eq_true rfl) d_X5_init_12 ?_
  refine r_dup (pc := 15) X d_X5_init_15 ?_
  refine q_ciN (pc := 16) (host := "TwinTrees") X (con_X8_init l (n + 2) (by omega)) if_X8_init (by decide +kernel) ⟨(Nat.le_of_ble_eq_true rfl), (Nat.le_of_ble_eq_true rfl)⟩ ⟨show 2 + (n + 4 - (n + 2)) ≤ n + 4 - n by omega, Nat.le_of_ble_eq_true rfl⟩ d_X5_init_16 ?_
  refine r_putF (pc := 19) X hin xok5 (by decide +kernel) (by decide +kernel) (by decide +kernel) (by decide +kernel) rfl (fun _ => ⟨rfl, rfl⟩) vf_RX5_18 d_X5_init_19 ?_
  refine r_aload_n (pc := 22) X d_X5_init_22 fn0 ?_
  refine r_aload_n (pc := 23) X d_X5_init_23 fn1 ?_
  refine r_putF (pc := 24) X hin xok5 (by decide +kernel) (by decide +kernel) (by decide +kernel) (by decide +kernel) rfl (fun _ => ⟨rfl, rfl⟩) vf_RX5_22 d_X5_init_24 ?_
  exact r_vretN (by omega) rfl X hr d_X5_init_27
set_option maxRecDepth 20000 in
theorem con_X5_init (l : Launch) (n : Nat) (hn : n + 4 ≤ 231) : xCon l yX5_init cX5_init 2 none 2 40 n (n + 4) 89 xFF xFF (w_RR (f_X5_init n)) :=
  xc_RR (by decide +kernel) (by decide +kernel) (fun p e s m args below meth c g a0 a1 A P h X hr hin => ⟨_, h, t_X5_init hn X hr hin⟩)
theorem d_X6_init_0 : decode cX6_init 0 = .ok (.aload_n 0, 1) := by decide +kernel
theorem d_X6_init_1 : decode cX6_init 1 = .ok (.invokespecial 3, 3) := by decide +kernel
theorem d_X6_init_4 : decode cX6_init 4 = .ok (.aload_n 0, 1) := by decide +kernel
theorem d_X6_init_5 : decode cX6_init 5 = .ok (.sipush 600, 3) := by decide +kernel
theorem d_X6_init_8 : decode cX6_init 8 = .ok (.newarray .int, 2) := by decide +kernel
theorem d_X6_init_10 : decode cX6_init 10 = .ok (.putfield 9, 3) := by decide +kernel
theorem d_X6_init_13 : decode cX6_init 13 = .ok (.aload_n 0, 1) := by decide +kernel
theorem d_X6_init_14 : decode cX6_init 14 = .ok (.sipush 600, 3) := by decide +kernel
theorem d_X6_init_17 : decode cX6_init 17 = .ok (.newarray .int, 2) := by decide +kernel
theorem d_X6_init_19 : decode cX6_init 19 = .ok (.putfield 15, 3) := by decide +kernel
theorem d_X6_init_22 : decode cX6_init 22 = .ok (.aload_n 0, 1) := by decide +kernel
theorem d_X6_init_23 : decode cX6_init 23 = .ok (.sipush 3020, 3) := by decide +kernel
theorem d_X6_init_26 : decode cX6_init 26 = .ok (.newarray .int, 2) := by decide +kernel
theorem d_X6_init_28 : decode cX6_init 28 = .ok (.putfield 18, 3) := by decide +kernel
theorem d_X6_init_31 : decode cX6_init 31 = .ok (.aload_n 0, 1) := by decide +kernel
theorem d_X6_init_32 : decode cX6_init 32 = .ok (.aload_n 1, 1) := by decide +kernel
theorem d_X6_init_33 : decode cX6_init 33 = .ok (.putfield 21, 3) := by decide +kernel
theorem d_X6_init_36 : decode cX6_init 36 = .ok (.return_, 1) := by decide +kernel
def k_X6_init (n : Nat) (P : xP) : xK := x_aload 0 (x_oini (x_aload 0 (x_push (.int 600) (x_newa (n) 1 600 (x_putF (n + 1) 6 0 (x_aload 0 (x_push (.int 600) (x_newa (n + 1) 1 600 (x_putF (n + 2) 6 3 (x_aload 0 (x_push (.int 3020) (x_newa (n + 2) 1 3020 (x_putF (n + 3) 6 5 (x_aload 0 (x_aload 1 (x_putF (n + 3) 6 2 (x_vret P)))))))))))))))))
def f_X6_init (n : Nat) (a0 : Nat) (a1 : Nat) (A : xH) (P : xP) : Prop := k_X6_init n P [some (.ref a0), some (.ref a1)] [] A
set_option maxRecDepth 20000 in
theorem t_X6_init {p : Program} {l : Launch} {e : Env} {s : State} {m : MethodId} {args : Array Value} {below : List Frame} {meth : Method} {c : Code} {g : xG} {n : Nat} (hn : n + 3 ≤ 231) (X : xX p s m args c meth cX6_init RX6 2 g) (hr : meth.sig.returnType = none) (hin : meth.name = "<init>") {P : xP} : xAt p l e { frames := 1, cells := (n + 3) - n, slots := 4220, locals := 20 } s m args below meth c g 2 xFF n 0 0 (MQ below (xQc g xFF (n + 3) P) args s ((n + 3) - n) 4220 (xFr g)) (k_X6_init n P) 0 := by
  unfold k_X6_init
  refine r_aload_n (pc := 0) X d_X6_init_0 fn0 ?_
  refine r_oini (pc := 1) X oi_RX6_3 oi_inst oi_code (Nat.le_of_ble_eq_true rfl) (Nat.le_of_ble_eq_true rfl) d_X6_init_1 ?_
  refine r_aload_n (pc := 4) X d_X6_init_4 fn0 ?_
  refine r_sipush (pc := 5) X d_X6_init_5 (by decide +kernel) ?_
  refine r_newa (pc := 8) (atype := .int) X ⟨rfl, by decide⟩ (by decide) (by omega) (Nat.ne_of_lt (show n + 0 < 231 by omega)) aw_int (show 1 ≤ n + 3 - n by omega) (Nat.le_of_ble_eq_true rfl) d_X6_init_8 ?_
  refine r_putF (pc := 10) X hin xok6 (by decide +kernel) (by decide +kernel) (by decide +kernel) (by decide +kernel) rfl (fun _ => ⟨rfl, rfl⟩) vf_RX6_9 d_X6_init_10 ?_
  refine r_aload_n (pc := 13) X d_X6_init_13 fn0 ?_
  refine r_sipush (pc := 14) X d_X6_init_14 (by decide +kernel) ?_
  refine r_newa (pc := 17) (atype := .int) X ⟨rfl, by decide⟩ (by decide) (by omega) (Nat.ne_of_lt (show n + 1 < 231 by omega)) aw_int (show 2 ≤ n + 3 - n by omega) (Nat.le_of_ble_eq_true rfl) d_X6_init_17 ?_
  refine r_putF (pc := 19) X hin xok6 (by decide +kernel) (by decide +kernel) (by decide +kernel) (by decide +kernel) rfl (fun _ => ⟨rfl, rfl⟩) vf_RX6_15 d_X6_init_19 ?_
  refine r_aload_n (pc := 22) X d_X6_init_22 fn0 ?_
  refine r_sipush (pc := 23) X d_X6_init_23 (by decide +kernel) ?_
  refine r_newa (pc := 26) (atype := .int) X ⟨rfl, by decide⟩ (by decide) (by omega) (Nat.ne_of_lt (show n + 2 < 231 by omega)) aw_int (show 3 ≤ n + 3 - n by omega) (Nat.le_of_ble_eq_true rfl) d_X6_init_26 ?_
  refine r_putF (pc := 28) X hin xok6 (by decide +kernel) (by decide +kernel) (by decide +kernel) (by decide +kernel) rfl (fun _ => ⟨rfl, rfl⟩) vf_RX6_18 d_X6_init_28 ?_
  refine r_aload_n (pc := 31) X d_X6_init_31 fn0 ?_
  refine r_aload_n (pc := 32) X d_X6_init_32 fn1 ?_
  refine r_putF (pc := 33) X hin xok6 (by decide +kernel) (by decide +kernel) (by decide +kernel) (by decide +kernel) rfl (fun _ => ⟨rfl, rfl⟩) vf_RX6_21 d_X6_init_33 ?_
  exact r_vretN (by omega) rfl X hr d_X6_init_36
set_option maxRecDepth 20000 in
theorem con_X6_init (l : Launch) (n : Nat) (hn : n + 3 ≤ 231) : xCon l yX6_init cX6_init 2 none 1 20 n (n + 3) 4220 xFF xFF (w_RR (f_X6_init n)) :=
  xc_RR (by decide +kernel) (by decide +kernel) (fun p e s m args below meth c g a0 a1 A P h X hr hin => ⟨_, h, t_X6_init hn X hr hin⟩)
theorem d_X10_init_0 : decode cX10_init 0 = .ok (.aload_n 0, 1) := by decide +kernel
theorem d_X10_init_1 : decode cX10_init 1 = .ok (.invokespecial 3, 3) := by decide +kernel
theorem d_X10_init_4 : decode cX10_init 4 = .ok (.aload_n 0, 1) := by decide +kernel
theorem d_X10_init_5 : decode cX10_init 5 = .ok (.sipush 640, 3) := by decide +kernel
theorem d_X10_init_8 : decode cX10_init 8 = .ok (.newarray .long, 2) := by decide +kernel
theorem d_X10_init_10 : decode cX10_init 10 = .ok (.putfield 11, 3) := by decide +kernel
theorem d_X10_init_13 : decode cX10_init 13 = .ok (.aload_n 0, 1) := by decide +kernel
theorem d_X10_init_14 : decode cX10_init 14 = .ok (.sipush 640, 3) := by decide +kernel
theorem d_X10_init_17 : decode cX10_init 17 = .ok (.newarray .long, 2) := by decide +kernel
theorem d_X10_init_19 : decode cX10_init 19 = .ok (.putfield 15, 3) := by decide +kernel
theorem d_X10_init_22 : decode cX10_init 22 = .ok (.aload_n 0, 1) := by decide +kernel
theorem d_X10_init_23 : decode cX10_init 23 = .ok (.sipush 640, 3) := by decide +kernel
theorem d_X10_init_26 : decode cX10_init 26 = .ok (.newarray .long, 2) := by decide +kernel
theorem d_X10_init_28 : decode cX10_init 28 = .ok (.putfield 18, 3) := by decide +kernel
theorem d_X10_init_31 : decode cX10_init 31 = .ok (.aload_n 0, 1) := by decide +kernel
theorem d_X10_init_32 : decode cX10_init 32 = .ok (.sipush 25600, 3) := by decide +kernel
theorem d_X10_init_35 : decode cX10_init 35 = .ok (.newarray .int, 2) := by decide +kernel
theorem d_X10_init_37 : decode cX10_init 37 = .ok (.putfield 21, 3) := by decide +kernel
theorem d_X10_init_40 : decode cX10_init 40 = .ok (.aload_n 0, 1) := by decide +kernel
theorem d_X10_init_41 : decode cX10_init 41 = .ok (.aload_n 1, 1) := by decide +kernel
theorem d_X10_init_42 : decode cX10_init 42 = .ok (.putfield 25, 3) := by decide +kernel
theorem d_X10_init_45 : decode cX10_init 45 = .ok (.return_, 1) := by decide +kernel
def k_X10_init (n : Nat) (P : xP) : xK := x_aload 0 (x_oini (x_aload 0 (x_push (.int 640) (x_newa (n) 2 640 (x_putF (n + 1) 10 4 (x_aload 0 (x_push (.int 640) (x_newa (n + 1) 2 640 (x_putF (n + 2) 10 5 (x_aload 0 (x_push (.int 640) (x_newa (n + 2) 2 640 (x_putF (n + 3) 10 6 (x_aload 0 (x_push (.int 25600) (x_newa (n + 3) 1 25600 (x_putF (n + 4) 10 7 (x_aload 0 (x_aload 1 (x_putF (n + 4) 10 10 (x_vret P)))))))))))))))))))))
def f_X10_init (n : Nat) (a0 : Nat) (a1 : Nat) (A : xH) (P : xP) : Prop := k_X10_init n P [some (.ref a0), some (.ref a1)] [] A
set_option maxRecDepth 20000 in
theorem t_X10_init {p : Program} {l : Launch} {e : Env} {s : State} {m : MethodId} {args : Array Value} {below : List Frame} {meth : Method} {c : Code} {g : xG} {n : Nat} (hn : n + 4 ≤ 231) (X : xX p s m args c meth cX10_init RX10 2 g) (hr : meth.sig.returnType = none) (hin : meth.name = "<init>") {P : xP} : xAt p l e { frames := 1, cells := (n + 4) - n, slots := 27520, locals := 20 } s m args below meth c g 2 xFF n 0 0 (MQ below (xQc g xFF (n + 4) P) args s ((n + 4) - n) 27520 (xFr g)) (k_X10_init n P) 0 := by
  unfold k_X10_init
  refine r_aload_n (pc := 0) X d_X10_init_0 fn0 ?_
  refine r_oini (pc := 1) X oi_RX10_3 oi_inst oi_code (Nat.le_of_ble_eq_true rfl) (Nat.le_of_ble_eq_true rfl) d_X10_init_1 ?_
  refine r_aload_n (pc := 4) X d_X10_init_4 fn0 ?_
  refine r_sipush (pc := 5) X d_X10_init_5 (by decide +kernel) ?_
  refine r_newa (pc := 8) (atype := .long) X ⟨rfl, by decide⟩ (by decide) (by omega) (Nat.ne_of_lt (show n + 0 < 231 by omega)) aw_long (show 1 ≤ n + 4 - n by omega) (Nat.le_of_ble_eq_true rfl) d_X10_init_8 ?_
  refine r_putF (pc := 10) X hin xok10 (by decide +kernel) (by decide +kernel) (by decide +kernel) (by decide +kernel) rfl (fun _ => ⟨rfl, rfl⟩) vf_RX10_11 d_X10_init_10 ?_
  refine r_aload_n (pc := 13) X d_X10_init_13 fn0 ?_
  refine r_sipush (pc := 14) X d_X10_init_14 (by decide +kernel) ?_
  refine r_newa (pc := 17) (atype := .long) X ⟨rfl, by decide⟩ (by decide) (by omega) (Nat.ne_of_lt (show n + 1 < 231 by omega)) aw_long (show 2 ≤ n + 4 - n by omega) (Nat.le_of_ble_eq_true rfl) d_X10_init_17 ?_
  refine r_putF (pc := 19) X hin xok10 (by decide +kernel) (by decide +kernel) (by decide +kernel) (by decide +kernel) rfl (fun _ => ⟨rfl, rfl⟩) vf_RX10_15 d_X10_init_19 ?_
  refine r_aload_n (pc := 22) X d_X10_init_22 fn0 ?_
  refine r_sipush (pc := 23) X d_X10_init_23 (by decide +kernel) ?_
  refine r_newa (pc := 26) (atype := .long) X ⟨rfl, by decide⟩ (by decide) (by omega) (Nat.ne_of_lt (show n + 2 < 231 by omega)) aw_long (show 3 ≤ n + 4 - n by omega) (Nat.le_of_ble_eq_true rfl) d_X10_init_26 ?_
  refine r_putF (pc := 28) X hin xok10 (by decide +kernel) (by decide +kernel) (by decide +kernel) (by decide +kernel) rfl (fun _ => ⟨rfl, rfl⟩) vf_RX10_18 d_X10_init_28 ?_
  refine r_aload_n (pc := 31) X d_X10_init_31 fn0 ?_
  refine r_sipush (pc := 32) X d_X10_init_32 (by decide +kernel) ?_
  refine r_newa (pc := 35) (atype := .int) X ⟨rfl, by decide⟩ (by decide) (by omega) (Nat.ne_of_lt (show n + 3 < 231 by omega)) aw_int (show 4 ≤ n + 4 - n by omega) (Nat.le_of_ble_eq_true rfl) d_X10_init_35 ?_
  refine r_putF (pc := 37) X hin xok10 (by decide +kernel) (by decide +kernel) (by decide +kernel) (by decide +kernel) rfl (fun _ => ⟨rfl, rfl⟩) vf_RX10_21 d_X10_init_37 ?_
  refine r_aload_n (pc := 40) X d_X10_init_40 fn0 ?_
  refine r_aload_n (pc := 41) X d_X10_init_41 fn1 ?_
  refine r_putF (pc := 42) X hin xok10 (by decide +kernel) (by decide +kernel) (by decide +kernel) (by decide +kernel) rfl (fun _ => ⟨rfl, rfl⟩) vf_RX10_25 d_X10_init_42 ?_
  exact r_vretN (by omega) rfl X hr d_X10_init_45
set_option maxRecDepth 20000 in
theorem con_X10_init (l : Launch) (n : Nat) (hn : n + 4 ≤ 231) : xCon l yX10_init cX10_init 2 none 1 20 n (n + 4) 27520 xFF xFF (w_RR (f_X10_init n)) :=
  xc_RR (by decide +kernel) (by decide +kernel) (fun p e s m args below meth c g a0 a1 A P h X hr hin => ⟨_, h, t_X10_init hn X hr hin⟩)

