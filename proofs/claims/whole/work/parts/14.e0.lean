theorem flr_0_11 : fl 0 11 = some (0, 0) := by decide +kernel
theorem flr_0_18 : fl 0 18 = some (0, 1) := by decide +kernel
theorem flr_0_22 : fl 0 22 = some (0, 2) := by decide +kernel
theorem flr_0_25 : fl 0 25 = some (0, 3) := by decide +kernel
theorem flr_0_33 : fl 0 33 = some (2, 1) := by decide +kernel
theorem flr_0_50 : fl 0 50 = some (2, 4) := by decide +kernel
theorem flr_1_9 : fl 1 9 = some (1, 0) := by decide +kernel
theorem flr_1_15 : fl 1 15 = some (1, 1) := by decide +kernel
theorem flr_1_19 : fl 1 19 = some (1, 2) := by decide +kernel
theorem flr_1_23 : fl 1 23 = some (1, 3) := by decide +kernel
theorem flr_1_26 : fl 1 26 = some (1, 4) := by decide +kernel
theorem flr_1_29 : fl 1 29 = some (1, 5) := by decide +kernel
theorem flr_1_35 : fl 1 35 = some (1, 6) := by decide +kernel
theorem flr_1_45 : fl 1 45 = some (1, 7) := by decide +kernel
theorem flr_1_49 : fl 1 49 = some (0, 3) := by decide +kernel
theorem flr_1_87 : fl 1 87 = some (0, 0) := by decide +kernel
theorem flr_1_95 : fl 1 95 = some (2, 5) := by decide +kernel
theorem flr_1_100 : fl 1 100 = some (2, 4) := by decide +kernel
theorem flr_1_103 : fl 1 103 = some (3, 4) := by decide +kernel
theorem flr_1_106 : fl 1 106 = some (3, 3) := by decide +kernel
theorem flr_1_113 : fl 1 113 = some (2, 9) := by decide +kernel
theorem flr_1_116 : fl 1 116 = some (2, 1) := by decide +kernel
theorem flr_1_122 : fl 1 122 = some (3, 2) := by decide +kernel
theorem flr_1_128 : fl 1 128 = some (3, 1) := by decide +kernel
theorem flr_1_134 : fl 1 134 = some (2, 2) := by decide +kernel
theorem flr_1_143 : fl 1 143 = some (5, 2) := by decide +kernel
theorem flr_1_146 : fl 1 146 = some (0, 2) := by decide +kernel
theorem flr_1_149 : fl 1 149 = some (2, 3) := by decide +kernel
theorem flr_1_152 : fl 1 152 = some (0, 1) := by decide +kernel
theorem flr_2_9 : fl 2 9 = some (2, 5) := by decide +kernel
theorem flr_2_15 : fl 2 15 = some (2, 6) := by decide +kernel
theorem flr_2_18 : fl 2 18 = some (2, 7) := by decide +kernel
theorem flr_2_21 : fl 2 21 = some (2, 0) := by decide +kernel
theorem flr_2_24 : fl 2 24 = some (2, 1) := by decide +kernel
theorem flr_2_27 : fl 2 27 = some (2, 2) := by decide +kernel
theorem flr_2_30 : fl 2 30 = some (2, 3) := by decide +kernel
theorem flr_2_33 : fl 2 33 = some (2, 4) := by decide +kernel
theorem flr_2_36 : fl 2 36 = some (2, 8) := by decide +kernel
theorem flr_2_40 : fl 2 40 = some (2, 9) := by decide +kernel
theorem flr_3_9 : fl 3 9 = some (3, 0) := by decide +kernel
theorem flr_3_15 : fl 3 15 = some (3, 1) := by decide +kernel
theorem flr_3_18 : fl 3 18 = some (3, 4) := by decide +kernel
theorem flr_3_21 : fl 3 21 = some (3, 2) := by decide +kernel
theorem flr_3_25 : fl 3 25 = some (3, 3) := by decide +kernel
theorem flr_4_11 : fl 4 11 = some (4, 0) := by decide +kernel
theorem flr_4_19 : fl 4 19 = some (4, 1) := by decide +kernel
theorem flr_5_9 : fl 5 9 = some (5, 0) := by decide +kernel
theorem flr_5_21 : fl 5 21 = some (5, 1) := by decide +kernel
theorem flr_5_24 : fl 5 24 = some (5, 2) := by decide +kernel
theorem flr_5_27 : fl 5 27 = some (5, 3) := by decide +kernel
theorem flr_5_30 : fl 5 30 = some (5, 4) := by decide +kernel
theorem flr_5_37 : fl 5 37 = some (0, 0) := by decide +kernel
theorem flr_5_41 : fl 5 41 = some (2, 5) := by decide +kernel
theorem flr_5_53 : fl 5 53 = some (2, 6) := by decide +kernel
theorem flr_5_56 : fl 5 56 = some (0, 3) := by decide +kernel
theorem flr_5_67 : fl 5 67 = some (2, 7) := by decide +kernel
theorem flr_6_9 : fl 6 9 = some (6, 0) := by decide +kernel
theorem flr_6_15 : fl 6 15 = some (6, 1) := by decide +kernel
theorem flr_6_19 : fl 6 19 = some (6, 2) := by decide +kernel
theorem flr_6_23 : fl 6 23 = some (6, 3) := by decide +kernel
theorem flr_6_31 : fl 6 31 = some (6, 4) := by decide +kernel
theorem flr_6_34 : fl 6 34 = some (6, 5) := by decide +kernel
theorem flr_6_37 : fl 6 37 = some (6, 6) := by decide +kernel
theorem flr_6_48 : fl 6 48 = some (0, 0) := by decide +kernel
theorem flr_6_54 : fl 6 54 = some (2, 3) := by decide +kernel
theorem flr_6_63 : fl 6 63 = some (0, 3) := by decide +kernel
theorem flr_6_66 : fl 6 66 = some (2, 2) := by decide +kernel
theorem flr_6_84 : fl 6 84 = some (2, 1) := by decide +kernel
theorem flr_6_91 : fl 6 91 = some (2, 5) := by decide +kernel
theorem flr_6_94 : fl 6 94 = some (1, 3) := by decide +kernel
theorem flr_6_101 : fl 6 101 = some (2, 9) := by decide +kernel
theorem flr_7_9 : fl 7 9 = some (7, 0) := by decide +kernel
theorem flr_7_13 : fl 7 13 = some (7, 1) := by decide +kernel
theorem flr_7_18 : fl 7 18 = some (7, 2) := by decide +kernel
theorem flr_7_26 : fl 7 26 = some (7, 3) := by decide +kernel
theorem flr_7_33 : fl 7 33 = some (7, 4) := by decide +kernel
theorem flr_7_37 : fl 7 37 = some (7, 5) := by decide +kernel
theorem flr_7_45 : fl 7 45 = some (7, 6) := by decide +kernel
theorem flr_7_54 : fl 7 54 = some (7, 7) := by decide +kernel
theorem flr_7_63 : fl 7 63 = some (7, 8) := by decide +kernel
theorem flr_7_71 : fl 7 71 = some (7, 9) := by decide +kernel
theorem flr_7_79 : fl 7 79 = some (7, 10) := by decide +kernel
theorem flr_7_85 : fl 7 85 = some (0, 3) := by decide +kernel
theorem flr_7_88 : fl 7 88 = some (0, 0) := by decide +kernel
theorem flr_7_108 : fl 7 108 = some (2, 4) := by decide +kernel
theorem flr_7_118 : fl 7 118 = some (2, 5) := by decide +kernel
theorem flr_7_121 : fl 7 121 = some (2, 2) := by decide +kernel
theorem flr_7_127 : fl 7 127 = some (2, 6) := by decide +kernel
theorem flr_7_130 : fl 7 130 = some (2, 3) := by decide +kernel
theorem flr_7_133 : fl 7 133 = some (2, 7) := by decide +kernel
theorem flr_7_136 : fl 7 136 = some (2, 8) := by decide +kernel
theorem flr_7_141 : fl 7 141 = some (2, 9) := by decide +kernel
theorem flr_7_144 : fl 7 144 = some (0, 1) := by decide +kernel
theorem flr_7_147 : fl 7 147 = some (0, 2) := by decide +kernel
theorem flr_7_154 : fl 7 154 = some (4, 1) := by decide +kernel
theorem flr_7_162 : fl 7 162 = some (7, 11) := by decide +kernel
theorem flr_7_173 : fl 7 173 = some (5, 2) := by decide +kernel
theorem flr_7_176 : fl 7 176 = some (5, 3) := by decide +kernel
theorem flr_7_179 : fl 7 179 = some (5, 4) := by decide +kernel
theorem flr_7_188 : fl 7 188 = some (2, 1) := by decide +kernel
theorem flr_7_217 : fl 7 217 = some (6, 3) := by decide +kernel
theorem flr_7_220 : fl 7 220 = some (6, 6) := by decide +kernel
theorem flr_7_260 : fl 7 260 = some (6, 5) := by decide +kernel
theorem flr_7_266 : fl 7 266 = some (7, 12) := by decide +kernel
theorem flr_7_282 : fl 7 282 = some (4, 0) := by decide +kernel
theorem flr_8_7 : fl 8 7 = some (8, 1) := by decide +kernel
theorem flr_8_13 : fl 8 13 = some (8, 3) := by decide +kernel
theorem flr_8_16 : fl 8 16 = some (8, 4) := by decide +kernel
theorem flr_8_19 : fl 8 19 = some (8, 5) := by decide +kernel
theorem flr_8_22 : fl 8 22 = some (8, 7) := by decide +kernel
theorem flr_8_25 : fl 8 25 = some (8, 8) := by decide +kernel
theorem flr_8_28 : fl 8 28 = some (8, 11) := by decide +kernel
theorem flr_8_31 : fl 8 31 = some (8, 12) := by decide +kernel
theorem flr_8_34 : fl 8 34 = some (8, 13) := by decide +kernel
theorem flr_8_38 : fl 8 38 = some (8, 14) := by decide +kernel
theorem flr_8_41 : fl 8 41 = some (8, 15) := by decide +kernel
theorem flr_8_44 : fl 8 44 = some (8, 25) := by decide +kernel
theorem flr_8_47 : fl 8 47 = some (8, 26) := by decide +kernel
theorem flr_8_50 : fl 8 50 = some (8, 29) := by decide +kernel
theorem flr_8_53 : fl 8 53 = some (8, 30) := by decide +kernel
theorem flr_8_56 : fl 8 56 = some (8, 31) := by decide +kernel
theorem flr_8_59 : fl 8 59 = some (8, 33) := by decide +kernel
theorem flr_8_69 : fl 8 69 = some (8, 0) := by decide +kernel
theorem flr_8_76 : fl 8 76 = some (8, 2) := by decide +kernel
theorem flr_8_89 : fl 8 89 = some (8, 6) := by decide +kernel
theorem flr_8_108 : fl 8 108 = some (8, 9) := by decide +kernel
theorem flr_8_111 : fl 8 111 = some (8, 16) := by decide +kernel
theorem flr_8_114 : fl 8 114 = some (8, 17) := by decide +kernel
theorem flr_8_117 : fl 8 117 = some (8, 18) := by decide +kernel
theorem flr_8_120 : fl 8 120 = some (8, 19) := by decide +kernel
theorem flr_8_124 : fl 8 124 = some (8, 20) := by decide +kernel
theorem flr_8_127 : fl 8 127 = some (8, 21) := by decide +kernel
theorem flr_8_141 : fl 8 141 = some (8, 10) := by decide +kernel
theorem flr_8_154 : fl 8 154 = some (8, 22) := by decide +kernel
theorem flr_8_164 : fl 8 164 = some (8, 23) := by decide +kernel
theorem flr_8_176 : fl 8 176 = some (8, 24) := by decide +kernel
theorem flr_8_206 : fl 8 206 = some (8, 27) := by decide +kernel
theorem flr_8_229 : fl 8 229 = some (8, 28) := by decide +kernel
theorem flr_8_238 : fl 8 238 = some (8, 32) := by decide +kernel
theorem flr_8_246 : fl 8 246 = some (8, 34) := by decide +kernel
theorem mlr_0_29 : ml 0 29 = some 27 := by decide +kernel
theorem mlr_0_36 : ml 0 36 = some 100 := by decide +kernel
theorem mlr_0_40 : ml 0 40 = some 32 := by decide +kernel
theorem mlr_0_44 : ml 0 44 = some 29 := by decide +kernel
theorem mlr_0_47 : ml 0 47 = some 31 := by decide +kernel
theorem mlr_1_39 : ml 1 39 = some 2 := by decide +kernel
theorem mlr_1_52 : ml 1 52 = some 101 := by decide +kernel
theorem mlr_1_56 : ml 1 56 = some 15 := by decide +kernel
theorem mlr_1_60 : ml 1 60 = some 37 := by decide +kernel
theorem mlr_1_64 : ml 1 64 = some 16 := by decide +kernel
theorem mlr_1_68 : ml 1 68 = some 9 := by decide +kernel
theorem mlr_1_72 : ml 1 72 = some 10 := by decide +kernel
theorem mlr_1_75 : ml 1 75 = some 100 := by decide +kernel
theorem mlr_1_78 : ml 1 78 = some 36 := by decide +kernel
theorem mlr_1_81 : ml 1 81 = some 11 := by decide +kernel
theorem mlr_1_84 : ml 1 84 = some 13 := by decide +kernel
theorem mlr_1_91 : ml 1 91 = some 12 := by decide +kernel
theorem mlr_1_110 : ml 1 110 = some 30 := by decide +kernel
theorem mlr_1_119 : ml 1 119 = some 6 := by decide +kernel
theorem mlr_1_125 : ml 1 125 = some 17 := by decide +kernel
theorem mlr_1_131 : ml 1 131 = some 18 := by decide +kernel
theorem mlr_1_137 : ml 1 137 = some 47 := by decide +kernel
theorem mlr_1_155 : ml 1 155 = some 3 := by decide +kernel
theorem mlr_1_158 : ml 1 158 = some 19 := by decide +kernel
theorem mlr_1_161 : ml 1 161 = some 29 := by decide +kernel
theorem mlr_2_43 : ml 2 43 = some 26 := by decide +kernel
theorem mlr_4_15 : ml 4 15 = some 40 := by decide +kernel
theorem mlr_4_23 : ml 4 23 = some 41 := by decide +kernel
theorem mlr_4_27 : ml 4 27 = some 44 := by decide +kernel
theorem mlr_4_31 : ml 4 31 = some 35 := by decide +kernel
theorem mlr_5_15 : ml 5 15 = some 3 := by decide +kernel
theorem mlr_5_33 : ml 5 33 = some 48 := by decide +kernel
theorem mlr_5_46 : ml 5 46 = some 49 := by decide +kernel
theorem mlr_5_50 : ml 5 50 = some 100 := by decide +kernel
theorem mlr_5_59 : ml 5 59 = some 101 := by decide +kernel
theorem mlr_5_63 : ml 5 63 = some 29 := by decide +kernel
theorem mlr_6_27 : ml 6 27 = some 100 := by decide +kernel
theorem mlr_6_40 : ml 6 40 = some 21 := by decide +kernel
theorem mlr_6_45 : ml 6 45 = some 20 := by decide +kernel
theorem mlr_6_59 : ml 6 59 = some 22 := by decide +kernel
theorem mlr_6_69 : ml 6 69 = some 101 := by decide +kernel
theorem mlr_6_73 : ml 6 73 = some 19 := by decide +kernel
theorem mlr_6_76 : ml 6 76 = some 8 := by decide +kernel
theorem mlr_6_80 : ml 6 80 = some 51 := by decide +kernel
theorem mlr_6_87 : ml 6 87 = some 31 := by decide +kernel
theorem mlr_6_97 : ml 6 97 = some 57 := by decide +kernel
theorem mlr_6_104 : ml 6 104 = some 9 := by decide +kernel
theorem mlr_7_67 : ml 7 67 = some 98 := by decide +kernel
theorem mlr_7_75 : ml 7 75 = some 92 := by decide +kernel
theorem mlr_7_82 : ml 7 82 = some 93 := by decide +kernel
theorem mlr_7_92 : ml 7 92 = some 26 := by decide +kernel
theorem mlr_7_98 : ml 7 98 = some 94 := by decide +kernel
theorem mlr_7_101 : ml 7 101 = some 28 := by decide +kernel
theorem mlr_7_104 : ml 7 104 = some 33 := by decide +kernel
theorem mlr_7_111 : ml 7 111 = some 96 := by decide +kernel
theorem mlr_7_114 : ml 7 114 = some 31 := by decide +kernel
theorem mlr_7_124 : ml 7 124 = some 91 := by decide +kernel
theorem mlr_7_150 : ml 7 150 = some 39 := by decide +kernel
theorem mlr_7_155 : ml 7 155 = some 42 := by decide +kernel
theorem mlr_7_159 : ml 7 159 = some 43 := by decide +kernel
theorem mlr_7_165 : ml 7 165 = some 45 := by decide +kernel
theorem mlr_7_169 : ml 7 169 = some 47 := by decide +kernel
theorem mlr_7_182 : ml 7 182 = some 95 := by decide +kernel
theorem mlr_7_184 : ml 7 184 = some 14 := by decide +kernel
theorem mlr_7_191 : ml 7 191 = some 8 := by decide +kernel
theorem mlr_7_195 : ml 7 195 = some 100 := by decide +kernel
theorem mlr_7_198 : ml 7 198 = some 19 := by decide +kernel
theorem mlr_7_201 : ml 7 201 = some 102 := by decide +kernel
theorem mlr_7_204 : ml 7 204 = some 2 := by decide +kernel
theorem mlr_7_207 : ml 7 207 = some 20 := by decide +kernel
theorem mlr_7_210 : ml 7 210 = some 97 := by decide +kernel
theorem mlr_7_213 : ml 7 213 = some 51 := by decide +kernel
theorem mlr_7_223 : ml 7 223 = some 52 := by decide +kernel
theorem mlr_7_226 : ml 7 226 = some 53 := by decide +kernel
theorem mlr_7_229 : ml 7 229 = some 168 := by decide +kernel
theorem mlr_7_234 : ml 7 234 = some 54 := by decide +kernel
theorem mlr_7_238 : ml 7 238 = some 21 := by decide +kernel
theorem mlr_7_241 : ml 7 241 = some 24 := by decide +kernel
theorem mlr_7_244 : ml 7 244 = some 90 := by decide +kernel
theorem mlr_7_247 : ml 7 247 = some 55 := by decide +kernel
theorem mlr_7_251 : ml 7 251 = some 56 := by decide +kernel
theorem mlr_7_254 : ml 7 254 = some 4 := by decide +kernel
theorem mlr_7_257 : ml 7 257 = some 23 := by decide +kernel
theorem mlr_7_263 : ml 7 263 = some 1 := by decide +kernel
theorem mlr_7_269 : ml 7 269 = some 89 := by decide +kernel
theorem mlr_7_274 : ml 7 274 = some 99 := by decide +kernel
theorem mlr_7_278 : ml 7 278 = some 88 := by decide +kernel
theorem mlr_7_285 : ml 7 285 = some 5 := by decide +kernel
theorem mlr_7_290 : ml 7 290 = some 167 := by decide +kernel
theorem mlr_7_293 : ml 7 293 = some 169 := by decide +kernel
theorem mlr_8_65 : ml 8 65 = some 104 := by decide +kernel
theorem mlr_8_72 : ml 8 72 = some 108 := by decide +kernel
theorem mlr_8_81 : ml 8 81 = some 110 := by decide +kernel
theorem mlr_8_84 : ml 8 84 = some 111 := by decide +kernel
theorem mlr_8_92 : ml 8 92 = some 115 := by decide +kernel
theorem mlr_8_95 : ml 8 95 = some 113 := by decide +kernel
theorem mlr_8_101 : ml 8 101 = some 118 := by decide +kernel
theorem mlr_8_134 : ml 8 134 = some 124 := by decide +kernel
theorem mlr_8_137 : ml 8 137 = some 125 := by decide +kernel
theorem mlr_8_144 : ml 8 144 = some 129 := by decide +kernel
theorem mlr_8_147 : ml 8 147 = some 130 := by decide +kernel
theorem mlr_8_150 : ml 8 150 = some 105 := by decide +kernel
theorem mlr_8_157 : ml 8 157 = some 131 := by decide +kernel
theorem mlr_8_161 : ml 8 161 = some 132 := by decide +kernel
theorem mlr_8_169 : ml 8 169 = some 133 := by decide +kernel
theorem mlr_8_173 : ml 8 173 = some 135 := by decide +kernel
theorem mlr_8_179 : ml 8 179 = some 136 := by decide +kernel
theorem mlr_8_182 : ml 8 182 = some 128 := by decide +kernel
theorem mlr_8_186 : ml 8 186 = some 139 := by decide +kernel
theorem mlr_8_190 : ml 8 190 = some 140 := by decide +kernel
theorem mlr_8_193 : ml 8 193 = some 141 := by decide +kernel
theorem mlr_8_196 : ml 8 196 = some 137 := by decide +kernel
theorem mlr_8_200 : ml 8 200 = some 142 := by decide +kernel
theorem mlr_8_203 : ml 8 203 = some 144 := by decide +kernel
theorem mlr_8_209 : ml 8 209 = some 146 := by decide +kernel
theorem mlr_8_216 : ml 8 216 = some 147 := by decide +kernel
theorem mlr_8_219 : ml 8 219 = some 149 := by decide +kernel
theorem mlr_8_222 : ml 8 222 = some 106 := by decide +kernel
theorem mlr_8_225 : ml 8 225 = some 151 := by decide +kernel
theorem mlr_8_232 : ml 8 232 = some 154 := by decide +kernel
theorem mlr_8_235 : ml 8 235 = some 155 := by decide +kernel
theorem mlr_8_241 : ml 8 241 = some 162 := by decide +kernel
theorem mlr_8_250 : ml 8 250 = some 164 := by decide +kernel
theorem mlr_8_256 : ml 8 256 = some 165 := by decide +kernel
theorem cq_1_27 : 27 < 169 ∧ mdp 27 < mdp 1 ∧ mkd 27 = 1 ∧ mo 27 = 2 ∧ mnp 27 = 1 ∧ mL 27 = 2 := by decide +kernel
theorem cq_2_100 : 100 < 169 ∧ mdp 100 < mdp 2 ∧ mkd 100 = 0 ∧ mo 100 = 7 ∧ mnp 100 = 1 ∧ mL 100 = 1 := by decide +kernel
theorem cq_3_32 : 32 < 169 ∧ mdp 32 < mdp 3 ∧ mkd 32 = 1 ∧ mo 32 = 2 ∧ mnp 32 = 0 ∧ mL 32 = 1 := by decide +kernel
theorem cq_3_100 : 100 < 169 ∧ mdp 100 < mdp 3 ∧ mkd 100 = 0 ∧ mo 100 = 7 ∧ mnp 100 = 1 ∧ mL 100 = 1 := by decide +kernel
theorem cq_4_29 : 29 < 169 ∧ mdp 29 < mdp 4 ∧ mkd 29 = 1 ∧ mo 29 = 2 ∧ mnp 29 = 0 ∧ mL 29 = 1 := by decide +kernel
theorem cq_4_31 : 31 < 169 ∧ mdp 31 < mdp 4 ∧ mkd 31 = 1 ∧ mo 31 = 2 ∧ mnp 31 = 0 ∧ mL 31 = 1 := by decide +kernel
theorem cq_4_100 : 100 < 169 ∧ mdp 100 < mdp 4 ∧ mkd 100 = 0 ∧ mo 100 = 7 ∧ mnp 100 = 1 ∧ mL 100 = 1 := by decide +kernel
theorem cq_5_31 : 31 < 169 ∧ mdp 31 < mdp 5 ∧ mkd 31 = 1 ∧ mo 31 = 2 ∧ mnp 31 = 0 ∧ mL 31 = 1 := by decide +kernel
theorem cq_8_2 : 2 < 169 ∧ mdp 2 < mdp 8 ∧ mkd 2 = 1 ∧ mo 2 = 0 ∧ mnp 2 = 1 ∧ mL 2 = 4 := by decide +kernel
theorem cq_8_9 : 9 < 169 ∧ mdp 9 < mdp 8 ∧ mkd 9 = 1 ∧ mo 9 = 1 ∧ mnp 9 = 2 ∧ mL 9 = 3 := by decide +kernel
theorem cq_8_15 : 15 < 169 ∧ mdp 15 < mdp 8 ∧ mkd 15 = 1 ∧ mo 15 = 1 ∧ mnp 15 = 2 ∧ mL 15 = 5 := by decide +kernel
theorem cq_8_16 : 16 < 169 ∧ mdp 16 < mdp 8 ∧ mkd 16 = 1 ∧ mo 16 = 1 ∧ mnp 16 = 2 ∧ mL 16 = 5 := by decide +kernel
theorem cq_8_37 : 37 < 169 ∧ mdp 37 < mdp 8 ∧ mkd 37 = 1 ∧ mo 37 = 3 ∧ mnp 37 = 0 ∧ mL 37 = 1 := by decide +kernel
theorem cq_8_101 : 101 < 169 ∧ mdp 101 < mdp 8 ∧ mkd 101 = 0 ∧ mo 101 = 7 ∧ mnp 101 = 2 ∧ mL 101 = 2 := by decide +kernel
theorem cq_9_10 : 10 < 169 ∧ mdp 10 < mdp 9 ∧ mkd 10 = 1 ∧ mo 10 = 1 ∧ mnp 10 = 2 ∧ mL 10 = 3 := by decide +kernel
theorem cq_9_100 : 100 < 169 ∧ mdp 100 < mdp 9 ∧ mkd 100 = 0 ∧ mo 100 = 7 ∧ mnp 100 = 1 ∧ mL 100 = 1 := by decide +kernel
theorem cq_10_11 : 11 < 169 ∧ mdp 11 < mdp 10 ∧ mkd 11 = 1 ∧ mo 11 = 1 ∧ mnp 11 = 2 ∧ mL 11 = 5 := by decide +kernel
theorem cq_10_13 : 13 < 169 ∧ mdp 13 < mdp 10 ∧ mkd 13 = 1 ∧ mo 13 = 1 ∧ mnp 13 = 2 ∧ mL 13 = 4 := by decide +kernel
theorem cq_10_36 : 36 < 169 ∧ mdp 36 < mdp 10 ∧ mkd 36 = 1 ∧ mo 36 = 3 ∧ mnp 36 = 0 ∧ mL 36 = 1 := by decide +kernel
theorem cq_10_37 : 37 < 169 ∧ mdp 37 < mdp 10 ∧ mkd 37 = 1 ∧ mo 37 = 3 ∧ mnp 37 = 0 ∧ mL 37 = 1 := by decide +kernel
theorem cq_11_12 : 12 < 169 ∧ mdp 12 < mdp 11 ∧ mkd 12 = 1 ∧ mo 12 = 1 ∧ mnp 12 = 1 ∧ mL 12 = 3 := by decide +kernel
theorem cq_13_30 : 30 < 169 ∧ mdp 30 < mdp 13 ∧ mkd 30 = 1 ∧ mo 30 = 2 ∧ mnp 30 = 0 ∧ mL 30 = 1 := by decide +kernel
theorem cq_13_101 : 101 < 169 ∧ mdp 101 < mdp 13 ∧ mkd 101 = 0 ∧ mo 101 = 7 ∧ mnp 101 = 2 ∧ mL 101 = 2 := by decide +kernel
theorem cq_14_2 : 2 < 169 ∧ mdp 2 < mdp 14 ∧ mkd 2 = 1 ∧ mo 2 = 0 ∧ mnp 2 = 1 ∧ mL 2 = 4 := by decide +kernel
theorem cq_14_15 : 15 < 169 ∧ mdp 15 < mdp 14 ∧ mkd 15 = 1 ∧ mo 15 = 1 ∧ mnp 15 = 2 ∧ mL 15 = 5 := by decide +kernel
theorem cq_14_16 : 16 < 169 ∧ mdp 16 < mdp 14 ∧ mkd 16 = 1 ∧ mo 16 = 1 ∧ mnp 16 = 2 ∧ mL 16 = 5 := by decide +kernel
theorem cq_15_6 : 6 < 169 ∧ mdp 6 < mdp 15 ∧ mkd 6 = 1 ∧ mo 6 = 0 ∧ mnp 6 = 2 ∧ mL 6 = 5 := by decide +kernel
theorem cq_15_100 : 100 < 169 ∧ mdp 100 < mdp 15 ∧ mkd 100 = 0 ∧ mo 100 = 7 ∧ mnp 100 = 1 ∧ mL 100 = 1 := by decide +kernel
theorem cq_15_101 : 101 < 169 ∧ mdp 101 < mdp 15 ∧ mkd 101 = 0 ∧ mo 101 = 7 ∧ mnp 101 = 2 ∧ mL 101 = 2 := by decide +kernel
theorem cq_16_17 : 17 < 169 ∧ mdp 17 < mdp 16 ∧ mkd 17 = 1 ∧ mo 17 = 1 ∧ mnp 17 = 1 ∧ mL 17 = 4 := by decide +kernel
theorem cq_16_18 : 18 < 169 ∧ mdp 18 < mdp 16 ∧ mkd 18 = 1 ∧ mo 18 = 1 ∧ mnp 18 = 1 ∧ mL 18 = 4 := by decide +kernel
theorem cq_16_47 : 47 < 169 ∧ mdp 47 < mdp 16 ∧ mkd 47 = 1 ∧ mo 47 = 5 ∧ mnp 47 = 3 ∧ mL 47 = 9 := by decide +kernel
theorem cq_17_100 : 100 < 169 ∧ mdp 100 < mdp 17 ∧ mkd 100 = 0 ∧ mo 100 = 7 ∧ mnp 100 = 1 ∧ mL 100 = 1 := by decide +kernel
theorem cq_18_3 : 3 < 169 ∧ mdp 3 < mdp 18 ∧ mkd 3 = 1 ∧ mo 3 = 0 ∧ mnp 3 = 1 ∧ mL 3 = 4 := by decide +kernel
theorem cq_18_100 : 100 < 169 ∧ mdp 100 < mdp 18 ∧ mkd 100 = 0 ∧ mo 100 = 7 ∧ mnp 100 = 1 ∧ mL 100 = 1 := by decide +kernel
theorem cq_20_6 : 6 < 169 ∧ mdp 6 < mdp 20 ∧ mkd 6 = 1 ∧ mo 6 = 0 ∧ mnp 6 = 2 ∧ mL 6 = 5 := by decide +kernel
theorem cq_20_19 : 19 < 169 ∧ mdp 19 < mdp 20 ∧ mkd 19 = 1 ∧ mo 19 = 1 ∧ mnp 19 = 2 ∧ mL 19 = 3 := by decide +kernel
theorem cq_20_101 : 101 < 169 ∧ mdp 101 < mdp 20 ∧ mkd 101 = 0 ∧ mo 101 = 7 ∧ mnp 101 = 2 ∧ mL 101 = 2 := by decide +kernel
theorem cq_21_29 : 29 < 169 ∧ mdp 29 < mdp 21 ∧ mkd 29 = 1 ∧ mo 29 = 2 ∧ mnp 29 = 0 ∧ mL 29 = 1 := by decide +kernel
theorem cq_21_100 : 100 < 169 ∧ mdp 100 < mdp 21 ∧ mkd 100 = 0 ∧ mo 100 = 7 ∧ mnp 100 = 1 ∧ mL 100 = 1 := by decide +kernel
theorem cq_21_101 : 101 < 169 ∧ mdp 101 < mdp 21 ∧ mkd 101 = 0 ∧ mo 101 = 7 ∧ mnp 101 = 2 ∧ mL 101 = 2 := by decide +kernel
theorem cq_22_29 : 29 < 169 ∧ mdp 29 < mdp 22 ∧ mkd 29 = 1 ∧ mo 29 = 2 ∧ mnp 29 = 0 ∧ mL 29 = 1 := by decide +kernel
theorem cq_22_100 : 100 < 169 ∧ mdp 100 < mdp 22 ∧ mkd 100 = 0 ∧ mo 100 = 7 ∧ mnp 100 = 1 ∧ mL 100 = 1 := by decide +kernel
theorem cq_22_101 : 101 < 169 ∧ mdp 101 < mdp 22 ∧ mkd 101 = 0 ∧ mo 101 = 7 ∧ mnp 101 = 2 ∧ mL 101 = 2 := by decide +kernel
theorem cq_23_30 : 30 < 169 ∧ mdp 30 < mdp 23 ∧ mkd 30 = 1 ∧ mo 30 = 2 ∧ mnp 30 = 0 ∧ mL 30 = 1 := by decide +kernel
theorem cq_23_100 : 100 < 169 ∧ mdp 100 < mdp 23 ∧ mkd 100 = 0 ∧ mo 100 = 7 ∧ mnp 100 = 1 ∧ mL 100 = 1 := by decide +kernel
theorem cq_23_101 : 101 < 169 ∧ mdp 101 < mdp 23 ∧ mkd 101 = 0 ∧ mo 101 = 7 ∧ mnp 101 = 2 ∧ mL 101 = 2 := by decide +kernel
theorem cq_24_19 : 19 < 169 ∧ mdp 19 < mdp 24 ∧ mkd 19 = 1 ∧ mo 19 = 1 ∧ mnp 19 = 2 ∧ mL 19 = 3 := by decide +kernel
theorem cq_24_100 : 100 < 169 ∧ mdp 100 < mdp 24 ∧ mkd 100 = 0 ∧ mo 100 = 7 ∧ mnp 100 = 1 ∧ mL 100 = 1 := by decide +kernel
theorem cq_27_26 : 26 < 169 ∧ mdp 26 < mdp 27 ∧ mkd 26 = 1 ∧ mo 26 = 2 ∧ mnp 26 = 5 ∧ mL 26 = 6 := by decide +kernel
theorem cq_39_40 : 40 < 169 ∧ mdp 40 < mdp 39 ∧ mkd 40 = 0 ∧ mo 40 = 4 ∧ mnp 40 = 1 ∧ mL 40 = 5 := by decide +kernel
theorem cq_39_41 : 41 < 169 ∧ mdp 41 < mdp 39 ∧ mkd 41 = 0 ∧ mo 41 = 4 ∧ mnp 41 = 2 ∧ mL 41 = 3 := by decide +kernel
theorem cq_40_41 : 41 < 169 ∧ mdp 41 < mdp 40 ∧ mkd 41 = 0 ∧ mo 41 = 4 ∧ mnp 41 = 2 ∧ mL 41 = 3 := by decide +kernel
theorem cq_42_44 : 44 < 169 ∧ mdp 44 < mdp 42 ∧ mkd 44 = 0 ∧ mo 44 = 4 ∧ mnp 44 = 2 ∧ mL 44 = 2 := by decide +kernel
theorem cq_43_44 : 44 < 169 ∧ mdp 44 < mdp 43 ∧ mkd 44 = 0 ∧ mo 44 = 4 ∧ mnp 44 = 2 ∧ mL 44 = 2 := by decide +kernel
theorem cq_45_35 : 35 < 169 ∧ mdp 35 < mdp 45 ∧ mkd 35 = 1 ∧ mo 35 = 3 ∧ mnp 35 = 2 ∧ mL 35 = 3 := by decide +kernel
theorem cq_47_3 : 3 < 169 ∧ mdp 3 < mdp 47 ∧ mkd 3 = 1 ∧ mo 3 = 0 ∧ mnp 3 = 1 ∧ mL 3 = 4 := by decide +kernel
theorem cq_47_48 : 48 < 169 ∧ mdp 48 < mdp 47 ∧ mkd 48 = 1 ∧ mo 48 = 5 ∧ mnp 48 = 2 ∧ mL 48 = 7 := by decide +kernel
theorem cq_47_49 : 49 < 169 ∧ mdp 49 < mdp 47 ∧ mkd 49 = 1 ∧ mo 49 = 5 ∧ mnp 49 = 2 ∧ mL 49 = 5 := by decide +kernel
theorem cq_47_100 : 100 < 169 ∧ mdp 100 < mdp 47 ∧ mkd 100 = 0 ∧ mo 100 = 7 ∧ mnp 100 = 1 ∧ mL 100 = 1 := by decide +kernel
theorem cq_48_29 : 29 < 169 ∧ mdp 29 < mdp 48 ∧ mkd 29 = 1 ∧ mo 29 = 2 ∧ mnp 29 = 0 ∧ mL 29 = 1 := by decide +kernel
theorem cq_48_101 : 101 < 169 ∧ mdp 101 < mdp 48 ∧ mkd 101 = 0 ∧ mo 101 = 7 ∧ mnp 101 = 2 ∧ mL 101 = 2 := by decide +kernel
theorem cq_49_100 : 100 < 169 ∧ mdp 100 < mdp 49 ∧ mkd 100 = 0 ∧ mo 100 = 7 ∧ mnp 100 = 1 ∧ mL 100 = 1 := by decide +kernel
theorem cq_49_101 : 101 < 169 ∧ mdp 101 < mdp 49 ∧ mkd 101 = 0 ∧ mo 101 = 7 ∧ mnp 101 = 2 ∧ mL 101 = 2 := by decide +kernel
theorem cq_51_20 : 20 < 169 ∧ mdp 20 < mdp 51 ∧ mkd 20 = 1 ∧ mo 20 = 1 ∧ mnp 20 = 1 ∧ mL 20 = 5 := by decide +kernel
theorem cq_51_21 : 21 < 169 ∧ mdp 21 < mdp 51 ∧ mkd 21 = 1 ∧ mo 21 = 1 ∧ mnp 21 = 1 ∧ mL 21 = 4 := by decide +kernel
theorem cq_51_100 : 100 < 169 ∧ mdp 100 < mdp 51 ∧ mkd 100 = 0 ∧ mo 100 = 7 ∧ mnp 100 = 1 ∧ mL 100 = 1 := by decide +kernel
theorem cq_53_19 : 19 < 169 ∧ mdp 19 < mdp 53 ∧ mkd 19 = 1 ∧ mo 19 = 1 ∧ mnp 19 = 2 ∧ mL 19 = 3 := by decide +kernel
theorem cq_53_21 : 21 < 169 ∧ mdp 21 < mdp 53 ∧ mkd 21 = 1 ∧ mo 21 = 1 ∧ mnp 21 = 1 ∧ mL 21 = 4 := by decide +kernel
theorem cq_53_22 : 22 < 169 ∧ mdp 22 < mdp 53 ∧ mkd 22 = 1 ∧ mo 22 = 1 ∧ mnp 22 = 0 ∧ mL 22 = 3 := by decide +kernel
theorem cq_53_100 : 100 < 169 ∧ mdp 100 < mdp 53 ∧ mkd 100 = 0 ∧ mo 100 = 7 ∧ mnp 100 = 1 ∧ mL 100 = 1 := by decide +kernel
theorem cq_53_101 : 101 < 169 ∧ mdp 101 < mdp 53 ∧ mkd 101 = 0 ∧ mo 101 = 7 ∧ mnp 101 = 2 ∧ mL 101 = 2 := by decide +kernel
theorem cq_54_20 : 20 < 169 ∧ mdp 20 < mdp 54 ∧ mkd 20 = 1 ∧ mo 20 = 1 ∧ mnp 20 = 1 ∧ mL 20 = 5 := by decide +kernel
theorem cq_54_100 : 100 < 169 ∧ mdp 100 < mdp 54 ∧ mkd 100 = 0 ∧ mo 100 = 7 ∧ mnp 100 = 1 ∧ mL 100 = 1 := by decide +kernel
theorem cq_55_8 : 8 < 169 ∧ mdp 8 < mdp 55 ∧ mkd 8 = 1 ∧ mo 8 = 1 ∧ mnp 8 = 2 ∧ mL 8 = 5 := by decide +kernel
theorem cq_55_31 : 31 < 169 ∧ mdp 31 < mdp 55 ∧ mkd 31 = 1 ∧ mo 31 = 2 ∧ mnp 31 = 0 ∧ mL 31 = 1 := by decide +kernel
theorem cq_55_51 : 51 < 169 ∧ mdp 51 < mdp 55 ∧ mkd 51 = 1 ∧ mo 51 = 6 ∧ mnp 51 = 1 ∧ mL 51 = 4 := by decide +kernel
theorem cq_56_8 : 8 < 169 ∧ mdp 8 < mdp 56 ∧ mkd 8 = 1 ∧ mo 8 = 1 ∧ mnp 8 = 2 ∧ mL 8 = 5 := by decide +kernel
theorem cq_56_51 : 51 < 169 ∧ mdp 51 < mdp 56 ∧ mkd 51 = 1 ∧ mo 51 = 6 ∧ mnp 51 = 1 ∧ mL 51 = 4 := by decide +kernel
theorem cq_56_57 : 57 < 169 ∧ mdp 57 < mdp 56 ∧ mkd 57 = 1 ∧ mo 57 = 6 ∧ mnp 57 = 3 ∧ mL 57 = 6 := by decide +kernel
theorem cq_56_101 : 101 < 169 ∧ mdp 101 < mdp 56 ∧ mkd 101 = 0 ∧ mo 101 = 7 ∧ mnp 101 = 2 ∧ mL 101 = 2 := by decide +kernel
theorem cq_57_9 : 9 < 169 ∧ mdp 9 < mdp 57 ∧ mkd 9 = 1 ∧ mo 9 = 1 ∧ mnp 9 = 2 ∧ mL 9 = 3 := by decide +kernel
theorem cq_57_51 : 51 < 169 ∧ mdp 51 < mdp 57 ∧ mkd 51 = 1 ∧ mo 51 = 6 ∧ mnp 51 = 1 ∧ mL 51 = 4 := by decide +kernel
theorem cq_57_100 : 100 < 169 ∧ mdp 100 < mdp 57 ∧ mkd 100 = 0 ∧ mo 100 = 7 ∧ mnp 100 = 1 ∧ mL 100 = 1 := by decide +kernel
theorem cq_59_98 : 98 < 169 ∧ mdp 98 < mdp 59 ∧ mkd 98 = 0 ∧ mo 98 = 7 ∧ mnp 98 = 2 ∧ mL 98 = 2 := by decide +kernel
theorem cq_60_92 : 92 < 169 ∧ mdp 92 < mdp 60 ∧ mkd 92 = 1 ∧ mo 92 = 7 ∧ mnp 92 = 1 ∧ mL 92 = 2 := by decide +kernel
theorem cq_61_26 : 26 < 169 ∧ mdp 26 < mdp 61 ∧ mkd 26 = 1 ∧ mo 26 = 2 ∧ mnp 26 = 5 ∧ mL 26 = 6 := by decide +kernel
theorem cq_61_92 : 92 < 169 ∧ mdp 92 < mdp 61 ∧ mkd 92 = 1 ∧ mo 92 = 7 ∧ mnp 92 = 1 ∧ mL 92 = 2 := by decide +kernel
theorem cq_61_93 : 93 < 169 ∧ mdp 93 < mdp 61 ∧ mkd 93 = 1 ∧ mo 93 = 7 ∧ mnp 93 = 1 ∧ mL 93 = 2 := by decide +kernel
theorem cq_61_98 : 98 < 169 ∧ mdp 98 < mdp 61 ∧ mkd 98 = 0 ∧ mo 98 = 7 ∧ mnp 98 = 2 ∧ mL 98 = 2 := by decide +kernel
theorem cq_62_28 : 28 < 169 ∧ mdp 28 < mdp 62 ∧ mkd 28 = 1 ∧ mo 28 = 2 ∧ mnp 28 = 1 ∧ mL 28 = 2 := by decide +kernel
theorem cq_62_94 : 94 < 169 ∧ mdp 94 < mdp 62 ∧ mkd 94 = 1 ∧ mo 94 = 7 ∧ mnp 94 = 1 ∧ mL 94 = 2 := by decide +kernel
theorem cq_62_98 : 98 < 169 ∧ mdp 98 < mdp 62 ∧ mkd 98 = 0 ∧ mo 98 = 7 ∧ mnp 98 = 2 ∧ mL 98 = 2 := by decide +kernel
theorem cq_63_33 : 33 < 169 ∧ mdp 33 < mdp 63 ∧ mkd 33 = 1 ∧ mo 33 = 2 ∧ mnp 33 = 1 ∧ mL 33 = 2 := by decide +kernel
theorem cq_63_94 : 94 < 169 ∧ mdp 94 < mdp 63 ∧ mkd 94 = 1 ∧ mo 94 = 7 ∧ mnp 94 = 1 ∧ mL 94 = 2 := by decide +kernel
theorem cq_63_98 : 98 < 169 ∧ mdp 98 < mdp 63 ∧ mkd 98 = 0 ∧ mo 98 = 7 ∧ mnp 98 = 2 ∧ mL 98 = 2 := by decide +kernel
theorem cq_64_31 : 31 < 169 ∧ mdp 31 < mdp 64 ∧ mkd 31 = 1 ∧ mo 31 = 2 ∧ mnp 31 = 0 ∧ mL 31 = 1 := by decide +kernel
theorem cq_64_91 : 91 < 169 ∧ mdp 91 < mdp 64 ∧ mkd 91 = 1 ∧ mo 91 = 7 ∧ mnp 91 = 1 ∧ mL 91 = 2 := by decide +kernel
theorem cq_64_94 : 94 < 169 ∧ mdp 94 < mdp 64 ∧ mkd 94 = 1 ∧ mo 94 = 7 ∧ mnp 94 = 1 ∧ mL 94 = 2 := by decide +kernel
theorem cq_64_96 : 96 < 169 ∧ mdp 96 < mdp 64 ∧ mkd 96 = 0 ∧ mo 96 = 7 ∧ mnp 96 = 1 ∧ mL 96 = 1 := by decide +kernel
theorem cq_65_31 : 31 < 169 ∧ mdp 31 < mdp 65 ∧ mkd 31 = 1 ∧ mo 31 = 2 ∧ mnp 31 = 0 ∧ mL 31 = 1 := by decide +kernel
theorem cq_65_94 : 94 < 169 ∧ mdp 94 < mdp 65 ∧ mkd 94 = 1 ∧ mo 94 = 7 ∧ mnp 94 = 1 ∧ mL 94 = 2 := by decide +kernel
theorem cq_66_94 : 94 < 169 ∧ mdp 94 < mdp 66 ∧ mkd 94 = 1 ∧ mo 94 = 7 ∧ mnp 94 = 1 ∧ mL 94 = 2 := by decide +kernel
theorem cq_66_98 : 98 < 169 ∧ mdp 98 < mdp 66 ∧ mkd 98 = 0 ∧ mo 98 = 7 ∧ mnp 98 = 2 ∧ mL 98 = 2 := by decide +kernel
theorem cq_67_92 : 92 < 169 ∧ mdp 92 < mdp 67 ∧ mkd 92 = 1 ∧ mo 92 = 7 ∧ mnp 92 = 1 ∧ mL 92 = 2 := by decide +kernel
theorem cq_67_93 : 93 < 169 ∧ mdp 93 < mdp 67 ∧ mkd 93 = 1 ∧ mo 93 = 7 ∧ mnp 93 = 1 ∧ mL 93 = 2 := by decide +kernel
theorem cq_67_98 : 98 < 169 ∧ mdp 98 < mdp 67 ∧ mkd 98 = 0 ∧ mo 98 = 7 ∧ mnp 98 = 2 ∧ mL 98 = 2 := by decide +kernel
theorem cq_68_39 : 39 < 169 ∧ mdp 39 < mdp 68 ∧ mkd 39 = 1 ∧ mo 39 = 4 ∧ mnp 39 = 1 ∧ mL 39 = 5 := by decide +kernel
theorem cq_70_42 : 42 < 169 ∧ mdp 42 < mdp 70 ∧ mkd 42 = 1 ∧ mo 42 = 4 ∧ mnp 42 = 0 ∧ mL 42 = 3 := by decide +kernel
theorem cq_71_43 : 43 < 169 ∧ mdp 43 < mdp 71 ∧ mkd 43 = 1 ∧ mo 43 = 4 ∧ mnp 43 = 0 ∧ mL 43 = 3 := by decide +kernel
theorem cq_71_45 : 45 < 169 ∧ mdp 45 < mdp 71 ∧ mkd 45 = 1 ∧ mo 45 = 4 ∧ mnp 45 = 1 ∧ mL 45 = 3 := by decide +kernel
theorem cq_72_47 : 47 < 169 ∧ mdp 47 < mdp 72 ∧ mkd 47 = 1 ∧ mo 47 = 5 ∧ mnp 47 = 3 ∧ mL 47 = 9 := by decide +kernel
theorem cq_72_92 : 92 < 169 ∧ mdp 92 < mdp 72 ∧ mkd 92 = 1 ∧ mo 92 = 7 ∧ mnp 92 = 1 ∧ mL 92 = 2 := by decide +kernel
theorem cq_72_93 : 93 < 169 ∧ mdp 93 < mdp 72 ∧ mkd 93 = 1 ∧ mo 93 = 7 ∧ mnp 93 = 1 ∧ mL 93 = 2 := by decide +kernel
theorem cq_72_98 : 98 < 169 ∧ mdp 98 < mdp 72 ∧ mkd 98 = 0 ∧ mo 98 = 7 ∧ mnp 98 = 2 ∧ mL 98 = 2 := by decide +kernel
theorem cq_73_14 : 14 < 169 ∧ mdp 14 < mdp 73 ∧ mkd 14 = 1 ∧ mo 14 = 1 ∧ mnp 14 = 2 ∧ mL 14 = 4 := by decide +kernel
theorem cq_73_94 : 94 < 169 ∧ mdp 94 < mdp 73 ∧ mkd 94 = 1 ∧ mo 94 = 7 ∧ mnp 94 = 1 ∧ mL 94 = 2 := by decide +kernel
theorem cq_73_95 : 95 < 169 ∧ mdp 95 < mdp 73 ∧ mkd 95 = 1 ∧ mo 95 = 7 ∧ mnp 95 = 1 ∧ mL 95 = 2 := by decide +kernel
theorem cq_74_8 : 8 < 169 ∧ mdp 8 < mdp 74 ∧ mkd 8 = 1 ∧ mo 8 = 1 ∧ mnp 8 = 2 ∧ mL 8 = 5 := by decide +kernel
theorem cq_74_19 : 19 < 169 ∧ mdp 19 < mdp 74 ∧ mkd 19 = 1 ∧ mo 19 = 1 ∧ mnp 19 = 2 ∧ mL 19 = 3 := by decide +kernel
theorem cq_74_94 : 94 < 169 ∧ mdp 94 < mdp 74 ∧ mkd 94 = 1 ∧ mo 94 = 7 ∧ mnp 94 = 1 ∧ mL 94 = 2 := by decide +kernel
theorem cq_74_95 : 95 < 169 ∧ mdp 95 < mdp 74 ∧ mkd 95 = 1 ∧ mo 95 = 7 ∧ mnp 95 = 1 ∧ mL 95 = 2 := by decide +kernel
theorem cq_74_100 : 100 < 169 ∧ mdp 100 < mdp 74 ∧ mkd 100 = 0 ∧ mo 100 = 7 ∧ mnp 100 = 1 ∧ mL 100 = 1 := by decide +kernel
theorem cq_75_2 : 2 < 169 ∧ mdp 2 < mdp 75 ∧ mkd 2 = 1 ∧ mo 2 = 0 ∧ mnp 2 = 1 ∧ mL 2 = 4 := by decide +kernel
theorem cq_75_8 : 8 < 169 ∧ mdp 8 < mdp 75 ∧ mkd 8 = 1 ∧ mo 8 = 1 ∧ mnp 8 = 2 ∧ mL 8 = 5 := by decide +kernel
theorem cq_75_20 : 20 < 169 ∧ mdp 20 < mdp 75 ∧ mkd 20 = 1 ∧ mo 20 = 1 ∧ mnp 20 = 1 ∧ mL 20 = 5 := by decide +kernel
theorem cq_75_95 : 95 < 169 ∧ mdp 95 < mdp 75 ∧ mkd 95 = 1 ∧ mo 95 = 7 ∧ mnp 95 = 1 ∧ mL 95 = 2 := by decide +kernel
theorem cq_75_98 : 98 < 169 ∧ mdp 98 < mdp 75 ∧ mkd 98 = 0 ∧ mo 98 = 7 ∧ mnp 98 = 2 ∧ mL 98 = 2 := by decide +kernel
theorem cq_75_102 : 102 < 169 ∧ mdp 102 < mdp 75 ∧ mkd 102 = 0 ∧ mo 102 = 7 ∧ mnp 102 = 1 ∧ mL 102 = 1 := by decide +kernel
theorem cq_76_8 : 8 < 169 ∧ mdp 8 < mdp 76 ∧ mkd 8 = 1 ∧ mo 8 = 1 ∧ mnp 8 = 2 ∧ mL 8 = 5 := by decide +kernel
theorem cq_76_51 : 51 < 169 ∧ mdp 51 < mdp 76 ∧ mkd 51 = 1 ∧ mo 51 = 6 ∧ mnp 51 = 1 ∧ mL 51 = 4 := by decide +kernel
theorem cq_76_52 : 52 < 169 ∧ mdp 52 < mdp 76 ∧ mkd 52 = 1 ∧ mo 52 = 6 ∧ mnp 52 = 1 ∧ mL 52 = 2 := by decide +kernel
theorem cq_76_93 : 93 < 169 ∧ mdp 93 < mdp 76 ∧ mkd 93 = 1 ∧ mo 93 = 7 ∧ mnp 93 = 1 ∧ mL 93 = 2 := by decide +kernel
theorem cq_76_95 : 95 < 169 ∧ mdp 95 < mdp 76 ∧ mkd 95 = 1 ∧ mo 95 = 7 ∧ mnp 95 = 1 ∧ mL 95 = 2 := by decide +kernel
theorem cq_76_97 : 97 < 169 ∧ mdp 97 < mdp 76 ∧ mkd 97 = 0 ∧ mo 97 = 7 ∧ mnp 97 = 1 ∧ mL 97 = 1 := by decide +kernel
theorem cq_76_98 : 98 < 169 ∧ mdp 98 < mdp 76 ∧ mkd 98 = 0 ∧ mo 98 = 7 ∧ mnp 98 = 2 ∧ mL 98 = 2 := by decide +kernel
theorem cq_77_8 : 8 < 169 ∧ mdp 8 < mdp 77 ∧ mkd 8 = 1 ∧ mo 8 = 1 ∧ mnp 8 = 2 ∧ mL 8 = 5 := by decide +kernel
theorem cq_77_51 : 51 < 169 ∧ mdp 51 < mdp 77 ∧ mkd 51 = 1 ∧ mo 51 = 6 ∧ mnp 51 = 1 ∧ mL 51 = 4 := by decide +kernel
theorem cq_77_53 : 53 < 169 ∧ mdp 53 < mdp 77 ∧ mkd 53 = 1 ∧ mo 53 = 6 ∧ mnp 53 = 0 ∧ mL 53 = 5 := by decide +kernel
theorem cq_77_54 : 54 < 169 ∧ mdp 54 < mdp 77 ∧ mkd 54 = 1 ∧ mo 54 = 6 ∧ mnp 54 = 2 ∧ mL 54 = 6 := by decide +kernel
theorem cq_77_93 : 93 < 169 ∧ mdp 93 < mdp 77 ∧ mkd 93 = 1 ∧ mo 93 = 7 ∧ mnp 93 = 1 ∧ mL 93 = 2 := by decide +kernel
theorem cq_77_95 : 95 < 169 ∧ mdp 95 < mdp 77 ∧ mkd 95 = 1 ∧ mo 95 = 7 ∧ mnp 95 = 1 ∧ mL 95 = 2 := by decide +kernel
theorem cq_77_97 : 97 < 169 ∧ mdp 97 < mdp 77 ∧ mkd 97 = 0 ∧ mo 97 = 7 ∧ mnp 97 = 1 ∧ mL 97 = 1 := by decide +kernel
theorem cq_77_168 : 168 < 169 ∧ mdp 168 < mdp 77 ∧ mkd 168 = 0 ∧ mo 168 = 9 ∧ mnp 168 = 1 ∧ mL 168 = 1 := by decide +kernel
theorem cq_78_8 : 8 < 169 ∧ mdp 8 < mdp 78 ∧ mkd 8 = 1 ∧ mo 8 = 1 ∧ mnp 8 = 2 ∧ mL 8 = 5 := by decide +kernel
theorem cq_78_21 : 21 < 169 ∧ mdp 21 < mdp 78 ∧ mkd 21 = 1 ∧ mo 21 = 1 ∧ mnp 21 = 1 ∧ mL 21 = 4 := by decide +kernel
theorem cq_78_24 : 24 < 169 ∧ mdp 24 < mdp 78 ∧ mkd 24 = 1 ∧ mo 24 = 1 ∧ mnp 24 = 1 ∧ mL 24 = 7 := by decide +kernel
theorem cq_78_93 : 93 < 169 ∧ mdp 93 < mdp 78 ∧ mkd 93 = 1 ∧ mo 93 = 7 ∧ mnp 93 = 1 ∧ mL 93 = 2 := by decide +kernel
theorem cq_78_95 : 95 < 169 ∧ mdp 95 < mdp 78 ∧ mkd 95 = 1 ∧ mo 95 = 7 ∧ mnp 95 = 1 ∧ mL 95 = 2 := by decide +kernel
theorem cq_79_90 : 90 < 169 ∧ mdp 90 < mdp 79 ∧ mkd 90 = 1 ∧ mo 90 = 7 ∧ mnp 90 = 2 ∧ mL 90 = 3 := by decide +kernel
theorem cq_79_95 : 95 < 169 ∧ mdp 95 < mdp 79 ∧ mkd 95 = 1 ∧ mo 95 = 7 ∧ mnp 95 = 1 ∧ mL 95 = 2 := by decide +kernel
theorem cq_79_100 : 100 < 169 ∧ mdp 100 < mdp 79 ∧ mkd 100 = 0 ∧ mo 100 = 7 ∧ mnp 100 = 1 ∧ mL 100 = 1 := by decide +kernel
theorem cq_80_55 : 55 < 169 ∧ mdp 55 < mdp 80 ∧ mkd 55 = 1 ∧ mo 55 = 6 ∧ mnp 55 = 3 ∧ mL 55 = 8 := by decide +kernel
theorem cq_80_56 : 56 < 169 ∧ mdp 56 < mdp 80 ∧ mkd 56 = 1 ∧ mo 56 = 6 ∧ mnp 56 = 3 ∧ mL 56 = 7 := by decide +kernel
theorem cq_80_93 : 93 < 169 ∧ mdp 93 < mdp 80 ∧ mkd 93 = 1 ∧ mo 93 = 7 ∧ mnp 93 = 1 ∧ mL 93 = 2 := by decide +kernel
theorem cq_80_95 : 95 < 169 ∧ mdp 95 < mdp 80 ∧ mkd 95 = 1 ∧ mo 95 = 7 ∧ mnp 95 = 1 ∧ mL 95 = 2 := by decide +kernel
theorem cq_80_98 : 98 < 169 ∧ mdp 98 < mdp 80 ∧ mkd 98 = 0 ∧ mo 98 = 7 ∧ mnp 98 = 2 ∧ mL 98 = 2 := by decide +kernel
theorem cq_81_4 : 4 < 169 ∧ mdp 4 < mdp 81 ∧ mkd 4 = 1 ∧ mo 4 = 0 ∧ mnp 4 = 1 ∧ mL 4 = 4 := by decide +kernel
theorem cq_81_47 : 47 < 169 ∧ mdp 47 < mdp 81 ∧ mkd 47 = 1 ∧ mo 47 = 5 ∧ mnp 47 = 3 ∧ mL 47 = 9 := by decide +kernel
theorem cq_81_93 : 93 < 169 ∧ mdp 93 < mdp 81 ∧ mkd 93 = 1 ∧ mo 93 = 7 ∧ mnp 93 = 1 ∧ mL 93 = 2 := by decide +kernel
theorem cq_82_8 : 8 < 169 ∧ mdp 8 < mdp 82 ∧ mkd 8 = 1 ∧ mo 8 = 1 ∧ mnp 8 = 2 ∧ mL 8 = 5 := by decide +kernel
theorem cq_82_21 : 21 < 169 ∧ mdp 21 < mdp 82 ∧ mkd 21 = 1 ∧ mo 21 = 1 ∧ mnp 21 = 1 ∧ mL 21 = 4 := by decide +kernel
theorem cq_82_23 : 23 < 169 ∧ mdp 23 < mdp 82 ∧ mkd 23 = 1 ∧ mo 23 = 1 ∧ mnp 23 = 1 ∧ mL 23 = 4 := by decide +kernel
theorem cq_82_51 : 51 < 169 ∧ mdp 51 < mdp 82 ∧ mkd 51 = 1 ∧ mo 51 = 6 ∧ mnp 51 = 1 ∧ mL 51 = 4 := by decide +kernel
theorem cq_82_92 : 92 < 169 ∧ mdp 92 < mdp 82 ∧ mkd 92 = 1 ∧ mo 92 = 7 ∧ mnp 92 = 1 ∧ mL 92 = 2 := by decide +kernel
theorem cq_82_95 : 95 < 169 ∧ mdp 95 < mdp 82 ∧ mkd 95 = 1 ∧ mo 95 = 7 ∧ mnp 95 = 1 ∧ mL 95 = 2 := by decide +kernel
theorem cq_83_55 : 55 < 169 ∧ mdp 55 < mdp 83 ∧ mkd 55 = 1 ∧ mo 55 = 6 ∧ mnp 55 = 3 ∧ mL 55 = 8 := by decide +kernel
theorem cq_83_56 : 56 < 169 ∧ mdp 56 < mdp 83 ∧ mkd 56 = 1 ∧ mo 56 = 6 ∧ mnp 56 = 3 ∧ mL 56 = 7 := by decide +kernel
theorem cq_83_95 : 95 < 169 ∧ mdp 95 < mdp 83 ∧ mkd 95 = 1 ∧ mo 95 = 7 ∧ mnp 95 = 1 ∧ mL 95 = 2 := by decide +kernel
theorem cq_83_100 : 100 < 169 ∧ mdp 100 < mdp 83 ∧ mkd 100 = 0 ∧ mo 100 = 7 ∧ mnp 100 = 1 ∧ mL 100 = 1 := by decide +kernel
theorem cq_84_1 : 1 < 169 ∧ mdp 1 < mdp 84 ∧ mkd 1 = 1 ∧ mo 1 = 0 ∧ mnp 1 = 1 ∧ mL 1 = 3 := by decide +kernel
theorem cq_85_1 : 1 < 169 ∧ mdp 1 < mdp 85 ∧ mkd 1 = 1 ∧ mo 1 = 0 ∧ mnp 1 = 1 ∧ mL 1 = 3 := by decide +kernel
theorem cq_86_89 : 89 < 169 ∧ mdp 89 < mdp 86 ∧ mkd 89 = 1 ∧ mo 89 = 7 ∧ mnp 89 = 1 ∧ mL 89 = 2 := by decide +kernel
theorem cq_86_98 : 98 < 169 ∧ mdp 98 < mdp 86 ∧ mkd 98 = 0 ∧ mo 98 = 7 ∧ mnp 98 = 2 ∧ mL 98 = 2 := by decide +kernel
theorem cq_87_33 : 33 < 169 ∧ mdp 33 < mdp 87 ∧ mkd 33 = 1 ∧ mo 33 = 2 ∧ mnp 33 = 1 ∧ mL 33 = 2 := by decide +kernel
theorem cq_87_88 : 88 < 169 ∧ mdp 88 < mdp 87 ∧ mkd 88 = 1 ∧ mo 88 = 7 ∧ mnp 88 = 2 ∧ mL 88 = 7 := by decide +kernel
theorem cq_87_89 : 89 < 169 ∧ mdp 89 < mdp 87 ∧ mkd 89 = 1 ∧ mo 89 = 7 ∧ mnp 89 = 1 ∧ mL 89 = 2 := by decide +kernel
theorem cq_87_99 : 99 < 169 ∧ mdp 99 < mdp 87 ∧ mkd 99 = 0 ∧ mo 99 = 7 ∧ mnp 99 = 2 ∧ mL 99 = 3 := by decide +kernel
theorem cq_88_8 : 8 < 169 ∧ mdp 8 < mdp 88 ∧ mkd 8 = 1 ∧ mo 8 = 1 ∧ mnp 8 = 2 ∧ mL 8 = 5 := by decide +kernel
theorem cq_88_14 : 14 < 169 ∧ mdp 14 < mdp 88 ∧ mkd 14 = 1 ∧ mo 14 = 1 ∧ mnp 14 = 2 ∧ mL 14 = 4 := by decide +kernel
theorem cq_88_51 : 51 < 169 ∧ mdp 51 < mdp 88 ∧ mkd 51 = 1 ∧ mo 51 = 6 ∧ mnp 51 = 1 ∧ mL 51 = 4 := by decide +kernel
theorem cq_88_53 : 53 < 169 ∧ mdp 53 < mdp 88 ∧ mkd 53 = 1 ∧ mo 53 = 6 ∧ mnp 53 = 0 ∧ mL 53 = 5 := by decide +kernel
theorem cq_88_99 : 99 < 169 ∧ mdp 99 < mdp 88 ∧ mkd 99 = 0 ∧ mo 99 = 7 ∧ mnp 99 = 2 ∧ mL 99 = 3 := by decide +kernel
theorem cq_88_168 : 168 < 169 ∧ mdp 168 < mdp 88 ∧ mkd 168 = 0 ∧ mo 168 = 9 ∧ mnp 168 = 1 ∧ mL 168 = 1 := by decide +kernel
theorem cq_89_5 : 5 < 169 ∧ mdp 5 < mdp 89 ∧ mkd 5 = 1 ∧ mo 5 = 0 ∧ mnp 5 = 0 ∧ mL 5 = 3 := by decide +kernel
theorem cq_90_8 : 8 < 169 ∧ mdp 8 < mdp 90 ∧ mkd 8 = 1 ∧ mo 8 = 1 ∧ mnp 8 = 2 ∧ mL 8 = 5 := by decide +kernel
theorem cq_90_51 : 51 < 169 ∧ mdp 51 < mdp 90 ∧ mkd 51 = 1 ∧ mo 51 = 6 ∧ mnp 51 = 1 ∧ mL 51 = 4 := by decide +kernel
theorem cq_91_92 : 92 < 169 ∧ mdp 92 < mdp 91 ∧ mkd 92 = 1 ∧ mo 92 = 7 ∧ mnp 92 = 1 ∧ mL 92 = 2 := by decide +kernel
theorem cq_96_98 : 98 < 169 ∧ mdp 98 < mdp 96 ∧ mkd 98 = 0 ∧ mo 98 = 7 ∧ mnp 98 = 2 ∧ mL 98 = 2 := by decide +kernel
theorem cq_102_167 : 167 < 169 ∧ mdp 167 < mdp 102 ∧ mkd 167 = 0 ∧ mo 167 = 9 ∧ mnp 167 = 1 ∧ mL 167 = 2 := by decide +kernel
theorem cq_107_104 : 104 < 169 ∧ mdp 104 < mdp 107 ∧ mkd 104 = 0 ∧ mo 104 = 8 ∧ mnp 104 = 3 ∧ mL 104 = 6 := by decide +kernel
theorem cq_108_104 : 104 < 169 ∧ mdp 104 < mdp 108 ∧ mkd 104 = 0 ∧ mo 104 = 8 ∧ mnp 104 = 3 ∧ mL 104 = 6 := by decide +kernel
theorem cq_109_108 : 108 < 169 ∧ mdp 108 < mdp 109 ∧ mkd 108 = 1 ∧ mo 108 = 8 ∧ mnp 108 = 1 ∧ mL 108 = 2 := by decide +kernel
theorem cq_110_104 : 104 < 169 ∧ mdp 104 < mdp 110 ∧ mkd 104 = 0 ∧ mo 104 = 8 ∧ mnp 104 = 3 ∧ mL 104 = 6 := by decide +kernel
theorem cq_111_104 : 104 < 169 ∧ mdp 104 < mdp 111 ∧ mkd 104 = 0 ∧ mo 104 = 8 ∧ mnp 104 = 3 ∧ mL 104 = 6 := by decide +kernel
theorem cq_112_108 : 108 < 169 ∧ mdp 108 < mdp 112 ∧ mkd 108 = 1 ∧ mo 108 = 8 ∧ mnp 108 = 1 ∧ mL 108 = 2 := by decide +kernel
theorem cq_112_110 : 110 < 169 ∧ mdp 110 < mdp 112 ∧ mkd 110 = 1 ∧ mo 110 = 8 ∧ mnp 110 = 1 ∧ mL 110 = 2 := by decide +kernel
theorem cq_112_111 : 111 < 169 ∧ mdp 111 < mdp 112 ∧ mkd 111 = 0 ∧ mo 111 = 8 ∧ mnp 111 = 1 ∧ mL 111 = 1 := by decide +kernel
theorem cq_114_104 : 104 < 169 ∧ mdp 104 < mdp 114 ∧ mkd 104 = 0 ∧ mo 104 = 8 ∧ mnp 104 = 3 ∧ mL 104 = 6 := by decide +kernel
theorem cq_114_108 : 108 < 169 ∧ mdp 108 < mdp 114 ∧ mkd 108 = 1 ∧ mo 108 = 8 ∧ mnp 108 = 1 ∧ mL 108 = 2 := by decide +kernel
theorem cq_114_110 : 110 < 169 ∧ mdp 110 < mdp 114 ∧ mkd 110 = 1 ∧ mo 110 = 8 ∧ mnp 110 = 1 ∧ mL 110 = 2 := by decide +kernel
theorem cq_114_111 : 111 < 169 ∧ mdp 111 < mdp 114 ∧ mkd 111 = 0 ∧ mo 111 = 8 ∧ mnp 111 = 1 ∧ mL 111 = 1 := by decide +kernel
theorem cq_115_104 : 104 < 169 ∧ mdp 104 < mdp 115 ∧ mkd 104 = 0 ∧ mo 104 = 8 ∧ mnp 104 = 3 ∧ mL 104 = 6 := by decide +kernel
theorem cq_116_104 : 104 < 169 ∧ mdp 104 < mdp 116 ∧ mkd 104 = 0 ∧ mo 104 = 8 ∧ mnp 104 = 3 ∧ mL 104 = 6 := by decide +kernel
theorem cq_116_113 : 113 < 169 ∧ mdp 113 < mdp 116 ∧ mkd 113 = 1 ∧ mo 113 = 8 ∧ mnp 113 = 2 ∧ mL 113 = 3 := by decide +kernel
theorem cq_116_115 : 115 < 169 ∧ mdp 115 < mdp 116 ∧ mkd 115 = 1 ∧ mo 115 = 8 ∧ mnp 115 = 1 ∧ mL 115 = 2 := by decide +kernel
theorem cq_117_104 : 104 < 169 ∧ mdp 104 < mdp 117 ∧ mkd 104 = 0 ∧ mo 104 = 8 ∧ mnp 104 = 3 ∧ mL 104 = 6 := by decide +kernel
theorem cq_117_113 : 113 < 169 ∧ mdp 113 < mdp 117 ∧ mkd 113 = 1 ∧ mo 113 = 8 ∧ mnp 113 = 2 ∧ mL 113 = 3 := by decide +kernel
theorem cq_117_115 : 115 < 169 ∧ mdp 115 < mdp 117 ∧ mkd 115 = 1 ∧ mo 115 = 8 ∧ mnp 115 = 1 ∧ mL 115 = 2 := by decide +kernel
theorem cq_118_104 : 104 < 169 ∧ mdp 104 < mdp 118 ∧ mkd 104 = 0 ∧ mo 104 = 8 ∧ mnp 104 = 3 ∧ mL 104 = 6 := by decide +kernel
theorem cq_119_104 : 104 < 169 ∧ mdp 104 < mdp 119 ∧ mkd 104 = 0 ∧ mo 104 = 8 ∧ mnp 104 = 3 ∧ mL 104 = 6 := by decide +kernel
theorem cq_119_113 : 113 < 169 ∧ mdp 113 < mdp 119 ∧ mkd 113 = 1 ∧ mo 113 = 8 ∧ mnp 113 = 2 ∧ mL 113 = 3 := by decide +kernel
theorem cq_119_115 : 115 < 169 ∧ mdp 115 < mdp 119 ∧ mkd 115 = 1 ∧ mo 115 = 8 ∧ mnp 115 = 1 ∧ mL 115 = 2 := by decide +kernel
theorem cq_119_118 : 118 < 169 ∧ mdp 118 < mdp 119 ∧ mkd 118 = 0 ∧ mo 118 = 8 ∧ mnp 118 = 1 ∧ mL 118 = 1 := by decide +kernel
theorem cq_120_113 : 113 < 169 ∧ mdp 113 < mdp 120 ∧ mkd 113 = 1 ∧ mo 113 = 8 ∧ mnp 113 = 2 ∧ mL 113 = 3 := by decide +kernel
theorem cq_120_115 : 115 < 169 ∧ mdp 115 < mdp 120 ∧ mkd 115 = 1 ∧ mo 115 = 8 ∧ mnp 115 = 1 ∧ mL 115 = 2 := by decide +kernel
theorem cq_121_104 : 104 < 169 ∧ mdp 104 < mdp 121 ∧ mkd 104 = 0 ∧ mo 104 = 8 ∧ mnp 104 = 3 ∧ mL 104 = 6 := by decide +kernel
theorem cq_121_113 : 113 < 169 ∧ mdp 113 < mdp 121 ∧ mkd 113 = 1 ∧ mo 113 = 8 ∧ mnp 113 = 2 ∧ mL 113 = 3 := by decide +kernel
theorem cq_121_115 : 115 < 169 ∧ mdp 115 < mdp 121 ∧ mkd 115 = 1 ∧ mo 115 = 8 ∧ mnp 115 = 1 ∧ mL 115 = 2 := by decide +kernel
theorem cq_124_104 : 104 < 169 ∧ mdp 104 < mdp 124 ∧ mkd 104 = 0 ∧ mo 104 = 8 ∧ mnp 104 = 3 ∧ mL 104 = 6 := by decide +kernel
theorem cq_125_124 : 124 < 169 ∧ mdp 124 < mdp 125 ∧ mkd 124 = 1 ∧ mo 124 = 8 ∧ mnp 124 = 1 ∧ mL 124 = 4 := by decide +kernel
theorem cq_126_125 : 125 < 169 ∧ mdp 125 < mdp 126 ∧ mkd 125 = 1 ∧ mo 125 = 8 ∧ mnp 125 = 0 ∧ mL 125 = 2 := by decide +kernel
theorem cq_127_125 : 125 < 169 ∧ mdp 125 < mdp 127 ∧ mkd 125 = 1 ∧ mo 125 = 8 ∧ mnp 125 = 0 ∧ mL 125 = 2 := by decide +kernel
theorem cq_128_104 : 104 < 169 ∧ mdp 104 < mdp 128 ∧ mkd 104 = 0 ∧ mo 104 = 8 ∧ mnp 104 = 3 ∧ mL 104 = 6 := by decide +kernel
theorem cq_129_113 : 113 < 169 ∧ mdp 113 < mdp 129 ∧ mkd 113 = 1 ∧ mo 113 = 8 ∧ mnp 113 = 2 ∧ mL 113 = 3 := by decide +kernel
theorem cq_130_113 : 113 < 169 ∧ mdp 113 < mdp 130 ∧ mkd 113 = 1 ∧ mo 113 = 8 ∧ mnp 113 = 2 ∧ mL 113 = 3 := by decide +kernel
theorem cq_131_105 : 105 < 169 ∧ mdp 105 < mdp 131 ∧ mkd 105 = 0 ∧ mo 105 = 8 ∧ mnp 105 = 2 ∧ mL 105 = 2 := by decide +kernel
theorem cq_131_113 : 113 < 169 ∧ mdp 113 < mdp 131 ∧ mkd 113 = 1 ∧ mo 113 = 8 ∧ mnp 113 = 2 ∧ mL 113 = 3 := by decide +kernel
theorem cq_131_129 : 129 < 169 ∧ mdp 129 < mdp 131 ∧ mkd 129 = 1 ∧ mo 129 = 8 ∧ mnp 129 = 1 ∧ mL 129 = 2 := by decide +kernel
theorem cq_131_130 : 130 < 169 ∧ mdp 130 < mdp 131 ∧ mkd 130 = 1 ∧ mo 130 = 8 ∧ mnp 130 = 1 ∧ mL 130 = 2 := by decide +kernel
theorem cq_132_104 : 104 < 169 ∧ mdp 104 < mdp 132 ∧ mkd 104 = 0 ∧ mo 104 = 8 ∧ mnp 104 = 3 ∧ mL 104 = 6 := by decide +kernel
theorem cq_132_113 : 113 < 169 ∧ mdp 113 < mdp 132 ∧ mkd 113 = 1 ∧ mo 113 = 8 ∧ mnp 113 = 2 ∧ mL 113 = 3 := by decide +kernel
theorem cq_132_130 : 130 < 169 ∧ mdp 130 < mdp 132 ∧ mkd 130 = 1 ∧ mo 130 = 8 ∧ mnp 130 = 1 ∧ mL 130 = 2 := by decide +kernel
theorem cq_133_113 : 113 < 169 ∧ mdp 113 < mdp 133 ∧ mkd 113 = 1 ∧ mo 113 = 8 ∧ mnp 113 = 2 ∧ mL 113 = 3 := by decide +kernel
theorem cq_133_131 : 131 < 169 ∧ mdp 131 < mdp 133 ∧ mkd 131 = 1 ∧ mo 131 = 8 ∧ mnp 131 = 4 ∧ mL 131 = 8 := by decide +kernel
theorem cq_133_132 : 132 < 169 ∧ mdp 132 < mdp 133 ∧ mkd 132 = 1 ∧ mo 132 = 8 ∧ mnp 132 = 4 ∧ mL 132 = 8 := by decide +kernel
theorem cq_134_104 : 104 < 169 ∧ mdp 104 < mdp 134 ∧ mkd 104 = 0 ∧ mo 104 = 8 ∧ mnp 104 = 3 ∧ mL 104 = 6 := by decide +kernel
theorem cq_134_108 : 108 < 169 ∧ mdp 108 < mdp 134 ∧ mkd 108 = 1 ∧ mo 108 = 8 ∧ mnp 108 = 1 ∧ mL 108 = 2 := by decide +kernel
theorem cq_134_110 : 110 < 169 ∧ mdp 110 < mdp 134 ∧ mkd 110 = 1 ∧ mo 110 = 8 ∧ mnp 110 = 1 ∧ mL 110 = 2 := by decide +kernel
theorem cq_134_111 : 111 < 169 ∧ mdp 111 < mdp 134 ∧ mkd 111 = 0 ∧ mo 111 = 8 ∧ mnp 111 = 1 ∧ mL 111 = 1 := by decide +kernel
theorem cq_134_133 : 133 < 169 ∧ mdp 133 < mdp 134 ∧ mkd 133 = 1 ∧ mo 133 = 8 ∧ mnp 133 = 3 ∧ mL 133 = 9 := by decide +kernel
theorem cq_135_113 : 113 < 169 ∧ mdp 113 < mdp 135 ∧ mkd 113 = 1 ∧ mo 113 = 8 ∧ mnp 113 = 2 ∧ mL 113 = 3 := by decide +kernel
theorem cq_136_105 : 105 < 169 ∧ mdp 105 < mdp 136 ∧ mkd 105 = 0 ∧ mo 105 = 8 ∧ mnp 105 = 2 ∧ mL 105 = 2 := by decide +kernel
theorem cq_136_113 : 113 < 169 ∧ mdp 113 < mdp 136 ∧ mkd 113 = 1 ∧ mo 113 = 8 ∧ mnp 113 = 2 ∧ mL 113 = 3 := by decide +kernel
theorem cq_136_130 : 130 < 169 ∧ mdp 130 < mdp 136 ∧ mkd 130 = 1 ∧ mo 130 = 8 ∧ mnp 130 = 1 ∧ mL 130 = 2 := by decide +kernel
theorem cq_136_133 : 133 < 169 ∧ mdp 133 < mdp 136 ∧ mkd 133 = 1 ∧ mo 133 = 8 ∧ mnp 133 = 3 ∧ mL 133 = 9 := by decide +kernel
theorem cq_136_135 : 135 < 169 ∧ mdp 135 < mdp 136 ∧ mkd 135 = 1 ∧ mo 135 = 8 ∧ mnp 135 = 2 ∧ mL 135 = 3 := by decide +kernel
theorem cq_137_136 : 136 < 169 ∧ mdp 136 < mdp 137 ∧ mkd 136 = 1 ∧ mo 136 = 8 ∧ mnp 136 = 2 ∧ mL 136 = 8 := by decide +kernel
theorem cq_138_115 : 115 < 169 ∧ mdp 115 < mdp 138 ∧ mkd 115 = 1 ∧ mo 115 = 8 ∧ mnp 115 = 1 ∧ mL 115 = 2 := by decide +kernel
theorem cq_138_128 : 128 < 169 ∧ mdp 128 < mdp 138 ∧ mkd 128 = 1 ∧ mo 128 = 8 ∧ mnp 128 = 1 ∧ mL 128 = 2 := by decide +kernel
theorem cq_138_136 : 136 < 169 ∧ mdp 136 < mdp 138 ∧ mkd 136 = 1 ∧ mo 136 = 8 ∧ mnp 136 = 2 ∧ mL 136 = 8 := by decide +kernel
theorem cq_139_113 : 113 < 169 ∧ mdp 113 < mdp 139 ∧ mkd 113 = 1 ∧ mo 113 = 8 ∧ mnp 113 = 2 ∧ mL 113 = 3 := by decide +kernel
theorem cq_140_113 : 113 < 169 ∧ mdp 113 < mdp 140 ∧ mkd 113 = 1 ∧ mo 113 = 8 ∧ mnp 113 = 2 ∧ mL 113 = 3 := by decide +kernel
theorem cq_141_105 : 105 < 169 ∧ mdp 105 < mdp 141 ∧ mkd 105 = 0 ∧ mo 105 = 8 ∧ mnp 105 = 2 ∧ mL 105 = 2 := by decide +kernel
theorem cq_141_139 : 139 < 169 ∧ mdp 139 < mdp 141 ∧ mkd 139 = 1 ∧ mo 139 = 8 ∧ mnp 139 = 1 ∧ mL 139 = 3 := by decide +kernel
theorem cq_141_140 : 140 < 169 ∧ mdp 140 < mdp 141 ∧ mkd 140 = 1 ∧ mo 140 = 8 ∧ mnp 140 = 1 ∧ mL 140 = 3 := by decide +kernel
theorem cq_142_135 : 135 < 169 ∧ mdp 135 < mdp 142 ∧ mkd 135 = 1 ∧ mo 135 = 8 ∧ mnp 135 = 2 ∧ mL 135 = 3 := by decide +kernel
theorem cq_142_141 : 141 < 169 ∧ mdp 141 < mdp 142 ∧ mkd 141 = 1 ∧ mo 141 = 8 ∧ mnp 141 = 2 ∧ mL 141 = 8 := by decide +kernel
theorem cq_143_113 : 113 < 169 ∧ mdp 113 < mdp 143 ∧ mkd 113 = 1 ∧ mo 113 = 8 ∧ mnp 113 = 2 ∧ mL 113 = 3 := by decide +kernel
theorem cq_143_115 : 115 < 169 ∧ mdp 115 < mdp 143 ∧ mkd 115 = 1 ∧ mo 115 = 8 ∧ mnp 115 = 1 ∧ mL 115 = 2 := by decide +kernel
theorem cq_143_128 : 128 < 169 ∧ mdp 128 < mdp 143 ∧ mkd 128 = 1 ∧ mo 128 = 8 ∧ mnp 128 = 1 ∧ mL 128 = 2 := by decide +kernel
theorem cq_143_137 : 137 < 169 ∧ mdp 137 < mdp 143 ∧ mkd 137 = 1 ∧ mo 137 = 8 ∧ mnp 137 = 1 ∧ mL 137 = 3 := by decide +kernel
theorem cq_143_142 : 142 < 169 ∧ mdp 142 < mdp 143 ∧ mkd 142 = 1 ∧ mo 142 = 8 ∧ mnp 142 = 2 ∧ mL 142 = 3 := by decide +kernel
theorem cq_144_105 : 105 < 169 ∧ mdp 105 < mdp 144 ∧ mkd 105 = 0 ∧ mo 105 = 8 ∧ mnp 105 = 2 ∧ mL 105 = 2 := by decide +kernel
theorem cq_144_135 : 135 < 169 ∧ mdp 135 < mdp 144 ∧ mkd 135 = 1 ∧ mo 135 = 8 ∧ mnp 135 = 2 ∧ mL 135 = 3 := by decide +kernel
theorem cq_144_142 : 142 < 169 ∧ mdp 142 < mdp 144 ∧ mkd 142 = 1 ∧ mo 142 = 8 ∧ mnp 142 = 2 ∧ mL 142 = 3 := by decide +kernel
theorem cq_145_104 : 104 < 169 ∧ mdp 104 < mdp 145 ∧ mkd 104 = 0 ∧ mo 104 = 8 ∧ mnp 104 = 3 ∧ mL 104 = 6 := by decide +kernel
theorem cq_145_105 : 105 < 169 ∧ mdp 105 < mdp 145 ∧ mkd 105 = 0 ∧ mo 105 = 8 ∧ mnp 105 = 2 ∧ mL 105 = 2 := by decide +kernel
theorem cq_145_113 : 113 < 169 ∧ mdp 113 < mdp 145 ∧ mkd 113 = 1 ∧ mo 113 = 8 ∧ mnp 113 = 2 ∧ mL 113 = 3 := by decide +kernel
theorem cq_145_128 : 128 < 169 ∧ mdp 128 < mdp 145 ∧ mkd 128 = 1 ∧ mo 128 = 8 ∧ mnp 128 = 1 ∧ mL 128 = 2 := by decide +kernel
theorem cq_145_137 : 137 < 169 ∧ mdp 137 < mdp 145 ∧ mkd 137 = 1 ∧ mo 137 = 8 ∧ mnp 137 = 1 ∧ mL 137 = 3 := by decide +kernel
theorem cq_145_144 : 144 < 169 ∧ mdp 144 < mdp 145 ∧ mkd 144 = 1 ∧ mo 144 = 8 ∧ mnp 144 = 1 ∧ mL 144 = 7 := by decide +kernel
theorem cq_146_105 : 105 < 169 ∧ mdp 105 < mdp 146 ∧ mkd 105 = 0 ∧ mo 105 = 8 ∧ mnp 105 = 2 ∧ mL 105 = 2 := by decide +kernel
theorem cq_146_113 : 113 < 169 ∧ mdp 113 < mdp 146 ∧ mkd 113 = 1 ∧ mo 113 = 8 ∧ mnp 113 = 2 ∧ mL 113 = 3 := by decide +kernel
theorem cq_146_129 : 129 < 169 ∧ mdp 129 < mdp 146 ∧ mkd 129 = 1 ∧ mo 129 = 8 ∧ mnp 129 = 1 ∧ mL 129 = 2 := by decide +kernel
theorem cq_147_113 : 113 < 169 ∧ mdp 113 < mdp 147 ∧ mkd 113 = 1 ∧ mo 113 = 8 ∧ mnp 113 = 2 ∧ mL 113 = 3 := by decide +kernel
theorem cq_147_144 : 144 < 169 ∧ mdp 144 < mdp 147 ∧ mkd 144 = 1 ∧ mo 144 = 8 ∧ mnp 144 = 1 ∧ mL 144 = 7 := by decide +kernel
theorem cq_147_146 : 146 < 169 ∧ mdp 146 < mdp 147 ∧ mkd 146 = 1 ∧ mo 146 = 8 ∧ mnp 146 = 3 ∧ mL 146 = 7 := by decide +kernel
theorem cq_148_104 : 104 < 169 ∧ mdp 104 < mdp 148 ∧ mkd 104 = 0 ∧ mo 104 = 8 ∧ mnp 104 = 3 ∧ mL 104 = 6 := by decide +kernel
theorem cq_148_110 : 110 < 169 ∧ mdp 110 < mdp 148 ∧ mkd 110 = 1 ∧ mo 110 = 8 ∧ mnp 110 = 1 ∧ mL 110 = 2 := by decide +kernel
theorem cq_148_128 : 128 < 169 ∧ mdp 128 < mdp 148 ∧ mkd 128 = 1 ∧ mo 128 = 8 ∧ mnp 128 = 1 ∧ mL 128 = 2 := by decide +kernel
theorem cq_148_137 : 137 < 169 ∧ mdp 137 < mdp 148 ∧ mkd 137 = 1 ∧ mo 137 = 8 ∧ mnp 137 = 1 ∧ mL 137 = 3 := by decide +kernel
theorem cq_148_147 : 147 < 169 ∧ mdp 147 < mdp 148 ∧ mkd 147 = 1 ∧ mo 147 = 8 ∧ mnp 147 = 1 ∧ mL 147 = 6 := by decide +kernel
theorem cq_149_105 : 105 < 169 ∧ mdp 105 < mdp 149 ∧ mkd 105 = 0 ∧ mo 105 = 8 ∧ mnp 105 = 2 ∧ mL 105 = 2 := by decide +kernel
theorem cq_149_113 : 113 < 169 ∧ mdp 113 < mdp 149 ∧ mkd 113 = 1 ∧ mo 113 = 8 ∧ mnp 113 = 2 ∧ mL 113 = 3 := by decide +kernel
theorem cq_149_142 : 142 < 169 ∧ mdp 142 < mdp 149 ∧ mkd 142 = 1 ∧ mo 142 = 8 ∧ mnp 142 = 2 ∧ mL 142 = 3 := by decide +kernel
theorem cq_149_147 : 147 < 169 ∧ mdp 147 < mdp 149 ∧ mkd 147 = 1 ∧ mo 147 = 8 ∧ mnp 147 = 1 ∧ mL 147 = 6 := by decide +kernel
theorem cq_150_104 : 104 < 169 ∧ mdp 104 < mdp 150 ∧ mkd 104 = 0 ∧ mo 104 = 8 ∧ mnp 104 = 3 ∧ mL 104 = 6 := by decide +kernel
theorem cq_150_106 : 106 < 169 ∧ mdp 106 < mdp 150 ∧ mkd 106 = 0 ∧ mo 106 = 8 ∧ mnp 106 = 1 ∧ mL 106 = 3 := by decide +kernel
theorem cq_150_110 : 110 < 169 ∧ mdp 110 < mdp 150 ∧ mkd 110 = 1 ∧ mo 110 = 8 ∧ mnp 110 = 1 ∧ mL 110 = 2 := by decide +kernel
theorem cq_150_128 : 128 < 169 ∧ mdp 128 < mdp 150 ∧ mkd 128 = 1 ∧ mo 128 = 8 ∧ mnp 128 = 1 ∧ mL 128 = 2 := by decide +kernel
theorem cq_150_137 : 137 < 169 ∧ mdp 137 < mdp 150 ∧ mkd 137 = 1 ∧ mo 137 = 8 ∧ mnp 137 = 1 ∧ mL 137 = 3 := by decide +kernel
theorem cq_150_144 : 144 < 169 ∧ mdp 144 < mdp 150 ∧ mkd 144 = 1 ∧ mo 144 = 8 ∧ mnp 144 = 1 ∧ mL 144 = 7 := by decide +kernel
theorem cq_150_149 : 149 < 169 ∧ mdp 149 < mdp 150 ∧ mkd 149 = 1 ∧ mo 149 = 8 ∧ mnp 149 = 1 ∧ mL 149 = 7 := by decide +kernel
theorem cq_151_142 : 142 < 169 ∧ mdp 142 < mdp 151 ∧ mkd 142 = 1 ∧ mo 142 = 8 ∧ mnp 142 = 2 ∧ mL 142 = 3 := by decide +kernel
theorem cq_152_110 : 110 < 169 ∧ mdp 110 < mdp 152 ∧ mkd 110 = 1 ∧ mo 110 = 8 ∧ mnp 110 = 1 ∧ mL 110 = 2 := by decide +kernel
theorem cq_152_113 : 113 < 169 ∧ mdp 113 < mdp 152 ∧ mkd 113 = 1 ∧ mo 113 = 8 ∧ mnp 113 = 2 ∧ mL 113 = 3 := by decide +kernel
theorem cq_152_128 : 128 < 169 ∧ mdp 128 < mdp 152 ∧ mkd 128 = 1 ∧ mo 128 = 8 ∧ mnp 128 = 1 ∧ mL 128 = 2 := by decide +kernel
theorem cq_152_129 : 129 < 169 ∧ mdp 129 < mdp 152 ∧ mkd 129 = 1 ∧ mo 129 = 8 ∧ mnp 129 = 1 ∧ mL 129 = 2 := by decide +kernel
theorem cq_152_137 : 137 < 169 ∧ mdp 137 < mdp 152 ∧ mkd 137 = 1 ∧ mo 137 = 8 ∧ mnp 137 = 1 ∧ mL 137 = 3 := by decide +kernel
theorem cq_152_151 : 151 < 169 ∧ mdp 151 < mdp 152 ∧ mkd 151 = 1 ∧ mo 151 = 8 ∧ mnp 151 = 3 ∧ mL 151 = 4 := by decide +kernel
theorem cq_153_128 : 128 < 169 ∧ mdp 128 < mdp 153 ∧ mkd 128 = 1 ∧ mo 128 = 8 ∧ mnp 128 = 1 ∧ mL 128 = 2 := by decide +kernel
theorem cq_153_137 : 137 < 169 ∧ mdp 137 < mdp 153 ∧ mkd 137 = 1 ∧ mo 137 = 8 ∧ mnp 137 = 1 ∧ mL 137 = 3 := by decide +kernel
theorem cq_153_147 : 147 < 169 ∧ mdp 147 < mdp 153 ∧ mkd 147 = 1 ∧ mo 147 = 8 ∧ mnp 147 = 1 ∧ mL 147 = 6 := by decide +kernel
theorem cq_154_113 : 113 < 169 ∧ mdp 113 < mdp 154 ∧ mkd 113 = 1 ∧ mo 113 = 8 ∧ mnp 113 = 2 ∧ mL 113 = 3 := by decide +kernel
theorem cq_154_137 : 137 < 169 ∧ mdp 137 < mdp 154 ∧ mkd 137 = 1 ∧ mo 137 = 8 ∧ mnp 137 = 1 ∧ mL 137 = 3 := by decide +kernel
theorem cq_154_147 : 147 < 169 ∧ mdp 147 < mdp 154 ∧ mkd 147 = 1 ∧ mo 147 = 8 ∧ mnp 147 = 1 ∧ mL 147 = 6 := by decide +kernel
theorem cq_155_113 : 113 < 169 ∧ mdp 113 < mdp 155 ∧ mkd 113 = 1 ∧ mo 113 = 8 ∧ mnp 113 = 2 ∧ mL 113 = 3 := by decide +kernel
theorem cq_155_135 : 135 < 169 ∧ mdp 135 < mdp 155 ∧ mkd 135 = 1 ∧ mo 135 = 8 ∧ mnp 135 = 2 ∧ mL 135 = 3 := by decide +kernel
theorem cq_155_137 : 137 < 169 ∧ mdp 137 < mdp 155 ∧ mkd 137 = 1 ∧ mo 137 = 8 ∧ mnp 137 = 1 ∧ mL 137 = 3 := by decide +kernel
theorem cq_155_147 : 147 < 169 ∧ mdp 147 < mdp 155 ∧ mkd 147 = 1 ∧ mo 147 = 8 ∧ mnp 147 = 1 ∧ mL 147 = 6 := by decide +kernel
theorem cq_156_104 : 104 < 169 ∧ mdp 104 < mdp 156 ∧ mkd 104 = 0 ∧ mo 104 = 8 ∧ mnp 104 = 3 ∧ mL 104 = 6 := by decide +kernel
theorem cq_156_110 : 110 < 169 ∧ mdp 110 < mdp 156 ∧ mkd 110 = 1 ∧ mo 110 = 8 ∧ mnp 110 = 1 ∧ mL 110 = 2 := by decide +kernel
theorem cq_156_128 : 128 < 169 ∧ mdp 128 < mdp 156 ∧ mkd 128 = 1 ∧ mo 128 = 8 ∧ mnp 128 = 1 ∧ mL 128 = 2 := by decide +kernel
theorem cq_156_154 : 154 < 169 ∧ mdp 154 < mdp 156 ∧ mkd 154 = 1 ∧ mo 154 = 8 ∧ mnp 154 = 2 ∧ mL 154 = 7 := by decide +kernel
theorem cq_156_155 : 155 < 169 ∧ mdp 155 < mdp 156 ∧ mkd 155 = 1 ∧ mo 155 = 8 ∧ mnp 155 = 2 ∧ mL 155 = 9 := by decide +kernel
theorem cq_157_105 : 105 < 169 ∧ mdp 105 < mdp 157 ∧ mkd 105 = 0 ∧ mo 105 = 8 ∧ mnp 105 = 2 ∧ mL 105 = 2 := by decide +kernel
theorem cq_157_110 : 110 < 169 ∧ mdp 110 < mdp 157 ∧ mkd 110 = 1 ∧ mo 110 = 8 ∧ mnp 110 = 1 ∧ mL 110 = 2 := by decide +kernel
theorem cq_157_113 : 113 < 169 ∧ mdp 113 < mdp 157 ∧ mkd 113 = 1 ∧ mo 113 = 8 ∧ mnp 113 = 2 ∧ mL 113 = 3 := by decide +kernel
theorem cq_157_129 : 129 < 169 ∧ mdp 129 < mdp 157 ∧ mkd 129 = 1 ∧ mo 129 = 8 ∧ mnp 129 = 1 ∧ mL 129 = 2 := by decide +kernel
theorem cq_157_133 : 133 < 169 ∧ mdp 133 < mdp 157 ∧ mkd 133 = 1 ∧ mo 133 = 8 ∧ mnp 133 = 3 ∧ mL 133 = 9 := by decide +kernel
theorem cq_158_105 : 105 < 169 ∧ mdp 105 < mdp 158 ∧ mkd 105 = 0 ∧ mo 105 = 8 ∧ mnp 105 = 2 ∧ mL 105 = 2 := by decide +kernel
theorem cq_158_108 : 108 < 169 ∧ mdp 108 < mdp 158 ∧ mkd 108 = 1 ∧ mo 108 = 8 ∧ mnp 108 = 1 ∧ mL 108 = 2 := by decide +kernel
theorem cq_158_113 : 113 < 169 ∧ mdp 113 < mdp 158 ∧ mkd 113 = 1 ∧ mo 113 = 8 ∧ mnp 113 = 2 ∧ mL 113 = 3 := by decide +kernel
theorem cq_158_128 : 128 < 169 ∧ mdp 128 < mdp 158 ∧ mkd 128 = 1 ∧ mo 128 = 8 ∧ mnp 128 = 1 ∧ mL 128 = 2 := by decide +kernel
theorem cq_158_129 : 129 < 169 ∧ mdp 129 < mdp 158 ∧ mkd 129 = 1 ∧ mo 129 = 8 ∧ mnp 129 = 1 ∧ mL 129 = 2 := by decide +kernel
theorem cq_158_137 : 137 < 169 ∧ mdp 137 < mdp 158 ∧ mkd 137 = 1 ∧ mo 137 = 8 ∧ mnp 137 = 1 ∧ mL 137 = 3 := by decide +kernel
theorem cq_158_140 : 140 < 169 ∧ mdp 140 < mdp 158 ∧ mkd 140 = 1 ∧ mo 140 = 8 ∧ mnp 140 = 1 ∧ mL 140 = 3 := by decide +kernel
theorem cq_158_147 : 147 < 169 ∧ mdp 147 < mdp 158 ∧ mkd 147 = 1 ∧ mo 147 = 8 ∧ mnp 147 = 1 ∧ mL 147 = 6 := by decide +kernel
theorem cq_159_128 : 128 < 169 ∧ mdp 128 < mdp 159 ∧ mkd 128 = 1 ∧ mo 128 = 8 ∧ mnp 128 = 1 ∧ mL 128 = 2 := by decide +kernel
theorem cq_159_154 : 154 < 169 ∧ mdp 154 < mdp 159 ∧ mkd 154 = 1 ∧ mo 154 = 8 ∧ mnp 154 = 2 ∧ mL 154 = 7 := by decide +kernel
theorem cq_159_155 : 155 < 169 ∧ mdp 155 < mdp 159 ∧ mkd 155 = 1 ∧ mo 155 = 8 ∧ mnp 155 = 2 ∧ mL 155 = 9 := by decide +kernel
theorem cq_162_113 : 113 < 169 ∧ mdp 113 < mdp 162 ∧ mkd 113 = 1 ∧ mo 113 = 8 ∧ mnp 113 = 2 ∧ mL 113 = 3 := by decide +kernel
theorem cq_163_162 : 162 < 169 ∧ mdp 162 < mdp 163 ∧ mkd 162 = 1 ∧ mo 162 = 8 ∧ mnp 162 = 1 ∧ mL 162 = 4 := by decide +kernel
theorem cq_165_106 : 106 < 169 ∧ mdp 106 < mdp 165 ∧ mkd 106 = 0 ∧ mo 106 = 8 ∧ mnp 106 = 1 ∧ mL 106 = 3 := by decide +kernel
theorem cq_165_137 : 137 < 169 ∧ mdp 137 < mdp 165 ∧ mkd 137 = 1 ∧ mo 137 = 8 ∧ mnp 137 = 1 ∧ mL 137 = 3 := by decide +kernel
theorem cq_165_147 : 147 < 169 ∧ mdp 147 < mdp 165 ∧ mkd 147 = 1 ∧ mo 147 = 8 ∧ mnp 147 = 1 ∧ mL 147 = 6 := by decide +kernel
theorem cq_165_149 : 149 < 169 ∧ mdp 149 < mdp 165 ∧ mkd 149 = 1 ∧ mo 149 = 8 ∧ mnp 149 = 1 ∧ mL 149 = 7 := by decide +kernel
theorem cq_165_164 : 164 < 169 ∧ mdp 164 < mdp 165 ∧ mkd 164 = 1 ∧ mo 164 = 8 ∧ mnp 164 = 1 ∧ mL 164 = 3 := by decide +kernel
theorem cq_166_113 : 113 < 169 ∧ mdp 113 < mdp 166 ∧ mkd 113 = 1 ∧ mo 113 = 8 ∧ mnp 113 = 2 ∧ mL 113 = 3 := by decide +kernel
theorem cq_166_162 : 162 < 169 ∧ mdp 162 < mdp 166 ∧ mkd 162 = 1 ∧ mo 162 = 8 ∧ mnp 162 = 1 ∧ mL 162 = 4 := by decide +kernel
theorem cq_166_164 : 164 < 169 ∧ mdp 164 < mdp 166 ∧ mkd 164 = 1 ∧ mo 164 = 8 ∧ mnp 164 = 1 ∧ mL 164 = 3 := by decide +kernel
theorem cq_166_165 : 165 < 169 ∧ mdp 165 < mdp 166 ∧ mkd 165 = 1 ∧ mo 165 = 8 ∧ mnp 165 = 1 ∧ mL 165 = 3 := by decide +kernel
