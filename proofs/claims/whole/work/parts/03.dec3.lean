theorem dX8_isBeaten_19 : decode cX8_isBeaten 19 = .ok (.goto 4, 3) := by decide +kernel
theorem dX8_isBeaten_22 : decode cX8_isBeaten 22 = .ok (.iconst 0, 1) := by decide +kernel
theorem dX8_isBeaten_23 : decode cX8_isBeaten 23 = .ok (.ireturn, 1) := by decide +kernel
theorem dX8_rings_0 : decode cX8_rings 0 = .ok (.aload_n 0, 1) := by decide +kernel
theorem dX8_rings_1 : decode cX8_rings 1 = .ok (.iload_n 1, 1) := by decide +kernel
theorem dX8_rings_2 : decode cX8_rings 2 = .ok (.invokevirtual 182, 3) := by decide +kernel
theorem dX8_rings_5 : decode cX8_rings 5 = .ok (.ifCond .eq 11, 3) := by decide +kernel
theorem dX8_rings_8 : decode cX8_rings 8 = .ok (.aload_n 0, 1) := by decide +kernel
theorem dX8_rings_9 : decode cX8_rings 9 = .ok (.iload_n 2, 1) := by decide +kernel
theorem dX8_rings_10 : decode cX8_rings 10 = .ok (.invokevirtual 81, 3) := by decide +kernel
theorem dX8_rings_13 : decode cX8_rings 13 = .ok (.ifCond .ne 6, 3) := by decide +kernel
theorem dX8_rings_16 : decode cX8_rings 16 = .ok (.bipush (-101), 2) := by decide +kernel
theorem dX8_rings_18 : decode cX8_rings 18 = .ok (.ireturn, 1) := by decide +kernel
theorem dX8_rings_19 : decode cX8_rings 19 = .ok (.aload_n 0, 1) := by decide +kernel
theorem dX8_rings_20 : decode cX8_rings 20 = .ok (.iload_n 1, 1) := by decide +kernel
theorem dX8_rings_21 : decode cX8_rings 21 = .ok (.invokevirtual 196, 3) := by decide +kernel
theorem dX8_rings_24 : decode cX8_rings 24 = .ok (.iconst 0, 1) := by decide +kernel
theorem dX8_rings_25 : decode cX8_rings 25 = .ok (.istore_n 3, 1) := by decide +kernel
theorem dX8_rings_26 : decode cX8_rings 26 = .ok (.iconst 0, 1) := by decide +kernel
theorem dX8_rings_27 : decode cX8_rings 27 = .ok (.istore 4, 2) := by decide +kernel
theorem dX8_rings_29 : decode cX8_rings 29 = .ok (.iload 4, 2) := by decide +kernel
theorem dX8_rings_31 : decode cX8_rings 31 = .ok (.aload_n 0, 1) := by decide +kernel
theorem dX8_rings_32 : decode cX8_rings 32 = .ok (.getfield 89, 3) := by decide +kernel
theorem dX8_rings_35 : decode cX8_rings 35 = .ok (.if_icmp .ge 216, 3) := by decide +kernel
theorem dX8_rings_38 : decode cX8_rings 38 = .ok (.iload 4, 2) := by decide +kernel
theorem dX8_rings_40 : decode cX8_rings 40 = .ok (.iconst 1, 1) := by decide +kernel
theorem dX8_rings_41 : decode cX8_rings 41 = .ok (.iadd, 1) := by decide +kernel
theorem dX8_rings_42 : decode cX8_rings 42 = .ok (.istore 5, 2) := by decide +kernel
theorem dX8_rings_44 : decode cX8_rings 44 = .ok (.iload 5, 2) := by decide +kernel
theorem dX8_rings_46 : decode cX8_rings 46 = .ok (.aload_n 0, 1) := by decide +kernel
theorem dX8_rings_47 : decode cX8_rings 47 = .ok (.getfield 89, 3) := by decide +kernel
theorem dX8_rings_50 : decode cX8_rings 50 = .ok (.if_icmp .ge 195, 3) := by decide +kernel
theorem dX8_rings_53 : decode cX8_rings 53 = .ok (.iload 5, 2) := by decide +kernel
theorem dX8_rings_55 : decode cX8_rings 55 = .ok (.iconst 1, 1) := by decide +kernel
theorem dX8_rings_56 : decode cX8_rings 56 = .ok (.iadd, 1) := by decide +kernel
theorem dX8_rings_57 : decode cX8_rings 57 = .ok (.istore 6, 2) := by decide +kernel
theorem dX8_rings_59 : decode cX8_rings 59 = .ok (.iload 6, 2) := by decide +kernel
theorem dX8_rings_61 : decode cX8_rings 61 = .ok (.aload_n 0, 1) := by decide +kernel
theorem dX8_rings_62 : decode cX8_rings 62 = .ok (.getfield 89, 3) := by decide +kernel
theorem dX8_rings_65 : decode cX8_rings 65 = .ok (.if_icmp .ge 174, 3) := by decide +kernel
theorem dX8_rings_68 : decode cX8_rings 68 = .ok (.aload_n 0, 1) := by decide +kernel
theorem dX8_rings_69 : decode cX8_rings 69 = .ok (.iload 4, 2) := by decide +kernel
theorem dX8_rings_71 : decode cX8_rings 71 = .ok (.iconst 1, 1) := by decide +kernel
theorem dX8_rings_72 : decode cX8_rings 72 = .ok (.invokevirtual 95, 3) := by decide +kernel
theorem dX8_rings_75 : decode cX8_rings 75 = .ok (.iload_n 2, 1) := by decide +kernel
theorem dX8_rings_76 : decode cX8_rings 76 = .ok (.if_icmp .ne 63, 3) := by decide +kernel
theorem dX8_rings_79 : decode cX8_rings 79 = .ok (.aload_n 0, 1) := by decide +kernel
theorem dX8_rings_80 : decode cX8_rings 80 = .ok (.iload 5, 2) := by decide +kernel
theorem dX8_rings_82 : decode cX8_rings 82 = .ok (.iconst 1, 1) := by decide +kernel
theorem dX8_rings_83 : decode cX8_rings 83 = .ok (.invokevirtual 95, 3) := by decide +kernel
theorem dX8_rings_86 : decode cX8_rings 86 = .ok (.iload_n 2, 1) := by decide +kernel
theorem dX8_rings_87 : decode cX8_rings 87 = .ok (.if_icmp .ne 52, 3) := by decide +kernel
theorem dX8_rings_90 : decode cX8_rings 90 = .ok (.aload_n 0, 1) := by decide +kernel
theorem dX8_rings_91 : decode cX8_rings 91 = .ok (.iload 6, 2) := by decide +kernel
theorem dX8_rings_93 : decode cX8_rings 93 = .ok (.iconst 1, 1) := by decide +kernel
theorem dX8_rings_94 : decode cX8_rings 94 = .ok (.invokevirtual 95, 3) := by decide +kernel
theorem dX8_rings_97 : decode cX8_rings 97 = .ok (.iload_n 2, 1) := by decide +kernel
theorem dX8_rings_98 : decode cX8_rings 98 = .ok (.if_icmp .ne 41, 3) := by decide +kernel
theorem dX8_rings_101 : decode cX8_rings 101 = .ok (.aload_n 0, 1) := by decide +kernel
theorem dX8_rings_102 : decode cX8_rings 102 = .ok (.iload 4, 2) := by decide +kernel
theorem dX8_rings_104 : decode cX8_rings 104 = .ok (.iconst 2, 1) := by decide +kernel
theorem dX8_rings_105 : decode cX8_rings 105 = .ok (.invokevirtual 95, 3) := by decide +kernel
theorem dX8_rings_108 : decode cX8_rings 108 = .ok (.aload_n 0, 1) := by decide +kernel
theorem dX8_rings_109 : decode cX8_rings 109 = .ok (.iload 5, 2) := by decide +kernel
theorem dX8_rings_111 : decode cX8_rings 111 = .ok (.iconst 2, 1) := by decide +kernel
theorem dX8_rings_112 : decode cX8_rings 112 = .ok (.invokevirtual 95, 3) := by decide +kernel
theorem dX8_rings_115 : decode cX8_rings 115 = .ok (.if_icmp .ne 24, 3) := by decide +kernel
theorem dX8_rings_118 : decode cX8_rings 118 = .ok (.aload_n 0, 1) := by decide +kernel
theorem dX8_rings_119 : decode cX8_rings 119 = .ok (.iload 4, 2) := by decide +kernel
theorem dX8_rings_121 : decode cX8_rings 121 = .ok (.iconst 2, 1) := by decide +kernel
theorem dX8_rings_122 : decode cX8_rings 122 = .ok (.invokevirtual 95, 3) := by decide +kernel
theorem dX8_rings_125 : decode cX8_rings 125 = .ok (.aload_n 0, 1) := by decide +kernel
theorem dX8_rings_126 : decode cX8_rings 126 = .ok (.iload 6, 2) := by decide +kernel
theorem dX8_rings_128 : decode cX8_rings 128 = .ok (.iconst 2, 1) := by decide +kernel
theorem dX8_rings_129 : decode cX8_rings 129 = .ok (.invokevirtual 95, 3) := by decide +kernel
theorem dX8_rings_132 : decode cX8_rings 132 = .ok (.if_icmp .ne 7, 3) := by decide +kernel
theorem dX8_rings_135 : decode cX8_rings 135 = .ok (.iconst 1, 1) := by decide +kernel
theorem dX8_rings_136 : decode cX8_rings 136 = .ok (.goto 4, 3) := by decide +kernel
theorem dX8_rings_139 : decode cX8_rings 139 = .ok (.iconst 0, 1) := by decide +kernel
theorem dX8_rings_140 : decode cX8_rings 140 = .ok (.istore 7, 2) := by decide +kernel
theorem dX8_rings_142 : decode cX8_rings 142 = .ok (.iload 7, 2) := by decide +kernel
theorem dX8_rings_144 : decode cX8_rings 144 = .ok (.ifCond .eq 34, 3) := by decide +kernel
theorem dX8_rings_147 : decode cX8_rings 147 = .ok (.aload_n 0, 1) := by decide +kernel
theorem dX8_rings_148 : decode cX8_rings 148 = .ok (.iload 4, 2) := by decide +kernel
theorem dX8_rings_150 : decode cX8_rings 150 = .ok (.invokevirtual 144, 3) := by decide +kernel
theorem dX8_rings_153 : decode cX8_rings 153 = .ok (.ifCond .eq 25, 3) := by decide +kernel
theorem dX8_rings_156 : decode cX8_rings 156 = .ok (.aload_n 0, 1) := by decide +kernel
theorem dX8_rings_157 : decode cX8_rings 157 = .ok (.iload 5, 2) := by decide +kernel
theorem dX8_rings_159 : decode cX8_rings 159 = .ok (.invokevirtual 144, 3) := by decide +kernel
theorem dX8_rings_162 : decode cX8_rings 162 = .ok (.ifCond .eq 16, 3) := by decide +kernel
theorem dX8_rings_165 : decode cX8_rings 165 = .ok (.aload_n 0, 1) := by decide +kernel
theorem dX8_rings_166 : decode cX8_rings 166 = .ok (.iload 6, 2) := by decide +kernel
theorem dX8_rings_168 : decode cX8_rings 168 = .ok (.invokevirtual 144, 3) := by decide +kernel
theorem dX8_rings_171 : decode cX8_rings 171 = .ok (.ifCond .eq 7, 3) := by decide +kernel
theorem dX8_rings_174 : decode cX8_rings 174 = .ok (.iconst 1, 1) := by decide +kernel
theorem dX8_rings_175 : decode cX8_rings 175 = .ok (.goto 4, 3) := by decide +kernel
theorem dX8_rings_178 : decode cX8_rings 178 = .ok (.iconst 0, 1) := by decide +kernel
theorem dX8_rings_179 : decode cX8_rings 179 = .ok (.istore 7, 2) := by decide +kernel
theorem dX8_rings_181 : decode cX8_rings 181 = .ok (.iload_n 3, 1) := by decide +kernel
theorem dX8_rings_182 : decode cX8_rings 182 = .ok (.iload 7, 2) := by decide +kernel
theorem dX8_rings_184 : decode cX8_rings 184 = .ok (.ifCond .eq 46, 3) := by decide +kernel
theorem dX8_rings_187 : decode cX8_rings 187 = .ok (.aload_n 0, 1) := by decide +kernel
theorem dX8_rings_188 : decode cX8_rings 188 = .ok (.iload 4, 2) := by decide +kernel
theorem dX8_rings_190 : decode cX8_rings 190 = .ok (.iload 5, 2) := by decide +kernel
theorem dX8_rings_192 : decode cX8_rings 192 = .ok (.iload 6, 2) := by decide +kernel
theorem dX8_rings_194 : decode cX8_rings 194 = .ok (.invokevirtual 225, 3) := by decide +kernel
theorem dX8_rings_197 : decode cX8_rings 197 = .ok (.ifCond .eq 33, 3) := by decide +kernel
theorem dX8_rings_200 : decode cX8_rings 200 = .ok (.aload_n 0, 1) := by decide +kernel
theorem dX8_rings_201 : decode cX8_rings 201 = .ok (.iload 5, 2) := by decide +kernel
theorem dX8_rings_203 : decode cX8_rings 203 = .ok (.iload 4, 2) := by decide +kernel
theorem dX8_rings_205 : decode cX8_rings 205 = .ok (.iload 6, 2) := by decide +kernel
theorem dX8_rings_207 : decode cX8_rings 207 = .ok (.invokevirtual 225, 3) := by decide +kernel
theorem dX8_rings_210 : decode cX8_rings 210 = .ok (.ifCond .eq 20, 3) := by decide +kernel
theorem dX8_rings_213 : decode cX8_rings 213 = .ok (.aload_n 0, 1) := by decide +kernel
theorem dX8_rings_214 : decode cX8_rings 214 = .ok (.iload 6, 2) := by decide +kernel
theorem dX8_rings_216 : decode cX8_rings 216 = .ok (.iload 4, 2) := by decide +kernel
theorem dX8_rings_218 : decode cX8_rings 218 = .ok (.iload 5, 2) := by decide +kernel
theorem dX8_rings_220 : decode cX8_rings 220 = .ok (.invokevirtual 225, 3) := by decide +kernel
theorem dX8_rings_223 : decode cX8_rings 223 = .ok (.ifCond .eq 7, 3) := by decide +kernel
theorem dX8_rings_226 : decode cX8_rings 226 = .ok (.iconst 1, 1) := by decide +kernel
theorem dX8_rings_227 : decode cX8_rings 227 = .ok (.goto 4, 3) := by decide +kernel
theorem dX8_rings_230 : decode cX8_rings 230 = .ok (.iconst 0, 1) := by decide +kernel
theorem dX8_rings_231 : decode cX8_rings 231 = .ok (.iadd, 1) := by decide +kernel
theorem dX8_rings_232 : decode cX8_rings 232 = .ok (.istore_n 3, 1) := by decide +kernel
theorem dX8_rings_233 : decode cX8_rings 233 = .ok (.iinc 6 1, 3) := by decide +kernel
theorem dX8_rings_236 : decode cX8_rings 236 = .ok (.goto (-177), 3) := by decide +kernel
theorem dX8_rings_239 : decode cX8_rings 239 = .ok (.iinc 5 1, 3) := by decide +kernel
theorem dX8_rings_242 : decode cX8_rings 242 = .ok (.goto (-198), 3) := by decide +kernel
theorem dX8_rings_245 : decode cX8_rings 245 = .ok (.iinc 4 1, 3) := by decide +kernel
theorem dX8_rings_248 : decode cX8_rings 248 = .ok (.goto (-219), 3) := by decide +kernel
theorem dX8_rings_251 : decode cX8_rings 251 = .ok (.iload_n 3, 1) := by decide +kernel
theorem dX8_rings_252 : decode cX8_rings 252 = .ok (.ireturn, 1) := by decide +kernel
theorem dX8_moves_0 : decode cX8_moves 0 = .ok (.aload_n 0, 1) := by decide +kernel
theorem dX8_moves_1 : decode cX8_moves 1 = .ok (.iload_n 1, 1) := by decide +kernel
theorem dX8_moves_2 : decode cX8_moves 2 = .ok (.invokevirtual 182, 3) := by decide +kernel
theorem dX8_moves_5 : decode cX8_moves 5 = .ok (.ifCond .eq 11, 3) := by decide +kernel
theorem dX8_moves_8 : decode cX8_moves 8 = .ok (.aload_n 0, 1) := by decide +kernel
theorem dX8_moves_9 : decode cX8_moves 9 = .ok (.iload_n 2, 1) := by decide +kernel
theorem dX8_moves_10 : decode cX8_moves 10 = .ok (.invokevirtual 182, 3) := by decide +kernel
theorem dX8_moves_13 : decode cX8_moves 13 = .ok (.ifCond .ne 6, 3) := by decide +kernel
theorem dX8_moves_16 : decode cX8_moves 16 = .ok (.bipush (-101), 2) := by decide +kernel
theorem dX8_moves_18 : decode cX8_moves 18 = .ok (.ireturn, 1) := by decide +kernel
theorem dX8_moves_19 : decode cX8_moves 19 = .ok (.iconst 0, 1) := by decide +kernel
theorem dX8_moves_20 : decode cX8_moves 20 = .ok (.istore_n 3, 1) := by decide +kernel
theorem dX8_moves_21 : decode cX8_moves 21 = .ok (.iconst 0, 1) := by decide +kernel
theorem dX8_moves_22 : decode cX8_moves 22 = .ok (.istore 4, 2) := by decide +kernel
theorem dX8_moves_24 : decode cX8_moves 24 = .ok (.iload 4, 2) := by decide +kernel
theorem dX8_moves_26 : decode cX8_moves 26 = .ok (.aload_n 0, 1) := by decide +kernel
theorem dX8_moves_27 : decode cX8_moves 27 = .ok (.getfield 76, 3) := by decide +kernel
theorem dX8_moves_30 : decode cX8_moves 30 = .ok (.if_icmp .ge 49, 3) := by decide +kernel
theorem dX8_moves_33 : decode cX8_moves 33 = .ok (.aload_n 0, 1) := by decide +kernel
theorem dX8_moves_34 : decode cX8_moves 34 = .ok (.iload_n 1, 1) := by decide +kernel
theorem dX8_moves_35 : decode cX8_moves 35 = .ok (.invokevirtual 196, 3) := by decide +kernel
theorem dX8_moves_38 : decode cX8_moves 38 = .ok (.aload_n 0, 1) := by decide +kernel
theorem dX8_moves_39 : decode cX8_moves 39 = .ok (.iload 4, 2) := by decide +kernel
theorem dX8_moves_41 : decode cX8_moves 41 = .ok (.invokevirtual 216, 3) := by decide +kernel
theorem dX8_moves_44 : decode cX8_moves 44 = .ok (.istore 5, 2) := by decide +kernel
theorem dX8_moves_46 : decode cX8_moves 46 = .ok (.aload_n 0, 1) := by decide +kernel
theorem dX8_moves_47 : decode cX8_moves 47 = .ok (.iload_n 2, 1) := by decide +kernel
theorem dX8_moves_48 : decode cX8_moves 48 = .ok (.invokevirtual 196, 3) := by decide +kernel
theorem dX8_moves_51 : decode cX8_moves 51 = .ok (.iload_n 3, 1) := by decide +kernel
theorem dX8_moves_52 : decode cX8_moves 52 = .ok (.aload_n 0, 1) := by decide +kernel
theorem dX8_moves_53 : decode cX8_moves 53 = .ok (.iload 4, 2) := by decide +kernel
theorem dX8_moves_55 : decode cX8_moves 55 = .ok (.invokevirtual 216, 3) := by decide +kernel
theorem dX8_moves_58 : decode cX8_moves 58 = .ok (.iload 5, 2) := by decide +kernel
theorem dX8_moves_60 : decode cX8_moves 60 = .ok (.if_icmp .eq 10, 3) := by decide +kernel
theorem dX8_moves_63 : decode cX8_moves 63 = .ok (.iconst 1, 1) := by decide +kernel
theorem dX8_moves_64 : decode cX8_moves 64 = .ok (.iload 4, 2) := by decide +kernel
theorem dX8_moves_66 : decode cX8_moves 66 = .ok (.ishl, 1) := by decide +kernel
theorem dX8_moves_67 : decode cX8_moves 67 = .ok (.goto 4, 3) := by decide +kernel
theorem dX8_moves_70 : decode cX8_moves 70 = .ok (.iconst 0, 1) := by decide +kernel
theorem dX8_moves_71 : decode cX8_moves 71 = .ok (.ior, 1) := by decide +kernel
theorem dX8_moves_72 : decode cX8_moves 72 = .ok (.istore_n 3, 1) := by decide +kernel
theorem dX8_moves_73 : decode cX8_moves 73 = .ok (.iinc 4 1, 3) := by decide +kernel
theorem dX8_moves_76 : decode cX8_moves 76 = .ok (.goto (-52), 3) := by decide +kernel
theorem dX8_moves_79 : decode cX8_moves 79 = .ok (.iload_n 3, 1) := by decide +kernel
theorem dX8_moves_80 : decode cX8_moves 80 = .ok (.ireturn, 1) := by decide +kernel
theorem dX8_byEntry_0 : decode cX8_byEntry 0 = .ok (.aload_n 0, 1) := by decide +kernel
theorem dX8_byEntry_1 : decode cX8_byEntry 1 = .ok (.iload_n 1, 1) := by decide +kernel
theorem dX8_byEntry_2 : decode cX8_byEntry 2 = .ok (.invokevirtual 196, 3) := by decide +kernel
theorem dX8_byEntry_5 : decode cX8_byEntry 5 = .ok (.aload_n 0, 1) := by decide +kernel
theorem dX8_byEntry_6 : decode cX8_byEntry 6 = .ok (.iload_n 2, 1) := by decide +kernel
theorem dX8_byEntry_7 : decode cX8_byEntry 7 = .ok (.invokevirtual 216, 3) := by decide +kernel
theorem dX8_byEntry_10 : decode cX8_byEntry 10 = .ok (.istore_n 3, 1) := by decide +kernel
theorem dX8_byEntry_11 : decode cX8_byEntry 11 = .ok (.iconst (-1), 1) := by decide +kernel
theorem dX8_byEntry_12 : decode cX8_byEntry 12 = .ok (.istore 4, 2) := by decide +kernel
theorem dX8_byEntry_14 : decode cX8_byEntry 14 = .ok (.aload_n 0, 1) := by decide +kernel
theorem dX8_byEntry_15 : decode cX8_byEntry 15 = .ok (.getfield 89, 3) := by decide +kernel
theorem dX8_byEntry_18 : decode cX8_byEntry 18 = .ok (.iconst 1, 1) := by decide +kernel
theorem dX8_byEntry_19 : decode cX8_byEntry 19 = .ok (.isub, 1) := by decide +kernel
theorem dX8_byEntry_20 : decode cX8_byEntry 20 = .ok (.istore 5, 2) := by decide +kernel
theorem dX8_byEntry_22 : decode cX8_byEntry 22 = .ok (.iload 5, 2) := by decide +kernel
theorem dX8_byEntry_24 : decode cX8_byEntry 24 = .ok (.ifCond .lt 90, 3) := by decide +kernel
theorem dX8_byEntry_27 : decode cX8_byEntry 27 = .ok (.aload_n 0, 1) := by decide +kernel
theorem dX8_byEntry_28 : decode cX8_byEntry 28 = .ok (.iload 5, 2) := by decide +kernel
theorem dX8_byEntry_30 : decode cX8_byEntry 30 = .ok (.iconst 1, 1) := by decide +kernel
theorem dX8_byEntry_31 : decode cX8_byEntry 31 = .ok (.invokevirtual 95, 3) := by decide +kernel
theorem dX8_byEntry_34 : decode cX8_byEntry 34 = .ok (.iload_n 2, 1) := by decide +kernel
theorem dX8_byEntry_35 : decode cX8_byEntry 35 = .ok (.if_icmp .ne 73, 3) := by decide +kernel
theorem dX8_byEntry_38 : decode cX8_byEntry 38 = .ok (.aload_n 0, 1) := by decide +kernel
theorem dX8_byEntry_39 : decode cX8_byEntry 39 = .ok (.iload 5, 2) := by decide +kernel
theorem dX8_byEntry_41 : decode cX8_byEntry 41 = .ok (.iconst 5, 1) := by decide +kernel
theorem dX8_byEntry_42 : decode cX8_byEntry 42 = .ok (.invokevirtual 95, 3) := by decide +kernel
theorem dX8_byEntry_45 : decode cX8_byEntry 45 = .ok (.iconst (-1), 1) := by decide +kernel
theorem dX8_byEntry_46 : decode cX8_byEntry 46 = .ok (.if_icmp .eq 62, 3) := by decide +kernel
theorem dX8_byEntry_49 : decode cX8_byEntry 49 = .ok (.aload_n 0, 1) := by decide +kernel
theorem dX8_byEntry_50 : decode cX8_byEntry 50 = .ok (.iload 5, 2) := by decide +kernel
theorem dX8_byEntry_52 : decode cX8_byEntry 52 = .ok (.iconst 5, 1) := by decide +kernel
theorem dX8_byEntry_53 : decode cX8_byEntry 53 = .ok (.invokevirtual 95, 3) := by decide +kernel
theorem dX8_byEntry_56 : decode cX8_byEntry 56 = .ok (.istore 6, 2) := by decide +kernel
theorem dX8_byEntry_58 : decode cX8_byEntry 58 = .ok (.aload_n 0, 1) := by decide +kernel
theorem dX8_byEntry_59 : decode cX8_byEntry 59 = .ok (.getfield 22, 3) := by decide +kernel
theorem dX8_byEntry_62 : decode cX8_byEntry 62 = .ok (.bipush 10, 2) := by decide +kernel
theorem dX8_byEntry_64 : decode cX8_byEntry 64 = .ok (.iload 5, 2) := by decide +kernel
theorem dX8_byEntry_66 : decode cX8_byEntry 66 = .ok (.imul, 1) := by decide +kernel
theorem dX8_byEntry_67 : decode cX8_byEntry 67 = .ok (.iconst 5, 1) := by decide +kernel
theorem dX8_byEntry_68 : decode cX8_byEntry 68 = .ok (.iadd, 1) := by decide +kernel
theorem dX8_byEntry_69 : decode cX8_byEntry 69 = .ok (.iconst (-1), 1) := by decide +kernel
theorem dX8_byEntry_70 : decode cX8_byEntry 70 = .ok (.iastore, 1) := by decide +kernel
theorem dX8_byEntry_71 : decode cX8_byEntry 71 = .ok (.aload_n 0, 1) := by decide +kernel
theorem dX8_byEntry_72 : decode cX8_byEntry 72 = .ok (.iload_n 1, 1) := by decide +kernel
theorem dX8_byEntry_73 : decode cX8_byEntry 73 = .ok (.invokevirtual 196, 3) := by decide +kernel
theorem dX8_byEntry_76 : decode cX8_byEntry 76 = .ok (.aload_n 0, 1) := by decide +kernel
theorem dX8_byEntry_77 : decode cX8_byEntry 77 = .ok (.iload_n 2, 1) := by decide +kernel
theorem dX8_byEntry_78 : decode cX8_byEntry 78 = .ok (.invokevirtual 216, 3) := by decide +kernel
theorem dX8_byEntry_81 : decode cX8_byEntry 81 = .ok (.iload_n 3, 1) := by decide +kernel
theorem dX8_byEntry_82 : decode cX8_byEntry 82 = .ok (.if_icmp .eq 8, 3) := by decide +kernel
theorem dX8_byEntry_85 : decode cX8_byEntry 85 = .ok (.iload 5, 2) := by decide +kernel
theorem dX8_byEntry_87 : decode cX8_byEntry 87 = .ok (.goto 5, 3) := by decide +kernel
theorem dX8_byEntry_90 : decode cX8_byEntry 90 = .ok (.iload 4, 2) := by decide +kernel
theorem dX8_byEntry_92 : decode cX8_byEntry 92 = .ok (.istore 4, 2) := by decide +kernel
theorem dX8_byEntry_94 : decode cX8_byEntry 94 = .ok (.aload_n 0, 1) := by decide +kernel
theorem dX8_byEntry_95 : decode cX8_byEntry 95 = .ok (.getfield 22, 3) := by decide +kernel
theorem dX8_byEntry_98 : decode cX8_byEntry 98 = .ok (.bipush 10, 2) := by decide +kernel
theorem dX8_byEntry_100 : decode cX8_byEntry 100 = .ok (.iload 5, 2) := by decide +kernel
theorem dX8_byEntry_102 : decode cX8_byEntry 102 = .ok (.imul, 1) := by decide +kernel
theorem dX8_byEntry_103 : decode cX8_byEntry 103 = .ok (.iconst 5, 1) := by decide +kernel
theorem dX8_byEntry_104 : decode cX8_byEntry 104 = .ok (.iadd, 1) := by decide +kernel
theorem dX8_byEntry_105 : decode cX8_byEntry 105 = .ok (.iload 6, 2) := by decide +kernel
theorem dX8_byEntry_107 : decode cX8_byEntry 107 = .ok (.iastore, 1) := by decide +kernel
theorem dX8_byEntry_108 : decode cX8_byEntry 108 = .ok (.iinc 5 (-1), 3) := by decide +kernel
theorem dX8_byEntry_111 : decode cX8_byEntry 111 = .ok (.goto (-89), 3) := by decide +kernel
theorem dX8_byEntry_114 : decode cX8_byEntry 114 = .ok (.iload 4, 2) := by decide +kernel
theorem dX8_byEntry_116 : decode cX8_byEntry 116 = .ok (.ireturn, 1) := by decide +kernel
theorem dX8_byKnowing_0 : decode cX8_byKnowing 0 = .ok (.aload_n 0, 1) := by decide +kernel
theorem dX8_byKnowing_1 : decode cX8_byKnowing 1 = .ok (.iload_n 1, 1) := by decide +kernel
theorem dX8_byKnowing_2 : decode cX8_byKnowing 2 = .ok (.invokevirtual 196, 3) := by decide +kernel
theorem dX8_byKnowing_5 : decode cX8_byKnowing 5 = .ok (.aload_n 0, 1) := by decide +kernel
theorem dX8_byKnowing_6 : decode cX8_byKnowing 6 = .ok (.iload_n 2, 1) := by decide +kernel
theorem dX8_byKnowing_7 : decode cX8_byKnowing 7 = .ok (.invokevirtual 216, 3) := by decide +kernel
theorem dX8_byKnowing_10 : decode cX8_byKnowing 10 = .ok (.istore_n 3, 1) := by decide +kernel
theorem dX8_byKnowing_11 : decode cX8_byKnowing 11 = .ok (.aload_n 0, 1) := by decide +kernel
theorem dX8_byKnowing_12 : decode cX8_byKnowing 12 = .ok (.iconst (-1), 1) := by decide +kernel
theorem dX8_byKnowing_13 : decode cX8_byKnowing 13 = .ok (.putfield 229, 3) := by decide +kernel
theorem dX8_byKnowing_16 : decode cX8_byKnowing 16 = .ok (.iconst 0, 1) := by decide +kernel
theorem dX8_byKnowing_17 : decode cX8_byKnowing 17 = .ok (.istore 4, 2) := by decide +kernel
theorem dX8_byKnowing_19 : decode cX8_byKnowing 19 = .ok (.iload 4, 2) := by decide +kernel
theorem dX8_byKnowing_21 : decode cX8_byKnowing 21 = .ok (.aload_n 0, 1) := by decide +kernel
theorem dX8_byKnowing_22 : decode cX8_byKnowing 22 = .ok (.getfield 89, 3) := by decide +kernel
theorem dX8_byKnowing_25 : decode cX8_byKnowing 25 = .ok (.if_icmp .ge 159, 3) := by decide +kernel
theorem dX8_byKnowing_28 : decode cX8_byKnowing 28 = .ok (.iconst 0, 1) := by decide +kernel
theorem dX8_byKnowing_29 : decode cX8_byKnowing 29 = .ok (.istore 5, 2) := by decide +kernel
theorem dX8_byKnowing_31 : decode cX8_byKnowing 31 = .ok (.iload 5, 2) := by decide +kernel
theorem dX8_byKnowing_33 : decode cX8_byKnowing 33 = .ok (.aload_n 0, 1) := by decide +kernel
theorem dX8_byKnowing_34 : decode cX8_byKnowing 34 = .ok (.getfield 89, 3) := by decide +kernel
theorem dX8_byKnowing_37 : decode cX8_byKnowing 37 = .ok (.if_icmp .ge 141, 3) := by decide +kernel
theorem dX8_byKnowing_40 : decode cX8_byKnowing 40 = .ok (.aload_n 0, 1) := by decide +kernel
theorem dX8_byKnowing_41 : decode cX8_byKnowing 41 = .ok (.iload 4, 2) := by decide +kernel
theorem dX8_byKnowing_43 : decode cX8_byKnowing 43 = .ok (.iconst 1, 1) := by decide +kernel
theorem dX8_byKnowing_44 : decode cX8_byKnowing 44 = .ok (.invokevirtual 95, 3) := by decide +kernel
theorem dX8_byKnowing_47 : decode cX8_byKnowing 47 = .ok (.iload_n 2, 1) := by decide +kernel
theorem dX8_byKnowing_48 : decode cX8_byKnowing 48 = .ok (.if_icmp .ne 36, 3) := by decide +kernel
theorem dX8_byKnowing_51 : decode cX8_byKnowing 51 = .ok (.aload_n 0, 1) := by decide +kernel
theorem dX8_byKnowing_52 : decode cX8_byKnowing 52 = .ok (.iload 5, 2) := by decide +kernel
theorem dX8_byKnowing_54 : decode cX8_byKnowing 54 = .ok (.iconst 1, 1) := by decide +kernel
theorem dX8_byKnowing_55 : decode cX8_byKnowing 55 = .ok (.invokevirtual 95, 3) := by decide +kernel
theorem dX8_byKnowing_58 : decode cX8_byKnowing 58 = .ok (.iload_n 2, 1) := by decide +kernel
theorem dX8_byKnowing_59 : decode cX8_byKnowing 59 = .ok (.if_icmp .ne 25, 3) := by decide +kernel
theorem dX8_byKnowing_62 : decode cX8_byKnowing 62 = .ok (.iload 5, 2) := by decide +kernel
theorem dX8_byKnowing_64 : decode cX8_byKnowing 64 = .ok (.iload 4, 2) := by decide +kernel
theorem dX8_byKnowing_66 : decode cX8_byKnowing 66 = .ok (.if_icmp .eq 18, 3) := by decide +kernel
theorem dX8_byKnowing_69 : decode cX8_byKnowing 69 = .ok (.aload_n 0, 1) := by decide +kernel
theorem dX8_byKnowing_70 : decode cX8_byKnowing 70 = .ok (.iload 5, 2) := by decide +kernel
theorem dX8_byKnowing_72 : decode cX8_byKnowing 72 = .ok (.iload 4, 2) := by decide +kernel
theorem dX8_byKnowing_74 : decode cX8_byKnowing 74 = .ok (.invokevirtual 173, 3) := by decide +kernel
theorem dX8_byKnowing_77 : decode cX8_byKnowing 77 = .ok (.ifCond .eq 7, 3) := by decide +kernel
theorem dX8_byKnowing_80 : decode cX8_byKnowing 80 = .ok (.iconst 1, 1) := by decide +kernel
theorem dX8_byKnowing_81 : decode cX8_byKnowing 81 = .ok (.goto 4, 3) := by decide +kernel
theorem dX8_byKnowing_84 : decode cX8_byKnowing 84 = .ok (.iconst 0, 1) := by decide +kernel
theorem dX8_byKnowing_85 : decode cX8_byKnowing 85 = .ok (.istore 6, 2) := by decide +kernel
theorem dX8_byKnowing_87 : decode cX8_byKnowing 87 = .ok (.iload 6, 2) := by decide +kernel
theorem dX8_byKnowing_89 : decode cX8_byKnowing 89 = .ok (.ifCond .eq 83, 3) := by decide +kernel
theorem dX8_byKnowing_92 : decode cX8_byKnowing 92 = .ok (.aload_n 0, 1) := by decide +kernel
theorem dX8_byKnowing_93 : decode cX8_byKnowing 93 = .ok (.iload 4, 2) := by decide +kernel
theorem dX8_byKnowing_95 : decode cX8_byKnowing 95 = .ok (.bipush 9, 2) := by decide +kernel
theorem dX8_byKnowing_97 : decode cX8_byKnowing 97 = .ok (.invokevirtual 95, 3) := by decide +kernel
theorem dX8_byKnowing_100 : decode cX8_byKnowing 100 = .ok (.istore 7, 2) := by decide +kernel
theorem dX8_byKnowing_102 : decode cX8_byKnowing 102 = .ok (.aload_n 0, 1) := by decide +kernel
theorem dX8_byKnowing_103 : decode cX8_byKnowing 103 = .ok (.getfield 22, 3) := by decide +kernel
theorem dX8_byKnowing_106 : decode cX8_byKnowing 106 = .ok (.bipush 10, 2) := by decide +kernel
theorem dX8_byKnowing_108 : decode cX8_byKnowing 108 = .ok (.iload 4, 2) := by decide +kernel
theorem dX8_byKnowing_110 : decode cX8_byKnowing 110 = .ok (.imul, 1) := by decide +kernel
theorem dX8_byKnowing_111 : decode cX8_byKnowing 111 = .ok (.bipush 9, 2) := by decide +kernel
theorem dX8_byKnowing_113 : decode cX8_byKnowing 113 = .ok (.iadd, 1) := by decide +kernel
theorem dX8_byKnowing_114 : decode cX8_byKnowing 114 = .ok (.iload 7, 2) := by decide +kernel
theorem dX8_byKnowing_116 : decode cX8_byKnowing 116 = .ok (.iconst 1, 1) := by decide +kernel
theorem dX8_byKnowing_117 : decode cX8_byKnowing 117 = .ok (.iload 5, 2) := by decide +kernel
theorem dX8_byKnowing_119 : decode cX8_byKnowing 119 = .ok (.ishl, 1) := by decide +kernel
theorem dX8_byKnowing_120 : decode cX8_byKnowing 120 = .ok (.ixor, 1) := by decide +kernel
theorem dX8_byKnowing_121 : decode cX8_byKnowing 121 = .ok (.iastore, 1) := by decide +kernel
theorem dX8_byKnowing_122 : decode cX8_byKnowing 122 = .ok (.aload_n 0, 1) := by decide +kernel
theorem dX8_byKnowing_123 : decode cX8_byKnowing 123 = .ok (.iload_n 1, 1) := by decide +kernel
theorem dX8_byKnowing_124 : decode cX8_byKnowing 124 = .ok (.invokevirtual 196, 3) := by decide +kernel
theorem dX8_byKnowing_127 : decode cX8_byKnowing 127 = .ok (.aload_n 0, 1) := by decide +kernel
theorem dX8_byKnowing_128 : decode cX8_byKnowing 128 = .ok (.iload_n 2, 1) := by decide +kernel
theorem dX8_byKnowing_129 : decode cX8_byKnowing 129 = .ok (.invokevirtual 216, 3) := by decide +kernel
theorem dX8_byKnowing_132 : decode cX8_byKnowing 132 = .ok (.iload_n 3, 1) := by decide +kernel
theorem dX8_byKnowing_133 : decode cX8_byKnowing 133 = .ok (.if_icmp .eq 7, 3) := by decide +kernel
theorem dX8_byKnowing_136 : decode cX8_byKnowing 136 = .ok (.iconst 1, 1) := by decide +kernel
theorem dX8_byKnowing_137 : decode cX8_byKnowing 137 = .ok (.goto 4, 3) := by decide +kernel
theorem dX8_byKnowing_140 : decode cX8_byKnowing 140 = .ok (.iconst 0, 1) := by decide +kernel
theorem dX8_byKnowing_141 : decode cX8_byKnowing 141 = .ok (.istore 8, 2) := by decide +kernel
theorem dX8_byKnowing_143 : decode cX8_byKnowing 143 = .ok (.aload_n 0, 1) := by decide +kernel
theorem dX8_byKnowing_144 : decode cX8_byKnowing 144 = .ok (.getfield 22, 3) := by decide +kernel
theorem dX8_byKnowing_147 : decode cX8_byKnowing 147 = .ok (.bipush 10, 2) := by decide +kernel
theorem dX8_byKnowing_149 : decode cX8_byKnowing 149 = .ok (.iload 4, 2) := by decide +kernel
theorem dX8_byKnowing_151 : decode cX8_byKnowing 151 = .ok (.imul, 1) := by decide +kernel
theorem dX8_byKnowing_152 : decode cX8_byKnowing 152 = .ok (.bipush 9, 2) := by decide +kernel
theorem dX8_byKnowing_154 : decode cX8_byKnowing 154 = .ok (.iadd, 1) := by decide +kernel
theorem dX8_byKnowing_155 : decode cX8_byKnowing 155 = .ok (.iload 7, 2) := by decide +kernel
theorem dX8_byKnowing_157 : decode cX8_byKnowing 157 = .ok (.iastore, 1) := by decide +kernel
theorem dX8_byKnowing_158 : decode cX8_byKnowing 158 = .ok (.iload 8, 2) := by decide +kernel
theorem dX8_byKnowing_160 : decode cX8_byKnowing 160 = .ok (.ifCond .eq 12, 3) := by decide +kernel
theorem dX8_byKnowing_163 : decode cX8_byKnowing 163 = .ok (.aload_n 0, 1) := by decide +kernel
theorem dX8_byKnowing_164 : decode cX8_byKnowing 164 = .ok (.iload 5, 2) := by decide +kernel
theorem dX8_byKnowing_166 : decode cX8_byKnowing 166 = .ok (.putfield 229, 3) := by decide +kernel
theorem dX8_byKnowing_169 : decode cX8_byKnowing 169 = .ok (.iload 4, 2) := by decide +kernel
theorem dX8_byKnowing_171 : decode cX8_byKnowing 171 = .ok (.ireturn, 1) := by decide +kernel
theorem dX8_byKnowing_172 : decode cX8_byKnowing 172 = .ok (.iinc 5 1, 3) := by decide +kernel
theorem dX8_byKnowing_175 : decode cX8_byKnowing 175 = .ok (.goto (-144), 3) := by decide +kernel
theorem dX8_byKnowing_178 : decode cX8_byKnowing 178 = .ok (.iinc 4 1, 3) := by decide +kernel
theorem dX8_byKnowing_181 : decode cX8_byKnowing 181 = .ok (.goto (-162), 3) := by decide +kernel
theorem dX8_byKnowing_184 : decode cX8_byKnowing 184 = .ok (.iconst (-1), 1) := by decide +kernel
theorem dX8_byKnowing_185 : decode cX8_byKnowing 185 = .ok (.ireturn, 1) := by decide +kernel
theorem dX8_hangs_0 : decode cX8_hangs 0 = .ok (.aload_n 0, 1) := by decide +kernel
theorem dX8_hangs_1 : decode cX8_hangs 1 = .ok (.iload_n 1, 1) := by decide +kernel
theorem dX8_hangs_2 : decode cX8_hangs 2 = .ok (.invokevirtual 182, 3) := by decide +kernel
theorem dX8_hangs_5 : decode cX8_hangs 5 = .ok (.ifCond .eq 11, 3) := by decide +kernel
theorem dX8_hangs_8 : decode cX8_hangs 8 = .ok (.aload_n 0, 1) := by decide +kernel
theorem dX8_hangs_9 : decode cX8_hangs 9 = .ok (.iload_n 2, 1) := by decide +kernel
theorem dX8_hangs_10 : decode cX8_hangs 10 = .ok (.invokevirtual 81, 3) := by decide +kernel
theorem dX8_hangs_13 : decode cX8_hangs 13 = .ok (.ifCond .ne 6, 3) := by decide +kernel
theorem dX8_hangs_16 : decode cX8_hangs 16 = .ok (.bipush (-101), 2) := by decide +kernel
theorem dX8_hangs_18 : decode cX8_hangs 18 = .ok (.ireturn, 1) := by decide +kernel
theorem dX8_hangs_19 : decode cX8_hangs 19 = .ok (.iload_n 3, 1) := by decide +kernel
theorem dX8_hangs_20 : decode cX8_hangs 20 = .ok (.i2l, 1) := by decide +kernel
theorem dX8_hangs_21 : decode cX8_hangs 21 = .ok (.lconst 0, 1) := by decide +kernel
theorem dX8_hangs_22 : decode cX8_hangs 22 = .ok (.ldc2_w 167, 3) := by decide +kernel
theorem dX8_hangs_25 : decode cX8_hangs 25 = .ok (.invokestatic 65, 3) := by decide +kernel
theorem dX8_hangs_28 : decode cX8_hangs 28 = .ok (.ifCond .ne 6, 3) := by decide +kernel
theorem dX8_hangs_31 : decode cX8_hangs 31 = .ok (.bipush (-102), 2) := by decide +kernel
theorem dX8_hangs_33 : decode cX8_hangs 33 = .ok (.ireturn, 1) := by decide +kernel
theorem dX8_hangs_34 : decode cX8_hangs 34 = .ok (.iload_n 3, 1) := by decide +kernel
theorem dX8_hangs_35 : decode cX8_hangs 35 = .ok (.ifCond .ne 10, 3) := by decide +kernel
theorem dX8_hangs_38 : decode cX8_hangs 38 = .ok (.aload_n 0, 1) := by decide +kernel
theorem dX8_hangs_39 : decode cX8_hangs 39 = .ok (.iload_n 1, 1) := by decide +kernel
theorem dX8_hangs_40 : decode cX8_hangs 40 = .ok (.iload_n 2, 1) := by decide +kernel
theorem dX8_hangs_41 : decode cX8_hangs 41 = .ok (.invokevirtual 232, 3) := by decide +kernel
theorem dX8_hangs_44 : decode cX8_hangs 44 = .ok (.ireturn, 1) := by decide +kernel
theorem dX8_hangs_45 : decode cX8_hangs 45 = .ok (.aload_n 0, 1) := by decide +kernel
theorem dX8_hangs_46 : decode cX8_hangs 46 = .ok (.iload_n 1, 1) := by decide +kernel
theorem dX8_hangs_47 : decode cX8_hangs 47 = .ok (.iload_n 2, 1) := by decide +kernel
theorem dX8_hangs_48 : decode cX8_hangs 48 = .ok (.invokevirtual 235, 3) := by decide +kernel
theorem dX8_hangs_51 : decode cX8_hangs 51 = .ok (.istore 4, 2) := by decide +kernel
theorem dX8_hangs_53 : decode cX8_hangs 53 = .ok (.iload_n 3, 1) := by decide +kernel
theorem dX8_hangs_54 : decode cX8_hangs 54 = .ok (.iconst 1, 1) := by decide +kernel
theorem dX8_hangs_55 : decode cX8_hangs 55 = .ok (.if_icmp .ne 8, 3) := by decide +kernel
theorem dX8_hangs_58 : decode cX8_hangs 58 = .ok (.iload 4, 2) := by decide +kernel
theorem dX8_hangs_60 : decode cX8_hangs 60 = .ok (.goto 7, 3) := by decide +kernel
theorem dX8_hangs_63 : decode cX8_hangs 63 = .ok (.aload_n 0, 1) := by decide +kernel
theorem dX8_hangs_64 : decode cX8_hangs 64 = .ok (.getfield 229, 3) := by decide +kernel
theorem dX8_hangs_67 : decode cX8_hangs 67 = .ok (.ireturn, 1) := by decide +kernel
theorem dX8_wild_0 : decode cX8_wild 0 = .ok (.aload_n 0, 1) := by decide +kernel
theorem dX8_wild_1 : decode cX8_wild 1 = .ok (.iload_n 1, 1) := by decide +kernel
theorem dX8_wild_2 : decode cX8_wild 2 = .ok (.invokevirtual 81, 3) := by decide +kernel
theorem dX8_wild_5 : decode cX8_wild 5 = .ok (.ifCond .ne 6, 3) := by decide +kernel
theorem dX8_wild_8 : decode cX8_wild 8 = .ok (.bipush (-101), 2) := by decide +kernel
theorem dX8_wild_10 : decode cX8_wild 10 = .ok (.ireturn, 1) := by decide +kernel
theorem dX8_wild_11 : decode cX8_wild 11 = .ok (.iconst 0, 1) := by decide +kernel
theorem dX8_wild_12 : decode cX8_wild 12 = .ok (.istore_n 2, 1) := by decide +kernel
theorem dX8_wild_13 : decode cX8_wild 13 = .ok (.iconst 0, 1) := by decide +kernel
theorem dX8_wild_14 : decode cX8_wild 14 = .ok (.istore_n 3, 1) := by decide +kernel
theorem dX8_wild_15 : decode cX8_wild 15 = .ok (.iload_n 3, 1) := by decide +kernel
theorem dX8_wild_16 : decode cX8_wild 16 = .ok (.aload_n 0, 1) := by decide +kernel
theorem dX8_wild_17 : decode cX8_wild 17 = .ok (.getfield 69, 3) := by decide +kernel
theorem dX8_wild_20 : decode cX8_wild 20 = .ok (.if_icmp .ge 21, 3) := by decide +kernel
theorem dX8_wild_23 : decode cX8_wild 23 = .ok (.iload_n 2, 1) := by decide +kernel
theorem dX8_wild_24 : decode cX8_wild 24 = .ok (.aload_n 0, 1) := by decide +kernel
theorem dX8_wild_25 : decode cX8_wild 25 = .ok (.iload_n 1, 1) := by decide +kernel
theorem dX8_wild_26 : decode cX8_wild 26 = .ok (.iload_n 3, 1) := by decide +kernel
theorem dX8_wild_27 : decode cX8_wild 27 = .ok (.sipush 999, 3) := by decide +kernel
theorem dX8_wild_30 : decode cX8_wild 30 = .ok (.invokevirtual 169, 3) := by decide +kernel
theorem dX8_wild_33 : decode cX8_wild 33 = .ok (.ior, 1) := by decide +kernel
theorem dX8_wild_34 : decode cX8_wild 34 = .ok (.istore_n 2, 1) := by decide +kernel
theorem dX8_wild_35 : decode cX8_wild 35 = .ok (.iinc 3 1, 3) := by decide +kernel
theorem dX8_wild_38 : decode cX8_wild 38 = .ok (.goto (-23), 3) := by decide +kernel
theorem dX8_wild_41 : decode cX8_wild 41 = .ok (.iconst 0, 1) := by decide +kernel
theorem dX8_wild_42 : decode cX8_wild 42 = .ok (.istore_n 3, 1) := by decide +kernel
theorem dX8_wild_43 : decode cX8_wild 43 = .ok (.iconst 0, 1) := by decide +kernel
theorem dX8_wild_44 : decode cX8_wild 44 = .ok (.istore 4, 2) := by decide +kernel
theorem dX8_wild_46 : decode cX8_wild 46 = .ok (.iload 4, 2) := by decide +kernel
theorem dX8_wild_48 : decode cX8_wild 48 = .ok (.aload_n 0, 1) := by decide +kernel
theorem dX8_wild_49 : decode cX8_wild 49 = .ok (.getfield 89, 3) := by decide +kernel
theorem dX8_wild_52 : decode cX8_wild 52 = .ok (.if_icmp .ge 72, 3) := by decide +kernel
theorem dX8_wild_55 : decode cX8_wild 55 = .ok (.aload_n 0, 1) := by decide +kernel
theorem dX8_wild_56 : decode cX8_wild 56 = .ok (.iload 4, 2) := by decide +kernel
theorem dX8_wild_58 : decode cX8_wild 58 = .ok (.iconst 1, 1) := by decide +kernel
theorem dX8_wild_59 : decode cX8_wild 59 = .ok (.invokevirtual 95, 3) := by decide +kernel
theorem dX8_wild_62 : decode cX8_wild 62 = .ok (.iload_n 1, 1) := by decide +kernel
theorem dX8_wild_63 : decode cX8_wild 63 = .ok (.if_icmp .ne 36, 3) := by decide +kernel
theorem dX8_wild_66 : decode cX8_wild 66 = .ok (.aload_n 0, 1) := by decide +kernel
theorem dX8_wild_67 : decode cX8_wild 67 = .ok (.iload 4, 2) := by decide +kernel
theorem dX8_wild_69 : decode cX8_wild 69 = .ok (.invokevirtual 144, 3) := by decide +kernel
theorem dX8_wild_72 : decode cX8_wild 72 = .ok (.ifCond .eq 27, 3) := by decide +kernel
theorem dX8_wild_75 : decode cX8_wild 75 = .ok (.aload_n 0, 1) := by decide +kernel
theorem dX8_wild_76 : decode cX8_wild 76 = .ok (.iload 4, 2) := by decide +kernel
theorem dX8_wild_78 : decode cX8_wild 78 = .ok (.iconst 5, 1) := by decide +kernel
theorem dX8_wild_79 : decode cX8_wild 79 = .ok (.invokevirtual 95, 3) := by decide +kernel
theorem dX8_wild_82 : decode cX8_wild 82 = .ok (.iconst (-1), 1) := by decide +kernel
theorem dX8_wild_83 : decode cX8_wild 83 = .ok (.if_icmp .eq 16, 3) := by decide +kernel
theorem dX8_wild_86 : decode cX8_wild 86 = .ok (.iload_n 2, 1) := by decide +kernel
theorem dX8_wild_87 : decode cX8_wild 87 = .ok (.iload 4, 2) := by decide +kernel
theorem dX8_wild_89 : decode cX8_wild 89 = .ok (.invokestatic 150, 3) := by decide +kernel
theorem dX8_wild_92 : decode cX8_wild 92 = .ok (.ifCond .ne 7, 3) := by decide +kernel
theorem dX8_wild_95 : decode cX8_wild 95 = .ok (.iconst 1, 1) := by decide +kernel
theorem dX8_wild_96 : decode cX8_wild 96 = .ok (.goto 4, 3) := by decide +kernel
theorem dX8_wild_99 : decode cX8_wild 99 = .ok (.iconst 0, 1) := by decide +kernel
theorem dX8_wild_100 : decode cX8_wild 100 = .ok (.istore 5, 2) := by decide +kernel
theorem dX8_wild_102 : decode cX8_wild 102 = .ok (.iload_n 3, 1) := by decide +kernel
theorem dX8_wild_103 : decode cX8_wild 103 = .ok (.iload 5, 2) := by decide +kernel
theorem dX8_wild_105 : decode cX8_wild 105 = .ok (.ifCond .eq 10, 3) := by decide +kernel
theorem dX8_wild_108 : decode cX8_wild 108 = .ok (.iconst 1, 1) := by decide +kernel
theorem dX8_wild_109 : decode cX8_wild 109 = .ok (.iload 4, 2) := by decide +kernel
theorem dX8_wild_111 : decode cX8_wild 111 = .ok (.ishl, 1) := by decide +kernel
theorem dX8_wild_112 : decode cX8_wild 112 = .ok (.goto 4, 3) := by decide +kernel
theorem dX8_wild_115 : decode cX8_wild 115 = .ok (.iconst 0, 1) := by decide +kernel
theorem dX8_wild_116 : decode cX8_wild 116 = .ok (.ior, 1) := by decide +kernel
theorem dX8_wild_117 : decode cX8_wild 117 = .ok (.istore_n 3, 1) := by decide +kernel
theorem dX8_wild_118 : decode cX8_wild 118 = .ok (.iinc 4 1, 3) := by decide +kernel
theorem dX8_wild_121 : decode cX8_wild 121 = .ok (.goto (-75), 3) := by decide +kernel
theorem dX8_wild_124 : decode cX8_wild 124 = .ok (.iload_n 3, 1) := by decide +kernel
theorem dX8_wild_125 : decode cX8_wild 125 = .ok (.ireturn, 1) := by decide +kernel
theorem dX8_lost_0 : decode cX8_lost 0 = .ok (.aload_n 0, 1) := by decide +kernel
theorem dX8_lost_1 : decode cX8_lost 1 = .ok (.iload_n 1, 1) := by decide +kernel
theorem dX8_lost_2 : decode cX8_lost 2 = .ok (.invokevirtual 182, 3) := by decide +kernel
theorem dX8_lost_5 : decode cX8_lost 5 = .ok (.ifCond .eq 11, 3) := by decide +kernel
theorem dX8_lost_8 : decode cX8_lost 8 = .ok (.aload_n 0, 1) := by decide +kernel
theorem dX8_lost_9 : decode cX8_lost 9 = .ok (.iload_n 2, 1) := by decide +kernel
theorem dX8_lost_10 : decode cX8_lost 10 = .ok (.invokevirtual 72, 3) := by decide +kernel
theorem dX8_lost_13 : decode cX8_lost 13 = .ok (.ifCond .ne 6, 3) := by decide +kernel
theorem dX8_lost_16 : decode cX8_lost 16 = .ok (.bipush (-101), 2) := by decide +kernel
theorem dX8_lost_18 : decode cX8_lost 18 = .ok (.ireturn, 1) := by decide +kernel
theorem dX8_lost_19 : decode cX8_lost 19 = .ok (.aload_n 0, 1) := by decide +kernel
theorem dX8_lost_20 : decode cX8_lost 20 = .ok (.iload_n 1, 1) := by decide +kernel
theorem dX8_lost_21 : decode cX8_lost 21 = .ok (.invokevirtual 196, 3) := by decide +kernel
theorem dX8_lost_24 : decode cX8_lost 24 = .ok (.iconst 0, 1) := by decide +kernel
theorem dX8_lost_25 : decode cX8_lost 25 = .ok (.istore_n 3, 1) := by decide +kernel
theorem dX8_lost_26 : decode cX8_lost 26 = .ok (.iconst 0, 1) := by decide +kernel
theorem dX8_lost_27 : decode cX8_lost 27 = .ok (.istore 4, 2) := by decide +kernel
theorem dX8_lost_29 : decode cX8_lost 29 = .ok (.iload 4, 2) := by decide +kernel
theorem dX8_lost_31 : decode cX8_lost 31 = .ok (.aload_n 0, 1) := by decide +kernel
theorem dX8_lost_32 : decode cX8_lost 32 = .ok (.getfield 76, 3) := by decide +kernel
theorem dX8_lost_35 : decode cX8_lost 35 = .ok (.if_icmp .ge 46, 3) := by decide +kernel
theorem dX8_lost_38 : decode cX8_lost 38 = .ok (.aload_n 0, 1) := by decide +kernel
theorem dX8_lost_39 : decode cX8_lost 39 = .ok (.iload 4, 2) := by decide +kernel
theorem dX8_lost_41 : decode cX8_lost 41 = .ok (.invokevirtual 216, 3) := by decide +kernel
theorem dX8_lost_44 : decode cX8_lost 44 = .ok (.pop, 1) := by decide +kernel
theorem dX8_lost_45 : decode cX8_lost 45 = .ok (.iconst 0, 1) := by decide +kernel
theorem dX8_lost_46 : decode cX8_lost 46 = .ok (.istore 5, 2) := by decide +kernel
theorem dX8_lost_48 : decode cX8_lost 48 = .ok (.iload 5, 2) := by decide +kernel
theorem dX8_lost_50 : decode cX8_lost 50 = .ok (.aload_n 0, 1) := by decide +kernel
theorem dX8_lost_51 : decode cX8_lost 51 = .ok (.getfield 206, 3) := by decide +kernel
theorem dX8_lost_54 : decode cX8_lost 54 = .ok (.if_icmp .ge 21, 3) := by decide +kernel
theorem dX8_lost_57 : decode cX8_lost 57 = .ok (.iload_n 3, 1) := by decide +kernel
theorem dX8_lost_58 : decode cX8_lost 58 = .ok (.iconst 1, 1) := by decide +kernel
theorem dX8_lost_59 : decode cX8_lost 59 = .ok (.aload_n 0, 1) := by decide +kernel
theorem dX8_lost_60 : decode cX8_lost 60 = .ok (.getfield 47, 3) := by decide +kernel
theorem dX8_lost_63 : decode cX8_lost 63 = .ok (.iload 5, 2) := by decide +kernel
theorem dX8_lost_65 : decode cX8_lost 65 = .ok (.iaload, 1) := by decide +kernel
theorem dX8_lost_66 : decode cX8_lost 66 = .ok (.ishl, 1) := by decide +kernel
theorem dX8_lost_67 : decode cX8_lost 67 = .ok (.ior, 1) := by decide +kernel
theorem dX8_lost_68 : decode cX8_lost 68 = .ok (.istore_n 3, 1) := by decide +kernel
theorem dX8_lost_69 : decode cX8_lost 69 = .ok (.iinc 5 1, 3) := by decide +kernel
theorem dX8_lost_72 : decode cX8_lost 72 = .ok (.goto (-24), 3) := by decide +kernel
theorem dX8_lost_75 : decode cX8_lost 75 = .ok (.iinc 4 1, 3) := by decide +kernel
theorem dX8_lost_78 : decode cX8_lost 78 = .ok (.goto (-49), 3) := by decide +kernel
theorem dX8_lost_81 : decode cX8_lost 81 = .ok (.iconst 0, 1) := by decide +kernel
theorem dX8_lost_82 : decode cX8_lost 82 = .ok (.istore 4, 2) := by decide +kernel
theorem dX8_lost_84 : decode cX8_lost 84 = .ok (.iconst 0, 1) := by decide +kernel
theorem dX8_lost_85 : decode cX8_lost 85 = .ok (.istore 5, 2) := by decide +kernel
theorem dX8_lost_87 : decode cX8_lost 87 = .ok (.iload 5, 2) := by decide +kernel
theorem dX8_lost_89 : decode cX8_lost 89 = .ok (.aload_n 0, 1) := by decide +kernel
theorem dX8_lost_90 : decode cX8_lost 90 = .ok (.getfield 89, 3) := by decide +kernel
theorem dX8_lost_93 : decode cX8_lost 93 = .ok (.if_icmp .ge 60, 3) := by decide +kernel
theorem dX8_lost_96 : decode cX8_lost 96 = .ok (.iload 4, 2) := by decide +kernel
theorem dX8_lost_98 : decode cX8_lost 98 = .ok (.aload_n 0, 1) := by decide +kernel
theorem dX8_lost_99 : decode cX8_lost 99 = .ok (.iload 5, 2) := by decide +kernel
theorem dX8_lost_101 : decode cX8_lost 101 = .ok (.invokevirtual 144, 3) := by decide +kernel
theorem dX8_lost_104 : decode cX8_lost 104 = .ok (.ifCond .eq 39, 3) := by decide +kernel
theorem dX8_lost_107 : decode cX8_lost 107 = .ok (.aload_n 0, 1) := by decide +kernel
theorem dX8_lost_108 : decode cX8_lost 108 = .ok (.iload 5, 2) := by decide +kernel
theorem dX8_lost_110 : decode cX8_lost 110 = .ok (.invokevirtual 190, 3) := by decide +kernel
theorem dX8_lost_113 : decode cX8_lost 113 = .ok (.ifCond .eq 30, 3) := by decide +kernel
theorem dX8_lost_116 : decode cX8_lost 116 = .ok (.aload_n 0, 1) := by decide +kernel
theorem dX8_lost_117 : decode cX8_lost 117 = .ok (.iload 5, 2) := by decide +kernel
theorem dX8_lost_119 : decode cX8_lost 119 = .ok (.iconst 2, 1) := by decide +kernel
theorem dX8_lost_120 : decode cX8_lost 120 = .ok (.invokevirtual 95, 3) := by decide +kernel
theorem dX8_lost_123 : decode cX8_lost 123 = .ok (.iload_n 2, 1) := by decide +kernel
theorem dX8_lost_124 : decode cX8_lost 124 = .ok (.if_icmp .ne 19, 3) := by decide +kernel
theorem dX8_lost_127 : decode cX8_lost 127 = .ok (.iload_n 3, 1) := by decide +kernel
theorem dX8_lost_128 : decode cX8_lost 128 = .ok (.iload 5, 2) := by decide +kernel
theorem dX8_lost_130 : decode cX8_lost 130 = .ok (.invokestatic 150, 3) := by decide +kernel
theorem dX8_lost_133 : decode cX8_lost 133 = .ok (.ifCond .ne 10, 3) := by decide +kernel
theorem dX8_lost_136 : decode cX8_lost 136 = .ok (.iconst 1, 1) := by decide +kernel
theorem dX8_lost_137 : decode cX8_lost 137 = .ok (.iload 5, 2) := by decide +kernel
theorem dX8_lost_139 : decode cX8_lost 139 = .ok (.ishl, 1) := by decide +kernel
theorem dX8_lost_140 : decode cX8_lost 140 = .ok (.goto 4, 3) := by decide +kernel
theorem dX8_lost_143 : decode cX8_lost 143 = .ok (.iconst 0, 1) := by decide +kernel
theorem dX8_lost_144 : decode cX8_lost 144 = .ok (.ior, 1) := by decide +kernel
theorem dX8_lost_145 : decode cX8_lost 145 = .ok (.istore 4, 2) := by decide +kernel
theorem dX8_lost_147 : decode cX8_lost 147 = .ok (.iinc 5 1, 3) := by decide +kernel
theorem dX8_lost_150 : decode cX8_lost 150 = .ok (.goto (-63), 3) := by decide +kernel
theorem dX8_lost_153 : decode cX8_lost 153 = .ok (.iload 4, 2) := by decide +kernel
theorem dX8_lost_155 : decode cX8_lost 155 = .ok (.ireturn, 1) := by decide +kernel
theorem dX8_safe_0 : decode cX8_safe 0 = .ok (.aload_n 0, 1) := by decide +kernel
theorem dX8_safe_1 : decode cX8_safe 1 = .ok (.iload_n 1, 1) := by decide +kernel
theorem dX8_safe_2 : decode cX8_safe 2 = .ok (.invokevirtual 182, 3) := by decide +kernel
theorem dX8_safe_5 : decode cX8_safe 5 = .ok (.ifCond .ne 6, 3) := by decide +kernel
theorem dX8_safe_8 : decode cX8_safe 8 = .ok (.bipush (-101), 2) := by decide +kernel
theorem dX8_safe_10 : decode cX8_safe 10 = .ok (.ireturn, 1) := by decide +kernel
theorem dX8_safe_11 : decode cX8_safe 11 = .ok (.iconst 0, 1) := by decide +kernel
theorem dX8_safe_12 : decode cX8_safe 12 = .ok (.istore_n 2, 1) := by decide +kernel
theorem dX8_safe_13 : decode cX8_safe 13 = .ok (.iconst 0, 1) := by decide +kernel
theorem dX8_safe_14 : decode cX8_safe 14 = .ok (.istore_n 3, 1) := by decide +kernel
theorem dX8_safe_15 : decode cX8_safe 15 = .ok (.iload_n 3, 1) := by decide +kernel
theorem dX8_safe_16 : decode cX8_safe 16 = .ok (.aload_n 0, 1) := by decide +kernel
theorem dX8_safe_17 : decode cX8_safe 17 = .ok (.getfield 76, 3) := by decide +kernel
theorem dX8_safe_20 : decode cX8_safe 20 = .ok (.if_icmp .ge 39, 3) := by decide +kernel
theorem dX8_safe_23 : decode cX8_safe 23 = .ok (.iload_n 2, 1) := by decide +kernel
theorem dX8_safe_24 : decode cX8_safe 24 = .ok (.aload_n 0, 1) := by decide +kernel
theorem dX8_safe_25 : decode cX8_safe 25 = .ok (.iload_n 1, 1) := by decide +kernel
theorem dX8_safe_26 : decode cX8_safe 26 = .ok (.iload_n 3, 1) := by decide +kernel
theorem dX8_safe_27 : decode cX8_safe 27 = .ok (.invokevirtual 232, 3) := by decide +kernel
theorem dX8_safe_30 : decode cX8_safe 30 = .ok (.iconst (-1), 1) := by decide +kernel
theorem dX8_safe_31 : decode cX8_safe 31 = .ok (.if_icmp .ne 19, 3) := by decide +kernel
theorem dX8_safe_34 : decode cX8_safe 34 = .ok (.aload_n 0, 1) := by decide +kernel
theorem dX8_safe_35 : decode cX8_safe 35 = .ok (.iload_n 1, 1) := by decide +kernel
theorem dX8_safe_36 : decode cX8_safe 36 = .ok (.iload_n 3, 1) := by decide +kernel
theorem dX8_safe_37 : decode cX8_safe 37 = .ok (.invokevirtual 235, 3) := by decide +kernel
theorem dX8_safe_40 : decode cX8_safe 40 = .ok (.iconst (-1), 1) := by decide +kernel
theorem dX8_safe_41 : decode cX8_safe 41 = .ok (.if_icmp .ne 9, 3) := by decide +kernel
theorem dX8_safe_44 : decode cX8_safe 44 = .ok (.iconst 1, 1) := by decide +kernel
theorem dX8_safe_45 : decode cX8_safe 45 = .ok (.iload_n 3, 1) := by decide +kernel
theorem dX8_safe_46 : decode cX8_safe 46 = .ok (.ishl, 1) := by decide +kernel
theorem dX8_safe_47 : decode cX8_safe 47 = .ok (.goto 4, 3) := by decide +kernel
theorem dX8_safe_50 : decode cX8_safe 50 = .ok (.iconst 0, 1) := by decide +kernel
theorem dX8_safe_51 : decode cX8_safe 51 = .ok (.ior, 1) := by decide +kernel
theorem dX8_safe_52 : decode cX8_safe 52 = .ok (.istore_n 2, 1) := by decide +kernel
theorem dX8_safe_53 : decode cX8_safe 53 = .ok (.iinc 3 1, 3) := by decide +kernel
theorem dX8_safe_56 : decode cX8_safe 56 = .ok (.goto (-41), 3) := by decide +kernel
theorem dX8_safe_59 : decode cX8_safe 59 = .ok (.iload_n 2, 1) := by decide +kernel
theorem dX8_safe_60 : decode cX8_safe 60 = .ok (.ireturn, 1) := by decide +kernel
theorem dX8_image_0 : decode cX8_image 0 = .ok (.iconst 0, 1) := by decide +kernel
theorem dX8_image_1 : decode cX8_image 1 = .ok (.istore_n 1, 1) := by decide +kernel
theorem dX8_image_2 : decode cX8_image 2 = .ok (.iload_n 1, 1) := by decide +kernel
theorem dX8_image_3 : decode cX8_image 3 = .ok (.sipush 160, 3) := by decide +kernel
theorem dX8_image_6 : decode cX8_image 6 = .ok (.if_icmp .ge 21, 3) := by decide +kernel
theorem dX8_image_9 : decode cX8_image 9 = .ok (.aload_n 0, 1) := by decide +kernel
theorem dX8_image_10 : decode cX8_image 10 = .ok (.getfield 50, 3) := by decide +kernel
theorem dX8_image_13 : decode cX8_image 13 = .ok (.iload_n 1, 1) := by decide +kernel
theorem dX8_image_14 : decode cX8_image 14 = .ok (.aload_n 0, 1) := by decide +kernel
theorem dX8_image_15 : decode cX8_image 15 = .ok (.getfield 22, 3) := by decide +kernel
theorem dX8_image_18 : decode cX8_image 18 = .ok (.iload_n 1, 1) := by decide +kernel
theorem dX8_image_19 : decode cX8_image 19 = .ok (.iaload, 1) := by decide +kernel
theorem dX8_image_20 : decode cX8_image 20 = .ok (.iastore, 1) := by decide +kernel
theorem dX8_image_21 : decode cX8_image 21 = .ok (.iinc 1 1, 3) := by decide +kernel
theorem dX8_image_24 : decode cX8_image 24 = .ok (.goto (-22), 3) := by decide +kernel
theorem dX8_image_27 : decode cX8_image 27 = .ok (.iconst 0, 1) := by decide +kernel
theorem dX8_image_28 : decode cX8_image 28 = .ok (.istore_n 1, 1) := by decide +kernel
theorem dX8_image_29 : decode cX8_image 29 = .ok (.iload_n 1, 1) := by decide +kernel
theorem dX8_image_30 : decode cX8_image 30 = .ok (.bipush 6, 2) := by decide +kernel
theorem dX8_image_32 : decode cX8_image 32 = .ok (.if_icmp .ge 33, 3) := by decide +kernel
theorem dX8_image_35 : decode cX8_image 35 = .ok (.aload_n 0, 1) := by decide +kernel
theorem dX8_image_36 : decode cX8_image 36 = .ok (.getfield 53, 3) := by decide +kernel
theorem dX8_image_39 : decode cX8_image 39 = .ok (.iload_n 1, 1) := by decide +kernel
theorem dX8_image_40 : decode cX8_image 40 = .ok (.aload_n 0, 1) := by decide +kernel
theorem dX8_image_41 : decode cX8_image 41 = .ok (.getfield 16, 3) := by decide +kernel
theorem dX8_image_44 : decode cX8_image 44 = .ok (.iload_n 1, 1) := by decide +kernel
theorem dX8_image_45 : decode cX8_image 45 = .ok (.iaload, 1) := by decide +kernel
theorem dX8_image_46 : decode cX8_image 46 = .ok (.iastore, 1) := by decide +kernel
theorem dX8_image_47 : decode cX8_image 47 = .ok (.aload_n 0, 1) := by decide +kernel
theorem dX8_image_48 : decode cX8_image 48 = .ok (.getfield 56, 3) := by decide +kernel
theorem dX8_image_51 : decode cX8_image 51 = .ok (.iload_n 1, 1) := by decide +kernel
theorem dX8_image_52 : decode cX8_image 52 = .ok (.aload_n 0, 1) := by decide +kernel
theorem dX8_image_53 : decode cX8_image 53 = .ok (.getfield 19, 3) := by decide +kernel
theorem dX8_image_56 : decode cX8_image 56 = .ok (.iload_n 1, 1) := by decide +kernel
theorem dX8_image_57 : decode cX8_image 57 = .ok (.iaload, 1) := by decide +kernel
theorem dX8_image_58 : decode cX8_image 58 = .ok (.iastore, 1) := by decide +kernel
theorem dX8_image_59 : decode cX8_image 59 = .ok (.iinc 1 1, 3) := by decide +kernel
theorem dX8_image_62 : decode cX8_image 62 = .ok (.goto (-33), 3) := by decide +kernel
theorem dX8_image_65 : decode cX8_image 65 = .ok (.aload_n 0, 1) := by decide +kernel
theorem dX8_image_66 : decode cX8_image 66 = .ok (.aload_n 0, 1) := by decide +kernel
theorem dX8_image_67 : decode cX8_image 67 = .ok (.getfield 76, 3) := by decide +kernel
theorem dX8_image_70 : decode cX8_image 70 = .ok (.putfield 238, 3) := by decide +kernel
theorem dX8_image_73 : decode cX8_image 73 = .ok (.aload_n 0, 1) := by decide +kernel
theorem dX8_image_74 : decode cX8_image 74 = .ok (.aload_n 0, 1) := by decide +kernel
theorem dX8_image_75 : decode cX8_image 75 = .ok (.getfield 89, 3) := by decide +kernel
theorem dX8_image_78 : decode cX8_image 78 = .ok (.putfield 59, 3) := by decide +kernel
theorem dX8_image_81 : decode cX8_image 81 = .ok (.aload_n 0, 1) := by decide +kernel
theorem dX8_image_82 : decode cX8_image 82 = .ok (.getfield 89, 3) := by decide +kernel
theorem dX8_image_85 : decode cX8_image 85 = .ok (.ireturn, 1) := by decide +kernel
theorem dX8_restore_0 : decode cX8_restore 0 = .ok (.aload_n 0, 1) := by decide +kernel
theorem dX8_restore_1 : decode cX8_restore 1 = .ok (.getfield 59, 3) := by decide +kernel
theorem dX8_restore_4 : decode cX8_restore 4 = .ok (.iconst (-1), 1) := by decide +kernel
theorem dX8_restore_5 : decode cX8_restore 5 = .ok (.if_icmp .ne 6, 3) := by decide +kernel
theorem dX8_restore_8 : decode cX8_restore 8 = .ok (.bipush (-103), 2) := by decide +kernel
theorem dX8_restore_10 : decode cX8_restore 10 = .ok (.ireturn, 1) := by decide +kernel
theorem dX8_restore_11 : decode cX8_restore 11 = .ok (.iconst 0, 1) := by decide +kernel
theorem dX8_restore_12 : decode cX8_restore 12 = .ok (.istore_n 1, 1) := by decide +kernel
theorem dX8_restore_13 : decode cX8_restore 13 = .ok (.iload_n 1, 1) := by decide +kernel
theorem dX8_restore_14 : decode cX8_restore 14 = .ok (.sipush 160, 3) := by decide +kernel
theorem dX8_restore_17 : decode cX8_restore 17 = .ok (.if_icmp .ge 21, 3) := by decide +kernel
theorem dX8_restore_20 : decode cX8_restore 20 = .ok (.aload_n 0, 1) := by decide +kernel
theorem dX8_restore_21 : decode cX8_restore 21 = .ok (.getfield 22, 3) := by decide +kernel
theorem dX8_restore_24 : decode cX8_restore 24 = .ok (.iload_n 1, 1) := by decide +kernel
theorem dX8_restore_25 : decode cX8_restore 25 = .ok (.aload_n 0, 1) := by decide +kernel
theorem dX8_restore_26 : decode cX8_restore 26 = .ok (.getfield 50, 3) := by decide +kernel
theorem dX8_restore_29 : decode cX8_restore 29 = .ok (.iload_n 1, 1) := by decide +kernel
theorem dX8_restore_30 : decode cX8_restore 30 = .ok (.iaload, 1) := by decide +kernel
theorem dX8_restore_31 : decode cX8_restore 31 = .ok (.iastore, 1) := by decide +kernel
theorem dX8_restore_32 : decode cX8_restore 32 = .ok (.iinc 1 1, 3) := by decide +kernel
theorem dX8_restore_35 : decode cX8_restore 35 = .ok (.goto (-22), 3) := by decide +kernel
theorem dX8_restore_38 : decode cX8_restore 38 = .ok (.iconst 0, 1) := by decide +kernel
theorem dX8_restore_39 : decode cX8_restore 39 = .ok (.istore_n 1, 1) := by decide +kernel
theorem dX8_restore_40 : decode cX8_restore 40 = .ok (.iload_n 1, 1) := by decide +kernel
theorem dX8_restore_41 : decode cX8_restore 41 = .ok (.aload_n 0, 1) := by decide +kernel
theorem dX8_restore_42 : decode cX8_restore 42 = .ok (.getfield 76, 3) := by decide +kernel
theorem dX8_restore_45 : decode cX8_restore 45 = .ok (.if_icmp .ge 57, 3) := by decide +kernel
theorem dX8_restore_48 : decode cX8_restore 48 = .ok (.aload_n 0, 1) := by decide +kernel
theorem dX8_restore_49 : decode cX8_restore 49 = .ok (.getfield 16, 3) := by decide +kernel
theorem dX8_restore_52 : decode cX8_restore 52 = .ok (.iload_n 1, 1) := by decide +kernel
theorem dX8_restore_53 : decode cX8_restore 53 = .ok (.iload_n 1, 1) := by decide +kernel
theorem dX8_restore_54 : decode cX8_restore 54 = .ok (.aload_n 0, 1) := by decide +kernel
theorem dX8_restore_55 : decode cX8_restore 55 = .ok (.getfield 238, 3) := by decide +kernel
theorem dX8_restore_58 : decode cX8_restore 58 = .ok (.if_icmp .ge 12, 3) := by decide +kernel
theorem dX8_restore_61 : decode cX8_restore 61 = .ok (.aload_n 0, 1) := by decide +kernel
theorem dX8_restore_62 : decode cX8_restore 62 = .ok (.getfield 53, 3) := by decide +kernel
theorem dX8_restore_65 : decode cX8_restore 65 = .ok (.iload_n 1, 1) := by decide +kernel
theorem dX8_restore_66 : decode cX8_restore 66 = .ok (.iaload, 1) := by decide +kernel
theorem dX8_restore_67 : decode cX8_restore 67 = .ok (.goto 4, 3) := by decide +kernel
theorem dX8_restore_70 : decode cX8_restore 70 = .ok (.iconst (-1), 1) := by decide +kernel
theorem dX8_restore_71 : decode cX8_restore 71 = .ok (.iastore, 1) := by decide +kernel
theorem dX8_restore_72 : decode cX8_restore 72 = .ok (.aload_n 0, 1) := by decide +kernel
theorem dX8_restore_73 : decode cX8_restore 73 = .ok (.getfield 19, 3) := by decide +kernel
theorem dX8_restore_76 : decode cX8_restore 76 = .ok (.iload_n 1, 1) := by decide +kernel
theorem dX8_restore_77 : decode cX8_restore 77 = .ok (.iload_n 1, 1) := by decide +kernel
theorem dX8_restore_78 : decode cX8_restore 78 = .ok (.aload_n 0, 1) := by decide +kernel
theorem dX8_restore_79 : decode cX8_restore 79 = .ok (.getfield 238, 3) := by decide +kernel
theorem dX8_restore_82 : decode cX8_restore 82 = .ok (.if_icmp .ge 12, 3) := by decide +kernel
theorem dX8_restore_85 : decode cX8_restore 85 = .ok (.aload_n 0, 1) := by decide +kernel
theorem dX8_restore_86 : decode cX8_restore 86 = .ok (.getfield 56, 3) := by decide +kernel
theorem dX8_restore_89 : decode cX8_restore 89 = .ok (.iload_n 1, 1) := by decide +kernel
theorem dX8_restore_90 : decode cX8_restore 90 = .ok (.iaload, 1) := by decide +kernel
theorem dX8_restore_91 : decode cX8_restore 91 = .ok (.goto 4, 3) := by decide +kernel
theorem dX8_restore_94 : decode cX8_restore 94 = .ok (.iconst 0, 1) := by decide +kernel
theorem dX8_restore_95 : decode cX8_restore 95 = .ok (.iastore, 1) := by decide +kernel
theorem dX8_restore_96 : decode cX8_restore 96 = .ok (.iinc 1 1, 3) := by decide +kernel
theorem dX8_restore_99 : decode cX8_restore 99 = .ok (.goto (-59), 3) := by decide +kernel
theorem dX8_restore_102 : decode cX8_restore 102 = .ok (.aload_n 0, 1) := by decide +kernel
theorem dX8_restore_103 : decode cX8_restore 103 = .ok (.aload_n 0, 1) := by decide +kernel
theorem dX8_restore_104 : decode cX8_restore 104 = .ok (.getfield 59, 3) := by decide +kernel
theorem dX8_restore_107 : decode cX8_restore 107 = .ok (.putfield 89, 3) := by decide +kernel
theorem dX8_restore_110 : decode cX8_restore 110 = .ok (.aload_n 0, 1) := by decide +kernel
theorem dX8_restore_111 : decode cX8_restore 111 = .ok (.getfield 89, 3) := by decide +kernel
theorem dX8_restore_114 : decode cX8_restore 114 = .ok (.ireturn, 1) := by decide +kernel
theorem dX8_countOf_0 : decode cX8_countOf 0 = .ok (.iconst 0, 1) := by decide +kernel
theorem dX8_countOf_1 : decode cX8_countOf 1 = .ok (.istore_n 2, 1) := by decide +kernel
theorem dX8_countOf_2 : decode cX8_countOf 2 = .ok (.iconst 0, 1) := by decide +kernel
theorem dX8_countOf_3 : decode cX8_countOf 3 = .ok (.istore_n 3, 1) := by decide +kernel
theorem dX8_countOf_4 : decode cX8_countOf 4 = .ok (.iload_n 3, 1) := by decide +kernel
theorem dX8_countOf_5 : decode cX8_countOf 5 = .ok (.aload_n 0, 1) := by decide +kernel
theorem dX8_countOf_6 : decode cX8_countOf 6 = .ok (.getfield 89, 3) := by decide +kernel
theorem dX8_countOf_9 : decode cX8_countOf 9 = .ok (.if_icmp .ge 27, 3) := by decide +kernel
theorem dX8_countOf_12 : decode cX8_countOf 12 = .ok (.iload_n 2, 1) := by decide +kernel
theorem dX8_countOf_13 : decode cX8_countOf 13 = .ok (.aload_n 0, 1) := by decide +kernel
theorem dX8_countOf_14 : decode cX8_countOf 14 = .ok (.iload_n 3, 1) := by decide +kernel
theorem dX8_countOf_15 : decode cX8_countOf 15 = .ok (.iconst 5, 1) := by decide +kernel
theorem dX8_countOf_16 : decode cX8_countOf 16 = .ok (.invokevirtual 95, 3) := by decide +kernel
theorem dX8_countOf_19 : decode cX8_countOf 19 = .ok (.iconst (-1), 1) := by decide +kernel
theorem dX8_countOf_20 : decode cX8_countOf 20 = .ok (.if_icmp .ne 7, 3) := by decide +kernel
theorem dX8_countOf_23 : decode cX8_countOf 23 = .ok (.iconst 0, 1) := by decide +kernel
theorem dX8_countOf_24 : decode cX8_countOf 24 = .ok (.goto 4, 3) := by decide +kernel
theorem dX8_countOf_27 : decode cX8_countOf 27 = .ok (.iconst 1, 1) := by decide +kernel
theorem dX8_countOf_28 : decode cX8_countOf 28 = .ok (.iadd, 1) := by decide +kernel
theorem dX8_countOf_29 : decode cX8_countOf 29 = .ok (.istore_n 2, 1) := by decide +kernel
theorem dX8_countOf_30 : decode cX8_countOf 30 = .ok (.iinc 3 1, 3) := by decide +kernel
theorem dX8_countOf_33 : decode cX8_countOf 33 = .ok (.goto (-29), 3) := by decide +kernel
theorem dX8_countOf_36 : decode cX8_countOf 36 = .ok (.iload_n 1, 1) := by decide +kernel
theorem dX8_countOf_37 : decode cX8_countOf 37 = .ok (.tableswitch 66 0 5 #[39, 44, 49, 54, 59, 64], 39) := by decide +kernel
theorem dX8_countOf_76 : decode cX8_countOf 76 = .ok (.aload_n 0, 1) := by decide +kernel
theorem dX8_countOf_77 : decode cX8_countOf 77 = .ok (.getfield 69, 3) := by decide +kernel
theorem dX8_countOf_80 : decode cX8_countOf 80 = .ok (.ireturn, 1) := by decide +kernel
theorem dX8_countOf_81 : decode cX8_countOf 81 = .ok (.aload_n 0, 1) := by decide +kernel
theorem dX8_countOf_82 : decode cX8_countOf 82 = .ok (.getfield 76, 3) := by decide +kernel
theorem dX8_countOf_85 : decode cX8_countOf 85 = .ok (.ireturn, 1) := by decide +kernel
theorem dX8_countOf_86 : decode cX8_countOf 86 = .ok (.aload_n 0, 1) := by decide +kernel
theorem dX8_countOf_87 : decode cX8_countOf 87 = .ok (.getfield 89, 3) := by decide +kernel
theorem dX8_countOf_90 : decode cX8_countOf 90 = .ok (.ireturn, 1) := by decide +kernel
theorem dX8_countOf_91 : decode cX8_countOf 91 = .ok (.aload_n 0, 1) := by decide +kernel
theorem dX8_countOf_92 : decode cX8_countOf 92 = .ok (.getfield 141, 3) := by decide +kernel
theorem dX8_countOf_95 : decode cX8_countOf 95 = .ok (.ireturn, 1) := by decide +kernel
theorem dX8_countOf_96 : decode cX8_countOf 96 = .ok (.aload_n 0, 1) := by decide +kernel
theorem dX8_countOf_97 : decode cX8_countOf 97 = .ok (.getfield 108, 3) := by decide +kernel
theorem dX8_countOf_100 : decode cX8_countOf 100 = .ok (.ireturn, 1) := by decide +kernel
theorem dX8_countOf_101 : decode cX8_countOf 101 = .ok (.iload_n 2, 1) := by decide +kernel
theorem dX8_countOf_102 : decode cX8_countOf 102 = .ok (.ireturn, 1) := by decide +kernel
theorem dX8_countOf_103 : decode cX8_countOf 103 = .ok (.bipush (-102), 2) := by decide +kernel
theorem dX8_countOf_105 : decode cX8_countOf 105 = .ok (.ireturn, 1) := by decide +kernel
theorem dX8_count_0 : decode cX8_count 0 = .ok (.aload_n 0, 1) := by decide +kernel
theorem dX8_count_1 : decode cX8_count 1 = .ok (.iload_n 1, 1) := by decide +kernel
theorem dX8_count_2 : decode cX8_count 2 = .ok (.invokevirtual 241, 3) := by decide +kernel
theorem dX8_count_5 : decode cX8_count 5 = .ok (.ireturn, 1) := by decide +kernel
theorem dX8_tell_0 : decode cX8_tell 0 = .ok (.aload_n 0, 1) := by decide +kernel
theorem dX8_tell_1 : decode cX8_tell 1 = .ok (.ldc2_w 244, 3) := by decide +kernel
theorem dX8_tell_4 : decode cX8_tell 4 = .ok (.aload_n 0, 1) := by decide +kernel
theorem dX8_tell_5 : decode cX8_tell 5 = .ok (.getfield 246, 3) := by decide +kernel
theorem dX8_tell_8 : decode cX8_tell 8 = .ok (.lmul, 1) := by decide +kernel
theorem dX8_tell_9 : decode cX8_tell 9 = .ok (.lload_n 1, 1) := by decide +kernel
theorem dX8_tell_10 : decode cX8_tell 10 = .ok (.ladd, 1) := by decide +kernel
theorem dX8_tell_11 : decode cX8_tell 11 = .ok (.putfield 246, 3) := by decide +kernel
theorem dX8_tell_14 : decode cX8_tell 14 = .ok (.return_, 1) := by decide +kernel
theorem dX8_tellLaw_0 : decode cX8_tellLaw 0 = .ok (.aload_n 0, 1) := by decide +kernel
theorem dX8_tellLaw_1 : decode cX8_tellLaw 1 = .ok (.iload_n 1, 1) := by decide +kernel
theorem dX8_tellLaw_2 : decode cX8_tellLaw 2 = .ok (.invokevirtual 196, 3) := by decide +kernel
theorem dX8_tellLaw_5 : decode cX8_tellLaw 5 = .ok (.iconst 0, 1) := by decide +kernel
theorem dX8_tellLaw_6 : decode cX8_tellLaw 6 = .ok (.istore_n 2, 1) := by decide +kernel
theorem dX8_tellLaw_7 : decode cX8_tellLaw 7 = .ok (.iload_n 2, 1) := by decide +kernel
theorem dX8_tellLaw_8 : decode cX8_tellLaw 8 = .ok (.aload_n 0, 1) := by decide +kernel
theorem dX8_tellLaw_9 : decode cX8_tellLaw 9 = .ok (.getfield 89, 3) := by decide +kernel
theorem dX8_tellLaw_12 : decode cX8_tellLaw 12 = .ok (.if_icmp .ge 20, 3) := by decide +kernel
theorem dX8_tellLaw_15 : decode cX8_tellLaw 15 = .ok (.aload_n 0, 1) := by decide +kernel
theorem dX8_tellLaw_16 : decode cX8_tellLaw 16 = .ok (.aload_n 0, 1) := by decide +kernel
theorem dX8_tellLaw_17 : decode cX8_tellLaw 17 = .ok (.getfield 44, 3) := by decide +kernel
theorem dX8_tellLaw_20 : decode cX8_tellLaw 20 = .ok (.iload_n 2, 1) := by decide +kernel
theorem dX8_tellLaw_21 : decode cX8_tellLaw 21 = .ok (.iaload, 1) := by decide +kernel
theorem dX8_tellLaw_22 : decode cX8_tellLaw 22 = .ok (.i2l, 1) := by decide +kernel
theorem dX8_tellLaw_23 : decode cX8_tellLaw 23 = .ok (.invokevirtual 250, 3) := by decide +kernel
theorem dX8_tellLaw_26 : decode cX8_tellLaw 26 = .ok (.iinc 2 1, 3) := by decide +kernel
theorem dX8_tellLaw_29 : decode cX8_tellLaw 29 = .ok (.goto (-22), 3) := by decide +kernel
theorem dX8_tellLaw_32 : decode cX8_tellLaw 32 = .ok (.iconst 0, 1) := by decide +kernel
theorem dX8_tellLaw_33 : decode cX8_tellLaw 33 = .ok (.istore_n 2, 1) := by decide +kernel
theorem dX8_tellLaw_34 : decode cX8_tellLaw 34 = .ok (.iload_n 2, 1) := by decide +kernel
theorem dX8_tellLaw_35 : decode cX8_tellLaw 35 = .ok (.aload_n 0, 1) := by decide +kernel
theorem dX8_tellLaw_36 : decode cX8_tellLaw 36 = .ok (.getfield 76, 3) := by decide +kernel
theorem dX8_tellLaw_39 : decode cX8_tellLaw 39 = .ok (.if_icmp .ge 41, 3) := by decide +kernel
theorem dX8_tellLaw_42 : decode cX8_tellLaw 42 = .ok (.aload_n 0, 1) := by decide +kernel
theorem dX8_tellLaw_43 : decode cX8_tellLaw 43 = .ok (.aload_n 0, 1) := by decide +kernel
theorem dX8_tellLaw_44 : decode cX8_tellLaw 44 = .ok (.iload_n 2, 1) := by decide +kernel
theorem dX8_tellLaw_45 : decode cX8_tellLaw 45 = .ok (.invokevirtual 216, 3) := by decide +kernel
theorem dX8_tellLaw_48 : decode cX8_tellLaw 48 = .ok (.i2l, 1) := by decide +kernel
theorem dX8_tellLaw_49 : decode cX8_tellLaw 49 = .ok (.invokevirtual 250, 3) := by decide +kernel
theorem dX8_tellLaw_52 : decode cX8_tellLaw 52 = .ok (.aload_n 0, 1) := by decide +kernel
theorem dX8_tellLaw_53 : decode cX8_tellLaw 53 = .ok (.aload_n 0, 1) := by decide +kernel
theorem dX8_tellLaw_54 : decode cX8_tellLaw 54 = .ok (.getfield 206, 3) := by decide +kernel
theorem dX8_tellLaw_57 : decode cX8_tellLaw 57 = .ok (.i2l, 1) := by decide +kernel
theorem dX8_tellLaw_58 : decode cX8_tellLaw 58 = .ok (.invokevirtual 250, 3) := by decide +kernel
theorem dX8_tellLaw_61 : decode cX8_tellLaw 61 = .ok (.aload_n 0, 1) := by decide +kernel
theorem dX8_tellLaw_62 : decode cX8_tellLaw 62 = .ok (.aload_n 0, 1) := by decide +kernel
theorem dX8_tellLaw_63 : decode cX8_tellLaw 63 = .ok (.iload_n 2, 1) := by decide +kernel
theorem dX8_tellLaw_64 : decode cX8_tellLaw 64 = .ok (.invokevirtual 219, 3) := by decide +kernel
theorem dX8_tellLaw_67 : decode cX8_tellLaw 67 = .ok (.invokestatic 222, 3) := by decide +kernel
theorem dX8_tellLaw_70 : decode cX8_tellLaw 70 = .ok (.i2l, 1) := by decide +kernel
theorem dX8_tellLaw_71 : decode cX8_tellLaw 71 = .ok (.invokevirtual 250, 3) := by decide +kernel
theorem dX8_tellLaw_74 : decode cX8_tellLaw 74 = .ok (.iinc 2 1, 3) := by decide +kernel
theorem dX8_tellLaw_77 : decode cX8_tellLaw 77 = .ok (.goto (-43), 3) := by decide +kernel
theorem dX8_tellLaw_80 : decode cX8_tellLaw 80 = .ok (.return_, 1) := by decide +kernel
theorem dX8_digest_0 : decode cX8_digest 0 = .ok (.aload_n 0, 1) := by decide +kernel
theorem dX8_digest_1 : decode cX8_digest 1 = .ok (.ldc2_w 254, 3) := by decide +kernel
theorem dX8_digest_4 : decode cX8_digest 4 = .ok (.putfield 246, 3) := by decide +kernel
theorem dX8_digest_7 : decode cX8_digest 7 = .ok (.iconst 0, 1) := by decide +kernel
theorem dX8_digest_8 : decode cX8_digest 8 = .ok (.istore_n 1, 1) := by decide +kernel
theorem dX8_digest_9 : decode cX8_digest 9 = .ok (.iload_n 1, 1) := by decide +kernel
theorem dX8_digest_10 : decode cX8_digest 10 = .ok (.aload_n 0, 1) := by decide +kernel
theorem dX8_digest_11 : decode cX8_digest 11 = .ok (.getfield 69, 3) := by decide +kernel
theorem dX8_digest_14 : decode cX8_digest 14 = .ok (.if_icmp .ge 20, 3) := by decide +kernel
theorem dX8_digest_17 : decode cX8_digest 17 = .ok (.aload_n 0, 1) := by decide +kernel
theorem dX8_digest_18 : decode cX8_digest 18 = .ok (.aload_n 0, 1) := by decide +kernel
theorem dX8_digest_19 : decode cX8_digest 19 = .ok (.getfield 7, 3) := by decide +kernel
theorem dX8_digest_22 : decode cX8_digest 22 = .ok (.iload_n 1, 1) := by decide +kernel
theorem dX8_digest_23 : decode cX8_digest 23 = .ok (.iaload, 1) := by decide +kernel
theorem dX8_digest_24 : decode cX8_digest 24 = .ok (.i2l, 1) := by decide +kernel
theorem dX8_digest_25 : decode cX8_digest 25 = .ok (.invokevirtual 250, 3) := by decide +kernel
theorem dX8_digest_28 : decode cX8_digest 28 = .ok (.iinc 1 1, 3) := by decide +kernel
theorem dX8_digest_31 : decode cX8_digest 31 = .ok (.goto (-22), 3) := by decide +kernel
theorem dX8_digest_34 : decode cX8_digest 34 = .ok (.iconst 0, 1) := by decide +kernel
theorem dX8_digest_35 : decode cX8_digest 35 = .ok (.istore_n 1, 1) := by decide +kernel
theorem dX8_digest_36 : decode cX8_digest 36 = .ok (.iload_n 1, 1) := by decide +kernel
theorem dX8_digest_37 : decode cX8_digest 37 = .ok (.aload_n 0, 1) := by decide +kernel
theorem dX8_digest_38 : decode cX8_digest 38 = .ok (.getfield 76, 3) := by decide +kernel
theorem dX8_digest_41 : decode cX8_digest 41 = .ok (.if_icmp .ge 42, 3) := by decide +kernel
theorem dX8_digest_44 : decode cX8_digest 44 = .ok (.aload_n 0, 1) := by decide +kernel
theorem dX8_digest_45 : decode cX8_digest 45 = .ok (.aload_n 0, 1) := by decide +kernel
theorem dX8_digest_46 : decode cX8_digest 46 = .ok (.getfield 13, 3) := by decide +kernel
theorem dX8_digest_49 : decode cX8_digest 49 = .ok (.iload_n 1, 1) := by decide +kernel
theorem dX8_digest_50 : decode cX8_digest 50 = .ok (.iaload, 1) := by decide +kernel
theorem dX8_digest_51 : decode cX8_digest 51 = .ok (.i2l, 1) := by decide +kernel
theorem dX8_digest_52 : decode cX8_digest 52 = .ok (.invokevirtual 250, 3) := by decide +kernel
theorem dX8_digest_55 : decode cX8_digest 55 = .ok (.aload_n 0, 1) := by decide +kernel
theorem dX8_digest_56 : decode cX8_digest 56 = .ok (.aload_n 0, 1) := by decide +kernel
theorem dX8_digest_57 : decode cX8_digest 57 = .ok (.getfield 16, 3) := by decide +kernel
theorem dX8_digest_60 : decode cX8_digest 60 = .ok (.iload_n 1, 1) := by decide +kernel
theorem dX8_digest_61 : decode cX8_digest 61 = .ok (.iaload, 1) := by decide +kernel
theorem dX8_digest_62 : decode cX8_digest 62 = .ok (.i2l, 1) := by decide +kernel
theorem dX8_digest_63 : decode cX8_digest 63 = .ok (.invokevirtual 250, 3) := by decide +kernel
theorem dX8_digest_66 : decode cX8_digest 66 = .ok (.aload_n 0, 1) := by decide +kernel
theorem dX8_digest_67 : decode cX8_digest 67 = .ok (.aload_n 0, 1) := by decide +kernel
theorem dX8_digest_68 : decode cX8_digest 68 = .ok (.getfield 19, 3) := by decide +kernel
theorem dX8_digest_71 : decode cX8_digest 71 = .ok (.iload_n 1, 1) := by decide +kernel
theorem dX8_digest_72 : decode cX8_digest 72 = .ok (.iaload, 1) := by decide +kernel
theorem dX8_digest_73 : decode cX8_digest 73 = .ok (.i2l, 1) := by decide +kernel
theorem dX8_digest_74 : decode cX8_digest 74 = .ok (.invokevirtual 250, 3) := by decide +kernel
theorem dX8_digest_77 : decode cX8_digest 77 = .ok (.iinc 1 1, 3) := by decide +kernel
theorem dX8_digest_80 : decode cX8_digest 80 = .ok (.goto (-44), 3) := by decide +kernel
theorem dX8_digest_83 : decode cX8_digest 83 = .ok (.iconst 0, 1) := by decide +kernel
theorem dX8_digest_84 : decode cX8_digest 84 = .ok (.istore_n 1, 1) := by decide +kernel
theorem dX8_digest_85 : decode cX8_digest 85 = .ok (.iload_n 1, 1) := by decide +kernel
theorem dX8_digest_86 : decode cX8_digest 86 = .ok (.aload_n 0, 1) := by decide +kernel
theorem dX8_digest_87 : decode cX8_digest 87 = .ok (.getfield 89, 3) := by decide +kernel
theorem dX8_digest_90 : decode cX8_digest 90 = .ok (.if_icmp .ge 34, 3) := by decide +kernel
theorem dX8_digest_93 : decode cX8_digest 93 = .ok (.iconst 0, 1) := by decide +kernel
theorem dX8_digest_94 : decode cX8_digest 94 = .ok (.istore_n 2, 1) := by decide +kernel
theorem dX8_digest_95 : decode cX8_digest 95 = .ok (.iload_n 2, 1) := by decide +kernel
theorem dX8_digest_96 : decode cX8_digest 96 = .ok (.bipush 10, 2) := by decide +kernel
theorem dX8_digest_98 : decode cX8_digest 98 = .ok (.if_icmp .ge 20, 3) := by decide +kernel
theorem dX8_digest_101 : decode cX8_digest 101 = .ok (.aload_n 0, 1) := by decide +kernel
theorem dX8_digest_102 : decode cX8_digest 102 = .ok (.aload_n 0, 1) := by decide +kernel
theorem dX8_digest_103 : decode cX8_digest 103 = .ok (.iload_n 1, 1) := by decide +kernel
theorem dX8_digest_104 : decode cX8_digest 104 = .ok (.iload_n 2, 1) := by decide +kernel
theorem dX8_digest_105 : decode cX8_digest 105 = .ok (.invokevirtual 95, 3) := by decide +kernel
theorem dX8_digest_108 : decode cX8_digest 108 = .ok (.i2l, 1) := by decide +kernel
theorem dX8_digest_109 : decode cX8_digest 109 = .ok (.invokevirtual 250, 3) := by decide +kernel
theorem dX8_digest_112 : decode cX8_digest 112 = .ok (.iinc 2 1, 3) := by decide +kernel
theorem dX8_digest_115 : decode cX8_digest 115 = .ok (.goto (-20), 3) := by decide +kernel
theorem dX8_digest_118 : decode cX8_digest 118 = .ok (.iinc 1 1, 3) := by decide +kernel
theorem dX8_digest_121 : decode cX8_digest 121 = .ok (.goto (-36), 3) := by decide +kernel
theorem dX8_digest_124 : decode cX8_digest 124 = .ok (.iconst 0, 1) := by decide +kernel
theorem dX8_digest_125 : decode cX8_digest 125 = .ok (.istore_n 1, 1) := by decide +kernel
theorem dX8_digest_126 : decode cX8_digest 126 = .ok (.iload_n 1, 1) := by decide +kernel
theorem dX8_digest_127 : decode cX8_digest 127 = .ok (.aload_n 0, 1) := by decide +kernel
theorem dX8_digest_128 : decode cX8_digest 128 = .ok (.getfield 141, 3) := by decide +kernel
theorem dX8_digest_131 : decode cX8_digest 131 = .ok (.if_icmp .ge 14, 3) := by decide +kernel
theorem dX8_digest_134 : decode cX8_digest 134 = .ok (.aload_n 0, 1) := by decide +kernel
theorem dX8_digest_135 : decode cX8_digest 135 = .ok (.iload_n 1, 1) := by decide +kernel
theorem dX8_digest_136 : decode cX8_digest 136 = .ok (.invokevirtual 256, 3) := by decide +kernel
theorem dX8_digest_139 : decode cX8_digest 139 = .ok (.iinc 1 1, 3) := by decide +kernel
theorem dX8_digest_142 : decode cX8_digest 142 = .ok (.goto (-16), 3) := by decide +kernel
theorem dX8_digest_145 : decode cX8_digest 145 = .ok (.iconst 0, 1) := by decide +kernel
theorem dX8_digest_146 : decode cX8_digest 146 = .ok (.istore_n 1, 1) := by decide +kernel
theorem dX8_digest_147 : decode cX8_digest 147 = .ok (.iload_n 1, 1) := by decide +kernel
theorem dX8_digest_148 : decode cX8_digest 148 = .ok (.aload_n 0, 1) := by decide +kernel
theorem dX8_digest_149 : decode cX8_digest 149 = .ok (.getfield 108, 3) := by decide +kernel
theorem dX8_digest_152 : decode cX8_digest 152 = .ok (.if_icmp .ge 20, 3) := by decide +kernel
theorem dX8_digest_155 : decode cX8_digest 155 = .ok (.aload_n 0, 1) := by decide +kernel
theorem dX8_digest_156 : decode cX8_digest 156 = .ok (.aload_n 0, 1) := by decide +kernel
theorem dX8_digest_157 : decode cX8_digest 157 = .ok (.getfield 25, 3) := by decide +kernel
theorem dX8_digest_160 : decode cX8_digest 160 = .ok (.iload_n 1, 1) := by decide +kernel
theorem dX8_digest_161 : decode cX8_digest 161 = .ok (.iaload, 1) := by decide +kernel
theorem dX8_digest_162 : decode cX8_digest 162 = .ok (.i2l, 1) := by decide +kernel
theorem dX8_digest_163 : decode cX8_digest 163 = .ok (.invokevirtual 250, 3) := by decide +kernel
theorem dX8_digest_166 : decode cX8_digest 166 = .ok (.iinc 1 1, 3) := by decide +kernel
theorem dX8_digest_169 : decode cX8_digest 169 = .ok (.goto (-22), 3) := by decide +kernel
theorem dX8_digest_172 : decode cX8_digest 172 = .ok (.iconst 0, 1) := by decide +kernel
theorem dX8_digest_173 : decode cX8_digest 173 = .ok (.istore_n 1, 1) := by decide +kernel
theorem dX8_digest_174 : decode cX8_digest 174 = .ok (.iload_n 1, 1) := by decide +kernel
theorem dX8_digest_175 : decode cX8_digest 175 = .ok (.bipush 6, 2) := by decide +kernel
theorem dX8_digest_177 : decode cX8_digest 177 = .ok (.if_icmp .ge 19, 3) := by decide +kernel
theorem dX8_digest_180 : decode cX8_digest 180 = .ok (.aload_n 0, 1) := by decide +kernel
theorem dX8_digest_181 : decode cX8_digest 181 = .ok (.aload_n 0, 1) := by decide +kernel
theorem dX8_digest_182 : decode cX8_digest 182 = .ok (.iload_n 1, 1) := by decide +kernel
theorem dX8_digest_183 : decode cX8_digest 183 = .ok (.invokevirtual 241, 3) := by decide +kernel
theorem dX8_digest_186 : decode cX8_digest 186 = .ok (.i2l, 1) := by decide +kernel
theorem dX8_digest_187 : decode cX8_digest 187 = .ok (.invokevirtual 250, 3) := by decide +kernel
theorem dX8_digest_190 : decode cX8_digest 190 = .ok (.iinc 1 1, 3) := by decide +kernel
theorem dX8_digest_193 : decode cX8_digest 193 = .ok (.goto (-19), 3) := by decide +kernel
theorem dX8_digest_196 : decode cX8_digest 196 = .ok (.aload_n 0, 1) := by decide +kernel
theorem dX8_digest_197 : decode cX8_digest 197 = .ok (.getfield 246, 3) := by decide +kernel
theorem dX8_digest_200 : decode cX8_digest 200 = .ok (.lreturn, 1) := by decide +kernel
theorem dJ6_numberOfTrailingZeros_0f7a4_0 : decode cJ6_numberOfTrailingZeros_0f7a4 0 = .ok (.iload_n 0, 1) := by decide +kernel
theorem dJ6_numberOfTrailingZeros_0f7a4_1 : decode cJ6_numberOfTrailingZeros_0f7a4 1 = .ok (.iconst (-1), 1) := by decide +kernel
theorem dJ6_numberOfTrailingZeros_0f7a4_2 : decode cJ6_numberOfTrailingZeros_0f7a4 2 = .ok (.ixor, 1) := by decide +kernel
theorem dJ6_numberOfTrailingZeros_0f7a4_3 : decode cJ6_numberOfTrailingZeros_0f7a4 3 = .ok (.iload_n 0, 1) := by decide +kernel
theorem dJ6_numberOfTrailingZeros_0f7a4_4 : decode cJ6_numberOfTrailingZeros_0f7a4 4 = .ok (.iconst 1, 1) := by decide +kernel
theorem dJ6_numberOfTrailingZeros_0f7a4_5 : decode cJ6_numberOfTrailingZeros_0f7a4 5 = .ok (.isub, 1) := by decide +kernel
theorem dJ6_numberOfTrailingZeros_0f7a4_6 : decode cJ6_numberOfTrailingZeros_0f7a4 6 = .ok (.iand, 1) := by decide +kernel
theorem dJ6_numberOfTrailingZeros_0f7a4_7 : decode cJ6_numberOfTrailingZeros_0f7a4 7 = .ok (.istore_n 0, 1) := by decide +kernel
theorem dJ6_numberOfTrailingZeros_0f7a4_8 : decode cJ6_numberOfTrailingZeros_0f7a4 8 = .ok (.iload_n 0, 1) := by decide +kernel
theorem dJ6_numberOfTrailingZeros_0f7a4_9 : decode cJ6_numberOfTrailingZeros_0f7a4 9 = .ok (.ifCond .gt 8, 3) := by decide +kernel
theorem dJ6_numberOfTrailingZeros_0f7a4_12 : decode cJ6_numberOfTrailingZeros_0f7a4 12 = .ok (.iload_n 0, 1) := by decide +kernel
theorem dJ6_numberOfTrailingZeros_0f7a4_13 : decode cJ6_numberOfTrailingZeros_0f7a4 13 = .ok (.bipush 32, 2) := by decide +kernel
theorem dJ6_numberOfTrailingZeros_0f7a4_15 : decode cJ6_numberOfTrailingZeros_0f7a4 15 = .ok (.iand, 1) := by decide +kernel
theorem dJ6_numberOfTrailingZeros_0f7a4_16 : decode cJ6_numberOfTrailingZeros_0f7a4 16 = .ok (.ireturn, 1) := by decide +kernel
theorem dJ6_numberOfTrailingZeros_0f7a4_17 : decode cJ6_numberOfTrailingZeros_0f7a4 17 = .ok (.iconst 1, 1) := by decide +kernel
theorem dJ6_numberOfTrailingZeros_0f7a4_18 : decode cJ6_numberOfTrailingZeros_0f7a4 18 = .ok (.istore_n 1, 1) := by decide +kernel
theorem dJ6_numberOfTrailingZeros_0f7a4_19 : decode cJ6_numberOfTrailingZeros_0f7a4 19 = .ok (.iload_n 0, 1) := by decide +kernel
theorem dJ6_numberOfTrailingZeros_0f7a4_20 : decode cJ6_numberOfTrailingZeros_0f7a4 20 = .ok (.ldc_w 264, 3) := by decide +kernel
theorem dJ6_numberOfTrailingZeros_0f7a4_23 : decode cJ6_numberOfTrailingZeros_0f7a4 23 = .ok (.if_icmp .le 11, 3) := by decide +kernel
theorem dJ6_numberOfTrailingZeros_0f7a4_26 : decode cJ6_numberOfTrailingZeros_0f7a4 26 = .ok (.iinc 1 16, 3) := by decide +kernel
theorem dJ6_numberOfTrailingZeros_0f7a4_29 : decode cJ6_numberOfTrailingZeros_0f7a4 29 = .ok (.iload_n 0, 1) := by decide +kernel
theorem dJ6_numberOfTrailingZeros_0f7a4_30 : decode cJ6_numberOfTrailingZeros_0f7a4 30 = .ok (.bipush 16, 2) := by decide +kernel
theorem dJ6_numberOfTrailingZeros_0f7a4_32 : decode cJ6_numberOfTrailingZeros_0f7a4 32 = .ok (.iushr, 1) := by decide +kernel
theorem dJ6_numberOfTrailingZeros_0f7a4_33 : decode cJ6_numberOfTrailingZeros_0f7a4 33 = .ok (.istore_n 0, 1) := by decide +kernel
theorem dJ6_numberOfTrailingZeros_0f7a4_34 : decode cJ6_numberOfTrailingZeros_0f7a4 34 = .ok (.iload_n 0, 1) := by decide +kernel
theorem dJ6_numberOfTrailingZeros_0f7a4_35 : decode cJ6_numberOfTrailingZeros_0f7a4 35 = .ok (.sipush 256, 3) := by decide +kernel
theorem dJ6_numberOfTrailingZeros_0f7a4_38 : decode cJ6_numberOfTrailingZeros_0f7a4 38 = .ok (.if_icmp .le 11, 3) := by decide +kernel
theorem dJ6_numberOfTrailingZeros_0f7a4_41 : decode cJ6_numberOfTrailingZeros_0f7a4 41 = .ok (.iinc 1 8, 3) := by decide +kernel
theorem dJ6_numberOfTrailingZeros_0f7a4_44 : decode cJ6_numberOfTrailingZeros_0f7a4 44 = .ok (.iload_n 0, 1) := by decide +kernel
theorem dJ6_numberOfTrailingZeros_0f7a4_45 : decode cJ6_numberOfTrailingZeros_0f7a4 45 = .ok (.bipush 8, 2) := by decide +kernel
theorem dJ6_numberOfTrailingZeros_0f7a4_47 : decode cJ6_numberOfTrailingZeros_0f7a4 47 = .ok (.iushr, 1) := by decide +kernel
theorem dJ6_numberOfTrailingZeros_0f7a4_48 : decode cJ6_numberOfTrailingZeros_0f7a4 48 = .ok (.istore_n 0, 1) := by decide +kernel
theorem dJ6_numberOfTrailingZeros_0f7a4_49 : decode cJ6_numberOfTrailingZeros_0f7a4 49 = .ok (.iload_n 0, 1) := by decide +kernel
theorem dJ6_numberOfTrailingZeros_0f7a4_50 : decode cJ6_numberOfTrailingZeros_0f7a4 50 = .ok (.bipush 16, 2) := by decide +kernel
theorem dJ6_numberOfTrailingZeros_0f7a4_52 : decode cJ6_numberOfTrailingZeros_0f7a4 52 = .ok (.if_icmp .le 10, 3) := by decide +kernel
theorem dJ6_numberOfTrailingZeros_0f7a4_55 : decode cJ6_numberOfTrailingZeros_0f7a4 55 = .ok (.iinc 1 4, 3) := by decide +kernel
theorem dJ6_numberOfTrailingZeros_0f7a4_58 : decode cJ6_numberOfTrailingZeros_0f7a4 58 = .ok (.iload_n 0, 1) := by decide +kernel
theorem dJ6_numberOfTrailingZeros_0f7a4_59 : decode cJ6_numberOfTrailingZeros_0f7a4 59 = .ok (.iconst 4, 1) := by decide +kernel
theorem dJ6_numberOfTrailingZeros_0f7a4_60 : decode cJ6_numberOfTrailingZeros_0f7a4 60 = .ok (.iushr, 1) := by decide +kernel
theorem dJ6_numberOfTrailingZeros_0f7a4_61 : decode cJ6_numberOfTrailingZeros_0f7a4 61 = .ok (.istore_n 0, 1) := by decide +kernel
theorem dJ6_numberOfTrailingZeros_0f7a4_62 : decode cJ6_numberOfTrailingZeros_0f7a4 62 = .ok (.iload_n 0, 1) := by decide +kernel
theorem dJ6_numberOfTrailingZeros_0f7a4_63 : decode cJ6_numberOfTrailingZeros_0f7a4 63 = .ok (.iconst 4, 1) := by decide +kernel
theorem dJ6_numberOfTrailingZeros_0f7a4_64 : decode cJ6_numberOfTrailingZeros_0f7a4 64 = .ok (.if_icmp .le 10, 3) := by decide +kernel
theorem dJ6_numberOfTrailingZeros_0f7a4_67 : decode cJ6_numberOfTrailingZeros_0f7a4 67 = .ok (.iinc 1 2, 3) := by decide +kernel
theorem dJ6_numberOfTrailingZeros_0f7a4_70 : decode cJ6_numberOfTrailingZeros_0f7a4 70 = .ok (.iload_n 0, 1) := by decide +kernel
theorem dJ6_numberOfTrailingZeros_0f7a4_71 : decode cJ6_numberOfTrailingZeros_0f7a4 71 = .ok (.iconst 2, 1) := by decide +kernel
theorem dJ6_numberOfTrailingZeros_0f7a4_72 : decode cJ6_numberOfTrailingZeros_0f7a4 72 = .ok (.iushr, 1) := by decide +kernel
theorem dJ6_numberOfTrailingZeros_0f7a4_73 : decode cJ6_numberOfTrailingZeros_0f7a4 73 = .ok (.istore_n 0, 1) := by decide +kernel
theorem dJ6_numberOfTrailingZeros_0f7a4_74 : decode cJ6_numberOfTrailingZeros_0f7a4 74 = .ok (.iload_n 1, 1) := by decide +kernel
theorem dJ6_numberOfTrailingZeros_0f7a4_75 : decode cJ6_numberOfTrailingZeros_0f7a4 75 = .ok (.iload_n 0, 1) := by decide +kernel
theorem dJ6_numberOfTrailingZeros_0f7a4_76 : decode cJ6_numberOfTrailingZeros_0f7a4 76 = .ok (.iconst 1, 1) := by decide +kernel
theorem dJ6_numberOfTrailingZeros_0f7a4_77 : decode cJ6_numberOfTrailingZeros_0f7a4 77 = .ok (.iushr, 1) := by decide +kernel
theorem dJ6_numberOfTrailingZeros_0f7a4_78 : decode cJ6_numberOfTrailingZeros_0f7a4 78 = .ok (.iadd, 1) := by decide +kernel
theorem dJ6_numberOfTrailingZeros_0f7a4_79 : decode cJ6_numberOfTrailingZeros_0f7a4 79 = .ok (.ireturn, 1) := by decide +kernel
theorem dJ6_bitCount_0f7a4_0 : decode cJ6_bitCount_0f7a4 0 = .ok (.iload_n 0, 1) := by decide +kernel
theorem dJ6_bitCount_0f7a4_1 : decode cJ6_bitCount_0f7a4 1 = .ok (.iload_n 0, 1) := by decide +kernel
theorem dJ6_bitCount_0f7a4_2 : decode cJ6_bitCount_0f7a4 2 = .ok (.iconst 1, 1) := by decide +kernel
theorem dJ6_bitCount_0f7a4_3 : decode cJ6_bitCount_0f7a4 3 = .ok (.iushr, 1) := by decide +kernel
theorem dJ6_bitCount_0f7a4_4 : decode cJ6_bitCount_0f7a4 4 = .ok (.ldc_w 265, 3) := by decide +kernel
theorem dJ6_bitCount_0f7a4_7 : decode cJ6_bitCount_0f7a4 7 = .ok (.iand, 1) := by decide +kernel
theorem dJ6_bitCount_0f7a4_8 : decode cJ6_bitCount_0f7a4 8 = .ok (.isub, 1) := by decide +kernel
theorem dJ6_bitCount_0f7a4_9 : decode cJ6_bitCount_0f7a4 9 = .ok (.istore_n 0, 1) := by decide +kernel
theorem dJ6_bitCount_0f7a4_10 : decode cJ6_bitCount_0f7a4 10 = .ok (.iload_n 0, 1) := by decide +kernel
theorem dJ6_bitCount_0f7a4_11 : decode cJ6_bitCount_0f7a4 11 = .ok (.ldc_w 266, 3) := by decide +kernel
theorem dJ6_bitCount_0f7a4_14 : decode cJ6_bitCount_0f7a4 14 = .ok (.iand, 1) := by decide +kernel
theorem dJ6_bitCount_0f7a4_15 : decode cJ6_bitCount_0f7a4 15 = .ok (.iload_n 0, 1) := by decide +kernel
theorem dJ6_bitCount_0f7a4_16 : decode cJ6_bitCount_0f7a4 16 = .ok (.iconst 2, 1) := by decide +kernel
theorem dJ6_bitCount_0f7a4_17 : decode cJ6_bitCount_0f7a4 17 = .ok (.iushr, 1) := by decide +kernel
theorem dJ6_bitCount_0f7a4_18 : decode cJ6_bitCount_0f7a4 18 = .ok (.ldc_w 266, 3) := by decide +kernel
theorem dJ6_bitCount_0f7a4_21 : decode cJ6_bitCount_0f7a4 21 = .ok (.iand, 1) := by decide +kernel
theorem dJ6_bitCount_0f7a4_22 : decode cJ6_bitCount_0f7a4 22 = .ok (.iadd, 1) := by decide +kernel
theorem dJ6_bitCount_0f7a4_23 : decode cJ6_bitCount_0f7a4 23 = .ok (.istore_n 0, 1) := by decide +kernel
theorem dJ6_bitCount_0f7a4_24 : decode cJ6_bitCount_0f7a4 24 = .ok (.iload_n 0, 1) := by decide +kernel
theorem dJ6_bitCount_0f7a4_25 : decode cJ6_bitCount_0f7a4 25 = .ok (.iload_n 0, 1) := by decide +kernel
theorem dJ6_bitCount_0f7a4_26 : decode cJ6_bitCount_0f7a4 26 = .ok (.iconst 4, 1) := by decide +kernel
theorem dJ6_bitCount_0f7a4_27 : decode cJ6_bitCount_0f7a4 27 = .ok (.iushr, 1) := by decide +kernel
theorem dJ6_bitCount_0f7a4_28 : decode cJ6_bitCount_0f7a4 28 = .ok (.iadd, 1) := by decide +kernel
theorem dJ6_bitCount_0f7a4_29 : decode cJ6_bitCount_0f7a4 29 = .ok (.ldc_w 267, 3) := by decide +kernel
theorem dJ6_bitCount_0f7a4_32 : decode cJ6_bitCount_0f7a4 32 = .ok (.iand, 1) := by decide +kernel
theorem dJ6_bitCount_0f7a4_33 : decode cJ6_bitCount_0f7a4 33 = .ok (.istore_n 0, 1) := by decide +kernel
theorem dJ6_bitCount_0f7a4_34 : decode cJ6_bitCount_0f7a4 34 = .ok (.iload_n 0, 1) := by decide +kernel
theorem dJ6_bitCount_0f7a4_35 : decode cJ6_bitCount_0f7a4 35 = .ok (.iload_n 0, 1) := by decide +kernel
theorem dJ6_bitCount_0f7a4_36 : decode cJ6_bitCount_0f7a4 36 = .ok (.bipush 8, 2) := by decide +kernel
theorem dJ6_bitCount_0f7a4_38 : decode cJ6_bitCount_0f7a4 38 = .ok (.iushr, 1) := by decide +kernel
theorem dJ6_bitCount_0f7a4_39 : decode cJ6_bitCount_0f7a4 39 = .ok (.iadd, 1) := by decide +kernel
theorem dJ6_bitCount_0f7a4_40 : decode cJ6_bitCount_0f7a4 40 = .ok (.istore_n 0, 1) := by decide +kernel
theorem dJ6_bitCount_0f7a4_41 : decode cJ6_bitCount_0f7a4 41 = .ok (.iload_n 0, 1) := by decide +kernel
theorem dJ6_bitCount_0f7a4_42 : decode cJ6_bitCount_0f7a4 42 = .ok (.iload_n 0, 1) := by decide +kernel
theorem dJ6_bitCount_0f7a4_43 : decode cJ6_bitCount_0f7a4 43 = .ok (.bipush 16, 2) := by decide +kernel
theorem dJ6_bitCount_0f7a4_45 : decode cJ6_bitCount_0f7a4 45 = .ok (.iushr, 1) := by decide +kernel
theorem dJ6_bitCount_0f7a4_46 : decode cJ6_bitCount_0f7a4 46 = .ok (.iadd, 1) := by decide +kernel
theorem dJ6_bitCount_0f7a4_47 : decode cJ6_bitCount_0f7a4 47 = .ok (.istore_n 0, 1) := by decide +kernel
theorem dJ6_bitCount_0f7a4_48 : decode cJ6_bitCount_0f7a4 48 = .ok (.iload_n 0, 1) := by decide +kernel
theorem dJ6_bitCount_0f7a4_49 : decode cJ6_bitCount_0f7a4 49 = .ok (.bipush 63, 2) := by decide +kernel
theorem dJ6_bitCount_0f7a4_51 : decode cJ6_bitCount_0f7a4 51 = .ok (.iand, 1) := by decide +kernel
theorem dJ6_bitCount_0f7a4_52 : decode cJ6_bitCount_0f7a4 52 = .ok (.ireturn, 1) := by decide +kernel
theorem dJ9_min_7cf53_0 : decode cJ9_min_7cf53 0 = .ok (.iload_n 0, 1) := by decide +kernel
theorem dJ9_min_7cf53_1 : decode cJ9_min_7cf53 1 = .ok (.iload_n 1, 1) := by decide +kernel
theorem dJ9_min_7cf53_2 : decode cJ9_min_7cf53 2 = .ok (.if_icmp .gt 7, 3) := by decide +kernel
theorem dJ9_min_7cf53_5 : decode cJ9_min_7cf53 5 = .ok (.iload_n 0, 1) := by decide +kernel
theorem dJ9_min_7cf53_6 : decode cJ9_min_7cf53 6 = .ok (.goto 4, 3) := by decide +kernel
theorem dJ9_min_7cf53_9 : decode cJ9_min_7cf53 9 = .ok (.iload_n 1, 1) := by decide +kernel
theorem dJ9_min_7cf53_10 : decode cJ9_min_7cf53 10 = .ok (.ireturn, 1) := by decide +kernel
theorem dL_law_0 : decode cL_law 0 = .ok (.new 7, 3) := by decide +kernel
theorem dL_law_3 : decode cL_law 3 = .ok (.dup, 1) := by decide +kernel
theorem dL_law_4 : decode cL_law 4 = .ok (.invokespecial 9, 3) := by decide +kernel
theorem dL_law_7 : decode cL_law 7 = .ok (.astore_n 1, 1) := by decide +kernel
theorem dL_law_8 : decode cL_law 8 = .ok (.new 10, 3) := by decide +kernel
theorem dL_law_11 : decode cL_law 11 = .ok (.dup, 1) := by decide +kernel
theorem dL_law_12 : decode cL_law 12 = .ok (.invokespecial 12, 3) := by decide +kernel
theorem dL_law_15 : decode cL_law 15 = .ok (.astore_n 2, 1) := by decide +kernel
theorem dL_law_16 : decode cL_law 16 = .ok (.iconst 0, 1) := by decide +kernel
theorem dL_law_17 : decode cL_law 17 = .ok (.istore_n 3, 1) := by decide +kernel
theorem dL_law_18 : decode cL_law 18 = .ok (.iload_n 3, 1) := by decide +kernel
theorem dL_law_19 : decode cL_law 19 = .ok (.aload_n 0, 1) := by decide +kernel
theorem dL_law_20 : decode cL_law 20 = .ok (.arraylength, 1) := by decide +kernel
theorem dL_law_21 : decode cL_law 21 = .ok (.bipush 6, 2) := by decide +kernel
theorem dL_law_23 : decode cL_law 23 = .ok (.isub, 1) := by decide +kernel
theorem dL_law_24 : decode cL_law 24 = .ok (.if_icmp .gt 1090, 3) := by decide +kernel
theorem dL_law_27 : decode cL_law 27 = .ok (.aload_n 0, 1) := by decide +kernel
theorem dL_law_28 : decode cL_law 28 = .ok (.iload_n 3, 1) := by decide +kernel
theorem dL_law_29 : decode cL_law 29 = .ok (.iaload, 1) := by decide +kernel
theorem dL_law_30 : decode cL_law 30 = .ok (.bipush 31, 2) := by decide +kernel
theorem dL_law_32 : decode cL_law 32 = .ok (.iand, 1) := by decide +kernel
theorem dL_law_33 : decode cL_law 33 = .ok (.tableswitch 1075 0 28 #[131, 154, 177, 240, 273, 306, 359, 408, 441, 484, 537, 550, 563, 576, 629, 662, 705, 738, 781, 824, 857, 890, 933, 956, 989, 1012, 1025, 1038, 1061], 131) := by decide +kernel
theorem dL_law_164 : decode cL_law 164 = .ok (.aload_n 1, 1) := by decide +kernel
theorem dL_law_165 : decode cL_law 165 = .ok (.aload_n 0, 1) := by decide +kernel
theorem dL_law_166 : decode cL_law 166 = .ok (.iload_n 3, 1) := by decide +kernel
theorem dL_law_167 : decode cL_law 167 = .ok (.iconst 1, 1) := by decide +kernel
theorem dL_law_168 : decode cL_law 168 = .ok (.iadd, 1) := by decide +kernel
theorem dL_law_169 : decode cL_law 169 = .ok (.iaload, 1) := by decide +kernel
theorem dL_law_170 : decode cL_law 170 = .ok (.invokevirtual 13, 3) := by decide +kernel
theorem dL_law_173 : decode cL_law 173 = .ok (.aload_n 2, 1) := by decide +kernel
theorem dL_law_174 : decode cL_law 174 = .ok (.aload_n 0, 1) := by decide +kernel
theorem dL_law_175 : decode cL_law 175 = .ok (.iload_n 3, 1) := by decide +kernel
theorem dL_law_176 : decode cL_law 176 = .ok (.iconst 1, 1) := by decide +kernel
theorem dL_law_177 : decode cL_law 177 = .ok (.iadd, 1) := by decide +kernel
theorem dL_law_178 : decode cL_law 178 = .ok (.iaload, 1) := by decide +kernel
theorem dL_law_179 : decode cL_law 179 = .ok (.invokevirtual 17, 3) := by decide +kernel
theorem dL_law_182 : decode cL_law 182 = .ok (.if_icmp .eq 926, 3) := by decide +kernel
theorem dL_law_185 : decode cL_law 185 = .ok (.iconst 0, 1) := by decide +kernel
theorem dL_law_186 : decode cL_law 186 = .ok (.ireturn, 1) := by decide +kernel
theorem dL_law_187 : decode cL_law 187 = .ok (.aload_n 1, 1) := by decide +kernel
theorem dL_law_188 : decode cL_law 188 = .ok (.aload_n 0, 1) := by decide +kernel
theorem dL_law_189 : decode cL_law 189 = .ok (.iload_n 3, 1) := by decide +kernel
theorem dL_law_190 : decode cL_law 190 = .ok (.iconst 1, 1) := by decide +kernel
theorem dL_law_191 : decode cL_law 191 = .ok (.iadd, 1) := by decide +kernel
theorem dL_law_192 : decode cL_law 192 = .ok (.iaload, 1) := by decide +kernel
theorem dL_law_193 : decode cL_law 193 = .ok (.invokevirtual 18, 3) := by decide +kernel
theorem dL_law_196 : decode cL_law 196 = .ok (.aload_n 2, 1) := by decide +kernel
theorem dL_law_197 : decode cL_law 197 = .ok (.aload_n 0, 1) := by decide +kernel
theorem dL_law_198 : decode cL_law 198 = .ok (.iload_n 3, 1) := by decide +kernel
theorem dL_law_199 : decode cL_law 199 = .ok (.iconst 1, 1) := by decide +kernel
theorem dL_law_200 : decode cL_law 200 = .ok (.iadd, 1) := by decide +kernel
theorem dL_law_201 : decode cL_law 201 = .ok (.iaload, 1) := by decide +kernel
theorem dL_law_202 : decode cL_law 202 = .ok (.invokevirtual 21, 3) := by decide +kernel
theorem dL_law_205 : decode cL_law 205 = .ok (.if_icmp .eq 903, 3) := by decide +kernel
theorem dL_law_208 : decode cL_law 208 = .ok (.iconst 0, 1) := by decide +kernel
theorem dL_law_209 : decode cL_law 209 = .ok (.ireturn, 1) := by decide +kernel
theorem dL_law_210 : decode cL_law 210 = .ok (.aload_n 1, 1) := by decide +kernel
theorem dL_law_211 : decode cL_law 211 = .ok (.aload_n 0, 1) := by decide +kernel
theorem dL_law_212 : decode cL_law 212 = .ok (.iload_n 3, 1) := by decide +kernel
theorem dL_law_213 : decode cL_law 213 = .ok (.iconst 1, 1) := by decide +kernel
theorem dL_law_214 : decode cL_law 214 = .ok (.iadd, 1) := by decide +kernel
theorem dL_law_215 : decode cL_law 215 = .ok (.iaload, 1) := by decide +kernel
theorem dL_law_216 : decode cL_law 216 = .ok (.aload_n 0, 1) := by decide +kernel
theorem dL_law_217 : decode cL_law 217 = .ok (.iload_n 3, 1) := by decide +kernel
theorem dL_law_218 : decode cL_law 218 = .ok (.iconst 2, 1) := by decide +kernel
theorem dL_law_219 : decode cL_law 219 = .ok (.iadd, 1) := by decide +kernel
theorem dL_law_220 : decode cL_law 220 = .ok (.iaload, 1) := by decide +kernel
theorem dL_law_221 : decode cL_law 221 = .ok (.aload_n 0, 1) := by decide +kernel
theorem dL_law_222 : decode cL_law 222 = .ok (.iload_n 3, 1) := by decide +kernel
theorem dL_law_223 : decode cL_law 223 = .ok (.iconst 3, 1) := by decide +kernel
theorem dL_law_224 : decode cL_law 224 = .ok (.iadd, 1) := by decide +kernel
theorem dL_law_225 : decode cL_law 225 = .ok (.iaload, 1) := by decide +kernel
theorem dL_law_226 : decode cL_law 226 = .ok (.aload_n 0, 1) := by decide +kernel
theorem dL_law_227 : decode cL_law 227 = .ok (.iload_n 3, 1) := by decide +kernel
theorem dL_law_228 : decode cL_law 228 = .ok (.iconst 4, 1) := by decide +kernel
theorem dL_law_229 : decode cL_law 229 = .ok (.iadd, 1) := by decide +kernel
theorem dL_law_230 : decode cL_law 230 = .ok (.iaload, 1) := by decide +kernel
theorem dL_law_231 : decode cL_law 231 = .ok (.aload_n 0, 1) := by decide +kernel
theorem dL_law_232 : decode cL_law 232 = .ok (.iload_n 3, 1) := by decide +kernel
theorem dL_law_233 : decode cL_law 233 = .ok (.iconst 5, 1) := by decide +kernel
theorem dL_law_234 : decode cL_law 234 = .ok (.iadd, 1) := by decide +kernel
theorem dL_law_235 : decode cL_law 235 = .ok (.iaload, 1) := by decide +kernel
theorem dL_law_236 : decode cL_law 236 = .ok (.invokevirtual 22, 3) := by decide +kernel
theorem dL_law_239 : decode cL_law 239 = .ok (.aload_n 2, 1) := by decide +kernel
theorem dL_law_240 : decode cL_law 240 = .ok (.aload_n 0, 1) := by decide +kernel
theorem dL_law_241 : decode cL_law 241 = .ok (.iload_n 3, 1) := by decide +kernel
theorem dL_law_242 : decode cL_law 242 = .ok (.iconst 1, 1) := by decide +kernel
theorem dL_law_243 : decode cL_law 243 = .ok (.iadd, 1) := by decide +kernel
theorem dL_law_244 : decode cL_law 244 = .ok (.iaload, 1) := by decide +kernel
theorem dL_law_245 : decode cL_law 245 = .ok (.aload_n 0, 1) := by decide +kernel
theorem dL_law_246 : decode cL_law 246 = .ok (.iload_n 3, 1) := by decide +kernel
theorem dL_law_247 : decode cL_law 247 = .ok (.iconst 2, 1) := by decide +kernel
theorem dL_law_248 : decode cL_law 248 = .ok (.iadd, 1) := by decide +kernel
theorem dL_law_249 : decode cL_law 249 = .ok (.iaload, 1) := by decide +kernel
theorem dL_law_250 : decode cL_law 250 = .ok (.aload_n 0, 1) := by decide +kernel
theorem dL_law_251 : decode cL_law 251 = .ok (.iload_n 3, 1) := by decide +kernel
theorem dL_law_252 : decode cL_law 252 = .ok (.iconst 3, 1) := by decide +kernel
theorem dL_law_253 : decode cL_law 253 = .ok (.iadd, 1) := by decide +kernel
theorem dL_law_254 : decode cL_law 254 = .ok (.iaload, 1) := by decide +kernel
theorem dL_law_255 : decode cL_law 255 = .ok (.aload_n 0, 1) := by decide +kernel
theorem dL_law_256 : decode cL_law 256 = .ok (.iload_n 3, 1) := by decide +kernel
theorem dL_law_257 : decode cL_law 257 = .ok (.iconst 4, 1) := by decide +kernel
theorem dL_law_258 : decode cL_law 258 = .ok (.iadd, 1) := by decide +kernel
theorem dL_law_259 : decode cL_law 259 = .ok (.iaload, 1) := by decide +kernel
theorem dL_law_260 : decode cL_law 260 = .ok (.aload_n 0, 1) := by decide +kernel
theorem dL_law_261 : decode cL_law 261 = .ok (.iload_n 3, 1) := by decide +kernel
theorem dL_law_262 : decode cL_law 262 = .ok (.iconst 5, 1) := by decide +kernel
theorem dL_law_263 : decode cL_law 263 = .ok (.iadd, 1) := by decide +kernel
theorem dL_law_264 : decode cL_law 264 = .ok (.iaload, 1) := by decide +kernel
theorem dL_law_265 : decode cL_law 265 = .ok (.invokevirtual 26, 3) := by decide +kernel
theorem dL_law_268 : decode cL_law 268 = .ok (.if_icmp .eq 840, 3) := by decide +kernel
theorem dL_law_271 : decode cL_law 271 = .ok (.iconst 0, 1) := by decide +kernel
theorem dL_law_272 : decode cL_law 272 = .ok (.ireturn, 1) := by decide +kernel
theorem dL_law_273 : decode cL_law 273 = .ok (.aload_n 1, 1) := by decide +kernel
theorem dL_law_274 : decode cL_law 274 = .ok (.aload_n 0, 1) := by decide +kernel
theorem dL_law_275 : decode cL_law 275 = .ok (.iload_n 3, 1) := by decide +kernel
theorem dL_law_276 : decode cL_law 276 = .ok (.iconst 1, 1) := by decide +kernel
theorem dL_law_277 : decode cL_law 277 = .ok (.iadd, 1) := by decide +kernel
theorem dL_law_278 : decode cL_law 278 = .ok (.iaload, 1) := by decide +kernel
theorem dL_law_279 : decode cL_law 279 = .ok (.aload_n 0, 1) := by decide +kernel
theorem dL_law_280 : decode cL_law 280 = .ok (.iload_n 3, 1) := by decide +kernel
theorem dL_law_281 : decode cL_law 281 = .ok (.iconst 2, 1) := by decide +kernel
theorem dL_law_282 : decode cL_law 282 = .ok (.iadd, 1) := by decide +kernel
theorem dL_law_283 : decode cL_law 283 = .ok (.iaload, 1) := by decide +kernel
theorem dL_law_284 : decode cL_law 284 = .ok (.invokevirtual 27, 3) := by decide +kernel
theorem dL_law_287 : decode cL_law 287 = .ok (.aload_n 2, 1) := by decide +kernel
theorem dL_law_288 : decode cL_law 288 = .ok (.aload_n 0, 1) := by decide +kernel
theorem dL_law_289 : decode cL_law 289 = .ok (.iload_n 3, 1) := by decide +kernel
theorem dL_law_290 : decode cL_law 290 = .ok (.iconst 1, 1) := by decide +kernel
theorem dL_law_291 : decode cL_law 291 = .ok (.iadd, 1) := by decide +kernel
theorem dL_law_292 : decode cL_law 292 = .ok (.iaload, 1) := by decide +kernel
theorem dL_law_293 : decode cL_law 293 = .ok (.aload_n 0, 1) := by decide +kernel
theorem dL_law_294 : decode cL_law 294 = .ok (.iload_n 3, 1) := by decide +kernel
theorem dL_law_295 : decode cL_law 295 = .ok (.iconst 2, 1) := by decide +kernel
theorem dL_law_296 : decode cL_law 296 = .ok (.iadd, 1) := by decide +kernel
theorem dL_law_297 : decode cL_law 297 = .ok (.iaload, 1) := by decide +kernel
theorem dL_law_298 : decode cL_law 298 = .ok (.invokevirtual 31, 3) := by decide +kernel
theorem dL_law_301 : decode cL_law 301 = .ok (.if_icmp .eq 807, 3) := by decide +kernel
theorem dL_law_304 : decode cL_law 304 = .ok (.iconst 0, 1) := by decide +kernel
theorem dL_law_305 : decode cL_law 305 = .ok (.ireturn, 1) := by decide +kernel
theorem dL_law_306 : decode cL_law 306 = .ok (.aload_n 1, 1) := by decide +kernel
theorem dL_law_307 : decode cL_law 307 = .ok (.aload_n 0, 1) := by decide +kernel
theorem dL_law_308 : decode cL_law 308 = .ok (.iload_n 3, 1) := by decide +kernel
theorem dL_law_309 : decode cL_law 309 = .ok (.iconst 1, 1) := by decide +kernel
theorem dL_law_310 : decode cL_law 310 = .ok (.iadd, 1) := by decide +kernel
theorem dL_law_311 : decode cL_law 311 = .ok (.iaload, 1) := by decide +kernel
theorem dL_law_312 : decode cL_law 312 = .ok (.aload_n 0, 1) := by decide +kernel
theorem dL_law_313 : decode cL_law 313 = .ok (.iload_n 3, 1) := by decide +kernel
theorem dL_law_314 : decode cL_law 314 = .ok (.iconst 2, 1) := by decide +kernel
theorem dL_law_315 : decode cL_law 315 = .ok (.iadd, 1) := by decide +kernel
theorem dL_law_316 : decode cL_law 316 = .ok (.iaload, 1) := by decide +kernel
theorem dL_law_317 : decode cL_law 317 = .ok (.invokevirtual 32, 3) := by decide +kernel
theorem dL_law_320 : decode cL_law 320 = .ok (.aload_n 2, 1) := by decide +kernel
theorem dL_law_321 : decode cL_law 321 = .ok (.aload_n 0, 1) := by decide +kernel
theorem dL_law_322 : decode cL_law 322 = .ok (.iload_n 3, 1) := by decide +kernel
theorem dL_law_323 : decode cL_law 323 = .ok (.iconst 1, 1) := by decide +kernel
theorem dL_law_324 : decode cL_law 324 = .ok (.iadd, 1) := by decide +kernel
theorem dL_law_325 : decode cL_law 325 = .ok (.iaload, 1) := by decide +kernel
theorem dL_law_326 : decode cL_law 326 = .ok (.aload_n 0, 1) := by decide +kernel
theorem dL_law_327 : decode cL_law 327 = .ok (.iload_n 3, 1) := by decide +kernel
theorem dL_law_328 : decode cL_law 328 = .ok (.iconst 2, 1) := by decide +kernel
theorem dL_law_329 : decode cL_law 329 = .ok (.iadd, 1) := by decide +kernel
theorem dL_law_330 : decode cL_law 330 = .ok (.iaload, 1) := by decide +kernel
theorem dL_law_331 : decode cL_law 331 = .ok (.invokevirtual 35, 3) := by decide +kernel
theorem dL_law_334 : decode cL_law 334 = .ok (.if_icmp .eq 774, 3) := by decide +kernel
theorem dL_law_337 : decode cL_law 337 = .ok (.iconst 0, 1) := by decide +kernel
theorem dL_law_338 : decode cL_law 338 = .ok (.ireturn, 1) := by decide +kernel
theorem dL_law_339 : decode cL_law 339 = .ok (.aload_n 1, 1) := by decide +kernel
theorem dL_law_340 : decode cL_law 340 = .ok (.aload_n 0, 1) := by decide +kernel
theorem dL_law_341 : decode cL_law 341 = .ok (.iload_n 3, 1) := by decide +kernel
theorem dL_law_342 : decode cL_law 342 = .ok (.iconst 1, 1) := by decide +kernel
theorem dL_law_343 : decode cL_law 343 = .ok (.iadd, 1) := by decide +kernel
theorem dL_law_344 : decode cL_law 344 = .ok (.iaload, 1) := by decide +kernel
theorem dL_law_345 : decode cL_law 345 = .ok (.aload_n 0, 1) := by decide +kernel
theorem dL_law_346 : decode cL_law 346 = .ok (.iload_n 3, 1) := by decide +kernel
theorem dL_law_347 : decode cL_law 347 = .ok (.iconst 2, 1) := by decide +kernel
theorem dL_law_348 : decode cL_law 348 = .ok (.iadd, 1) := by decide +kernel
theorem dL_law_349 : decode cL_law 349 = .ok (.iaload, 1) := by decide +kernel
theorem dL_law_350 : decode cL_law 350 = .ok (.aload_n 0, 1) := by decide +kernel
theorem dL_law_351 : decode cL_law 351 = .ok (.iload_n 3, 1) := by decide +kernel
theorem dL_law_352 : decode cL_law 352 = .ok (.iconst 3, 1) := by decide +kernel
theorem dL_law_353 : decode cL_law 353 = .ok (.iadd, 1) := by decide +kernel
theorem dL_law_354 : decode cL_law 354 = .ok (.iaload, 1) := by decide +kernel
theorem dL_law_355 : decode cL_law 355 = .ok (.aload_n 0, 1) := by decide +kernel
theorem dL_law_356 : decode cL_law 356 = .ok (.iload_n 3, 1) := by decide +kernel
theorem dL_law_357 : decode cL_law 357 = .ok (.iconst 4, 1) := by decide +kernel
theorem dL_law_358 : decode cL_law 358 = .ok (.iadd, 1) := by decide +kernel
theorem dL_law_359 : decode cL_law 359 = .ok (.iaload, 1) := by decide +kernel
theorem dL_law_360 : decode cL_law 360 = .ok (.invokevirtual 36, 3) := by decide +kernel
theorem dL_law_363 : decode cL_law 363 = .ok (.aload_n 2, 1) := by decide +kernel
theorem dL_law_364 : decode cL_law 364 = .ok (.aload_n 0, 1) := by decide +kernel
theorem dL_law_365 : decode cL_law 365 = .ok (.iload_n 3, 1) := by decide +kernel
theorem dL_law_366 : decode cL_law 366 = .ok (.iconst 1, 1) := by decide +kernel
theorem dL_law_367 : decode cL_law 367 = .ok (.iadd, 1) := by decide +kernel
theorem dL_law_368 : decode cL_law 368 = .ok (.iaload, 1) := by decide +kernel
theorem dL_law_369 : decode cL_law 369 = .ok (.aload_n 0, 1) := by decide +kernel
theorem dL_law_370 : decode cL_law 370 = .ok (.iload_n 3, 1) := by decide +kernel
theorem dL_law_371 : decode cL_law 371 = .ok (.iconst 2, 1) := by decide +kernel
theorem dL_law_372 : decode cL_law 372 = .ok (.iadd, 1) := by decide +kernel
theorem dL_law_373 : decode cL_law 373 = .ok (.iaload, 1) := by decide +kernel
theorem dL_law_374 : decode cL_law 374 = .ok (.aload_n 0, 1) := by decide +kernel
theorem dL_law_375 : decode cL_law 375 = .ok (.iload_n 3, 1) := by decide +kernel
theorem dL_law_376 : decode cL_law 376 = .ok (.iconst 3, 1) := by decide +kernel
theorem dL_law_377 : decode cL_law 377 = .ok (.iadd, 1) := by decide +kernel
theorem dL_law_378 : decode cL_law 378 = .ok (.iaload, 1) := by decide +kernel
theorem dL_law_379 : decode cL_law 379 = .ok (.aload_n 0, 1) := by decide +kernel
theorem dL_law_380 : decode cL_law 380 = .ok (.iload_n 3, 1) := by decide +kernel
theorem dL_law_381 : decode cL_law 381 = .ok (.iconst 4, 1) := by decide +kernel
theorem dL_law_382 : decode cL_law 382 = .ok (.iadd, 1) := by decide +kernel
theorem dL_law_383 : decode cL_law 383 = .ok (.iaload, 1) := by decide +kernel
theorem dL_law_384 : decode cL_law 384 = .ok (.invokevirtual 40, 3) := by decide +kernel
theorem dL_law_387 : decode cL_law 387 = .ok (.if_icmp .eq 721, 3) := by decide +kernel
theorem dL_law_390 : decode cL_law 390 = .ok (.iconst 0, 1) := by decide +kernel
theorem dL_law_391 : decode cL_law 391 = .ok (.ireturn, 1) := by decide +kernel
theorem dL_law_392 : decode cL_law 392 = .ok (.aload_n 1, 1) := by decide +kernel
theorem dL_law_393 : decode cL_law 393 = .ok (.aload_n 0, 1) := by decide +kernel
theorem dL_law_394 : decode cL_law 394 = .ok (.iload_n 3, 1) := by decide +kernel
theorem dL_law_395 : decode cL_law 395 = .ok (.iconst 1, 1) := by decide +kernel
theorem dL_law_396 : decode cL_law 396 = .ok (.iadd, 1) := by decide +kernel
theorem dL_law_397 : decode cL_law 397 = .ok (.iaload, 1) := by decide +kernel
theorem dL_law_398 : decode cL_law 398 = .ok (.aload_n 0, 1) := by decide +kernel
theorem dL_law_399 : decode cL_law 399 = .ok (.iload_n 3, 1) := by decide +kernel
theorem dL_law_400 : decode cL_law 400 = .ok (.iconst 2, 1) := by decide +kernel
theorem dL_law_401 : decode cL_law 401 = .ok (.iadd, 1) := by decide +kernel
theorem dL_law_402 : decode cL_law 402 = .ok (.iaload, 1) := by decide +kernel
theorem dL_law_403 : decode cL_law 403 = .ok (.ifCond .eq 7, 3) := by decide +kernel
theorem dL_law_406 : decode cL_law 406 = .ok (.iconst 1, 1) := by decide +kernel
theorem dL_law_407 : decode cL_law 407 = .ok (.goto 4, 3) := by decide +kernel
theorem dL_law_410 : decode cL_law 410 = .ok (.iconst 0, 1) := by decide +kernel
theorem dL_law_411 : decode cL_law 411 = .ok (.invokevirtual 41, 3) := by decide +kernel
theorem dL_law_414 : decode cL_law 414 = .ok (.aload_n 2, 1) := by decide +kernel
theorem dL_law_415 : decode cL_law 415 = .ok (.aload_n 0, 1) := by decide +kernel
theorem dL_law_416 : decode cL_law 416 = .ok (.iload_n 3, 1) := by decide +kernel
theorem dL_law_417 : decode cL_law 417 = .ok (.iconst 1, 1) := by decide +kernel
theorem dL_law_418 : decode cL_law 418 = .ok (.iadd, 1) := by decide +kernel
theorem dL_law_419 : decode cL_law 419 = .ok (.iaload, 1) := by decide +kernel
theorem dL_law_420 : decode cL_law 420 = .ok (.aload_n 0, 1) := by decide +kernel
theorem dL_law_421 : decode cL_law 421 = .ok (.iload_n 3, 1) := by decide +kernel
theorem dL_law_422 : decode cL_law 422 = .ok (.iconst 2, 1) := by decide +kernel
theorem dL_law_423 : decode cL_law 423 = .ok (.iadd, 1) := by decide +kernel
theorem dL_law_424 : decode cL_law 424 = .ok (.iaload, 1) := by decide +kernel
theorem dL_law_425 : decode cL_law 425 = .ok (.ifCond .eq 7, 3) := by decide +kernel
theorem dL_law_428 : decode cL_law 428 = .ok (.iconst 1, 1) := by decide +kernel
theorem dL_law_429 : decode cL_law 429 = .ok (.goto 4, 3) := by decide +kernel
theorem dL_law_432 : decode cL_law 432 = .ok (.iconst 0, 1) := by decide +kernel
theorem dL_law_433 : decode cL_law 433 = .ok (.invokevirtual 45, 3) := by decide +kernel
theorem dL_law_436 : decode cL_law 436 = .ok (.if_icmp .eq 672, 3) := by decide +kernel
theorem dL_law_439 : decode cL_law 439 = .ok (.iconst 0, 1) := by decide +kernel
theorem dL_law_440 : decode cL_law 440 = .ok (.ireturn, 1) := by decide +kernel
theorem dL_law_441 : decode cL_law 441 = .ok (.aload_n 1, 1) := by decide +kernel
theorem dL_law_442 : decode cL_law 442 = .ok (.aload_n 0, 1) := by decide +kernel
theorem dL_law_443 : decode cL_law 443 = .ok (.iload_n 3, 1) := by decide +kernel
theorem dL_law_444 : decode cL_law 444 = .ok (.iconst 1, 1) := by decide +kernel
theorem dL_law_445 : decode cL_law 445 = .ok (.iadd, 1) := by decide +kernel
theorem dL_law_446 : decode cL_law 446 = .ok (.iaload, 1) := by decide +kernel
theorem dL_law_447 : decode cL_law 447 = .ok (.aload_n 0, 1) := by decide +kernel
theorem dL_law_448 : decode cL_law 448 = .ok (.iload_n 3, 1) := by decide +kernel
theorem dL_law_449 : decode cL_law 449 = .ok (.iconst 2, 1) := by decide +kernel
theorem dL_law_450 : decode cL_law 450 = .ok (.iadd, 1) := by decide +kernel
theorem dL_law_451 : decode cL_law 451 = .ok (.iaload, 1) := by decide +kernel
theorem dL_law_452 : decode cL_law 452 = .ok (.invokevirtual 46, 3) := by decide +kernel
theorem dL_law_455 : decode cL_law 455 = .ok (.aload_n 2, 1) := by decide +kernel
theorem dL_law_456 : decode cL_law 456 = .ok (.aload_n 0, 1) := by decide +kernel
theorem dL_law_457 : decode cL_law 457 = .ok (.iload_n 3, 1) := by decide +kernel
theorem dL_law_458 : decode cL_law 458 = .ok (.iconst 1, 1) := by decide +kernel
theorem dL_law_459 : decode cL_law 459 = .ok (.iadd, 1) := by decide +kernel
theorem dL_law_460 : decode cL_law 460 = .ok (.iaload, 1) := by decide +kernel
theorem dL_law_461 : decode cL_law 461 = .ok (.aload_n 0, 1) := by decide +kernel
theorem dL_law_462 : decode cL_law 462 = .ok (.iload_n 3, 1) := by decide +kernel
theorem dL_law_463 : decode cL_law 463 = .ok (.iconst 2, 1) := by decide +kernel
theorem dL_law_464 : decode cL_law 464 = .ok (.iadd, 1) := by decide +kernel
theorem dL_law_465 : decode cL_law 465 = .ok (.iaload, 1) := by decide +kernel
theorem dL_law_466 : decode cL_law 466 = .ok (.invokevirtual 49, 3) := by decide +kernel
theorem dL_law_469 : decode cL_law 469 = .ok (.if_icmp .eq 639, 3) := by decide +kernel
theorem dL_law_472 : decode cL_law 472 = .ok (.iconst 0, 1) := by decide +kernel
theorem dL_law_473 : decode cL_law 473 = .ok (.ireturn, 1) := by decide +kernel
theorem dL_law_474 : decode cL_law 474 = .ok (.aload_n 1, 1) := by decide +kernel
theorem dL_law_475 : decode cL_law 475 = .ok (.aload_n 0, 1) := by decide +kernel
theorem dL_law_476 : decode cL_law 476 = .ok (.iload_n 3, 1) := by decide +kernel
theorem dL_law_477 : decode cL_law 477 = .ok (.iconst 1, 1) := by decide +kernel
theorem dL_law_478 : decode cL_law 478 = .ok (.iadd, 1) := by decide +kernel
theorem dL_law_479 : decode cL_law 479 = .ok (.iaload, 1) := by decide +kernel
theorem dL_law_480 : decode cL_law 480 = .ok (.aload_n 0, 1) := by decide +kernel
theorem dL_law_481 : decode cL_law 481 = .ok (.iload_n 3, 1) := by decide +kernel
theorem dL_law_482 : decode cL_law 482 = .ok (.iconst 2, 1) := by decide +kernel
theorem dL_law_483 : decode cL_law 483 = .ok (.iadd, 1) := by decide +kernel
theorem dL_law_484 : decode cL_law 484 = .ok (.iaload, 1) := by decide +kernel
theorem dL_law_485 : decode cL_law 485 = .ok (.aload_n 0, 1) := by decide +kernel
theorem dL_law_486 : decode cL_law 486 = .ok (.iload_n 3, 1) := by decide +kernel
theorem dL_law_487 : decode cL_law 487 = .ok (.iconst 3, 1) := by decide +kernel
theorem dL_law_488 : decode cL_law 488 = .ok (.iadd, 1) := by decide +kernel
theorem dL_law_489 : decode cL_law 489 = .ok (.iaload, 1) := by decide +kernel
theorem dL_law_490 : decode cL_law 490 = .ok (.invokevirtual 50, 3) := by decide +kernel
theorem dL_law_493 : decode cL_law 493 = .ok (.aload_n 2, 1) := by decide +kernel
theorem dL_law_494 : decode cL_law 494 = .ok (.aload_n 0, 1) := by decide +kernel
theorem dL_law_495 : decode cL_law 495 = .ok (.iload_n 3, 1) := by decide +kernel
theorem dL_law_496 : decode cL_law 496 = .ok (.iconst 1, 1) := by decide +kernel
theorem dL_law_497 : decode cL_law 497 = .ok (.iadd, 1) := by decide +kernel
theorem dL_law_498 : decode cL_law 498 = .ok (.iaload, 1) := by decide +kernel
theorem dL_law_499 : decode cL_law 499 = .ok (.aload_n 0, 1) := by decide +kernel
theorem dL_law_500 : decode cL_law 500 = .ok (.iload_n 3, 1) := by decide +kernel
theorem dL_law_501 : decode cL_law 501 = .ok (.iconst 2, 1) := by decide +kernel
theorem dL_law_502 : decode cL_law 502 = .ok (.iadd, 1) := by decide +kernel
theorem dL_law_503 : decode cL_law 503 = .ok (.iaload, 1) := by decide +kernel
theorem dL_law_504 : decode cL_law 504 = .ok (.aload_n 0, 1) := by decide +kernel
theorem dL_law_505 : decode cL_law 505 = .ok (.iload_n 3, 1) := by decide +kernel
theorem dL_law_506 : decode cL_law 506 = .ok (.iconst 3, 1) := by decide +kernel
theorem dL_law_507 : decode cL_law 507 = .ok (.iadd, 1) := by decide +kernel
theorem dL_law_508 : decode cL_law 508 = .ok (.iaload, 1) := by decide +kernel
theorem dL_law_509 : decode cL_law 509 = .ok (.invokevirtual 54, 3) := by decide +kernel
theorem dL_law_512 : decode cL_law 512 = .ok (.if_icmp .eq 596, 3) := by decide +kernel
theorem dL_law_515 : decode cL_law 515 = .ok (.iconst 0, 1) := by decide +kernel
theorem dL_law_516 : decode cL_law 516 = .ok (.ireturn, 1) := by decide +kernel
theorem dL_law_517 : decode cL_law 517 = .ok (.aload_n 1, 1) := by decide +kernel
theorem dL_law_518 : decode cL_law 518 = .ok (.aload_n 0, 1) := by decide +kernel
theorem dL_law_519 : decode cL_law 519 = .ok (.iload_n 3, 1) := by decide +kernel
theorem dL_law_520 : decode cL_law 520 = .ok (.iconst 1, 1) := by decide +kernel
theorem dL_law_521 : decode cL_law 521 = .ok (.iadd, 1) := by decide +kernel
theorem dL_law_522 : decode cL_law 522 = .ok (.iaload, 1) := by decide +kernel
theorem dL_law_523 : decode cL_law 523 = .ok (.i2l, 1) := by decide +kernel
theorem dL_law_524 : decode cL_law 524 = .ok (.bipush 32, 2) := by decide +kernel
theorem dL_law_526 : decode cL_law 526 = .ok (.lshl, 1) := by decide +kernel
theorem dL_law_527 : decode cL_law 527 = .ok (.aload_n 0, 1) := by decide +kernel
theorem dL_law_528 : decode cL_law 528 = .ok (.iload_n 3, 1) := by decide +kernel
theorem dL_law_529 : decode cL_law 529 = .ok (.iconst 2, 1) := by decide +kernel
theorem dL_law_530 : decode cL_law 530 = .ok (.iadd, 1) := by decide +kernel
theorem dL_law_531 : decode cL_law 531 = .ok (.iaload, 1) := by decide +kernel
theorem dL_law_532 : decode cL_law 532 = .ok (.i2l, 1) := by decide +kernel
theorem dL_law_533 : decode cL_law 533 = .ok (.ldc2_w 55, 3) := by decide +kernel
theorem dL_law_536 : decode cL_law 536 = .ok (.land, 1) := by decide +kernel
theorem dL_law_537 : decode cL_law 537 = .ok (.lor, 1) := by decide +kernel
theorem dL_law_538 : decode cL_law 538 = .ok (.invokevirtual 57, 3) := by decide +kernel
theorem dL_law_541 : decode cL_law 541 = .ok (.aload_n 2, 1) := by decide +kernel
theorem dL_law_542 : decode cL_law 542 = .ok (.aload_n 0, 1) := by decide +kernel
theorem dL_law_543 : decode cL_law 543 = .ok (.iload_n 3, 1) := by decide +kernel
theorem dL_law_544 : decode cL_law 544 = .ok (.iconst 1, 1) := by decide +kernel
theorem dL_law_545 : decode cL_law 545 = .ok (.iadd, 1) := by decide +kernel
theorem dL_law_546 : decode cL_law 546 = .ok (.iaload, 1) := by decide +kernel
theorem dL_law_547 : decode cL_law 547 = .ok (.i2l, 1) := by decide +kernel
theorem dL_law_548 : decode cL_law 548 = .ok (.bipush 32, 2) := by decide +kernel
theorem dL_law_550 : decode cL_law 550 = .ok (.lshl, 1) := by decide +kernel
theorem dL_law_551 : decode cL_law 551 = .ok (.aload_n 0, 1) := by decide +kernel
theorem dL_law_552 : decode cL_law 552 = .ok (.iload_n 3, 1) := by decide +kernel
theorem dL_law_553 : decode cL_law 553 = .ok (.iconst 2, 1) := by decide +kernel
theorem dL_law_554 : decode cL_law 554 = .ok (.iadd, 1) := by decide +kernel
theorem dL_law_555 : decode cL_law 555 = .ok (.iaload, 1) := by decide +kernel
theorem dL_law_556 : decode cL_law 556 = .ok (.i2l, 1) := by decide +kernel
theorem dL_law_557 : decode cL_law 557 = .ok (.ldc2_w 55, 3) := by decide +kernel
theorem dL_law_560 : decode cL_law 560 = .ok (.land, 1) := by decide +kernel
theorem dL_law_561 : decode cL_law 561 = .ok (.lor, 1) := by decide +kernel
theorem dL_law_562 : decode cL_law 562 = .ok (.invokevirtual 61, 3) := by decide +kernel
theorem dL_law_565 : decode cL_law 565 = .ok (.if_icmp .eq 543, 3) := by decide +kernel
theorem dL_law_568 : decode cL_law 568 = .ok (.iconst 0, 1) := by decide +kernel
theorem dL_law_569 : decode cL_law 569 = .ok (.ireturn, 1) := by decide +kernel
theorem dL_law_570 : decode cL_law 570 = .ok (.aload_n 1, 1) := by decide +kernel
theorem dL_law_571 : decode cL_law 571 = .ok (.invokevirtual 62, 3) := by decide +kernel
theorem dL_law_574 : decode cL_law 574 = .ok (.aload_n 2, 1) := by decide +kernel
theorem dL_law_575 : decode cL_law 575 = .ok (.invokevirtual 66, 3) := by decide +kernel
theorem dL_law_578 : decode cL_law 578 = .ok (.if_icmp .eq 530, 3) := by decide +kernel
theorem dL_law_581 : decode cL_law 581 = .ok (.iconst 0, 1) := by decide +kernel
theorem dL_law_582 : decode cL_law 582 = .ok (.ireturn, 1) := by decide +kernel
theorem dL_law_583 : decode cL_law 583 = .ok (.aload_n 1, 1) := by decide +kernel
theorem dL_law_584 : decode cL_law 584 = .ok (.invokevirtual 67, 3) := by decide +kernel
theorem dL_law_587 : decode cL_law 587 = .ok (.aload_n 2, 1) := by decide +kernel
theorem dL_law_588 : decode cL_law 588 = .ok (.invokevirtual 70, 3) := by decide +kernel
theorem dL_law_591 : decode cL_law 591 = .ok (.if_icmp .eq 517, 3) := by decide +kernel
theorem dL_law_594 : decode cL_law 594 = .ok (.iconst 0, 1) := by decide +kernel
theorem dL_law_595 : decode cL_law 595 = .ok (.ireturn, 1) := by decide +kernel
theorem dL_law_596 : decode cL_law 596 = .ok (.aload_n 1, 1) := by decide +kernel
theorem dL_law_597 : decode cL_law 597 = .ok (.invokevirtual 71, 3) := by decide +kernel
theorem dL_law_600 : decode cL_law 600 = .ok (.aload_n 2, 1) := by decide +kernel
theorem dL_law_601 : decode cL_law 601 = .ok (.invokevirtual 74, 3) := by decide +kernel
theorem dL_law_604 : decode cL_law 604 = .ok (.if_icmp .eq 504, 3) := by decide +kernel
theorem dL_law_607 : decode cL_law 607 = .ok (.iconst 0, 1) := by decide +kernel
theorem dL_law_608 : decode cL_law 608 = .ok (.ireturn, 1) := by decide +kernel
theorem dL_law_609 : decode cL_law 609 = .ok (.aload_n 1, 1) := by decide +kernel
theorem dL_law_610 : decode cL_law 610 = .ok (.aload_n 0, 1) := by decide +kernel
theorem dL_law_611 : decode cL_law 611 = .ok (.iload_n 3, 1) := by decide +kernel
theorem dL_law_612 : decode cL_law 612 = .ok (.iconst 1, 1) := by decide +kernel
theorem dL_law_613 : decode cL_law 613 = .ok (.iadd, 1) := by decide +kernel
theorem dL_law_614 : decode cL_law 614 = .ok (.iaload, 1) := by decide +kernel
theorem dL_law_615 : decode cL_law 615 = .ok (.aload_n 0, 1) := by decide +kernel
theorem dL_law_616 : decode cL_law 616 = .ok (.iload_n 3, 1) := by decide +kernel
theorem dL_law_617 : decode cL_law 617 = .ok (.iconst 2, 1) := by decide +kernel
theorem dL_law_618 : decode cL_law 618 = .ok (.iadd, 1) := by decide +kernel
theorem dL_law_619 : decode cL_law 619 = .ok (.iaload, 1) := by decide +kernel
theorem dL_law_620 : decode cL_law 620 = .ok (.aload_n 0, 1) := by decide +kernel
theorem dL_law_621 : decode cL_law 621 = .ok (.iload_n 3, 1) := by decide +kernel
theorem dL_law_622 : decode cL_law 622 = .ok (.iconst 3, 1) := by decide +kernel
theorem dL_law_623 : decode cL_law 623 = .ok (.iadd, 1) := by decide +kernel
theorem dL_law_624 : decode cL_law 624 = .ok (.iaload, 1) := by decide +kernel
theorem dL_law_625 : decode cL_law 625 = .ok (.aload_n 0, 1) := by decide +kernel
theorem dL_law_626 : decode cL_law 626 = .ok (.iload_n 3, 1) := by decide +kernel
theorem dL_law_627 : decode cL_law 627 = .ok (.iconst 4, 1) := by decide +kernel
theorem dL_law_628 : decode cL_law 628 = .ok (.iadd, 1) := by decide +kernel
theorem dL_law_629 : decode cL_law 629 = .ok (.iaload, 1) := by decide +kernel
theorem dL_law_630 : decode cL_law 630 = .ok (.invokevirtual 75, 3) := by decide +kernel
theorem dL_law_633 : decode cL_law 633 = .ok (.aload_n 2, 1) := by decide +kernel
theorem dL_law_634 : decode cL_law 634 = .ok (.aload_n 0, 1) := by decide +kernel
theorem dL_law_635 : decode cL_law 635 = .ok (.iload_n 3, 1) := by decide +kernel
theorem dL_law_636 : decode cL_law 636 = .ok (.iconst 1, 1) := by decide +kernel
theorem dL_law_637 : decode cL_law 637 = .ok (.iadd, 1) := by decide +kernel
theorem dL_law_638 : decode cL_law 638 = .ok (.iaload, 1) := by decide +kernel
theorem dL_law_639 : decode cL_law 639 = .ok (.aload_n 0, 1) := by decide +kernel
theorem dL_law_640 : decode cL_law 640 = .ok (.iload_n 3, 1) := by decide +kernel
theorem dL_law_641 : decode cL_law 641 = .ok (.iconst 2, 1) := by decide +kernel
theorem dL_law_642 : decode cL_law 642 = .ok (.iadd, 1) := by decide +kernel
theorem dL_law_643 : decode cL_law 643 = .ok (.iaload, 1) := by decide +kernel
theorem dL_law_644 : decode cL_law 644 = .ok (.aload_n 0, 1) := by decide +kernel
theorem dL_law_645 : decode cL_law 645 = .ok (.iload_n 3, 1) := by decide +kernel
theorem dL_law_646 : decode cL_law 646 = .ok (.iconst 3, 1) := by decide +kernel
theorem dL_law_647 : decode cL_law 647 = .ok (.iadd, 1) := by decide +kernel
theorem dL_law_648 : decode cL_law 648 = .ok (.iaload, 1) := by decide +kernel
theorem dL_law_649 : decode cL_law 649 = .ok (.aload_n 0, 1) := by decide +kernel
theorem dL_law_650 : decode cL_law 650 = .ok (.iload_n 3, 1) := by decide +kernel
theorem dL_law_651 : decode cL_law 651 = .ok (.iconst 4, 1) := by decide +kernel
theorem dL_law_652 : decode cL_law 652 = .ok (.iadd, 1) := by decide +kernel
theorem dL_law_653 : decode cL_law 653 = .ok (.iaload, 1) := by decide +kernel
theorem dL_law_654 : decode cL_law 654 = .ok (.invokevirtual 78, 3) := by decide +kernel
theorem dL_law_657 : decode cL_law 657 = .ok (.if_icmp .eq 451, 3) := by decide +kernel
theorem dL_law_660 : decode cL_law 660 = .ok (.iconst 0, 1) := by decide +kernel
theorem dL_law_661 : decode cL_law 661 = .ok (.ireturn, 1) := by decide +kernel
theorem dL_law_662 : decode cL_law 662 = .ok (.aload_n 1, 1) := by decide +kernel
theorem dL_law_663 : decode cL_law 663 = .ok (.aload_n 0, 1) := by decide +kernel
theorem dL_law_664 : decode cL_law 664 = .ok (.iload_n 3, 1) := by decide +kernel
theorem dL_law_665 : decode cL_law 665 = .ok (.iconst 1, 1) := by decide +kernel
theorem dL_law_666 : decode cL_law 666 = .ok (.iadd, 1) := by decide +kernel
theorem dL_law_667 : decode cL_law 667 = .ok (.iaload, 1) := by decide +kernel
theorem dL_law_668 : decode cL_law 668 = .ok (.aload_n 0, 1) := by decide +kernel
theorem dL_law_669 : decode cL_law 669 = .ok (.iload_n 3, 1) := by decide +kernel
theorem dL_law_670 : decode cL_law 670 = .ok (.iconst 2, 1) := by decide +kernel
theorem dL_law_671 : decode cL_law 671 = .ok (.iadd, 1) := by decide +kernel
theorem dL_law_672 : decode cL_law 672 = .ok (.iaload, 1) := by decide +kernel
theorem dL_law_673 : decode cL_law 673 = .ok (.invokevirtual 79, 3) := by decide +kernel
theorem dL_law_676 : decode cL_law 676 = .ok (.aload_n 2, 1) := by decide +kernel
theorem dL_law_677 : decode cL_law 677 = .ok (.aload_n 0, 1) := by decide +kernel
theorem dL_law_678 : decode cL_law 678 = .ok (.iload_n 3, 1) := by decide +kernel
theorem dL_law_679 : decode cL_law 679 = .ok (.iconst 1, 1) := by decide +kernel
theorem dL_law_680 : decode cL_law 680 = .ok (.iadd, 1) := by decide +kernel
theorem dL_law_681 : decode cL_law 681 = .ok (.iaload, 1) := by decide +kernel
theorem dL_law_682 : decode cL_law 682 = .ok (.aload_n 0, 1) := by decide +kernel
theorem dL_law_683 : decode cL_law 683 = .ok (.iload_n 3, 1) := by decide +kernel
theorem dL_law_684 : decode cL_law 684 = .ok (.iconst 2, 1) := by decide +kernel
theorem dL_law_685 : decode cL_law 685 = .ok (.iadd, 1) := by decide +kernel
theorem dL_law_686 : decode cL_law 686 = .ok (.iaload, 1) := by decide +kernel
theorem dL_law_687 : decode cL_law 687 = .ok (.invokevirtual 82, 3) := by decide +kernel
theorem dL_law_690 : decode cL_law 690 = .ok (.if_icmp .eq 418, 3) := by decide +kernel
theorem dL_law_693 : decode cL_law 693 = .ok (.iconst 0, 1) := by decide +kernel
theorem dL_law_694 : decode cL_law 694 = .ok (.ireturn, 1) := by decide +kernel
theorem dL_law_695 : decode cL_law 695 = .ok (.aload_n 1, 1) := by decide +kernel
theorem dL_law_696 : decode cL_law 696 = .ok (.aload_n 0, 1) := by decide +kernel
theorem dL_law_697 : decode cL_law 697 = .ok (.iload_n 3, 1) := by decide +kernel
theorem dL_law_698 : decode cL_law 698 = .ok (.iconst 1, 1) := by decide +kernel
theorem dL_law_699 : decode cL_law 699 = .ok (.iadd, 1) := by decide +kernel
theorem dL_law_700 : decode cL_law 700 = .ok (.iaload, 1) := by decide +kernel
theorem dL_law_701 : decode cL_law 701 = .ok (.aload_n 0, 1) := by decide +kernel
theorem dL_law_702 : decode cL_law 702 = .ok (.iload_n 3, 1) := by decide +kernel
theorem dL_law_703 : decode cL_law 703 = .ok (.iconst 2, 1) := by decide +kernel
theorem dL_law_704 : decode cL_law 704 = .ok (.iadd, 1) := by decide +kernel
theorem dL_law_705 : decode cL_law 705 = .ok (.iaload, 1) := by decide +kernel
theorem dL_law_706 : decode cL_law 706 = .ok (.aload_n 0, 1) := by decide +kernel
theorem dL_law_707 : decode cL_law 707 = .ok (.iload_n 3, 1) := by decide +kernel
theorem dL_law_708 : decode cL_law 708 = .ok (.iconst 3, 1) := by decide +kernel
theorem dL_law_709 : decode cL_law 709 = .ok (.iadd, 1) := by decide +kernel
theorem dL_law_710 : decode cL_law 710 = .ok (.iaload, 1) := by decide +kernel
theorem dL_law_711 : decode cL_law 711 = .ok (.invokevirtual 83, 3) := by decide +kernel
theorem dL_law_714 : decode cL_law 714 = .ok (.aload_n 2, 1) := by decide +kernel
theorem dL_law_715 : decode cL_law 715 = .ok (.aload_n 0, 1) := by decide +kernel
theorem dL_law_716 : decode cL_law 716 = .ok (.iload_n 3, 1) := by decide +kernel
theorem dL_law_717 : decode cL_law 717 = .ok (.iconst 1, 1) := by decide +kernel
theorem dL_law_718 : decode cL_law 718 = .ok (.iadd, 1) := by decide +kernel
theorem dL_law_719 : decode cL_law 719 = .ok (.iaload, 1) := by decide +kernel
theorem dL_law_720 : decode cL_law 720 = .ok (.aload_n 0, 1) := by decide +kernel
theorem dL_law_721 : decode cL_law 721 = .ok (.iload_n 3, 1) := by decide +kernel
theorem dL_law_722 : decode cL_law 722 = .ok (.iconst 2, 1) := by decide +kernel
theorem dL_law_723 : decode cL_law 723 = .ok (.iadd, 1) := by decide +kernel
theorem dL_law_724 : decode cL_law 724 = .ok (.iaload, 1) := by decide +kernel
theorem dL_law_725 : decode cL_law 725 = .ok (.aload_n 0, 1) := by decide +kernel
theorem dL_law_726 : decode cL_law 726 = .ok (.iload_n 3, 1) := by decide +kernel
theorem dL_law_727 : decode cL_law 727 = .ok (.iconst 3, 1) := by decide +kernel
theorem dL_law_728 : decode cL_law 728 = .ok (.iadd, 1) := by decide +kernel
theorem dL_law_729 : decode cL_law 729 = .ok (.iaload, 1) := by decide +kernel
theorem dL_law_730 : decode cL_law 730 = .ok (.invokevirtual 86, 3) := by decide +kernel
theorem dL_law_733 : decode cL_law 733 = .ok (.if_icmp .eq 375, 3) := by decide +kernel
theorem dL_law_736 : decode cL_law 736 = .ok (.iconst 0, 1) := by decide +kernel
theorem dL_law_737 : decode cL_law 737 = .ok (.ireturn, 1) := by decide +kernel
theorem dL_law_738 : decode cL_law 738 = .ok (.aload_n 1, 1) := by decide +kernel
theorem dL_law_739 : decode cL_law 739 = .ok (.aload_n 0, 1) := by decide +kernel
theorem dL_law_740 : decode cL_law 740 = .ok (.iload_n 3, 1) := by decide +kernel
theorem dL_law_741 : decode cL_law 741 = .ok (.iconst 1, 1) := by decide +kernel
theorem dL_law_742 : decode cL_law 742 = .ok (.iadd, 1) := by decide +kernel
theorem dL_law_743 : decode cL_law 743 = .ok (.iaload, 1) := by decide +kernel
theorem dL_law_744 : decode cL_law 744 = .ok (.aload_n 0, 1) := by decide +kernel
theorem dL_law_745 : decode cL_law 745 = .ok (.iload_n 3, 1) := by decide +kernel
theorem dL_law_746 : decode cL_law 746 = .ok (.iconst 2, 1) := by decide +kernel
theorem dL_law_747 : decode cL_law 747 = .ok (.iadd, 1) := by decide +kernel
theorem dL_law_748 : decode cL_law 748 = .ok (.iaload, 1) := by decide +kernel
theorem dL_law_749 : decode cL_law 749 = .ok (.invokevirtual 87, 3) := by decide +kernel
theorem dL_law_752 : decode cL_law 752 = .ok (.aload_n 2, 1) := by decide +kernel
theorem dL_law_753 : decode cL_law 753 = .ok (.aload_n 0, 1) := by decide +kernel
theorem dL_law_754 : decode cL_law 754 = .ok (.iload_n 3, 1) := by decide +kernel
theorem dL_law_755 : decode cL_law 755 = .ok (.iconst 1, 1) := by decide +kernel
theorem dL_law_756 : decode cL_law 756 = .ok (.iadd, 1) := by decide +kernel
theorem dL_law_757 : decode cL_law 757 = .ok (.iaload, 1) := by decide +kernel
theorem dL_law_758 : decode cL_law 758 = .ok (.aload_n 0, 1) := by decide +kernel
theorem dL_law_759 : decode cL_law 759 = .ok (.iload_n 3, 1) := by decide +kernel
theorem dL_law_760 : decode cL_law 760 = .ok (.iconst 2, 1) := by decide +kernel
theorem dL_law_761 : decode cL_law 761 = .ok (.iadd, 1) := by decide +kernel
theorem dL_law_762 : decode cL_law 762 = .ok (.iaload, 1) := by decide +kernel
theorem dL_law_763 : decode cL_law 763 = .ok (.invokevirtual 90, 3) := by decide +kernel
theorem dL_law_766 : decode cL_law 766 = .ok (.if_icmp .eq 342, 3) := by decide +kernel
theorem dL_law_769 : decode cL_law 769 = .ok (.iconst 0, 1) := by decide +kernel
theorem dL_law_770 : decode cL_law 770 = .ok (.ireturn, 1) := by decide +kernel
theorem dL_law_771 : decode cL_law 771 = .ok (.aload_n 1, 1) := by decide +kernel
theorem dL_law_772 : decode cL_law 772 = .ok (.aload_n 0, 1) := by decide +kernel
theorem dL_law_773 : decode cL_law 773 = .ok (.iload_n 3, 1) := by decide +kernel
theorem dL_law_774 : decode cL_law 774 = .ok (.iconst 1, 1) := by decide +kernel
theorem dL_law_775 : decode cL_law 775 = .ok (.iadd, 1) := by decide +kernel
theorem dL_law_776 : decode cL_law 776 = .ok (.iaload, 1) := by decide +kernel
theorem dL_law_777 : decode cL_law 777 = .ok (.aload_n 0, 1) := by decide +kernel
theorem dL_law_778 : decode cL_law 778 = .ok (.iload_n 3, 1) := by decide +kernel
theorem dL_law_779 : decode cL_law 779 = .ok (.iconst 2, 1) := by decide +kernel
theorem dL_law_780 : decode cL_law 780 = .ok (.iadd, 1) := by decide +kernel
theorem dL_law_781 : decode cL_law 781 = .ok (.iaload, 1) := by decide +kernel
theorem dL_law_782 : decode cL_law 782 = .ok (.aload_n 0, 1) := by decide +kernel
theorem dL_law_783 : decode cL_law 783 = .ok (.iload_n 3, 1) := by decide +kernel
theorem dL_law_784 : decode cL_law 784 = .ok (.iconst 3, 1) := by decide +kernel
theorem dL_law_785 : decode cL_law 785 = .ok (.iadd, 1) := by decide +kernel
theorem dL_law_786 : decode cL_law 786 = .ok (.iaload, 1) := by decide +kernel
theorem dL_law_787 : decode cL_law 787 = .ok (.invokevirtual 91, 3) := by decide +kernel
theorem dL_law_790 : decode cL_law 790 = .ok (.aload_n 2, 1) := by decide +kernel
theorem dL_law_791 : decode cL_law 791 = .ok (.aload_n 0, 1) := by decide +kernel
theorem dL_law_792 : decode cL_law 792 = .ok (.iload_n 3, 1) := by decide +kernel
theorem dL_law_793 : decode cL_law 793 = .ok (.iconst 1, 1) := by decide +kernel
theorem dL_law_794 : decode cL_law 794 = .ok (.iadd, 1) := by decide +kernel
theorem dL_law_795 : decode cL_law 795 = .ok (.iaload, 1) := by decide +kernel
theorem dL_law_796 : decode cL_law 796 = .ok (.aload_n 0, 1) := by decide +kernel
theorem dL_law_797 : decode cL_law 797 = .ok (.iload_n 3, 1) := by decide +kernel
theorem dL_law_798 : decode cL_law 798 = .ok (.iconst 2, 1) := by decide +kernel
theorem dL_law_799 : decode cL_law 799 = .ok (.iadd, 1) := by decide +kernel
theorem dL_law_800 : decode cL_law 800 = .ok (.iaload, 1) := by decide +kernel
theorem dL_law_801 : decode cL_law 801 = .ok (.aload_n 0, 1) := by decide +kernel
theorem dL_law_802 : decode cL_law 802 = .ok (.iload_n 3, 1) := by decide +kernel
theorem dL_law_803 : decode cL_law 803 = .ok (.iconst 3, 1) := by decide +kernel
theorem dL_law_804 : decode cL_law 804 = .ok (.iadd, 1) := by decide +kernel
theorem dL_law_805 : decode cL_law 805 = .ok (.iaload, 1) := by decide +kernel
theorem dL_law_806 : decode cL_law 806 = .ok (.invokevirtual 94, 3) := by decide +kernel
theorem dL_law_809 : decode cL_law 809 = .ok (.if_icmp .eq 299, 3) := by decide +kernel
theorem dL_law_812 : decode cL_law 812 = .ok (.iconst 0, 1) := by decide +kernel
theorem dL_law_813 : decode cL_law 813 = .ok (.ireturn, 1) := by decide +kernel
theorem dL_law_814 : decode cL_law 814 = .ok (.aload_n 1, 1) := by decide +kernel
theorem dL_law_815 : decode cL_law 815 = .ok (.aload_n 0, 1) := by decide +kernel
theorem dL_law_816 : decode cL_law 816 = .ok (.iload_n 3, 1) := by decide +kernel
theorem dL_law_817 : decode cL_law 817 = .ok (.iconst 1, 1) := by decide +kernel
theorem dL_law_818 : decode cL_law 818 = .ok (.iadd, 1) := by decide +kernel
theorem dL_law_819 : decode cL_law 819 = .ok (.iaload, 1) := by decide +kernel
theorem dL_law_820 : decode cL_law 820 = .ok (.aload_n 0, 1) := by decide +kernel
theorem dL_law_821 : decode cL_law 821 = .ok (.iload_n 3, 1) := by decide +kernel
theorem dL_law_822 : decode cL_law 822 = .ok (.iconst 2, 1) := by decide +kernel
theorem dL_law_823 : decode cL_law 823 = .ok (.iadd, 1) := by decide +kernel
theorem dL_law_824 : decode cL_law 824 = .ok (.iaload, 1) := by decide +kernel
theorem dL_law_825 : decode cL_law 825 = .ok (.aload_n 0, 1) := by decide +kernel
theorem dL_law_826 : decode cL_law 826 = .ok (.iload_n 3, 1) := by decide +kernel
theorem dL_law_827 : decode cL_law 827 = .ok (.iconst 3, 1) := by decide +kernel
theorem dL_law_828 : decode cL_law 828 = .ok (.iadd, 1) := by decide +kernel
theorem dL_law_829 : decode cL_law 829 = .ok (.iaload, 1) := by decide +kernel
theorem dL_law_830 : decode cL_law 830 = .ok (.invokevirtual 95, 3) := by decide +kernel
theorem dL_law_833 : decode cL_law 833 = .ok (.aload_n 2, 1) := by decide +kernel
theorem dL_law_834 : decode cL_law 834 = .ok (.aload_n 0, 1) := by decide +kernel
theorem dL_law_835 : decode cL_law 835 = .ok (.iload_n 3, 1) := by decide +kernel
theorem dL_law_836 : decode cL_law 836 = .ok (.iconst 1, 1) := by decide +kernel
theorem dL_law_837 : decode cL_law 837 = .ok (.iadd, 1) := by decide +kernel
theorem dL_law_838 : decode cL_law 838 = .ok (.iaload, 1) := by decide +kernel
theorem dL_law_839 : decode cL_law 839 = .ok (.aload_n 0, 1) := by decide +kernel
theorem dL_law_840 : decode cL_law 840 = .ok (.iload_n 3, 1) := by decide +kernel
theorem dL_law_841 : decode cL_law 841 = .ok (.iconst 2, 1) := by decide +kernel
theorem dL_law_842 : decode cL_law 842 = .ok (.iadd, 1) := by decide +kernel
theorem dL_law_843 : decode cL_law 843 = .ok (.iaload, 1) := by decide +kernel
theorem dL_law_844 : decode cL_law 844 = .ok (.aload_n 0, 1) := by decide +kernel
theorem dL_law_845 : decode cL_law 845 = .ok (.iload_n 3, 1) := by decide +kernel
theorem dL_law_846 : decode cL_law 846 = .ok (.iconst 3, 1) := by decide +kernel
theorem dL_law_847 : decode cL_law 847 = .ok (.iadd, 1) := by decide +kernel
theorem dL_law_848 : decode cL_law 848 = .ok (.iaload, 1) := by decide +kernel
theorem dL_law_849 : decode cL_law 849 = .ok (.invokevirtual 98, 3) := by decide +kernel
theorem dL_law_852 : decode cL_law 852 = .ok (.if_icmp .eq 256, 3) := by decide +kernel
theorem dL_law_855 : decode cL_law 855 = .ok (.iconst 0, 1) := by decide +kernel
theorem dL_law_856 : decode cL_law 856 = .ok (.ireturn, 1) := by decide +kernel
theorem dL_law_857 : decode cL_law 857 = .ok (.aload_n 1, 1) := by decide +kernel
theorem dL_law_858 : decode cL_law 858 = .ok (.aload_n 0, 1) := by decide +kernel
theorem dL_law_859 : decode cL_law 859 = .ok (.iload_n 3, 1) := by decide +kernel
theorem dL_law_860 : decode cL_law 860 = .ok (.iconst 1, 1) := by decide +kernel
theorem dL_law_861 : decode cL_law 861 = .ok (.iadd, 1) := by decide +kernel
theorem dL_law_862 : decode cL_law 862 = .ok (.iaload, 1) := by decide +kernel
theorem dL_law_863 : decode cL_law 863 = .ok (.aload_n 0, 1) := by decide +kernel
theorem dL_law_864 : decode cL_law 864 = .ok (.iload_n 3, 1) := by decide +kernel
theorem dL_law_865 : decode cL_law 865 = .ok (.iconst 2, 1) := by decide +kernel
theorem dL_law_866 : decode cL_law 866 = .ok (.iadd, 1) := by decide +kernel
theorem dL_law_867 : decode cL_law 867 = .ok (.iaload, 1) := by decide +kernel
theorem dL_law_868 : decode cL_law 868 = .ok (.invokevirtual 99, 3) := by decide +kernel
theorem dL_law_871 : decode cL_law 871 = .ok (.aload_n 2, 1) := by decide +kernel
theorem dL_law_872 : decode cL_law 872 = .ok (.aload_n 0, 1) := by decide +kernel
theorem dL_law_873 : decode cL_law 873 = .ok (.iload_n 3, 1) := by decide +kernel
theorem dL_law_874 : decode cL_law 874 = .ok (.iconst 1, 1) := by decide +kernel
theorem dL_law_875 : decode cL_law 875 = .ok (.iadd, 1) := by decide +kernel
theorem dL_law_876 : decode cL_law 876 = .ok (.iaload, 1) := by decide +kernel
theorem dL_law_877 : decode cL_law 877 = .ok (.aload_n 0, 1) := by decide +kernel
theorem dL_law_878 : decode cL_law 878 = .ok (.iload_n 3, 1) := by decide +kernel
theorem dL_law_879 : decode cL_law 879 = .ok (.iconst 2, 1) := by decide +kernel
theorem dL_law_880 : decode cL_law 880 = .ok (.iadd, 1) := by decide +kernel
theorem dL_law_881 : decode cL_law 881 = .ok (.iaload, 1) := by decide +kernel
theorem dL_law_882 : decode cL_law 882 = .ok (.invokevirtual 102, 3) := by decide +kernel
theorem dL_law_885 : decode cL_law 885 = .ok (.if_icmp .eq 223, 3) := by decide +kernel
theorem dL_law_888 : decode cL_law 888 = .ok (.iconst 0, 1) := by decide +kernel
theorem dL_law_889 : decode cL_law 889 = .ok (.ireturn, 1) := by decide +kernel
theorem dL_law_890 : decode cL_law 890 = .ok (.aload_n 1, 1) := by decide +kernel
theorem dL_law_891 : decode cL_law 891 = .ok (.aload_n 0, 1) := by decide +kernel
theorem dL_law_892 : decode cL_law 892 = .ok (.iload_n 3, 1) := by decide +kernel
theorem dL_law_893 : decode cL_law 893 = .ok (.iconst 1, 1) := by decide +kernel
theorem dL_law_894 : decode cL_law 894 = .ok (.iadd, 1) := by decide +kernel
theorem dL_law_895 : decode cL_law 895 = .ok (.iaload, 1) := by decide +kernel
theorem dL_law_896 : decode cL_law 896 = .ok (.aload_n 0, 1) := by decide +kernel
theorem dL_law_897 : decode cL_law 897 = .ok (.iload_n 3, 1) := by decide +kernel
theorem dL_law_898 : decode cL_law 898 = .ok (.iconst 2, 1) := by decide +kernel
theorem dL_law_899 : decode cL_law 899 = .ok (.iadd, 1) := by decide +kernel
theorem dL_law_900 : decode cL_law 900 = .ok (.iaload, 1) := by decide +kernel
theorem dL_law_901 : decode cL_law 901 = .ok (.invokevirtual 103, 3) := by decide +kernel
theorem dL_law_904 : decode cL_law 904 = .ok (.aload_n 2, 1) := by decide +kernel
theorem dL_law_905 : decode cL_law 905 = .ok (.aload_n 0, 1) := by decide +kernel
theorem dL_law_906 : decode cL_law 906 = .ok (.iload_n 3, 1) := by decide +kernel
theorem dL_law_907 : decode cL_law 907 = .ok (.iconst 1, 1) := by decide +kernel
theorem dL_law_908 : decode cL_law 908 = .ok (.iadd, 1) := by decide +kernel
theorem dL_law_909 : decode cL_law 909 = .ok (.iaload, 1) := by decide +kernel
theorem dL_law_910 : decode cL_law 910 = .ok (.aload_n 0, 1) := by decide +kernel
theorem dL_law_911 : decode cL_law 911 = .ok (.iload_n 3, 1) := by decide +kernel
theorem dL_law_912 : decode cL_law 912 = .ok (.iconst 2, 1) := by decide +kernel
theorem dL_law_913 : decode cL_law 913 = .ok (.iadd, 1) := by decide +kernel
theorem dL_law_914 : decode cL_law 914 = .ok (.iaload, 1) := by decide +kernel
theorem dL_law_915 : decode cL_law 915 = .ok (.invokevirtual 106, 3) := by decide +kernel
theorem dL_law_918 : decode cL_law 918 = .ok (.if_icmp .eq 190, 3) := by decide +kernel
theorem dL_law_921 : decode cL_law 921 = .ok (.iconst 0, 1) := by decide +kernel
theorem dL_law_922 : decode cL_law 922 = .ok (.ireturn, 1) := by decide +kernel
theorem dL_law_923 : decode cL_law 923 = .ok (.aload_n 1, 1) := by decide +kernel
theorem dL_law_924 : decode cL_law 924 = .ok (.aload_n 0, 1) := by decide +kernel
theorem dL_law_925 : decode cL_law 925 = .ok (.iload_n 3, 1) := by decide +kernel
theorem dL_law_926 : decode cL_law 926 = .ok (.iconst 1, 1) := by decide +kernel
theorem dL_law_927 : decode cL_law 927 = .ok (.iadd, 1) := by decide +kernel
theorem dL_law_928 : decode cL_law 928 = .ok (.iaload, 1) := by decide +kernel
theorem dL_law_929 : decode cL_law 929 = .ok (.aload_n 0, 1) := by decide +kernel
theorem dL_law_930 : decode cL_law 930 = .ok (.iload_n 3, 1) := by decide +kernel
theorem dL_law_931 : decode cL_law 931 = .ok (.iconst 2, 1) := by decide +kernel
theorem dL_law_932 : decode cL_law 932 = .ok (.iadd, 1) := by decide +kernel
theorem dL_law_933 : decode cL_law 933 = .ok (.iaload, 1) := by decide +kernel
theorem dL_law_934 : decode cL_law 934 = .ok (.aload_n 0, 1) := by decide +kernel
theorem dL_law_935 : decode cL_law 935 = .ok (.iload_n 3, 1) := by decide +kernel
theorem dL_law_936 : decode cL_law 936 = .ok (.iconst 3, 1) := by decide +kernel
theorem dL_law_937 : decode cL_law 937 = .ok (.iadd, 1) := by decide +kernel
theorem dL_law_938 : decode cL_law 938 = .ok (.iaload, 1) := by decide +kernel
theorem dL_law_939 : decode cL_law 939 = .ok (.invokevirtual 107, 3) := by decide +kernel
theorem dL_law_942 : decode cL_law 942 = .ok (.aload_n 2, 1) := by decide +kernel
theorem dL_law_943 : decode cL_law 943 = .ok (.aload_n 0, 1) := by decide +kernel
theorem dL_law_944 : decode cL_law 944 = .ok (.iload_n 3, 1) := by decide +kernel
theorem dL_law_945 : decode cL_law 945 = .ok (.iconst 1, 1) := by decide +kernel
theorem dL_law_946 : decode cL_law 946 = .ok (.iadd, 1) := by decide +kernel
theorem dL_law_947 : decode cL_law 947 = .ok (.iaload, 1) := by decide +kernel
theorem dL_law_948 : decode cL_law 948 = .ok (.aload_n 0, 1) := by decide +kernel
theorem dL_law_949 : decode cL_law 949 = .ok (.iload_n 3, 1) := by decide +kernel
theorem dL_law_950 : decode cL_law 950 = .ok (.iconst 2, 1) := by decide +kernel
theorem dL_law_951 : decode cL_law 951 = .ok (.iadd, 1) := by decide +kernel
theorem dL_law_952 : decode cL_law 952 = .ok (.iaload, 1) := by decide +kernel
theorem dL_law_953 : decode cL_law 953 = .ok (.aload_n 0, 1) := by decide +kernel
theorem dL_law_954 : decode cL_law 954 = .ok (.iload_n 3, 1) := by decide +kernel
theorem dL_law_955 : decode cL_law 955 = .ok (.iconst 3, 1) := by decide +kernel
theorem dL_law_956 : decode cL_law 956 = .ok (.iadd, 1) := by decide +kernel
theorem dL_law_957 : decode cL_law 957 = .ok (.iaload, 1) := by decide +kernel
theorem dL_law_958 : decode cL_law 958 = .ok (.invokevirtual 110, 3) := by decide +kernel
theorem dL_law_961 : decode cL_law 961 = .ok (.if_icmp .eq 147, 3) := by decide +kernel
theorem dL_law_964 : decode cL_law 964 = .ok (.iconst 0, 1) := by decide +kernel
theorem dL_law_965 : decode cL_law 965 = .ok (.ireturn, 1) := by decide +kernel
theorem dL_law_966 : decode cL_law 966 = .ok (.aload_n 1, 1) := by decide +kernel
theorem dL_law_967 : decode cL_law 967 = .ok (.aload_n 0, 1) := by decide +kernel
theorem dL_law_968 : decode cL_law 968 = .ok (.iload_n 3, 1) := by decide +kernel
theorem dL_law_969 : decode cL_law 969 = .ok (.iconst 1, 1) := by decide +kernel
theorem dL_law_970 : decode cL_law 970 = .ok (.iadd, 1) := by decide +kernel
theorem dL_law_971 : decode cL_law 971 = .ok (.iaload, 1) := by decide +kernel
theorem dL_law_972 : decode cL_law 972 = .ok (.invokevirtual 111, 3) := by decide +kernel
theorem dL_law_975 : decode cL_law 975 = .ok (.aload_n 2, 1) := by decide +kernel
theorem dL_law_976 : decode cL_law 976 = .ok (.aload_n 0, 1) := by decide +kernel
theorem dL_law_977 : decode cL_law 977 = .ok (.iload_n 3, 1) := by decide +kernel
theorem dL_law_978 : decode cL_law 978 = .ok (.iconst 1, 1) := by decide +kernel
theorem dL_law_979 : decode cL_law 979 = .ok (.iadd, 1) := by decide +kernel
theorem dL_law_980 : decode cL_law 980 = .ok (.iaload, 1) := by decide +kernel
theorem dL_law_981 : decode cL_law 981 = .ok (.invokevirtual 114, 3) := by decide +kernel
theorem dL_law_984 : decode cL_law 984 = .ok (.if_icmp .eq 124, 3) := by decide +kernel
theorem dL_law_987 : decode cL_law 987 = .ok (.iconst 0, 1) := by decide +kernel
theorem dL_law_988 : decode cL_law 988 = .ok (.ireturn, 1) := by decide +kernel
theorem dL_law_989 : decode cL_law 989 = .ok (.aload_n 1, 1) := by decide +kernel
theorem dL_law_990 : decode cL_law 990 = .ok (.aload_n 0, 1) := by decide +kernel
theorem dL_law_991 : decode cL_law 991 = .ok (.iload_n 3, 1) := by decide +kernel
theorem dL_law_992 : decode cL_law 992 = .ok (.iconst 1, 1) := by decide +kernel
theorem dL_law_993 : decode cL_law 993 = .ok (.iadd, 1) := by decide +kernel
theorem dL_law_994 : decode cL_law 994 = .ok (.iaload, 1) := by decide +kernel
theorem dL_law_995 : decode cL_law 995 = .ok (.aload_n 0, 1) := by decide +kernel
theorem dL_law_996 : decode cL_law 996 = .ok (.iload_n 3, 1) := by decide +kernel
theorem dL_law_997 : decode cL_law 997 = .ok (.iconst 2, 1) := by decide +kernel
theorem dL_law_998 : decode cL_law 998 = .ok (.iadd, 1) := by decide +kernel
theorem dL_law_999 : decode cL_law 999 = .ok (.iaload, 1) := by decide +kernel
theorem dL_law_1000 : decode cL_law 1000 = .ok (.invokevirtual 115, 3) := by decide +kernel
theorem dL_law_1003 : decode cL_law 1003 = .ok (.aload_n 2, 1) := by decide +kernel
theorem dL_law_1004 : decode cL_law 1004 = .ok (.aload_n 0, 1) := by decide +kernel
theorem dL_law_1005 : decode cL_law 1005 = .ok (.iload_n 3, 1) := by decide +kernel
theorem dL_law_1006 : decode cL_law 1006 = .ok (.iconst 1, 1) := by decide +kernel
theorem dL_law_1007 : decode cL_law 1007 = .ok (.iadd, 1) := by decide +kernel
theorem dL_law_1008 : decode cL_law 1008 = .ok (.iaload, 1) := by decide +kernel
theorem dL_law_1009 : decode cL_law 1009 = .ok (.aload_n 0, 1) := by decide +kernel
theorem dL_law_1010 : decode cL_law 1010 = .ok (.iload_n 3, 1) := by decide +kernel
theorem dL_law_1011 : decode cL_law 1011 = .ok (.iconst 2, 1) := by decide +kernel
theorem dL_law_1012 : decode cL_law 1012 = .ok (.iadd, 1) := by decide +kernel
theorem dL_law_1013 : decode cL_law 1013 = .ok (.iaload, 1) := by decide +kernel
theorem dL_law_1014 : decode cL_law 1014 = .ok (.invokevirtual 118, 3) := by decide +kernel
theorem dL_law_1017 : decode cL_law 1017 = .ok (.if_icmp .eq 91, 3) := by decide +kernel
theorem dL_law_1020 : decode cL_law 1020 = .ok (.iconst 0, 1) := by decide +kernel
theorem dL_law_1021 : decode cL_law 1021 = .ok (.ireturn, 1) := by decide +kernel
theorem dL_law_1022 : decode cL_law 1022 = .ok (.aload_n 1, 1) := by decide +kernel
theorem dL_law_1023 : decode cL_law 1023 = .ok (.aload_n 0, 1) := by decide +kernel
theorem dL_law_1024 : decode cL_law 1024 = .ok (.iload_n 3, 1) := by decide +kernel
theorem dL_law_1025 : decode cL_law 1025 = .ok (.iconst 1, 1) := by decide +kernel
theorem dL_law_1026 : decode cL_law 1026 = .ok (.iadd, 1) := by decide +kernel
theorem dL_law_1027 : decode cL_law 1027 = .ok (.iaload, 1) := by decide +kernel
theorem dL_law_1028 : decode cL_law 1028 = .ok (.invokevirtual 119, 3) := by decide +kernel
theorem dL_law_1031 : decode cL_law 1031 = .ok (.aload_n 2, 1) := by decide +kernel
theorem dL_law_1032 : decode cL_law 1032 = .ok (.aload_n 0, 1) := by decide +kernel
theorem dL_law_1033 : decode cL_law 1033 = .ok (.iload_n 3, 1) := by decide +kernel
theorem dL_law_1034 : decode cL_law 1034 = .ok (.iconst 1, 1) := by decide +kernel
theorem dL_law_1035 : decode cL_law 1035 = .ok (.iadd, 1) := by decide +kernel
theorem dL_law_1036 : decode cL_law 1036 = .ok (.iaload, 1) := by decide +kernel
theorem dL_law_1037 : decode cL_law 1037 = .ok (.invokevirtual 122, 3) := by decide +kernel
theorem dL_law_1040 : decode cL_law 1040 = .ok (.if_icmp .eq 68, 3) := by decide +kernel
theorem dL_law_1043 : decode cL_law 1043 = .ok (.iconst 0, 1) := by decide +kernel
theorem dL_law_1044 : decode cL_law 1044 = .ok (.ireturn, 1) := by decide +kernel
theorem dL_law_1045 : decode cL_law 1045 = .ok (.aload_n 1, 1) := by decide +kernel
theorem dL_law_1046 : decode cL_law 1046 = .ok (.invokevirtual 123, 3) := by decide +kernel
theorem dL_law_1049 : decode cL_law 1049 = .ok (.aload_n 2, 1) := by decide +kernel
theorem dL_law_1050 : decode cL_law 1050 = .ok (.invokevirtual 126, 3) := by decide +kernel
theorem dL_law_1053 : decode cL_law 1053 = .ok (.if_icmp .eq 55, 3) := by decide +kernel
theorem dL_law_1056 : decode cL_law 1056 = .ok (.iconst 0, 1) := by decide +kernel
theorem dL_law_1057 : decode cL_law 1057 = .ok (.ireturn, 1) := by decide +kernel
theorem dL_law_1058 : decode cL_law 1058 = .ok (.aload_n 1, 1) := by decide +kernel
theorem dL_law_1059 : decode cL_law 1059 = .ok (.invokevirtual 127, 3) := by decide +kernel
theorem dL_law_1062 : decode cL_law 1062 = .ok (.aload_n 2, 1) := by decide +kernel
theorem dL_law_1063 : decode cL_law 1063 = .ok (.invokevirtual 130, 3) := by decide +kernel
theorem dL_law_1066 : decode cL_law 1066 = .ok (.if_icmp .eq 42, 3) := by decide +kernel
theorem dL_law_1069 : decode cL_law 1069 = .ok (.iconst 0, 1) := by decide +kernel
theorem dL_law_1070 : decode cL_law 1070 = .ok (.ireturn, 1) := by decide +kernel
theorem dL_law_1071 : decode cL_law 1071 = .ok (.aload_n 1, 1) := by decide +kernel
theorem dL_law_1072 : decode cL_law 1072 = .ok (.aload_n 0, 1) := by decide +kernel
theorem dL_law_1073 : decode cL_law 1073 = .ok (.iload_n 3, 1) := by decide +kernel
theorem dL_law_1074 : decode cL_law 1074 = .ok (.iconst 1, 1) := by decide +kernel
theorem dL_law_1075 : decode cL_law 1075 = .ok (.iadd, 1) := by decide +kernel
theorem dL_law_1076 : decode cL_law 1076 = .ok (.iaload, 1) := by decide +kernel
theorem dL_law_1077 : decode cL_law 1077 = .ok (.invokevirtual 131, 3) := by decide +kernel
theorem dL_law_1080 : decode cL_law 1080 = .ok (.aload_n 2, 1) := by decide +kernel
theorem dL_law_1081 : decode cL_law 1081 = .ok (.aload_n 0, 1) := by decide +kernel
theorem dL_law_1082 : decode cL_law 1082 = .ok (.iload_n 3, 1) := by decide +kernel
theorem dL_law_1083 : decode cL_law 1083 = .ok (.iconst 1, 1) := by decide +kernel
theorem dL_law_1084 : decode cL_law 1084 = .ok (.iadd, 1) := by decide +kernel
theorem dL_law_1085 : decode cL_law 1085 = .ok (.iaload, 1) := by decide +kernel
theorem dL_law_1086 : decode cL_law 1086 = .ok (.invokevirtual 134, 3) := by decide +kernel
theorem dL_law_1089 : decode cL_law 1089 = .ok (.if_icmp .eq 19, 3) := by decide +kernel
theorem dL_law_1092 : decode cL_law 1092 = .ok (.iconst 0, 1) := by decide +kernel
theorem dL_law_1093 : decode cL_law 1093 = .ok (.ireturn, 1) := by decide +kernel
theorem dL_law_1094 : decode cL_law 1094 = .ok (.aload_n 1, 1) := by decide +kernel
theorem dL_law_1095 : decode cL_law 1095 = .ok (.invokevirtual 135, 3) := by decide +kernel
theorem dL_law_1098 : decode cL_law 1098 = .ok (.aload_n 2, 1) := by decide +kernel
theorem dL_law_1099 : decode cL_law 1099 = .ok (.invokevirtual 139, 3) := by decide +kernel
theorem dL_law_1102 : decode cL_law 1102 = .ok (.lcmp, 1) := by decide +kernel
theorem dL_law_1103 : decode cL_law 1103 = .ok (.ifCond .eq 5, 3) := by decide +kernel
theorem dL_law_1106 : decode cL_law 1106 = .ok (.iconst 0, 1) := by decide +kernel
theorem dL_law_1107 : decode cL_law 1107 = .ok (.ireturn, 1) := by decide +kernel
theorem dL_law_1108 : decode cL_law 1108 = .ok (.iinc 3 6, 3) := by decide +kernel
theorem dL_law_1111 : decode cL_law 1111 = .ok (.goto (-1093), 3) := by decide +kernel
theorem dL_law_1114 : decode cL_law 1114 = .ok (.iconst 1, 1) := by decide +kernel
theorem dL_law_1115 : decode cL_law 1115 = .ok (.ireturn, 1) := by decide +kernel
