theorem dX8_deed_61 : decode cX8_deed 61 = .ok (.getfield 89, 3) := by decide +kernel
theorem dX8_deed_64 : decode cX8_deed 64 = .ok (.bipush 16, 2) := by decide +kernel
theorem dX8_deed_66 : decode cX8_deed 66 = .ok (.if_icmp .ne 6, 3) := by decide +kernel
theorem dX8_deed_69 : decode cX8_deed 69 = .ok (.bipush (-104), 2) := by decide +kernel
theorem dX8_deed_71 : decode cX8_deed 71 = .ok (.ireturn, 1) := by decide +kernel
theorem dX8_deed_72 : decode cX8_deed 72 = .ok (.bipush 10, 2) := by decide +kernel
theorem dX8_deed_74 : decode cX8_deed 74 = .ok (.aload_n 0, 1) := by decide +kernel
theorem dX8_deed_75 : decode cX8_deed 75 = .ok (.getfield 89, 3) := by decide +kernel
theorem dX8_deed_78 : decode cX8_deed 78 = .ok (.imul, 1) := by decide +kernel
theorem dX8_deed_79 : decode cX8_deed 79 = .ok (.istore 6, 2) := by decide +kernel
theorem dX8_deed_81 : decode cX8_deed 81 = .ok (.aload_n 0, 1) := by decide +kernel
theorem dX8_deed_82 : decode cX8_deed 82 = .ok (.getfield 22, 3) := by decide +kernel
theorem dX8_deed_85 : decode cX8_deed 85 = .ok (.iload 6, 2) := by decide +kernel
theorem dX8_deed_87 : decode cX8_deed 87 = .ok (.iload_n 1, 1) := by decide +kernel
theorem dX8_deed_88 : decode cX8_deed 88 = .ok (.iastore, 1) := by decide +kernel
theorem dX8_deed_89 : decode cX8_deed 89 = .ok (.aload_n 0, 1) := by decide +kernel
theorem dX8_deed_90 : decode cX8_deed 90 = .ok (.getfield 22, 3) := by decide +kernel
theorem dX8_deed_93 : decode cX8_deed 93 = .ok (.iload 6, 2) := by decide +kernel
theorem dX8_deed_95 : decode cX8_deed 95 = .ok (.iconst 1, 1) := by decide +kernel
theorem dX8_deed_96 : decode cX8_deed 96 = .ok (.iadd, 1) := by decide +kernel
theorem dX8_deed_97 : decode cX8_deed 97 = .ok (.iload_n 2, 1) := by decide +kernel
theorem dX8_deed_98 : decode cX8_deed 98 = .ok (.iastore, 1) := by decide +kernel
theorem dX8_deed_99 : decode cX8_deed 99 = .ok (.aload_n 0, 1) := by decide +kernel
theorem dX8_deed_100 : decode cX8_deed 100 = .ok (.getfield 22, 3) := by decide +kernel
theorem dX8_deed_103 : decode cX8_deed 103 = .ok (.iload 6, 2) := by decide +kernel
theorem dX8_deed_105 : decode cX8_deed 105 = .ok (.iconst 2, 1) := by decide +kernel
theorem dX8_deed_106 : decode cX8_deed 106 = .ok (.iadd, 1) := by decide +kernel
theorem dX8_deed_107 : decode cX8_deed 107 = .ok (.iload_n 3, 1) := by decide +kernel
theorem dX8_deed_108 : decode cX8_deed 108 = .ok (.iastore, 1) := by decide +kernel
theorem dX8_deed_109 : decode cX8_deed 109 = .ok (.aload_n 0, 1) := by decide +kernel
theorem dX8_deed_110 : decode cX8_deed 110 = .ok (.getfield 22, 3) := by decide +kernel
theorem dX8_deed_113 : decode cX8_deed 113 = .ok (.iload 6, 2) := by decide +kernel
theorem dX8_deed_115 : decode cX8_deed 115 = .ok (.iconst 3, 1) := by decide +kernel
theorem dX8_deed_116 : decode cX8_deed 116 = .ok (.iadd, 1) := by decide +kernel
theorem dX8_deed_117 : decode cX8_deed 117 = .ok (.iload 4, 2) := by decide +kernel
theorem dX8_deed_119 : decode cX8_deed 119 = .ok (.iastore, 1) := by decide +kernel
theorem dX8_deed_120 : decode cX8_deed 120 = .ok (.aload_n 0, 1) := by decide +kernel
theorem dX8_deed_121 : decode cX8_deed 121 = .ok (.getfield 22, 3) := by decide +kernel
theorem dX8_deed_124 : decode cX8_deed 124 = .ok (.iload 6, 2) := by decide +kernel
theorem dX8_deed_126 : decode cX8_deed 126 = .ok (.iconst 4, 1) := by decide +kernel
theorem dX8_deed_127 : decode cX8_deed 127 = .ok (.iadd, 1) := by decide +kernel
theorem dX8_deed_128 : decode cX8_deed 128 = .ok (.iload 5, 2) := by decide +kernel
theorem dX8_deed_130 : decode cX8_deed 130 = .ok (.iastore, 1) := by decide +kernel
theorem dX8_deed_131 : decode cX8_deed 131 = .ok (.aload_n 0, 1) := by decide +kernel
theorem dX8_deed_132 : decode cX8_deed 132 = .ok (.getfield 22, 3) := by decide +kernel
theorem dX8_deed_135 : decode cX8_deed 135 = .ok (.iload 6, 2) := by decide +kernel
theorem dX8_deed_137 : decode cX8_deed 137 = .ok (.iconst 5, 1) := by decide +kernel
theorem dX8_deed_138 : decode cX8_deed 138 = .ok (.iadd, 1) := by decide +kernel
theorem dX8_deed_139 : decode cX8_deed 139 = .ok (.iconst (-1), 1) := by decide +kernel
theorem dX8_deed_140 : decode cX8_deed 140 = .ok (.iastore, 1) := by decide +kernel
theorem dX8_deed_141 : decode cX8_deed 141 = .ok (.aload_n 0, 1) := by decide +kernel
theorem dX8_deed_142 : decode cX8_deed 142 = .ok (.getfield 22, 3) := by decide +kernel
theorem dX8_deed_145 : decode cX8_deed 145 = .ok (.iload 6, 2) := by decide +kernel
theorem dX8_deed_147 : decode cX8_deed 147 = .ok (.bipush 6, 2) := by decide +kernel
theorem dX8_deed_149 : decode cX8_deed 149 = .ok (.iadd, 1) := by decide +kernel
theorem dX8_deed_150 : decode cX8_deed 150 = .ok (.iconst (-1), 1) := by decide +kernel
theorem dX8_deed_151 : decode cX8_deed 151 = .ok (.iastore, 1) := by decide +kernel
theorem dX8_deed_152 : decode cX8_deed 152 = .ok (.aload_n 0, 1) := by decide +kernel
theorem dX8_deed_153 : decode cX8_deed 153 = .ok (.getfield 22, 3) := by decide +kernel
theorem dX8_deed_156 : decode cX8_deed 156 = .ok (.iload 6, 2) := by decide +kernel
theorem dX8_deed_158 : decode cX8_deed 158 = .ok (.bipush 7, 2) := by decide +kernel
theorem dX8_deed_160 : decode cX8_deed 160 = .ok (.iadd, 1) := by decide +kernel
theorem dX8_deed_161 : decode cX8_deed 161 = .ok (.iconst (-1), 1) := by decide +kernel
theorem dX8_deed_162 : decode cX8_deed 162 = .ok (.iastore, 1) := by decide +kernel
theorem dX8_deed_163 : decode cX8_deed 163 = .ok (.aload_n 0, 1) := by decide +kernel
theorem dX8_deed_164 : decode cX8_deed 164 = .ok (.getfield 22, 3) := by decide +kernel
theorem dX8_deed_167 : decode cX8_deed 167 = .ok (.iload 6, 2) := by decide +kernel
theorem dX8_deed_169 : decode cX8_deed 169 = .ok (.bipush 8, 2) := by decide +kernel
theorem dX8_deed_171 : decode cX8_deed 171 = .ok (.iadd, 1) := by decide +kernel
theorem dX8_deed_172 : decode cX8_deed 172 = .ok (.iconst 0, 1) := by decide +kernel
theorem dX8_deed_173 : decode cX8_deed 173 = .ok (.iastore, 1) := by decide +kernel
theorem dX8_deed_174 : decode cX8_deed 174 = .ok (.aload_n 0, 1) := by decide +kernel
theorem dX8_deed_175 : decode cX8_deed 175 = .ok (.getfield 22, 3) := by decide +kernel
theorem dX8_deed_178 : decode cX8_deed 178 = .ok (.iload 6, 2) := by decide +kernel
theorem dX8_deed_180 : decode cX8_deed 180 = .ok (.bipush 9, 2) := by decide +kernel
theorem dX8_deed_182 : decode cX8_deed 182 = .ok (.iadd, 1) := by decide +kernel
theorem dX8_deed_183 : decode cX8_deed 183 = .ok (.iconst 0, 1) := by decide +kernel
theorem dX8_deed_184 : decode cX8_deed 184 = .ok (.iastore, 1) := by decide +kernel
theorem dX8_deed_185 : decode cX8_deed 185 = .ok (.aload_n 0, 1) := by decide +kernel
theorem dX8_deed_186 : decode cX8_deed 186 = .ok (.dup, 1) := by decide +kernel
theorem dX8_deed_187 : decode cX8_deed 187 = .ok (.getfield 89, 3) := by decide +kernel
theorem dX8_deed_190 : decode cX8_deed 190 = .ok (.iconst 1, 1) := by decide +kernel
theorem dX8_deed_191 : decode cX8_deed 191 = .ok (.iadd, 1) := by decide +kernel
theorem dX8_deed_192 : decode cX8_deed 192 = .ok (.putfield 89, 3) := by decide +kernel
theorem dX8_deed_195 : decode cX8_deed 195 = .ok (.aload_n 0, 1) := by decide +kernel
theorem dX8_deed_196 : decode cX8_deed 196 = .ok (.getfield 89, 3) := by decide +kernel
theorem dX8_deed_199 : decode cX8_deed 199 = .ok (.iconst 1, 1) := by decide +kernel
theorem dX8_deed_200 : decode cX8_deed 200 = .ok (.isub, 1) := by decide +kernel
theorem dX8_deed_201 : decode cX8_deed 201 = .ok (.ireturn, 1) := by decide +kernel
theorem dX8_isDeed_0 : decode cX8_isDeed 0 = .ok (.iload_n 1, 1) := by decide +kernel
theorem dX8_isDeed_1 : decode cX8_isDeed 1 = .ok (.i2l, 1) := by decide +kernel
theorem dX8_isDeed_2 : decode cX8_isDeed 2 = .ok (.lconst 0, 1) := by decide +kernel
theorem dX8_isDeed_3 : decode cX8_isDeed 3 = .ok (.aload_n 0, 1) := by decide +kernel
theorem dX8_isDeed_4 : decode cX8_isDeed 4 = .ok (.getfield 89, 3) := by decide +kernel
theorem dX8_isDeed_7 : decode cX8_isDeed 7 = .ok (.iconst 1, 1) := by decide +kernel
theorem dX8_isDeed_8 : decode cX8_isDeed 8 = .ok (.isub, 1) := by decide +kernel
theorem dX8_isDeed_9 : decode cX8_isDeed 9 = .ok (.i2l, 1) := by decide +kernel
theorem dX8_isDeed_10 : decode cX8_isDeed 10 = .ok (.invokestatic 65, 3) := by decide +kernel
theorem dX8_isDeed_13 : decode cX8_isDeed 13 = .ok (.ireturn, 1) := by decide +kernel
theorem dX8_as_0 : decode cX8_as 0 = .ok (.aload_n 0, 1) := by decide +kernel
theorem dX8_as_1 : decode cX8_as 1 = .ok (.iload_n 1, 1) := by decide +kernel
theorem dX8_as_2 : decode cX8_as 2 = .ok (.invokevirtual 92, 3) := by decide +kernel
theorem dX8_as_5 : decode cX8_as 5 = .ok (.ifCond .ne 6, 3) := by decide +kernel
theorem dX8_as_8 : decode cX8_as 8 = .ok (.bipush (-101), 2) := by decide +kernel
theorem dX8_as_10 : decode cX8_as 10 = .ok (.ireturn, 1) := by decide +kernel
theorem dX8_as_11 : decode cX8_as 11 = .ok (.iload_n 2, 1) := by decide +kernel
theorem dX8_as_12 : decode cX8_as 12 = .ok (.i2l, 1) := by decide +kernel
theorem dX8_as_13 : decode cX8_as 13 = .ok (.lconst 0, 1) := by decide +kernel
theorem dX8_as_14 : decode cX8_as 14 = .ok (.ldc2_w 87, 3) := by decide +kernel
theorem dX8_as_17 : decode cX8_as 17 = .ok (.invokestatic 65, 3) := by decide +kernel
theorem dX8_as_20 : decode cX8_as 20 = .ok (.ifCond .ne 6, 3) := by decide +kernel
theorem dX8_as_23 : decode cX8_as 23 = .ok (.bipush (-102), 2) := by decide +kernel
theorem dX8_as_25 : decode cX8_as 25 = .ok (.ireturn, 1) := by decide +kernel
theorem dX8_as_26 : decode cX8_as 26 = .ok (.iload_n 2, 1) := by decide +kernel
theorem dX8_as_27 : decode cX8_as 27 = .ok (.ifCond .eq 28, 3) := by decide +kernel
theorem dX8_as_30 : decode cX8_as 30 = .ok (.iload_n 2, 1) := by decide +kernel
theorem dX8_as_31 : decode cX8_as 31 = .ok (.aload_n 0, 1) := by decide +kernel
theorem dX8_as_32 : decode cX8_as 32 = .ok (.iload_n 1, 1) := by decide +kernel
theorem dX8_as_33 : decode cX8_as 33 = .ok (.iconst 0, 1) := by decide +kernel
theorem dX8_as_34 : decode cX8_as 34 = .ok (.invokevirtual 95, 3) := by decide +kernel
theorem dX8_as_37 : decode cX8_as 37 = .ok (.if_icmp .eq 18, 3) := by decide +kernel
theorem dX8_as_40 : decode cX8_as 40 = .ok (.iload_n 2, 1) := by decide +kernel
theorem dX8_as_41 : decode cX8_as 41 = .ok (.iconst 1, 1) := by decide +kernel
theorem dX8_as_42 : decode cX8_as 42 = .ok (.if_icmp .ne 17, 3) := by decide +kernel
theorem dX8_as_45 : decode cX8_as 45 = .ok (.aload_n 0, 1) := by decide +kernel
theorem dX8_as_46 : decode cX8_as 46 = .ok (.iload_n 1, 1) := by decide +kernel
theorem dX8_as_47 : decode cX8_as 47 = .ok (.iconst 0, 1) := by decide +kernel
theorem dX8_as_48 : decode cX8_as 48 = .ok (.invokevirtual 95, 3) := by decide +kernel
theorem dX8_as_51 : decode cX8_as 51 = .ok (.iconst 4, 1) := by decide +kernel
theorem dX8_as_52 : decode cX8_as 52 = .ok (.if_icmp .ne 7, 3) := by decide +kernel
theorem dX8_as_55 : decode cX8_as 55 = .ok (.iconst 1, 1) := by decide +kernel
theorem dX8_as_56 : decode cX8_as 56 = .ok (.goto 4, 3) := by decide +kernel
theorem dX8_as_59 : decode cX8_as 59 = .ok (.iconst 0, 1) := by decide +kernel
theorem dX8_as_60 : decode cX8_as 60 = .ok (.istore_n 3, 1) := by decide +kernel
theorem dX8_as_61 : decode cX8_as 61 = .ok (.iload_n 3, 1) := by decide +kernel
theorem dX8_as_62 : decode cX8_as 62 = .ok (.ifCond .eq 7, 3) := by decide +kernel
theorem dX8_as_65 : decode cX8_as 65 = .ok (.iload_n 1, 1) := by decide +kernel
theorem dX8_as_66 : decode cX8_as 66 = .ok (.goto 4, 3) := by decide +kernel
theorem dX8_as_69 : decode cX8_as 69 = .ok (.iconst (-1), 1) := by decide +kernel
theorem dX8_as_70 : decode cX8_as 70 = .ok (.ireturn, 1) := by decide +kernel
theorem dX8_about_0 : decode cX8_about 0 = .ok (.aload_n 0, 1) := by decide +kernel
theorem dX8_about_1 : decode cX8_about 1 = .ok (.iload_n 1, 1) := by decide +kernel
theorem dX8_about_2 : decode cX8_about 2 = .ok (.invokevirtual 92, 3) := by decide +kernel
theorem dX8_about_5 : decode cX8_about 5 = .ok (.ifCond .ne 6, 3) := by decide +kernel
theorem dX8_about_8 : decode cX8_about 8 = .ok (.bipush (-101), 2) := by decide +kernel
theorem dX8_about_10 : decode cX8_about 10 = .ok (.ireturn, 1) := by decide +kernel
theorem dX8_about_11 : decode cX8_about 11 = .ok (.iload_n 2, 1) := by decide +kernel
theorem dX8_about_12 : decode cX8_about 12 = .ok (.i2l, 1) := by decide +kernel
theorem dX8_about_13 : decode cX8_about 13 = .ok (.lconst 0, 1) := by decide +kernel
theorem dX8_about_14 : decode cX8_about 14 = .ok (.ldc2_w 63, 3) := by decide +kernel
theorem dX8_about_17 : decode cX8_about 17 = .ok (.invokestatic 65, 3) := by decide +kernel
theorem dX8_about_20 : decode cX8_about 20 = .ok (.ifCond .eq 12, 3) := by decide +kernel
theorem dX8_about_23 : decode cX8_about 23 = .ok (.aload_n 0, 1) := by decide +kernel
theorem dX8_about_24 : decode cX8_about 24 = .ok (.iload_n 1, 1) := by decide +kernel
theorem dX8_about_25 : decode cX8_about 25 = .ok (.iload_n 2, 1) := by decide +kernel
theorem dX8_about_26 : decode cX8_about 26 = .ok (.invokevirtual 95, 3) := by decide +kernel
theorem dX8_about_29 : decode cX8_about 29 = .ok (.goto 5, 3) := by decide +kernel
theorem dX8_about_32 : decode cX8_about 32 = .ok (.bipush (-102), 2) := by decide +kernel
theorem dX8_about_34 : decode cX8_about 34 = .ok (.ireturn, 1) := by decide +kernel
theorem dX8_isName_0 : decode cX8_isName 0 = .ok (.iload_n 0, 1) := by decide +kernel
theorem dX8_isName_1 : decode cX8_isName 1 = .ok (.i2l, 1) := by decide +kernel
theorem dX8_isName_2 : decode cX8_isName 2 = .ok (.ldc2_w 99, 3) := by decide +kernel
theorem dX8_isName_5 : decode cX8_isName 5 = .ok (.ldc2_w 63, 3) := by decide +kernel
theorem dX8_isName_8 : decode cX8_isName 8 = .ok (.invokestatic 65, 3) := by decide +kernel
theorem dX8_isName_11 : decode cX8_isName 11 = .ok (.ireturn, 1) := by decide +kernel
theorem dX8_enter_0 : decode cX8_enter 0 = .ok (.aload_n 0, 1) := by decide +kernel
theorem dX8_enter_1 : decode cX8_enter 1 = .ok (.iload_n 1, 1) := by decide +kernel
theorem dX8_enter_2 : decode cX8_enter 2 = .ok (.invokevirtual 92, 3) := by decide +kernel
theorem dX8_enter_5 : decode cX8_enter 5 = .ok (.ifCond .ne 6, 3) := by decide +kernel
theorem dX8_enter_8 : decode cX8_enter 8 = .ok (.bipush (-101), 2) := by decide +kernel
theorem dX8_enter_10 : decode cX8_enter 10 = .ok (.ireturn, 1) := by decide +kernel
theorem dX8_enter_11 : decode cX8_enter 11 = .ok (.iload_n 2, 1) := by decide +kernel
theorem dX8_enter_12 : decode cX8_enter 12 = .ok (.i2l, 1) := by decide +kernel
theorem dX8_enter_13 : decode cX8_enter 13 = .ok (.aload_n 0, 1) := by decide +kernel
theorem dX8_enter_14 : decode cX8_enter 14 = .ok (.iload_n 1, 1) := by decide +kernel
theorem dX8_enter_15 : decode cX8_enter 15 = .ok (.iconst 4, 1) := by decide +kernel
theorem dX8_enter_16 : decode cX8_enter 16 = .ok (.invokevirtual 95, 3) := by decide +kernel
theorem dX8_enter_19 : decode cX8_enter 19 = .ok (.i2l, 1) := by decide +kernel
theorem dX8_enter_20 : decode cX8_enter 20 = .ok (.ldc2_w 79, 3) := by decide +kernel
theorem dX8_enter_23 : decode cX8_enter 23 = .ok (.invokestatic 65, 3) := by decide +kernel
theorem dX8_enter_26 : decode cX8_enter 26 = .ok (.ifCond .eq 18, 3) := by decide +kernel
theorem dX8_enter_29 : decode cX8_enter 29 = .ok (.iload_n 3, 1) := by decide +kernel
theorem dX8_enter_30 : decode cX8_enter 30 = .ok (.invokestatic 101, 3) := by decide +kernel
theorem dX8_enter_33 : decode cX8_enter 33 = .ok (.ifCond .eq 11, 3) := by decide +kernel
theorem dX8_enter_36 : decode cX8_enter 36 = .ok (.iload 4, 2) := by decide +kernel
theorem dX8_enter_38 : decode cX8_enter 38 = .ok (.invokestatic 101, 3) := by decide +kernel
theorem dX8_enter_41 : decode cX8_enter 41 = .ok (.ifCond .ne 6, 3) := by decide +kernel
theorem dX8_enter_44 : decode cX8_enter 44 = .ok (.bipush (-102), 2) := by decide +kernel
theorem dX8_enter_46 : decode cX8_enter 46 = .ok (.ireturn, 1) := by decide +kernel
theorem dX8_enter_47 : decode cX8_enter 47 = .ok (.aload_n 0, 1) := by decide +kernel
theorem dX8_enter_48 : decode cX8_enter 48 = .ok (.iload_n 1, 1) := by decide +kernel
theorem dX8_enter_49 : decode cX8_enter 49 = .ok (.iconst 5, 1) := by decide +kernel
theorem dX8_enter_50 : decode cX8_enter 50 = .ok (.invokevirtual 95, 3) := by decide +kernel
theorem dX8_enter_53 : decode cX8_enter 53 = .ok (.iconst (-1), 1) := by decide +kernel
theorem dX8_enter_54 : decode cX8_enter 54 = .ok (.if_icmp .eq 6, 3) := by decide +kernel
theorem dX8_enter_57 : decode cX8_enter 57 = .ok (.bipush (-103), 2) := by decide +kernel
theorem dX8_enter_59 : decode cX8_enter 59 = .ok (.ireturn, 1) := by decide +kernel
theorem dX8_enter_60 : decode cX8_enter 60 = .ok (.aload_n 0, 1) := by decide +kernel
theorem dX8_enter_61 : decode cX8_enter 61 = .ok (.getfield 22, 3) := by decide +kernel
theorem dX8_enter_64 : decode cX8_enter 64 = .ok (.bipush 10, 2) := by decide +kernel
theorem dX8_enter_66 : decode cX8_enter 66 = .ok (.iload_n 1, 1) := by decide +kernel
theorem dX8_enter_67 : decode cX8_enter 67 = .ok (.imul, 1) := by decide +kernel
theorem dX8_enter_68 : decode cX8_enter 68 = .ok (.iconst 5, 1) := by decide +kernel
theorem dX8_enter_69 : decode cX8_enter 69 = .ok (.iadd, 1) := by decide +kernel
theorem dX8_enter_70 : decode cX8_enter 70 = .ok (.iload_n 2, 1) := by decide +kernel
theorem dX8_enter_71 : decode cX8_enter 71 = .ok (.iastore, 1) := by decide +kernel
theorem dX8_enter_72 : decode cX8_enter 72 = .ok (.aload_n 0, 1) := by decide +kernel
theorem dX8_enter_73 : decode cX8_enter 73 = .ok (.getfield 22, 3) := by decide +kernel
theorem dX8_enter_76 : decode cX8_enter 76 = .ok (.bipush 10, 2) := by decide +kernel
theorem dX8_enter_78 : decode cX8_enter 78 = .ok (.iload_n 1, 1) := by decide +kernel
theorem dX8_enter_79 : decode cX8_enter 79 = .ok (.imul, 1) := by decide +kernel
theorem dX8_enter_80 : decode cX8_enter 80 = .ok (.bipush 6, 2) := by decide +kernel
theorem dX8_enter_82 : decode cX8_enter 82 = .ok (.iadd, 1) := by decide +kernel
theorem dX8_enter_83 : decode cX8_enter 83 = .ok (.iload_n 3, 1) := by decide +kernel
theorem dX8_enter_84 : decode cX8_enter 84 = .ok (.iconst (-1), 1) := by decide +kernel
theorem dX8_enter_85 : decode cX8_enter 85 = .ok (.if_icmp .ne 17, 3) := by decide +kernel
theorem dX8_enter_88 : decode cX8_enter 88 = .ok (.aload_n 0, 1) := by decide +kernel
theorem dX8_enter_89 : decode cX8_enter 89 = .ok (.getfield 7, 3) := by decide +kernel
theorem dX8_enter_92 : decode cX8_enter 92 = .ok (.aload_n 0, 1) := by decide +kernel
theorem dX8_enter_93 : decode cX8_enter 93 = .ok (.iload_n 1, 1) := by decide +kernel
theorem dX8_enter_94 : decode cX8_enter 94 = .ok (.iconst 2, 1) := by decide +kernel
theorem dX8_enter_95 : decode cX8_enter 95 = .ok (.invokevirtual 95, 3) := by decide +kernel
theorem dX8_enter_98 : decode cX8_enter 98 = .ok (.iaload, 1) := by decide +kernel
theorem dX8_enter_99 : decode cX8_enter 99 = .ok (.goto 4, 3) := by decide +kernel
theorem dX8_enter_102 : decode cX8_enter 102 = .ok (.iload_n 3, 1) := by decide +kernel
theorem dX8_enter_103 : decode cX8_enter 103 = .ok (.iastore, 1) := by decide +kernel
theorem dX8_enter_104 : decode cX8_enter 104 = .ok (.aload_n 0, 1) := by decide +kernel
theorem dX8_enter_105 : decode cX8_enter 105 = .ok (.getfield 22, 3) := by decide +kernel
theorem dX8_enter_108 : decode cX8_enter 108 = .ok (.bipush 10, 2) := by decide +kernel
theorem dX8_enter_110 : decode cX8_enter 110 = .ok (.iload_n 1, 1) := by decide +kernel
theorem dX8_enter_111 : decode cX8_enter 111 = .ok (.imul, 1) := by decide +kernel
theorem dX8_enter_112 : decode cX8_enter 112 = .ok (.bipush 7, 2) := by decide +kernel
theorem dX8_enter_114 : decode cX8_enter 114 = .ok (.iadd, 1) := by decide +kernel
theorem dX8_enter_115 : decode cX8_enter 115 = .ok (.iload 4, 2) := by decide +kernel
theorem dX8_enter_117 : decode cX8_enter 117 = .ok (.iconst (-1), 1) := by decide +kernel
theorem dX8_enter_118 : decode cX8_enter 118 = .ok (.if_icmp .ne 17, 3) := by decide +kernel
theorem dX8_enter_121 : decode cX8_enter 121 = .ok (.aload_n 0, 1) := by decide +kernel
theorem dX8_enter_122 : decode cX8_enter 122 = .ok (.getfield 7, 3) := by decide +kernel
theorem dX8_enter_125 : decode cX8_enter 125 = .ok (.aload_n 0, 1) := by decide +kernel
theorem dX8_enter_126 : decode cX8_enter 126 = .ok (.iload_n 1, 1) := by decide +kernel
theorem dX8_enter_127 : decode cX8_enter 127 = .ok (.iconst 3, 1) := by decide +kernel
theorem dX8_enter_128 : decode cX8_enter 128 = .ok (.invokevirtual 95, 3) := by decide +kernel
theorem dX8_enter_131 : decode cX8_enter 131 = .ok (.iaload, 1) := by decide +kernel
theorem dX8_enter_132 : decode cX8_enter 132 = .ok (.goto 5, 3) := by decide +kernel
theorem dX8_enter_135 : decode cX8_enter 135 = .ok (.iload 4, 2) := by decide +kernel
theorem dX8_enter_137 : decode cX8_enter 137 = .ok (.iastore, 1) := by decide +kernel
theorem dX8_enter_138 : decode cX8_enter 138 = .ok (.iconst 1, 1) := by decide +kernel
theorem dX8_enter_139 : decode cX8_enter 139 = .ok (.ireturn, 1) := by decide +kernel
theorem dX8_leaf_0 : decode cX8_leaf 0 = .ok (.aload_n 0, 1) := by decide +kernel
theorem dX8_leaf_1 : decode cX8_leaf 1 = .ok (.iload_n 1, 1) := by decide +kernel
theorem dX8_leaf_2 : decode cX8_leaf 2 = .ok (.invokevirtual 92, 3) := by decide +kernel
theorem dX8_leaf_5 : decode cX8_leaf 5 = .ok (.ifCond .ne 6, 3) := by decide +kernel
theorem dX8_leaf_8 : decode cX8_leaf 8 = .ok (.bipush (-101), 2) := by decide +kernel
theorem dX8_leaf_10 : decode cX8_leaf 10 = .ok (.ireturn, 1) := by decide +kernel
theorem dX8_leaf_11 : decode cX8_leaf 11 = .ok (.aload_n 0, 1) := by decide +kernel
theorem dX8_leaf_12 : decode cX8_leaf 12 = .ok (.iload_n 1, 1) := by decide +kernel
theorem dX8_leaf_13 : decode cX8_leaf 13 = .ok (.iconst 5, 1) := by decide +kernel
theorem dX8_leaf_14 : decode cX8_leaf 14 = .ok (.invokevirtual 95, 3) := by decide +kernel
theorem dX8_leaf_17 : decode cX8_leaf 17 = .ok (.iconst (-1), 1) := by decide +kernel
theorem dX8_leaf_18 : decode cX8_leaf 18 = .ok (.if_icmp .ne 6, 3) := by decide +kernel
theorem dX8_leaf_21 : decode cX8_leaf 21 = .ok (.bipush (-103), 2) := by decide +kernel
theorem dX8_leaf_23 : decode cX8_leaf 23 = .ok (.ireturn, 1) := by decide +kernel
theorem dX8_leaf_24 : decode cX8_leaf 24 = .ok (.aload_n 0, 1) := by decide +kernel
theorem dX8_leaf_25 : decode cX8_leaf 25 = .ok (.iload_n 1, 1) := by decide +kernel
theorem dX8_leaf_26 : decode cX8_leaf 26 = .ok (.bipush 8, 2) := by decide +kernel
theorem dX8_leaf_28 : decode cX8_leaf 28 = .ok (.invokevirtual 95, 3) := by decide +kernel
theorem dX8_leaf_31 : decode cX8_leaf 31 = .ok (.istore_n 3, 1) := by decide +kernel
theorem dX8_leaf_32 : decode cX8_leaf 32 = .ok (.aload_n 0, 1) := by decide +kernel
theorem dX8_leaf_33 : decode cX8_leaf 33 = .ok (.getfield 22, 3) := by decide +kernel
theorem dX8_leaf_36 : decode cX8_leaf 36 = .ok (.bipush 10, 2) := by decide +kernel
theorem dX8_leaf_38 : decode cX8_leaf 38 = .ok (.iload_n 1, 1) := by decide +kernel
theorem dX8_leaf_39 : decode cX8_leaf 39 = .ok (.imul, 1) := by decide +kernel
theorem dX8_leaf_40 : decode cX8_leaf 40 = .ok (.bipush 8, 2) := by decide +kernel
theorem dX8_leaf_42 : decode cX8_leaf 42 = .ok (.iadd, 1) := by decide +kernel
theorem dX8_leaf_43 : decode cX8_leaf 43 = .ok (.iload_n 2, 1) := by decide +kernel
theorem dX8_leaf_44 : decode cX8_leaf 44 = .ok (.ifCond .eq 7, 3) := by decide +kernel
theorem dX8_leaf_47 : decode cX8_leaf 47 = .ok (.iconst 1, 1) := by decide +kernel
theorem dX8_leaf_48 : decode cX8_leaf 48 = .ok (.goto 4, 3) := by decide +kernel
theorem dX8_leaf_51 : decode cX8_leaf 51 = .ok (.iconst 0, 1) := by decide +kernel
theorem dX8_leaf_52 : decode cX8_leaf 52 = .ok (.iastore, 1) := by decide +kernel
theorem dX8_leaf_53 : decode cX8_leaf 53 = .ok (.iload_n 3, 1) := by decide +kernel
theorem dX8_leaf_54 : decode cX8_leaf 54 = .ok (.ireturn, 1) := by decide +kernel
theorem dX8_knew_0 : decode cX8_knew 0 = .ok (.aload_n 0, 1) := by decide +kernel
theorem dX8_knew_1 : decode cX8_knew 1 = .ok (.iload_n 1, 1) := by decide +kernel
theorem dX8_knew_2 : decode cX8_knew 2 = .ok (.invokevirtual 92, 3) := by decide +kernel
theorem dX8_knew_5 : decode cX8_knew 5 = .ok (.ifCond .ne 6, 3) := by decide +kernel
theorem dX8_knew_8 : decode cX8_knew 8 = .ok (.bipush (-101), 2) := by decide +kernel
theorem dX8_knew_10 : decode cX8_knew 10 = .ok (.ireturn, 1) := by decide +kernel
theorem dX8_knew_11 : decode cX8_knew 11 = .ok (.iload_n 2, 1) := by decide +kernel
theorem dX8_knew_12 : decode cX8_knew 12 = .ok (.i2l, 1) := by decide +kernel
theorem dX8_knew_13 : decode cX8_knew 13 = .ok (.lconst 0, 1) := by decide +kernel
theorem dX8_knew_14 : decode cX8_knew 14 = .ok (.ldc2_w 104, 3) := by decide +kernel
theorem dX8_knew_17 : decode cX8_knew 17 = .ok (.invokestatic 65, 3) := by decide +kernel
theorem dX8_knew_20 : decode cX8_knew 20 = .ok (.ifCond .ne 6, 3) := by decide +kernel
theorem dX8_knew_23 : decode cX8_knew 23 = .ok (.bipush (-102), 2) := by decide +kernel
theorem dX8_knew_25 : decode cX8_knew 25 = .ok (.ireturn, 1) := by decide +kernel
theorem dX8_knew_26 : decode cX8_knew 26 = .ok (.aload_n 0, 1) := by decide +kernel
theorem dX8_knew_27 : decode cX8_knew 27 = .ok (.iload_n 1, 1) := by decide +kernel
theorem dX8_knew_28 : decode cX8_knew 28 = .ok (.bipush 9, 2) := by decide +kernel
theorem dX8_knew_30 : decode cX8_knew 30 = .ok (.invokevirtual 95, 3) := by decide +kernel
theorem dX8_knew_33 : decode cX8_knew 33 = .ok (.istore_n 3, 1) := by decide +kernel
theorem dX8_knew_34 : decode cX8_knew 34 = .ok (.aload_n 0, 1) := by decide +kernel
theorem dX8_knew_35 : decode cX8_knew 35 = .ok (.getfield 22, 3) := by decide +kernel
theorem dX8_knew_38 : decode cX8_knew 38 = .ok (.bipush 10, 2) := by decide +kernel
theorem dX8_knew_40 : decode cX8_knew 40 = .ok (.iload_n 1, 1) := by decide +kernel
theorem dX8_knew_41 : decode cX8_knew 41 = .ok (.imul, 1) := by decide +kernel
theorem dX8_knew_42 : decode cX8_knew 42 = .ok (.bipush 9, 2) := by decide +kernel
theorem dX8_knew_44 : decode cX8_knew 44 = .ok (.iadd, 1) := by decide +kernel
theorem dX8_knew_45 : decode cX8_knew 45 = .ok (.iload_n 2, 1) := by decide +kernel
theorem dX8_knew_46 : decode cX8_knew 46 = .ok (.iastore, 1) := by decide +kernel
theorem dX8_knew_47 : decode cX8_knew 47 = .ok (.iload_n 3, 1) := by decide +kernel
theorem dX8_knew_48 : decode cX8_knew 48 = .ok (.ireturn, 1) := by decide +kernel
theorem dX8_letters_0 : decode cX8_letters 0 = .ok (.iconst 0, 1) := by decide +kernel
theorem dX8_letters_1 : decode cX8_letters 1 = .ok (.istore_n 3, 1) := by decide +kernel
theorem dX8_letters_2 : decode cX8_letters 2 = .ok (.iconst 1, 1) := by decide +kernel
theorem dX8_letters_3 : decode cX8_letters 3 = .ok (.istore 4, 2) := by decide +kernel
theorem dX8_letters_5 : decode cX8_letters 5 = .ok (.lload_n 1, 1) := by decide +kernel
theorem dX8_letters_6 : decode cX8_letters 6 = .ok (.lstore 5, 2) := by decide +kernel
theorem dX8_letters_8 : decode cX8_letters 8 = .ok (.iconst 0, 1) := by decide +kernel
theorem dX8_letters_9 : decode cX8_letters 9 = .ok (.istore 7, 2) := by decide +kernel
theorem dX8_letters_11 : decode cX8_letters 11 = .ok (.iload 7, 2) := by decide +kernel
theorem dX8_letters_13 : decode cX8_letters 13 = .ok (.bipush 8, 2) := by decide +kernel
theorem dX8_letters_15 : decode cX8_letters 15 = .ok (.if_icmp .ge 68, 3) := by decide +kernel
theorem dX8_letters_18 : decode cX8_letters 18 = .ok (.lload 5, 2) := by decide +kernel
theorem dX8_letters_20 : decode cX8_letters 20 = .ok (.ldc2_w 106, 3) := by decide +kernel
theorem dX8_letters_23 : decode cX8_letters 23 = .ok (.land, 1) := by decide +kernel
theorem dX8_letters_24 : decode cX8_letters 24 = .ok (.l2i, 1) := by decide +kernel
theorem dX8_letters_25 : decode cX8_letters 25 = .ok (.istore 8, 2) := by decide +kernel
theorem dX8_letters_27 : decode cX8_letters 27 = .ok (.lload 5, 2) := by decide +kernel
theorem dX8_letters_29 : decode cX8_letters 29 = .ok (.bipush 8, 2) := by decide +kernel
theorem dX8_letters_31 : decode cX8_letters 31 = .ok (.lushr, 1) := by decide +kernel
theorem dX8_letters_32 : decode cX8_letters 32 = .ok (.lstore 5, 2) := by decide +kernel
theorem dX8_letters_34 : decode cX8_letters 34 = .ok (.iload 4, 2) := by decide +kernel
theorem dX8_letters_36 : decode cX8_letters 36 = .ok (.ifCond .eq 25, 3) := by decide +kernel
theorem dX8_letters_39 : decode cX8_letters 39 = .ok (.iload 8, 2) := by decide +kernel
theorem dX8_letters_41 : decode cX8_letters 41 = .ok (.bipush 126, 2) := by decide +kernel
theorem dX8_letters_43 : decode cX8_letters 43 = .ok (.if_icmp .gt 18, 3) := by decide +kernel
theorem dX8_letters_46 : decode cX8_letters 46 = .ok (.iload 8, 2) := by decide +kernel
theorem dX8_letters_48 : decode cX8_letters 48 = .ok (.ifCond .eq 9, 3) := by decide +kernel
theorem dX8_letters_51 : decode cX8_letters 51 = .ok (.iload_n 3, 1) := by decide +kernel
theorem dX8_letters_52 : decode cX8_letters 52 = .ok (.iload 7, 2) := by decide +kernel
theorem dX8_letters_54 : decode cX8_letters 54 = .ok (.if_icmp .ne 7, 3) := by decide +kernel
theorem dX8_letters_57 : decode cX8_letters 57 = .ok (.iconst 1, 1) := by decide +kernel
theorem dX8_letters_58 : decode cX8_letters 58 = .ok (.goto 4, 3) := by decide +kernel
theorem dX8_letters_61 : decode cX8_letters 61 = .ok (.iconst 0, 1) := by decide +kernel
theorem dX8_letters_62 : decode cX8_letters 62 = .ok (.istore 4, 2) := by decide +kernel
theorem dX8_letters_64 : decode cX8_letters 64 = .ok (.iload_n 3, 1) := by decide +kernel
theorem dX8_letters_65 : decode cX8_letters 65 = .ok (.iload 8, 2) := by decide +kernel
theorem dX8_letters_67 : decode cX8_letters 67 = .ok (.ifCond .le 7, 3) := by decide +kernel
theorem dX8_letters_70 : decode cX8_letters 70 = .ok (.iconst 1, 1) := by decide +kernel
theorem dX8_letters_71 : decode cX8_letters 71 = .ok (.goto 4, 3) := by decide +kernel
theorem dX8_letters_74 : decode cX8_letters 74 = .ok (.iconst 0, 1) := by decide +kernel
theorem dX8_letters_75 : decode cX8_letters 75 = .ok (.iadd, 1) := by decide +kernel
theorem dX8_letters_76 : decode cX8_letters 76 = .ok (.istore_n 3, 1) := by decide +kernel
theorem dX8_letters_77 : decode cX8_letters 77 = .ok (.iinc 7 1, 3) := by decide +kernel
theorem dX8_letters_80 : decode cX8_letters 80 = .ok (.goto (-69), 3) := by decide +kernel
theorem dX8_letters_83 : decode cX8_letters 83 = .ok (.iload 4, 2) := by decide +kernel
theorem dX8_letters_85 : decode cX8_letters 85 = .ok (.ifCond .ne 6, 3) := by decide +kernel
theorem dX8_letters_88 : decode cX8_letters 88 = .ok (.bipush (-102), 2) := by decide +kernel
theorem dX8_letters_90 : decode cX8_letters 90 = .ok (.ireturn, 1) := by decide +kernel
theorem dX8_letters_91 : decode cX8_letters 91 = .ok (.aload_n 0, 1) := by decide +kernel
theorem dX8_letters_92 : decode cX8_letters 92 = .ok (.getfield 108, 3) := by decide +kernel
theorem dX8_letters_95 : decode cX8_letters 95 = .ok (.iload_n 3, 1) := by decide +kernel
theorem dX8_letters_96 : decode cX8_letters 96 = .ok (.iadd, 1) := by decide +kernel
theorem dX8_letters_97 : decode cX8_letters 97 = .ok (.bipush 16, 2) := by decide +kernel
theorem dX8_letters_99 : decode cX8_letters 99 = .ok (.if_icmp .le 6, 3) := by decide +kernel
theorem dX8_letters_102 : decode cX8_letters 102 = .ok (.bipush (-104), 2) := by decide +kernel
theorem dX8_letters_104 : decode cX8_letters 104 = .ok (.ireturn, 1) := by decide +kernel
theorem dX8_letters_105 : decode cX8_letters 105 = .ok (.iconst 0, 1) := by decide +kernel
theorem dX8_letters_106 : decode cX8_letters 106 = .ok (.istore 7, 2) := by decide +kernel
theorem dX8_letters_108 : decode cX8_letters 108 = .ok (.iload 7, 2) := by decide +kernel
theorem dX8_letters_110 : decode cX8_letters 110 = .ok (.iload_n 3, 1) := by decide +kernel
theorem dX8_letters_111 : decode cX8_letters 111 = .ok (.if_icmp .ge 40, 3) := by decide +kernel
theorem dX8_letters_114 : decode cX8_letters 114 = .ok (.aload_n 0, 1) := by decide +kernel
theorem dX8_letters_115 : decode cX8_letters 115 = .ok (.getfield 25, 3) := by decide +kernel
theorem dX8_letters_118 : decode cX8_letters 118 = .ok (.aload_n 0, 1) := by decide +kernel
theorem dX8_letters_119 : decode cX8_letters 119 = .ok (.getfield 108, 3) := by decide +kernel
theorem dX8_letters_122 : decode cX8_letters 122 = .ok (.lload_n 1, 1) := by decide +kernel
theorem dX8_letters_123 : decode cX8_letters 123 = .ok (.bipush 8, 2) := by decide +kernel
theorem dX8_letters_125 : decode cX8_letters 125 = .ok (.iload 7, 2) := by decide +kernel
theorem dX8_letters_127 : decode cX8_letters 127 = .ok (.imul, 1) := by decide +kernel
theorem dX8_letters_128 : decode cX8_letters 128 = .ok (.lushr, 1) := by decide +kernel
theorem dX8_letters_129 : decode cX8_letters 129 = .ok (.ldc2_w 106, 3) := by decide +kernel
theorem dX8_letters_132 : decode cX8_letters 132 = .ok (.land, 1) := by decide +kernel
theorem dX8_letters_133 : decode cX8_letters 133 = .ok (.l2i, 1) := by decide +kernel
theorem dX8_letters_134 : decode cX8_letters 134 = .ok (.iastore, 1) := by decide +kernel
theorem dX8_letters_135 : decode cX8_letters 135 = .ok (.aload_n 0, 1) := by decide +kernel
theorem dX8_letters_136 : decode cX8_letters 136 = .ok (.dup, 1) := by decide +kernel
theorem dX8_letters_137 : decode cX8_letters 137 = .ok (.getfield 108, 3) := by decide +kernel
theorem dX8_letters_140 : decode cX8_letters 140 = .ok (.iconst 1, 1) := by decide +kernel
theorem dX8_letters_141 : decode cX8_letters 141 = .ok (.iadd, 1) := by decide +kernel
theorem dX8_letters_142 : decode cX8_letters 142 = .ok (.putfield 108, 3) := by decide +kernel
theorem dX8_letters_145 : decode cX8_letters 145 = .ok (.iinc 7 1, 3) := by decide +kernel
theorem dX8_letters_148 : decode cX8_letters 148 = .ok (.goto (-40), 3) := by decide +kernel
theorem dX8_letters_151 : decode cX8_letters 151 = .ok (.aload_n 0, 1) := by decide +kernel
theorem dX8_letters_152 : decode cX8_letters 152 = .ok (.getfield 108, 3) := by decide +kernel
theorem dX8_letters_155 : decode cX8_letters 155 = .ok (.ireturn, 1) := by decide +kernel
theorem dX8_blank_0 : decode cX8_blank 0 = .ok (.aload_n 0, 1) := by decide +kernel
theorem dX8_blank_1 : decode cX8_blank 1 = .ok (.getfield 108, 3) := by decide +kernel
theorem dX8_blank_4 : decode cX8_blank 4 = .ok (.istore_n 1, 1) := by decide +kernel
theorem dX8_blank_5 : decode cX8_blank 5 = .ok (.aload_n 0, 1) := by decide +kernel
theorem dX8_blank_6 : decode cX8_blank 6 = .ok (.iconst 0, 1) := by decide +kernel
theorem dX8_blank_7 : decode cX8_blank 7 = .ok (.putfield 108, 3) := by decide +kernel
theorem dX8_blank_10 : decode cX8_blank 10 = .ok (.iload_n 1, 1) := by decide +kernel
theorem dX8_blank_11 : decode cX8_blank 11 = .ok (.ireturn, 1) := by decide +kernel
theorem dX8_go_0 : decode cX8_go 0 = .ok (.aload_n 0, 1) := by decide +kernel
theorem dX8_go_1 : decode cX8_go 1 = .ok (.getfield 111, 3) := by decide +kernel
theorem dX8_go_4 : decode cX8_go 4 = .ok (.ifCond .ne 43, 3) := by decide +kernel
theorem dX8_go_7 : decode cX8_go 7 = .ok (.aload_n 0, 1) := by decide +kernel
theorem dX8_go_8 : decode cX8_go 8 = .ok (.iload_n 1, 1) := by decide +kernel
theorem dX8_go_9 : decode cX8_go 9 = .ok (.putfield 114, 3) := by decide +kernel
theorem dX8_go_12 : decode cX8_go 12 = .ok (.aload_n 0, 1) := by decide +kernel
theorem dX8_go_13 : decode cX8_go 13 = .ok (.iconst 1, 1) := by decide +kernel
theorem dX8_go_14 : decode cX8_go 14 = .ok (.putfield 111, 3) := by decide +kernel
theorem dX8_go_17 : decode cX8_go 17 = .ok (.iload_n 1, 1) := by decide +kernel
theorem dX8_go_18 : decode cX8_go 18 = .ok (.bipush 100, 2) := by decide +kernel
theorem dX8_go_20 : decode cX8_go 20 = .ok (.if_icmp .eq 21, 3) := by decide +kernel
theorem dX8_go_23 : decode cX8_go 23 = .ok (.iload_n 1, 1) := by decide +kernel
theorem dX8_go_24 : decode cX8_go 24 = .ok (.bipush 101, 2) := by decide +kernel
theorem dX8_go_26 : decode cX8_go 26 = .ok (.if_icmp .eq 15, 3) := by decide +kernel
theorem dX8_go_29 : decode cX8_go 29 = .ok (.iload_n 1, 1) := by decide +kernel
theorem dX8_go_30 : decode cX8_go 30 = .ok (.bipush 110, 2) := by decide +kernel
theorem dX8_go_32 : decode cX8_go 32 = .ok (.if_icmp .eq 9, 3) := by decide +kernel
theorem dX8_go_35 : decode cX8_go 35 = .ok (.iload_n 1, 1) := by decide +kernel
theorem dX8_go_36 : decode cX8_go 36 = .ok (.bipush 98, 2) := by decide +kernel
theorem dX8_go_38 : decode cX8_go 38 = .ok (.if_icmp .ne 7, 3) := by decide +kernel
theorem dX8_go_41 : decode cX8_go 41 = .ok (.iconst 1, 1) := by decide +kernel
theorem dX8_go_42 : decode cX8_go 42 = .ok (.goto 4, 3) := by decide +kernel
theorem dX8_go_45 : decode cX8_go 45 = .ok (.iconst 0, 1) := by decide +kernel
theorem dX8_go_46 : decode cX8_go 46 = .ok (.ireturn, 1) := by decide +kernel
theorem dX8_go_47 : decode cX8_go 47 = .ok (.aload_n 0, 1) := by decide +kernel
theorem dX8_go_48 : decode cX8_go 48 = .ok (.getfield 111, 3) := by decide +kernel
theorem dX8_go_51 : decode cX8_go 51 = .ok (.iconst 1, 1) := by decide +kernel
theorem dX8_go_52 : decode cX8_go 52 = .ok (.if_icmp .ne 37, 3) := by decide +kernel
theorem dX8_go_55 : decode cX8_go 55 = .ok (.aload_n 0, 1) := by decide +kernel
theorem dX8_go_56 : decode cX8_go 56 = .ok (.iload_n 1, 1) := by decide +kernel
theorem dX8_go_57 : decode cX8_go 57 = .ok (.putfield 117, 3) := by decide +kernel
theorem dX8_go_60 : decode cX8_go 60 = .ok (.aload_n 0, 1) := by decide +kernel
theorem dX8_go_61 : decode cX8_go 61 = .ok (.iconst 2, 1) := by decide +kernel
theorem dX8_go_62 : decode cX8_go 62 = .ok (.putfield 111, 3) := by decide +kernel
theorem dX8_go_65 : decode cX8_go 65 = .ok (.iload_n 1, 1) := by decide +kernel
theorem dX8_go_66 : decode cX8_go 66 = .ok (.bipush 97, 2) := by decide +kernel
theorem dX8_go_68 : decode cX8_go 68 = .ok (.if_icmp .eq 15, 3) := by decide +kernel
theorem dX8_go_71 : decode cX8_go 71 = .ok (.iload_n 1, 1) := by decide +kernel
theorem dX8_go_72 : decode cX8_go 72 = .ok (.bipush 99, 2) := by decide +kernel
theorem dX8_go_74 : decode cX8_go 74 = .ok (.if_icmp .eq 9, 3) := by decide +kernel
theorem dX8_go_77 : decode cX8_go 77 = .ok (.iload_n 1, 1) := by decide +kernel
theorem dX8_go_78 : decode cX8_go 78 = .ok (.bipush 120, 2) := by decide +kernel
theorem dX8_go_80 : decode cX8_go 80 = .ok (.if_icmp .ne 7, 3) := by decide +kernel
theorem dX8_go_83 : decode cX8_go 83 = .ok (.iconst 1, 1) := by decide +kernel
theorem dX8_go_84 : decode cX8_go 84 = .ok (.goto 4, 3) := by decide +kernel
theorem dX8_go_87 : decode cX8_go 87 = .ok (.iconst 0, 1) := by decide +kernel
theorem dX8_go_88 : decode cX8_go 88 = .ok (.ireturn, 1) := by decide +kernel
theorem dX8_go_89 : decode cX8_go 89 = .ok (.aload_n 0, 1) := by decide +kernel
theorem dX8_go_90 : decode cX8_go 90 = .ok (.getfield 111, 3) := by decide +kernel
theorem dX8_go_93 : decode cX8_go 93 = .ok (.iconst 5, 1) := by decide +kernel
theorem dX8_go_94 : decode cX8_go 94 = .ok (.if_icmp .ge 126, 3) := by decide +kernel
theorem dX8_go_97 : decode cX8_go 97 = .ok (.iload_n 1, 1) := by decide +kernel
theorem dX8_go_98 : decode cX8_go 98 = .ok (.bipush 108, 2) := by decide +kernel
theorem dX8_go_100 : decode cX8_go 100 = .ok (.if_icmp .ne 7, 3) := by decide +kernel
theorem dX8_go_103 : decode cX8_go 103 = .ok (.iconst 3, 1) := by decide +kernel
theorem dX8_go_104 : decode cX8_go 104 = .ok (.goto 14, 3) := by decide +kernel
theorem dX8_go_107 : decode cX8_go 107 = .ok (.iload_n 1, 1) := by decide +kernel
theorem dX8_go_108 : decode cX8_go 108 = .ok (.bipush 103, 2) := by decide +kernel
theorem dX8_go_110 : decode cX8_go 110 = .ok (.if_icmp .ne 7, 3) := by decide +kernel
theorem dX8_go_113 : decode cX8_go 113 = .ok (.iconst 4, 1) := by decide +kernel
theorem dX8_go_114 : decode cX8_go 114 = .ok (.goto 4, 3) := by decide +kernel
theorem dX8_go_117 : decode cX8_go 117 = .ok (.iconst 5, 1) := by decide +kernel
theorem dX8_go_118 : decode cX8_go 118 = .ok (.istore_n 2, 1) := by decide +kernel
theorem dX8_go_119 : decode cX8_go 119 = .ok (.iload_n 1, 1) := by decide +kernel
theorem dX8_go_120 : decode cX8_go 120 = .ok (.bipush 108, 2) := by decide +kernel
theorem dX8_go_122 : decode cX8_go 122 = .ok (.if_icmp .eq 15, 3) := by decide +kernel
theorem dX8_go_125 : decode cX8_go 125 = .ok (.iload_n 1, 1) := by decide +kernel
theorem dX8_go_126 : decode cX8_go 126 = .ok (.bipush 103, 2) := by decide +kernel
theorem dX8_go_128 : decode cX8_go 128 = .ok (.if_icmp .eq 9, 3) := by decide +kernel
theorem dX8_go_131 : decode cX8_go 131 = .ok (.iload_n 1, 1) := by decide +kernel
theorem dX8_go_132 : decode cX8_go 132 = .ok (.bipush 104, 2) := by decide +kernel
theorem dX8_go_134 : decode cX8_go 134 = .ok (.if_icmp .ne 15, 3) := by decide +kernel
theorem dX8_go_137 : decode cX8_go 137 = .ok (.iload_n 2, 1) := by decide +kernel
theorem dX8_go_138 : decode cX8_go 138 = .ok (.aload_n 0, 1) := by decide +kernel
theorem dX8_go_139 : decode cX8_go 139 = .ok (.getfield 111, 3) := by decide +kernel
theorem dX8_go_142 : decode cX8_go 142 = .ok (.if_icmp .le 7, 3) := by decide +kernel
theorem dX8_go_145 : decode cX8_go 145 = .ok (.iconst 1, 1) := by decide +kernel
theorem dX8_go_146 : decode cX8_go 146 = .ok (.goto 4, 3) := by decide +kernel
theorem dX8_go_149 : decode cX8_go 149 = .ok (.iconst 0, 1) := by decide +kernel
theorem dX8_go_150 : decode cX8_go 150 = .ok (.istore_n 3, 1) := by decide +kernel
theorem dX8_go_151 : decode cX8_go 151 = .ok (.aload_n 0, 1) := by decide +kernel
theorem dX8_go_152 : decode cX8_go 152 = .ok (.aload_n 0, 1) := by decide +kernel
theorem dX8_go_153 : decode cX8_go 153 = .ok (.getfield 120, 3) := by decide +kernel
theorem dX8_go_156 : decode cX8_go 156 = .ok (.ifCond .ne 9, 3) := by decide +kernel
theorem dX8_go_159 : decode cX8_go 159 = .ok (.iload_n 1, 1) := by decide +kernel
theorem dX8_go_160 : decode cX8_go 160 = .ok (.bipush 108, 2) := by decide +kernel
theorem dX8_go_162 : decode cX8_go 162 = .ok (.if_icmp .ne 7, 3) := by decide +kernel
theorem dX8_go_165 : decode cX8_go 165 = .ok (.iconst 1, 1) := by decide +kernel
theorem dX8_go_166 : decode cX8_go 166 = .ok (.goto 4, 3) := by decide +kernel
theorem dX8_go_169 : decode cX8_go 169 = .ok (.iconst 0, 1) := by decide +kernel
theorem dX8_go_170 : decode cX8_go 170 = .ok (.putfield 120, 3) := by decide +kernel
theorem dX8_go_173 : decode cX8_go 173 = .ok (.aload_n 0, 1) := by decide +kernel
theorem dX8_go_174 : decode cX8_go 174 = .ok (.aload_n 0, 1) := by decide +kernel
theorem dX8_go_175 : decode cX8_go 175 = .ok (.getfield 124, 3) := by decide +kernel
theorem dX8_go_178 : decode cX8_go 178 = .ok (.ifCond .ne 9, 3) := by decide +kernel
theorem dX8_go_181 : decode cX8_go 181 = .ok (.iload_n 1, 1) := by decide +kernel
theorem dX8_go_182 : decode cX8_go 182 = .ok (.bipush 103, 2) := by decide +kernel
theorem dX8_go_184 : decode cX8_go 184 = .ok (.if_icmp .ne 7, 3) := by decide +kernel
theorem dX8_go_187 : decode cX8_go 187 = .ok (.iconst 1, 1) := by decide +kernel
theorem dX8_go_188 : decode cX8_go 188 = .ok (.goto 4, 3) := by decide +kernel
theorem dX8_go_191 : decode cX8_go 191 = .ok (.iconst 0, 1) := by decide +kernel
theorem dX8_go_192 : decode cX8_go 192 = .ok (.putfield 124, 3) := by decide +kernel
theorem dX8_go_195 : decode cX8_go 195 = .ok (.aload_n 0, 1) := by decide +kernel
theorem dX8_go_196 : decode cX8_go 196 = .ok (.iload_n 1, 1) := by decide +kernel
theorem dX8_go_197 : decode cX8_go 197 = .ok (.bipush 104, 2) := by decide +kernel
theorem dX8_go_199 : decode cX8_go 199 = .ok (.if_icmp .ne 7, 3) := by decide +kernel
theorem dX8_go_202 : decode cX8_go 202 = .ok (.iconst 0, 1) := by decide +kernel
theorem dX8_go_203 : decode cX8_go 203 = .ok (.goto 7, 3) := by decide +kernel
theorem dX8_go_206 : decode cX8_go 206 = .ok (.aload_n 0, 1) := by decide +kernel
theorem dX8_go_207 : decode cX8_go 207 = .ok (.getfield 127, 3) := by decide +kernel
theorem dX8_go_210 : decode cX8_go 210 = .ok (.putfield 127, 3) := by decide +kernel
theorem dX8_go_213 : decode cX8_go 213 = .ok (.aload_n 0, 1) := by decide +kernel
theorem dX8_go_214 : decode cX8_go 214 = .ok (.iload_n 2, 1) := by decide +kernel
theorem dX8_go_215 : decode cX8_go 215 = .ok (.putfield 111, 3) := by decide +kernel
theorem dX8_go_218 : decode cX8_go 218 = .ok (.iload_n 3, 1) := by decide +kernel
theorem dX8_go_219 : decode cX8_go 219 = .ok (.ireturn, 1) := by decide +kernel
theorem dX8_go_220 : decode cX8_go 220 = .ok (.aload_n 0, 1) := by decide +kernel
theorem dX8_go_221 : decode cX8_go 221 = .ok (.bipush 10, 2) := by decide +kernel
theorem dX8_go_223 : decode cX8_go 223 = .ok (.aload_n 0, 1) := by decide +kernel
theorem dX8_go_224 : decode cX8_go 224 = .ok (.getfield 127, 3) := by decide +kernel
theorem dX8_go_227 : decode cX8_go 227 = .ok (.imul, 1) := by decide +kernel
theorem dX8_go_228 : decode cX8_go 228 = .ok (.iload_n 1, 1) := by decide +kernel
theorem dX8_go_229 : decode cX8_go 229 = .ok (.iadd, 1) := by decide +kernel
theorem dX8_go_230 : decode cX8_go 230 = .ok (.bipush 48, 2) := by decide +kernel
theorem dX8_go_232 : decode cX8_go 232 = .ok (.isub, 1) := by decide +kernel
theorem dX8_go_233 : decode cX8_go 233 = .ok (.putfield 127, 3) := by decide +kernel
theorem dX8_go_236 : decode cX8_go 236 = .ok (.aload_n 0, 1) := by decide +kernel
theorem dX8_go_237 : decode cX8_go 237 = .ok (.dup, 1) := by decide +kernel
theorem dX8_go_238 : decode cX8_go 238 = .ok (.getfield 111, 3) := by decide +kernel
theorem dX8_go_241 : decode cX8_go 241 = .ok (.iconst 1, 1) := by decide +kernel
theorem dX8_go_242 : decode cX8_go 242 = .ok (.iadd, 1) := by decide +kernel
theorem dX8_go_243 : decode cX8_go 243 = .ok (.putfield 111, 3) := by decide +kernel
theorem dX8_go_246 : decode cX8_go 246 = .ok (.iload_n 1, 1) := by decide +kernel
theorem dX8_go_247 : decode cX8_go 247 = .ok (.i2l, 1) := by decide +kernel
theorem dX8_go_248 : decode cX8_go 248 = .ok (.ldc2_w 130, 3) := by decide +kernel
theorem dX8_go_251 : decode cX8_go 251 = .ok (.ldc2_w 132, 3) := by decide +kernel
theorem dX8_go_254 : decode cX8_go 254 = .ok (.invokestatic 65, 3) := by decide +kernel
theorem dX8_go_257 : decode cX8_go 257 = .ok (.ifCond .eq 16, 3) := by decide +kernel
theorem dX8_go_260 : decode cX8_go 260 = .ok (.aload_n 0, 1) := by decide +kernel
theorem dX8_go_261 : decode cX8_go 261 = .ok (.getfield 111, 3) := by decide +kernel
theorem dX8_go_264 : decode cX8_go 264 = .ok (.bipush 9, 2) := by decide +kernel
theorem dX8_go_266 : decode cX8_go 266 = .ok (.if_icmp .ge 7, 3) := by decide +kernel
theorem dX8_go_269 : decode cX8_go 269 = .ok (.iconst 1, 1) := by decide +kernel
theorem dX8_go_270 : decode cX8_go 270 = .ok (.goto 4, 3) := by decide +kernel
theorem dX8_go_273 : decode cX8_go 273 = .ok (.iconst 0, 1) := by decide +kernel
theorem dX8_go_274 : decode cX8_go 274 = .ok (.ireturn, 1) := by decide +kernel
theorem dX8_faultOf_0 : decode cX8_faultOf 0 = .ok (.aload_n 0, 1) := by decide +kernel
theorem dX8_faultOf_1 : decode cX8_faultOf 1 = .ok (.iconst 0, 1) := by decide +kernel
theorem dX8_faultOf_2 : decode cX8_faultOf 2 = .ok (.putfield 111, 3) := by decide +kernel
theorem dX8_faultOf_5 : decode cX8_faultOf 5 = .ok (.aload_n 0, 1) := by decide +kernel
theorem dX8_faultOf_6 : decode cX8_faultOf 6 = .ok (.iconst 0, 1) := by decide +kernel
theorem dX8_faultOf_7 : decode cX8_faultOf 7 = .ok (.putfield 120, 3) := by decide +kernel
theorem dX8_faultOf_10 : decode cX8_faultOf 10 = .ok (.aload_n 0, 1) := by decide +kernel
theorem dX8_faultOf_11 : decode cX8_faultOf 11 = .ok (.iconst 0, 1) := by decide +kernel
theorem dX8_faultOf_12 : decode cX8_faultOf 12 = .ok (.putfield 124, 3) := by decide +kernel
theorem dX8_faultOf_15 : decode cX8_faultOf 15 = .ok (.aload_n 0, 1) := by decide +kernel
theorem dX8_faultOf_16 : decode cX8_faultOf 16 = .ok (.sipush 999, 3) := by decide +kernel
theorem dX8_faultOf_19 : decode cX8_faultOf 19 = .ok (.putfield 127, 3) := by decide +kernel
theorem dX8_faultOf_22 : decode cX8_faultOf 22 = .ok (.iconst 0, 1) := by decide +kernel
theorem dX8_faultOf_23 : decode cX8_faultOf 23 = .ok (.istore_n 1, 1) := by decide +kernel
theorem dX8_faultOf_24 : decode cX8_faultOf 24 = .ok (.iload_n 1, 1) := by decide +kernel
theorem dX8_faultOf_25 : decode cX8_faultOf 25 = .ok (.aload_n 0, 1) := by decide +kernel
theorem dX8_faultOf_26 : decode cX8_faultOf 26 = .ok (.getfield 108, 3) := by decide +kernel
theorem dX8_faultOf_29 : decode cX8_faultOf 29 = .ok (.if_icmp .ge 22, 3) := by decide +kernel
theorem dX8_faultOf_32 : decode cX8_faultOf 32 = .ok (.aload_n 0, 1) := by decide +kernel
theorem dX8_faultOf_33 : decode cX8_faultOf 33 = .ok (.aload_n 0, 1) := by decide +kernel
theorem dX8_faultOf_34 : decode cX8_faultOf 34 = .ok (.getfield 25, 3) := by decide +kernel
theorem dX8_faultOf_37 : decode cX8_faultOf 37 = .ok (.iload_n 1, 1) := by decide +kernel
theorem dX8_faultOf_38 : decode cX8_faultOf 38 = .ok (.iaload, 1) := by decide +kernel
theorem dX8_faultOf_39 : decode cX8_faultOf 39 = .ok (.invokevirtual 134, 3) := by decide +kernel
theorem dX8_faultOf_42 : decode cX8_faultOf 42 = .ok (.ifCond .eq 9, 3) := by decide +kernel
theorem dX8_faultOf_45 : decode cX8_faultOf 45 = .ok (.iinc 1 1, 3) := by decide +kernel
theorem dX8_faultOf_48 : decode cX8_faultOf 48 = .ok (.goto (-24), 3) := by decide +kernel
theorem dX8_faultOf_51 : decode cX8_faultOf 51 = .ok (.iload_n 1, 1) := by decide +kernel
theorem dX8_faultOf_52 : decode cX8_faultOf 52 = .ok (.ireturn, 1) := by decide +kernel
theorem dX8_fault_0 : decode cX8_fault 0 = .ok (.aload_n 0, 1) := by decide +kernel
theorem dX8_fault_1 : decode cX8_fault 1 = .ok (.invokevirtual 137, 3) := by decide +kernel
theorem dX8_fault_4 : decode cX8_fault 4 = .ok (.ireturn, 1) := by decide +kernel
theorem dX8_law_0 : decode cX8_law 0 = .ok (.aload_n 0, 1) := by decide +kernel
theorem dX8_law_1 : decode cX8_law 1 = .ok (.invokevirtual 137, 3) := by decide +kernel
theorem dX8_law_4 : decode cX8_law 4 = .ok (.aload_n 0, 1) := by decide +kernel
theorem dX8_law_5 : decode cX8_law 5 = .ok (.getfield 108, 3) := by decide +kernel
theorem dX8_law_8 : decode cX8_law 8 = .ok (.if_icmp .lt 19, 3) := by decide +kernel
theorem dX8_law_11 : decode cX8_law 11 = .ok (.aload_n 0, 1) := by decide +kernel
theorem dX8_law_12 : decode cX8_law 12 = .ok (.getfield 111, 3) := by decide +kernel
theorem dX8_law_15 : decode cX8_law 15 = .ok (.iconst 2, 1) := by decide +kernel
theorem dX8_law_16 : decode cX8_law 16 = .ok (.if_icmp .lt 11, 3) := by decide +kernel
theorem dX8_law_19 : decode cX8_law 19 = .ok (.aload_n 0, 1) := by decide +kernel
theorem dX8_law_20 : decode cX8_law 20 = .ok (.getfield 111, 3) := by decide +kernel
theorem dX8_law_23 : decode cX8_law 23 = .ok (.iconst 5, 1) := by decide +kernel
theorem dX8_law_24 : decode cX8_law 24 = .ok (.if_icmp .ne 6, 3) := by decide +kernel
theorem dX8_law_27 : decode cX8_law 27 = .ok (.bipush (-103), 2) := by decide +kernel
theorem dX8_law_29 : decode cX8_law 29 = .ok (.ireturn, 1) := by decide +kernel
theorem dX8_law_30 : decode cX8_law 30 = .ok (.aload_n 0, 1) := by decide +kernel
theorem dX8_law_31 : decode cX8_law 31 = .ok (.getfield 141, 3) := by decide +kernel
theorem dX8_law_34 : decode cX8_law 34 = .ok (.iconst 4, 1) := by decide +kernel
theorem dX8_law_35 : decode cX8_law 35 = .ok (.if_icmp .ne 6, 3) := by decide +kernel
theorem dX8_law_38 : decode cX8_law 38 = .ok (.bipush (-104), 2) := by decide +kernel
theorem dX8_law_40 : decode cX8_law 40 = .ok (.ireturn, 1) := by decide +kernel
theorem dX8_law_41 : decode cX8_law 41 = .ok (.aload_n 0, 1) := by decide +kernel
theorem dX8_law_42 : decode cX8_law 42 = .ok (.getfield 28, 3) := by decide +kernel
theorem dX8_law_45 : decode cX8_law 45 = .ok (.aload_n 0, 1) := by decide +kernel
theorem dX8_law_46 : decode cX8_law 46 = .ok (.getfield 141, 3) := by decide +kernel
theorem dX8_law_49 : decode cX8_law 49 = .ok (.aload_n 0, 1) := by decide +kernel
theorem dX8_law_50 : decode cX8_law 50 = .ok (.getfield 114, 3) := by decide +kernel
theorem dX8_law_53 : decode cX8_law 53 = .ok (.iastore, 1) := by decide +kernel
theorem dX8_law_54 : decode cX8_law 54 = .ok (.aload_n 0, 1) := by decide +kernel
theorem dX8_law_55 : decode cX8_law 55 = .ok (.getfield 31, 3) := by decide +kernel
theorem dX8_law_58 : decode cX8_law 58 = .ok (.aload_n 0, 1) := by decide +kernel
theorem dX8_law_59 : decode cX8_law 59 = .ok (.getfield 141, 3) := by decide +kernel
theorem dX8_law_62 : decode cX8_law 62 = .ok (.aload_n 0, 1) := by decide +kernel
theorem dX8_law_63 : decode cX8_law 63 = .ok (.getfield 117, 3) := by decide +kernel
theorem dX8_law_66 : decode cX8_law 66 = .ok (.iastore, 1) := by decide +kernel
theorem dX8_law_67 : decode cX8_law 67 = .ok (.aload_n 0, 1) := by decide +kernel
theorem dX8_law_68 : decode cX8_law 68 = .ok (.getfield 34, 3) := by decide +kernel
theorem dX8_law_71 : decode cX8_law 71 = .ok (.aload_n 0, 1) := by decide +kernel
theorem dX8_law_72 : decode cX8_law 72 = .ok (.getfield 141, 3) := by decide +kernel
theorem dX8_law_75 : decode cX8_law 75 = .ok (.aload_n 0, 1) := by decide +kernel
theorem dX8_law_76 : decode cX8_law 76 = .ok (.getfield 120, 3) := by decide +kernel
theorem dX8_law_79 : decode cX8_law 79 = .ok (.bastore, 1) := by decide +kernel
theorem dX8_law_80 : decode cX8_law 80 = .ok (.aload_n 0, 1) := by decide +kernel
theorem dX8_law_81 : decode cX8_law 81 = .ok (.getfield 38, 3) := by decide +kernel
theorem dX8_law_84 : decode cX8_law 84 = .ok (.aload_n 0, 1) := by decide +kernel
theorem dX8_law_85 : decode cX8_law 85 = .ok (.getfield 141, 3) := by decide +kernel
theorem dX8_law_88 : decode cX8_law 88 = .ok (.aload_n 0, 1) := by decide +kernel
theorem dX8_law_89 : decode cX8_law 89 = .ok (.getfield 124, 3) := by decide +kernel
theorem dX8_law_92 : decode cX8_law 92 = .ok (.bastore, 1) := by decide +kernel
theorem dX8_law_93 : decode cX8_law 93 = .ok (.aload_n 0, 1) := by decide +kernel
theorem dX8_law_94 : decode cX8_law 94 = .ok (.getfield 41, 3) := by decide +kernel
theorem dX8_law_97 : decode cX8_law 97 = .ok (.aload_n 0, 1) := by decide +kernel
theorem dX8_law_98 : decode cX8_law 98 = .ok (.getfield 141, 3) := by decide +kernel
theorem dX8_law_101 : decode cX8_law 101 = .ok (.aload_n 0, 1) := by decide +kernel
theorem dX8_law_102 : decode cX8_law 102 = .ok (.getfield 127, 3) := by decide +kernel
theorem dX8_law_105 : decode cX8_law 105 = .ok (.iastore, 1) := by decide +kernel
theorem dX8_law_106 : decode cX8_law 106 = .ok (.aload_n 0, 1) := by decide +kernel
theorem dX8_law_107 : decode cX8_law 107 = .ok (.dup, 1) := by decide +kernel
theorem dX8_law_108 : decode cX8_law 108 = .ok (.getfield 141, 3) := by decide +kernel
theorem dX8_law_111 : decode cX8_law 111 = .ok (.iconst 1, 1) := by decide +kernel
theorem dX8_law_112 : decode cX8_law 112 = .ok (.iadd, 1) := by decide +kernel
theorem dX8_law_113 : decode cX8_law 113 = .ok (.putfield 141, 3) := by decide +kernel
theorem dX8_law_116 : decode cX8_law 116 = .ok (.aload_n 0, 1) := by decide +kernel
theorem dX8_law_117 : decode cX8_law 117 = .ok (.iconst 0, 1) := by decide +kernel
theorem dX8_law_118 : decode cX8_law 118 = .ok (.putfield 108, 3) := by decide +kernel
theorem dX8_law_121 : decode cX8_law 121 = .ok (.aload_n 0, 1) := by decide +kernel
theorem dX8_law_122 : decode cX8_law 122 = .ok (.getfield 141, 3) := by decide +kernel
theorem dX8_law_125 : decode cX8_law 125 = .ok (.iconst 1, 1) := by decide +kernel
theorem dX8_law_126 : decode cX8_law 126 = .ok (.isub, 1) := by decide +kernel
theorem dX8_law_127 : decode cX8_law 127 = .ok (.ireturn, 1) := by decide +kernel
theorem dX8_isLaw_0 : decode cX8_isLaw 0 = .ok (.iload_n 1, 1) := by decide +kernel
theorem dX8_isLaw_1 : decode cX8_isLaw 1 = .ok (.i2l, 1) := by decide +kernel
theorem dX8_isLaw_2 : decode cX8_isLaw 2 = .ok (.lconst 0, 1) := by decide +kernel
theorem dX8_isLaw_3 : decode cX8_isLaw 3 = .ok (.aload_n 0, 1) := by decide +kernel
theorem dX8_isLaw_4 : decode cX8_isLaw 4 = .ok (.getfield 141, 3) := by decide +kernel
theorem dX8_isLaw_7 : decode cX8_isLaw 7 = .ok (.iconst 1, 1) := by decide +kernel
theorem dX8_isLaw_8 : decode cX8_isLaw 8 = .ok (.isub, 1) := by decide +kernel
theorem dX8_isLaw_9 : decode cX8_isLaw 9 = .ok (.i2l, 1) := by decide +kernel
theorem dX8_isLaw_10 : decode cX8_isLaw 10 = .ok (.invokestatic 65, 3) := by decide +kernel
theorem dX8_isLaw_13 : decode cX8_isLaw 13 = .ok (.ireturn, 1) := by decide +kernel
theorem dX8_passes_0 : decode cX8_passes 0 = .ok (.aload_n 0, 1) := by decide +kernel
theorem dX8_passes_1 : decode cX8_passes 1 = .ok (.iload_n 1, 1) := by decide +kernel
theorem dX8_passes_2 : decode cX8_passes 2 = .ok (.iconst 0, 1) := by decide +kernel
theorem dX8_passes_3 : decode cX8_passes 3 = .ok (.invokevirtual 95, 3) := by decide +kernel
theorem dX8_passes_6 : decode cX8_passes 6 = .ok (.iconst 3, 1) := by decide +kernel
theorem dX8_passes_7 : decode cX8_passes 7 = .ok (.if_icmp .eq 7, 3) := by decide +kernel
theorem dX8_passes_10 : decode cX8_passes 10 = .ok (.iconst 1, 1) := by decide +kernel
theorem dX8_passes_11 : decode cX8_passes 11 = .ok (.goto 4, 3) := by decide +kernel
theorem dX8_passes_14 : decode cX8_passes 14 = .ok (.iconst 0, 1) := by decide +kernel
theorem dX8_passes_15 : decode cX8_passes 15 = .ok (.ireturn, 1) := by decide +kernel
theorem dX8_canBeFound_0 : decode cX8_canBeFound 0 = .ok (.aload_n 0, 1) := by decide +kernel
theorem dX8_canBeFound_1 : decode cX8_canBeFound 1 = .ok (.iload_n 1, 1) := by decide +kernel
theorem dX8_canBeFound_2 : decode cX8_canBeFound 2 = .ok (.iconst 5, 1) := by decide +kernel
theorem dX8_canBeFound_3 : decode cX8_canBeFound 3 = .ok (.invokevirtual 95, 3) := by decide +kernel
theorem dX8_canBeFound_6 : decode cX8_canBeFound 6 = .ok (.iconst (-1), 1) := by decide +kernel
theorem dX8_canBeFound_7 : decode cX8_canBeFound 7 = .ok (.if_icmp .eq 27, 3) := by decide +kernel
theorem dX8_canBeFound_10 : decode cX8_canBeFound 10 = .ok (.aload_n 0, 1) := by decide +kernel
theorem dX8_canBeFound_11 : decode cX8_canBeFound 11 = .ok (.iload_n 1, 1) := by decide +kernel
theorem dX8_canBeFound_12 : decode cX8_canBeFound 12 = .ok (.iconst 0, 1) := by decide +kernel
theorem dX8_canBeFound_13 : decode cX8_canBeFound 13 = .ok (.invokevirtual 95, 3) := by decide +kernel
theorem dX8_canBeFound_16 : decode cX8_canBeFound 16 = .ok (.iconst 4, 1) := by decide +kernel
theorem dX8_canBeFound_17 : decode cX8_canBeFound 17 = .ok (.if_icmp .eq 17, 3) := by decide +kernel
theorem dX8_canBeFound_20 : decode cX8_canBeFound 20 = .ok (.aload_n 0, 1) := by decide +kernel
theorem dX8_canBeFound_21 : decode cX8_canBeFound 21 = .ok (.iload_n 1, 1) := by decide +kernel
theorem dX8_canBeFound_22 : decode cX8_canBeFound 22 = .ok (.bipush 8, 2) := by decide +kernel
theorem dX8_canBeFound_24 : decode cX8_canBeFound 24 = .ok (.invokevirtual 95, 3) := by decide +kernel
theorem dX8_canBeFound_27 : decode cX8_canBeFound 27 = .ok (.ifCond .ne 7, 3) := by decide +kernel
theorem dX8_canBeFound_30 : decode cX8_canBeFound 30 = .ok (.iconst 1, 1) := by decide +kernel
theorem dX8_canBeFound_31 : decode cX8_canBeFound 31 = .ok (.goto 4, 3) := by decide +kernel
theorem dX8_canBeFound_34 : decode cX8_canBeFound 34 = .ok (.iconst 0, 1) := by decide +kernel
theorem dX8_canBeFound_35 : decode cX8_canBeFound 35 = .ok (.ireturn, 1) := by decide +kernel
theorem dX8_lastUnder_0 : decode cX8_lastUnder 0 = .ok (.iconst (-1), 1) := by decide +kernel
theorem dX8_lastUnder_1 : decode cX8_lastUnder 1 = .ok (.istore 5, 2) := by decide +kernel
theorem dX8_lastUnder_3 : decode cX8_lastUnder 3 = .ok (.iconst 0, 1) := by decide +kernel
theorem dX8_lastUnder_4 : decode cX8_lastUnder 4 = .ok (.istore 6, 2) := by decide +kernel
theorem dX8_lastUnder_6 : decode cX8_lastUnder 6 = .ok (.iload 6, 2) := by decide +kernel
theorem dX8_lastUnder_8 : decode cX8_lastUnder 8 = .ok (.aload_n 0, 1) := by decide +kernel
theorem dX8_lastUnder_9 : decode cX8_lastUnder 9 = .ok (.getfield 89, 3) := by decide +kernel
theorem dX8_lastUnder_12 : decode cX8_lastUnder 12 = .ok (.if_icmp .ge 115, 3) := by decide +kernel
theorem dX8_lastUnder_15 : decode cX8_lastUnder 15 = .ok (.aload_n 0, 1) := by decide +kernel
theorem dX8_lastUnder_16 : decode cX8_lastUnder 16 = .ok (.iload 6, 2) := by decide +kernel
theorem dX8_lastUnder_18 : decode cX8_lastUnder 18 = .ok (.iconst 1, 1) := by decide +kernel
theorem dX8_lastUnder_19 : decode cX8_lastUnder 19 = .ok (.invokevirtual 95, 3) := by decide +kernel
theorem dX8_lastUnder_22 : decode cX8_lastUnder 22 = .ok (.iload_n 1, 1) := by decide +kernel
theorem dX8_lastUnder_23 : decode cX8_lastUnder 23 = .ok (.if_icmp .ne 58, 3) := by decide +kernel
theorem dX8_lastUnder_26 : decode cX8_lastUnder 26 = .ok (.aload_n 0, 1) := by decide +kernel
theorem dX8_lastUnder_27 : decode cX8_lastUnder 27 = .ok (.iload 6, 2) := by decide +kernel
theorem dX8_lastUnder_29 : decode cX8_lastUnder 29 = .ok (.invokevirtual 144, 3) := by decide +kernel
theorem dX8_lastUnder_32 : decode cX8_lastUnder 32 = .ok (.ifCond .eq 49, 3) := by decide +kernel
theorem dX8_lastUnder_35 : decode cX8_lastUnder 35 = .ok (.aload_n 0, 1) := by decide +kernel
theorem dX8_lastUnder_36 : decode cX8_lastUnder 36 = .ok (.iload 6, 2) := by decide +kernel
theorem dX8_lastUnder_38 : decode cX8_lastUnder 38 = .ok (.invokevirtual 147, 3) := by decide +kernel
theorem dX8_lastUnder_41 : decode cX8_lastUnder 41 = .ok (.ifCond .eq 40, 3) := by decide +kernel
theorem dX8_lastUnder_44 : decode cX8_lastUnder 44 = .ok (.aload_n 0, 1) := by decide +kernel
theorem dX8_lastUnder_45 : decode cX8_lastUnder 45 = .ok (.iload 6, 2) := by decide +kernel
theorem dX8_lastUnder_47 : decode cX8_lastUnder 47 = .ok (.bipush 7, 2) := by decide +kernel
theorem dX8_lastUnder_49 : decode cX8_lastUnder 49 = .ok (.invokevirtual 95, 3) := by decide +kernel
theorem dX8_lastUnder_52 : decode cX8_lastUnder 52 = .ok (.iload_n 2, 1) := by decide +kernel
theorem dX8_lastUnder_53 : decode cX8_lastUnder 53 = .ok (.if_icmp .ne 28, 3) := by decide +kernel
theorem dX8_lastUnder_56 : decode cX8_lastUnder 56 = .ok (.aload_n 0, 1) := by decide +kernel
theorem dX8_lastUnder_57 : decode cX8_lastUnder 57 = .ok (.iload 6, 2) := by decide +kernel
theorem dX8_lastUnder_59 : decode cX8_lastUnder 59 = .ok (.iconst 5, 1) := by decide +kernel
theorem dX8_lastUnder_60 : decode cX8_lastUnder 60 = .ok (.invokevirtual 95, 3) := by decide +kernel
theorem dX8_lastUnder_63 : decode cX8_lastUnder 63 = .ok (.iload_n 3, 1) := by decide +kernel
theorem dX8_lastUnder_64 : decode cX8_lastUnder 64 = .ok (.if_icmp .gt 17, 3) := by decide +kernel
theorem dX8_lastUnder_67 : decode cX8_lastUnder 67 = .ok (.iload 4, 2) := by decide +kernel
theorem dX8_lastUnder_69 : decode cX8_lastUnder 69 = .ok (.iload 6, 2) := by decide +kernel
theorem dX8_lastUnder_71 : decode cX8_lastUnder 71 = .ok (.invokestatic 150, 3) := by decide +kernel
theorem dX8_lastUnder_74 : decode cX8_lastUnder 74 = .ok (.ifCond .ne 7, 3) := by decide +kernel
theorem dX8_lastUnder_77 : decode cX8_lastUnder 77 = .ok (.iconst 1, 1) := by decide +kernel
theorem dX8_lastUnder_78 : decode cX8_lastUnder 78 = .ok (.goto 4, 3) := by decide +kernel
theorem dX8_lastUnder_81 : decode cX8_lastUnder 81 = .ok (.iconst 0, 1) := by decide +kernel
theorem dX8_lastUnder_82 : decode cX8_lastUnder 82 = .ok (.istore 7, 2) := by decide +kernel
theorem dX8_lastUnder_84 : decode cX8_lastUnder 84 = .ok (.iload 7, 2) := by decide +kernel
theorem dX8_lastUnder_86 : decode cX8_lastUnder 86 = .ok (.ifCond .eq 31, 3) := by decide +kernel
theorem dX8_lastUnder_89 : decode cX8_lastUnder 89 = .ok (.iload 5, 2) := by decide +kernel
theorem dX8_lastUnder_91 : decode cX8_lastUnder 91 = .ok (.iconst (-1), 1) := by decide +kernel
theorem dX8_lastUnder_92 : decode cX8_lastUnder 92 = .ok (.if_icmp .eq 20, 3) := by decide +kernel
theorem dX8_lastUnder_95 : decode cX8_lastUnder 95 = .ok (.aload_n 0, 1) := by decide +kernel
theorem dX8_lastUnder_96 : decode cX8_lastUnder 96 = .ok (.iload 6, 2) := by decide +kernel
theorem dX8_lastUnder_98 : decode cX8_lastUnder 98 = .ok (.iconst 5, 1) := by decide +kernel
theorem dX8_lastUnder_99 : decode cX8_lastUnder 99 = .ok (.invokevirtual 95, 3) := by decide +kernel
theorem dX8_lastUnder_102 : decode cX8_lastUnder 102 = .ok (.aload_n 0, 1) := by decide +kernel
theorem dX8_lastUnder_103 : decode cX8_lastUnder 103 = .ok (.iload 5, 2) := by decide +kernel
theorem dX8_lastUnder_105 : decode cX8_lastUnder 105 = .ok (.iconst 5, 1) := by decide +kernel
theorem dX8_lastUnder_106 : decode cX8_lastUnder 106 = .ok (.invokevirtual 95, 3) := by decide +kernel
theorem dX8_lastUnder_109 : decode cX8_lastUnder 109 = .ok (.if_icmp .lt 8, 3) := by decide +kernel
theorem dX8_lastUnder_112 : decode cX8_lastUnder 112 = .ok (.iload 6, 2) := by decide +kernel
theorem dX8_lastUnder_114 : decode cX8_lastUnder 114 = .ok (.goto 5, 3) := by decide +kernel
theorem dX8_lastUnder_117 : decode cX8_lastUnder 117 = .ok (.iload 5, 2) := by decide +kernel
theorem dX8_lastUnder_119 : decode cX8_lastUnder 119 = .ok (.istore 5, 2) := by decide +kernel
theorem dX8_lastUnder_121 : decode cX8_lastUnder 121 = .ok (.iinc 6 1, 3) := by decide +kernel
theorem dX8_lastUnder_124 : decode cX8_lastUnder 124 = .ok (.goto (-118), 3) := by decide +kernel
theorem dX8_lastUnder_127 : decode cX8_lastUnder 127 = .ok (.iload 5, 2) := by decide +kernel
theorem dX8_lastUnder_129 : decode cX8_lastUnder 129 = .ok (.ireturn, 1) := by decide +kernel
theorem dX8_foundUnder_0 : decode cX8_foundUnder 0 = .ok (.iconst 0, 1) := by decide +kernel
theorem dX8_foundUnder_1 : decode cX8_foundUnder 1 = .ok (.istore 5, 2) := by decide +kernel
theorem dX8_foundUnder_3 : decode cX8_foundUnder 3 = .ok (.iconst 0, 1) := by decide +kernel
theorem dX8_foundUnder_4 : decode cX8_foundUnder 4 = .ok (.istore 6, 2) := by decide +kernel
theorem dX8_foundUnder_6 : decode cX8_foundUnder 6 = .ok (.iload 6, 2) := by decide +kernel
theorem dX8_foundUnder_8 : decode cX8_foundUnder 8 = .ok (.aload_n 0, 1) := by decide +kernel
theorem dX8_foundUnder_9 : decode cX8_foundUnder 9 = .ok (.getfield 89, 3) := by decide +kernel
theorem dX8_foundUnder_12 : decode cX8_foundUnder 12 = .ok (.if_icmp .ge 85, 3) := by decide +kernel
theorem dX8_foundUnder_15 : decode cX8_foundUnder 15 = .ok (.aload_n 0, 1) := by decide +kernel
theorem dX8_foundUnder_16 : decode cX8_foundUnder 16 = .ok (.iload 6, 2) := by decide +kernel
theorem dX8_foundUnder_18 : decode cX8_foundUnder 18 = .ok (.iconst 1, 1) := by decide +kernel
theorem dX8_foundUnder_19 : decode cX8_foundUnder 19 = .ok (.invokevirtual 95, 3) := by decide +kernel
theorem dX8_foundUnder_22 : decode cX8_foundUnder 22 = .ok (.iload_n 1, 1) := by decide +kernel
theorem dX8_foundUnder_23 : decode cX8_foundUnder 23 = .ok (.if_icmp .ne 47, 3) := by decide +kernel
theorem dX8_foundUnder_26 : decode cX8_foundUnder 26 = .ok (.aload_n 0, 1) := by decide +kernel
theorem dX8_foundUnder_27 : decode cX8_foundUnder 27 = .ok (.iload 6, 2) := by decide +kernel
theorem dX8_foundUnder_29 : decode cX8_foundUnder 29 = .ok (.invokevirtual 147, 3) := by decide +kernel
theorem dX8_foundUnder_32 : decode cX8_foundUnder 32 = .ok (.ifCond .eq 38, 3) := by decide +kernel
theorem dX8_foundUnder_35 : decode cX8_foundUnder 35 = .ok (.aload_n 0, 1) := by decide +kernel
theorem dX8_foundUnder_36 : decode cX8_foundUnder 36 = .ok (.iload 6, 2) := by decide +kernel
theorem dX8_foundUnder_38 : decode cX8_foundUnder 38 = .ok (.bipush 6, 2) := by decide +kernel
theorem dX8_foundUnder_40 : decode cX8_foundUnder 40 = .ok (.invokevirtual 95, 3) := by decide +kernel
theorem dX8_foundUnder_43 : decode cX8_foundUnder 43 = .ok (.iload_n 2, 1) := by decide +kernel
theorem dX8_foundUnder_44 : decode cX8_foundUnder 44 = .ok (.if_icmp .ne 26, 3) := by decide +kernel
theorem dX8_foundUnder_47 : decode cX8_foundUnder 47 = .ok (.aload_n 0, 1) := by decide +kernel
theorem dX8_foundUnder_48 : decode cX8_foundUnder 48 = .ok (.iload 6, 2) := by decide +kernel
theorem dX8_foundUnder_50 : decode cX8_foundUnder 50 = .ok (.iconst 5, 1) := by decide +kernel
theorem dX8_foundUnder_51 : decode cX8_foundUnder 51 = .ok (.invokevirtual 95, 3) := by decide +kernel
theorem dX8_foundUnder_54 : decode cX8_foundUnder 54 = .ok (.i2l, 1) := by decide +kernel
theorem dX8_foundUnder_55 : decode cX8_foundUnder 55 = .ok (.iload_n 3, 1) := by decide +kernel
theorem dX8_foundUnder_56 : decode cX8_foundUnder 56 = .ok (.i2l, 1) := by decide +kernel
theorem dX8_foundUnder_57 : decode cX8_foundUnder 57 = .ok (.iload 4, 2) := by decide +kernel
theorem dX8_foundUnder_59 : decode cX8_foundUnder 59 = .ok (.i2l, 1) := by decide +kernel
theorem dX8_foundUnder_60 : decode cX8_foundUnder 60 = .ok (.invokestatic 65, 3) := by decide +kernel
theorem dX8_foundUnder_63 : decode cX8_foundUnder 63 = .ok (.ifCond .eq 7, 3) := by decide +kernel
theorem dX8_foundUnder_66 : decode cX8_foundUnder 66 = .ok (.iconst 1, 1) := by decide +kernel
theorem dX8_foundUnder_67 : decode cX8_foundUnder 67 = .ok (.goto 4, 3) := by decide +kernel
theorem dX8_foundUnder_70 : decode cX8_foundUnder 70 = .ok (.iconst 0, 1) := by decide +kernel
theorem dX8_foundUnder_71 : decode cX8_foundUnder 71 = .ok (.istore 7, 2) := by decide +kernel
theorem dX8_foundUnder_73 : decode cX8_foundUnder 73 = .ok (.iload 5, 2) := by decide +kernel
theorem dX8_foundUnder_75 : decode cX8_foundUnder 75 = .ok (.iload 7, 2) := by decide +kernel
theorem dX8_foundUnder_77 : decode cX8_foundUnder 77 = .ok (.ifCond .eq 10, 3) := by decide +kernel
theorem dX8_foundUnder_80 : decode cX8_foundUnder 80 = .ok (.iconst 1, 1) := by decide +kernel
theorem dX8_foundUnder_81 : decode cX8_foundUnder 81 = .ok (.iload 6, 2) := by decide +kernel
theorem dX8_foundUnder_83 : decode cX8_foundUnder 83 = .ok (.ishl, 1) := by decide +kernel
theorem dX8_foundUnder_84 : decode cX8_foundUnder 84 = .ok (.goto 4, 3) := by decide +kernel
theorem dX8_foundUnder_87 : decode cX8_foundUnder 87 = .ok (.iconst 0, 1) := by decide +kernel
theorem dX8_foundUnder_88 : decode cX8_foundUnder 88 = .ok (.ior, 1) := by decide +kernel
theorem dX8_foundUnder_89 : decode cX8_foundUnder 89 = .ok (.istore 5, 2) := by decide +kernel
theorem dX8_foundUnder_91 : decode cX8_foundUnder 91 = .ok (.iinc 6 1, 3) := by decide +kernel
theorem dX8_foundUnder_94 : decode cX8_foundUnder 94 = .ok (.goto (-88), 3) := by decide +kernel
theorem dX8_foundUnder_97 : decode cX8_foundUnder 97 = .ok (.iload 5, 2) := by decide +kernel
theorem dX8_foundUnder_99 : decode cX8_foundUnder 99 = .ok (.ireturn, 1) := by decide +kernel
theorem dX8_searchOf_0 : decode cX8_searchOf 0 = .ok (.aload_n 0, 1) := by decide +kernel
theorem dX8_searchOf_1 : decode cX8_searchOf 1 = .ok (.getfield 7, 3) := by decide +kernel
theorem dX8_searchOf_4 : decode cX8_searchOf 4 = .ok (.iload_n 2, 1) := by decide +kernel
theorem dX8_searchOf_5 : decode cX8_searchOf 5 = .ok (.iaload, 1) := by decide +kernel
theorem dX8_searchOf_6 : decode cX8_searchOf 6 = .ok (.istore 4, 2) := by decide +kernel
theorem dX8_searchOf_8 : decode cX8_searchOf 8 = .ok (.iload_n 3, 1) := by decide +kernel
theorem dX8_searchOf_9 : decode cX8_searchOf 9 = .ok (.istore 5, 2) := by decide +kernel
theorem dX8_searchOf_11 : decode cX8_searchOf 11 = .ok (.iconst 0, 1) := by decide +kernel
theorem dX8_searchOf_12 : decode cX8_searchOf 12 = .ok (.istore 6, 2) := by decide +kernel
theorem dX8_searchOf_14 : decode cX8_searchOf 14 = .ok (.iconst 0, 1) := by decide +kernel
theorem dX8_searchOf_15 : decode cX8_searchOf 15 = .ok (.istore 7, 2) := by decide +kernel
theorem dX8_searchOf_17 : decode cX8_searchOf 17 = .ok (.aload_n 0, 1) := by decide +kernel
theorem dX8_searchOf_18 : decode cX8_searchOf 18 = .ok (.iconst 0, 1) := by decide +kernel
theorem dX8_searchOf_19 : decode cX8_searchOf 19 = .ok (.putfield 154, 3) := by decide +kernel
theorem dX8_searchOf_22 : decode cX8_searchOf 22 = .ok (.aload_n 0, 1) := by decide +kernel
theorem dX8_searchOf_23 : decode cX8_searchOf 23 = .ok (.iload_n 1, 1) := by decide +kernel
theorem dX8_searchOf_24 : decode cX8_searchOf 24 = .ok (.iload 4, 2) := by decide +kernel
theorem dX8_searchOf_26 : decode cX8_searchOf 26 = .ok (.iload_n 3, 1) := by decide +kernel
theorem dX8_searchOf_27 : decode cX8_searchOf 27 = .ok (.iload 6, 2) := by decide +kernel
theorem dX8_searchOf_29 : decode cX8_searchOf 29 = .ok (.invokevirtual 157, 3) := by decide +kernel
theorem dX8_searchOf_32 : decode cX8_searchOf 32 = .ok (.istore 8, 2) := by decide +kernel
theorem dX8_searchOf_34 : decode cX8_searchOf 34 = .ok (.iload 8, 2) := by decide +kernel
theorem dX8_searchOf_36 : decode cX8_searchOf 36 = .ok (.iconst (-1), 1) := by decide +kernel
theorem dX8_searchOf_37 : decode cX8_searchOf 37 = .ok (.if_icmp .eq 77, 3) := by decide +kernel
theorem dX8_searchOf_40 : decode cX8_searchOf 40 = .ok (.iload 6, 2) := by decide +kernel
theorem dX8_searchOf_42 : decode cX8_searchOf 42 = .ok (.iconst 1, 1) := by decide +kernel
theorem dX8_searchOf_43 : decode cX8_searchOf 43 = .ok (.iload 8, 2) := by decide +kernel
theorem dX8_searchOf_45 : decode cX8_searchOf 45 = .ok (.ishl, 1) := by decide +kernel
theorem dX8_searchOf_46 : decode cX8_searchOf 46 = .ok (.ior, 1) := by decide +kernel
theorem dX8_searchOf_47 : decode cX8_searchOf 47 = .ok (.istore 6, 2) := by decide +kernel
theorem dX8_searchOf_49 : decode cX8_searchOf 49 = .ok (.aload_n 0, 1) := by decide +kernel
theorem dX8_searchOf_50 : decode cX8_searchOf 50 = .ok (.dup, 1) := by decide +kernel
theorem dX8_searchOf_51 : decode cX8_searchOf 51 = .ok (.getfield 154, 3) := by decide +kernel
theorem dX8_searchOf_54 : decode cX8_searchOf 54 = .ok (.iconst 1, 1) := by decide +kernel
theorem dX8_searchOf_55 : decode cX8_searchOf 55 = .ok (.iadd, 1) := by decide +kernel
theorem dX8_searchOf_56 : decode cX8_searchOf 56 = .ok (.putfield 154, 3) := by decide +kernel
theorem dX8_searchOf_59 : decode cX8_searchOf 59 = .ok (.iload 7, 2) := by decide +kernel
theorem dX8_searchOf_61 : decode cX8_searchOf 61 = .ok (.aload_n 0, 1) := by decide +kernel
theorem dX8_searchOf_62 : decode cX8_searchOf 62 = .ok (.iload_n 1, 1) := by decide +kernel
theorem dX8_searchOf_63 : decode cX8_searchOf 63 = .ok (.iload 4, 2) := by decide +kernel
theorem dX8_searchOf_65 : decode cX8_searchOf 65 = .ok (.aload_n 0, 1) := by decide +kernel
theorem dX8_searchOf_66 : decode cX8_searchOf 66 = .ok (.iload 8, 2) := by decide +kernel
theorem dX8_searchOf_68 : decode cX8_searchOf 68 = .ok (.iconst 5, 1) := by decide +kernel
theorem dX8_searchOf_69 : decode cX8_searchOf 69 = .ok (.invokevirtual 95, 3) := by decide +kernel
theorem dX8_searchOf_72 : decode cX8_searchOf 72 = .ok (.iload 5, 2) := by decide +kernel
theorem dX8_searchOf_74 : decode cX8_searchOf 74 = .ok (.invokevirtual 161, 3) := by decide +kernel
theorem dX8_searchOf_77 : decode cX8_searchOf 77 = .ok (.ior, 1) := by decide +kernel
theorem dX8_searchOf_78 : decode cX8_searchOf 78 = .ok (.istore 7, 2) := by decide +kernel
theorem dX8_searchOf_80 : decode cX8_searchOf 80 = .ok (.aload_n 0, 1) := by decide +kernel
theorem dX8_searchOf_81 : decode cX8_searchOf 81 = .ok (.iload 8, 2) := by decide +kernel
theorem dX8_searchOf_83 : decode cX8_searchOf 83 = .ok (.iconst 5, 1) := by decide +kernel
theorem dX8_searchOf_84 : decode cX8_searchOf 84 = .ok (.invokevirtual 95, 3) := by decide +kernel
theorem dX8_searchOf_87 : decode cX8_searchOf 87 = .ok (.istore 5, 2) := by decide +kernel
theorem dX8_searchOf_89 : decode cX8_searchOf 89 = .ok (.aload_n 0, 1) := by decide +kernel
theorem dX8_searchOf_90 : decode cX8_searchOf 90 = .ok (.iload 8, 2) := by decide +kernel
theorem dX8_searchOf_92 : decode cX8_searchOf 92 = .ok (.bipush 6, 2) := by decide +kernel
theorem dX8_searchOf_94 : decode cX8_searchOf 94 = .ok (.invokevirtual 95, 3) := by decide +kernel
theorem dX8_searchOf_97 : decode cX8_searchOf 97 = .ok (.istore 4, 2) := by decide +kernel
theorem dX8_searchOf_99 : decode cX8_searchOf 99 = .ok (.aload_n 0, 1) := by decide +kernel
theorem dX8_searchOf_100 : decode cX8_searchOf 100 = .ok (.iload_n 1, 1) := by decide +kernel
theorem dX8_searchOf_101 : decode cX8_searchOf 101 = .ok (.iload 4, 2) := by decide +kernel
theorem dX8_searchOf_103 : decode cX8_searchOf 103 = .ok (.iload_n 3, 1) := by decide +kernel
theorem dX8_searchOf_104 : decode cX8_searchOf 104 = .ok (.iload 6, 2) := by decide +kernel
theorem dX8_searchOf_106 : decode cX8_searchOf 106 = .ok (.invokevirtual 157, 3) := by decide +kernel
theorem dX8_searchOf_109 : decode cX8_searchOf 109 = .ok (.istore 8, 2) := by decide +kernel
theorem dX8_searchOf_111 : decode cX8_searchOf 111 = .ok (.goto (-77), 3) := by decide +kernel
theorem dX8_searchOf_114 : decode cX8_searchOf 114 = .ok (.aload_n 0, 1) := by decide +kernel
theorem dX8_searchOf_115 : decode cX8_searchOf 115 = .ok (.iload 4, 2) := by decide +kernel
theorem dX8_searchOf_117 : decode cX8_searchOf 117 = .ok (.putfield 164, 3) := by decide +kernel
theorem dX8_searchOf_120 : decode cX8_searchOf 120 = .ok (.iload 7, 2) := by decide +kernel
theorem dX8_searchOf_122 : decode cX8_searchOf 122 = .ok (.aload_n 0, 1) := by decide +kernel
theorem dX8_searchOf_123 : decode cX8_searchOf 123 = .ok (.iload_n 1, 1) := by decide +kernel
theorem dX8_searchOf_124 : decode cX8_searchOf 124 = .ok (.iload 4, 2) := by decide +kernel
theorem dX8_searchOf_126 : decode cX8_searchOf 126 = .ok (.iconst 0, 1) := by decide +kernel
theorem dX8_searchOf_127 : decode cX8_searchOf 127 = .ok (.iload 5, 2) := by decide +kernel
theorem dX8_searchOf_129 : decode cX8_searchOf 129 = .ok (.invokevirtual 161, 3) := by decide +kernel
theorem dX8_searchOf_132 : decode cX8_searchOf 132 = .ok (.ior, 1) := by decide +kernel
theorem dX8_searchOf_133 : decode cX8_searchOf 133 = .ok (.ireturn, 1) := by decide +kernel
theorem dX8_search_0 : decode cX8_search 0 = .ok (.aload_n 0, 1) := by decide +kernel
theorem dX8_search_1 : decode cX8_search 1 = .ok (.iload_n 1, 1) := by decide +kernel
theorem dX8_search_2 : decode cX8_search 2 = .ok (.invokevirtual 81, 3) := by decide +kernel
theorem dX8_search_5 : decode cX8_search 5 = .ok (.ifCond .eq 11, 3) := by decide +kernel
theorem dX8_search_8 : decode cX8_search 8 = .ok (.aload_n 0, 1) := by decide +kernel
theorem dX8_search_9 : decode cX8_search 9 = .ok (.iload_n 2, 1) := by decide +kernel
theorem dX8_search_10 : decode cX8_search 10 = .ok (.invokevirtual 72, 3) := by decide +kernel
theorem dX8_search_13 : decode cX8_search 13 = .ok (.ifCond .ne 6, 3) := by decide +kernel
theorem dX8_search_16 : decode cX8_search 16 = .ok (.bipush (-101), 2) := by decide +kernel
theorem dX8_search_18 : decode cX8_search 18 = .ok (.ireturn, 1) := by decide +kernel
theorem dX8_search_19 : decode cX8_search 19 = .ok (.iload_n 3, 1) := by decide +kernel
theorem dX8_search_20 : decode cX8_search 20 = .ok (.invokestatic 84, 3) := by decide +kernel
theorem dX8_search_23 : decode cX8_search 23 = .ok (.ifCond .eq 16, 3) := by decide +kernel
theorem dX8_search_26 : decode cX8_search 26 = .ok (.iload 4, 2) := by decide +kernel
theorem dX8_search_28 : decode cX8_search 28 = .ok (.i2l, 1) := by decide +kernel
theorem dX8_search_29 : decode cX8_search 29 = .ok (.lconst 0, 1) := by decide +kernel
theorem dX8_search_30 : decode cX8_search 30 = .ok (.ldc2_w 167, 3) := by decide +kernel
theorem dX8_search_33 : decode cX8_search 33 = .ok (.invokestatic 65, 3) := by decide +kernel
theorem dX8_search_36 : decode cX8_search 36 = .ok (.ifCond .ne 6, 3) := by decide +kernel
theorem dX8_search_39 : decode cX8_search 39 = .ok (.bipush (-102), 2) := by decide +kernel
theorem dX8_search_41 : decode cX8_search 41 = .ok (.ireturn, 1) := by decide +kernel
theorem dX8_search_42 : decode cX8_search 42 = .ok (.aload_n 0, 1) := by decide +kernel
theorem dX8_search_43 : decode cX8_search 43 = .ok (.iload_n 1, 1) := by decide +kernel
theorem dX8_search_44 : decode cX8_search 44 = .ok (.iload_n 2, 1) := by decide +kernel
theorem dX8_search_45 : decode cX8_search 45 = .ok (.iload_n 3, 1) := by decide +kernel
theorem dX8_search_46 : decode cX8_search 46 = .ok (.invokevirtual 169, 3) := by decide +kernel
theorem dX8_search_49 : decode cX8_search 49 = .ok (.istore 5, 2) := by decide +kernel
theorem dX8_search_51 : decode cX8_search 51 = .ok (.iload 4, 2) := by decide +kernel
theorem dX8_search_53 : decode cX8_search 53 = .ok (.ifCond .ne 8, 3) := by decide +kernel
theorem dX8_search_56 : decode cX8_search 56 = .ok (.iload 5, 2) := by decide +kernel
theorem dX8_search_58 : decode cX8_search 58 = .ok (.goto 20, 3) := by decide +kernel
theorem dX8_search_61 : decode cX8_search 61 = .ok (.iload 4, 2) := by decide +kernel
theorem dX8_search_63 : decode cX8_search 63 = .ok (.iconst 1, 1) := by decide +kernel
theorem dX8_search_64 : decode cX8_search 64 = .ok (.if_icmp .ne 10, 3) := by decide +kernel
theorem dX8_search_67 : decode cX8_search 67 = .ok (.aload_n 0, 1) := by decide +kernel
theorem dX8_search_68 : decode cX8_search 68 = .ok (.getfield 154, 3) := by decide +kernel
theorem dX8_search_71 : decode cX8_search 71 = .ok (.goto 7, 3) := by decide +kernel
theorem dX8_search_74 : decode cX8_search 74 = .ok (.aload_n 0, 1) := by decide +kernel
theorem dX8_search_75 : decode cX8_search 75 = .ok (.getfield 164, 3) := by decide +kernel
theorem dX8_search_78 : decode cX8_search 78 = .ok (.ireturn, 1) := by decide +kernel
theorem dX8_isAhead_0 : decode cX8_isAhead 0 = .ok (.aload_n 0, 1) := by decide +kernel
theorem dX8_isAhead_1 : decode cX8_isAhead 1 = .ok (.iload_n 1, 1) := by decide +kernel
theorem dX8_isAhead_2 : decode cX8_isAhead 2 = .ok (.iconst 4, 1) := by decide +kernel
theorem dX8_isAhead_3 : decode cX8_isAhead 3 = .ok (.invokevirtual 95, 3) := by decide +kernel
theorem dX8_isAhead_6 : decode cX8_isAhead 6 = .ok (.aload_n 0, 1) := by decide +kernel
theorem dX8_isAhead_7 : decode cX8_isAhead 7 = .ok (.iload_n 2, 1) := by decide +kernel
theorem dX8_isAhead_8 : decode cX8_isAhead 8 = .ok (.iconst 4, 1) := by decide +kernel
theorem dX8_isAhead_9 : decode cX8_isAhead 9 = .ok (.invokevirtual 95, 3) := by decide +kernel
theorem dX8_isAhead_12 : decode cX8_isAhead 12 = .ok (.if_icmp .lt 23, 3) := by decide +kernel
theorem dX8_isAhead_15 : decode cX8_isAhead 15 = .ok (.aload_n 0, 1) := by decide +kernel
theorem dX8_isAhead_16 : decode cX8_isAhead 16 = .ok (.iload_n 1, 1) := by decide +kernel
theorem dX8_isAhead_17 : decode cX8_isAhead 17 = .ok (.iconst 4, 1) := by decide +kernel
theorem dX8_isAhead_18 : decode cX8_isAhead 18 = .ok (.invokevirtual 95, 3) := by decide +kernel
theorem dX8_isAhead_21 : decode cX8_isAhead 21 = .ok (.aload_n 0, 1) := by decide +kernel
theorem dX8_isAhead_22 : decode cX8_isAhead 22 = .ok (.iload_n 2, 1) := by decide +kernel
theorem dX8_isAhead_23 : decode cX8_isAhead 23 = .ok (.iconst 4, 1) := by decide +kernel
theorem dX8_isAhead_24 : decode cX8_isAhead 24 = .ok (.invokevirtual 95, 3) := by decide +kernel
theorem dX8_isAhead_27 : decode cX8_isAhead 27 = .ok (.if_icmp .ne 12, 3) := by decide +kernel
theorem dX8_isAhead_30 : decode cX8_isAhead 30 = .ok (.iload_n 1, 1) := by decide +kernel
theorem dX8_isAhead_31 : decode cX8_isAhead 31 = .ok (.iload_n 2, 1) := by decide +kernel
theorem dX8_isAhead_32 : decode cX8_isAhead 32 = .ok (.if_icmp .ge 7, 3) := by decide +kernel
theorem dX8_isAhead_35 : decode cX8_isAhead 35 = .ok (.iconst 1, 1) := by decide +kernel
theorem dX8_isAhead_36 : decode cX8_isAhead 36 = .ok (.goto 4, 3) := by decide +kernel
theorem dX8_isAhead_39 : decode cX8_isAhead 39 = .ok (.iconst 0, 1) := by decide +kernel
theorem dX8_isAhead_40 : decode cX8_isAhead 40 = .ok (.ireturn, 1) := by decide +kernel
theorem dX8_heldOf_0 : decode cX8_heldOf 0 = .ok (.aload_n 0, 1) := by decide +kernel
theorem dX8_heldOf_1 : decode cX8_heldOf 1 = .ok (.iload_n 2, 1) := by decide +kernel
theorem dX8_heldOf_2 : decode cX8_heldOf 2 = .ok (.iconst 1, 1) := by decide +kernel
theorem dX8_heldOf_3 : decode cX8_heldOf 3 = .ok (.invokevirtual 95, 3) := by decide +kernel
theorem dX8_heldOf_6 : decode cX8_heldOf 6 = .ok (.istore_n 3, 1) := by decide +kernel
theorem dX8_heldOf_7 : decode cX8_heldOf 7 = .ok (.aload_n 0, 1) := by decide +kernel
theorem dX8_heldOf_8 : decode cX8_heldOf 8 = .ok (.getfield 31, 3) := by decide +kernel
theorem dX8_heldOf_11 : decode cX8_heldOf 11 = .ok (.iload_n 1, 1) := by decide +kernel
theorem dX8_heldOf_12 : decode cX8_heldOf 12 = .ok (.iaload, 1) := by decide +kernel
theorem dX8_heldOf_13 : decode cX8_heldOf 13 = .ok (.bipush 99, 2) := by decide +kernel
theorem dX8_heldOf_15 : decode cX8_heldOf 15 = .ok (.if_icmp .ne 23, 3) := by decide +kernel
theorem dX8_heldOf_18 : decode cX8_heldOf 18 = .ok (.aload_n 0, 1) := by decide +kernel
theorem dX8_heldOf_19 : decode cX8_heldOf 19 = .ok (.iload_n 3, 1) := by decide +kernel
theorem dX8_heldOf_20 : decode cX8_heldOf 20 = .ok (.aload_n 0, 1) := by decide +kernel
theorem dX8_heldOf_21 : decode cX8_heldOf 21 = .ok (.iload_n 2, 1) := by decide +kernel
theorem dX8_heldOf_22 : decode cX8_heldOf 22 = .ok (.iconst 2, 1) := by decide +kernel
theorem dX8_heldOf_23 : decode cX8_heldOf 23 = .ok (.invokevirtual 95, 3) := by decide +kernel
theorem dX8_heldOf_26 : decode cX8_heldOf 26 = .ok (.aload_n 0, 1) := by decide +kernel
theorem dX8_heldOf_27 : decode cX8_heldOf 27 = .ok (.iload_n 2, 1) := by decide +kernel
theorem dX8_heldOf_28 : decode cX8_heldOf 28 = .ok (.iconst 4, 1) := by decide +kernel
theorem dX8_heldOf_29 : decode cX8_heldOf 29 = .ok (.invokevirtual 95, 3) := by decide +kernel
theorem dX8_heldOf_32 : decode cX8_heldOf 32 = .ok (.invokevirtual 169, 3) := by decide +kernel
theorem dX8_heldOf_35 : decode cX8_heldOf 35 = .ok (.goto 4, 3) := by decide +kernel
theorem dX8_heldOf_38 : decode cX8_heldOf 38 = .ok (.iconst 0, 1) := by decide +kernel
theorem dX8_heldOf_39 : decode cX8_heldOf 39 = .ok (.istore 4, 2) := by decide +kernel
theorem dX8_heldOf_41 : decode cX8_heldOf 41 = .ok (.iconst 0, 1) := by decide +kernel
theorem dX8_heldOf_42 : decode cX8_heldOf 42 = .ok (.istore 5, 2) := by decide +kernel
theorem dX8_heldOf_44 : decode cX8_heldOf 44 = .ok (.iconst 0, 1) := by decide +kernel
theorem dX8_heldOf_45 : decode cX8_heldOf 45 = .ok (.istore 6, 2) := by decide +kernel
theorem dX8_heldOf_47 : decode cX8_heldOf 47 = .ok (.iload 6, 2) := by decide +kernel
theorem dX8_heldOf_49 : decode cX8_heldOf 49 = .ok (.aload_n 0, 1) := by decide +kernel
theorem dX8_heldOf_50 : decode cX8_heldOf 50 = .ok (.getfield 89, 3) := by decide +kernel
theorem dX8_heldOf_53 : decode cX8_heldOf 53 = .ok (.if_icmp .ge 186, 3) := by decide +kernel
theorem dX8_heldOf_56 : decode cX8_heldOf 56 = .ok (.aload_n 0, 1) := by decide +kernel
theorem dX8_heldOf_57 : decode cX8_heldOf 57 = .ok (.iload 6, 2) := by decide +kernel
theorem dX8_heldOf_59 : decode cX8_heldOf 59 = .ok (.iconst 1, 1) := by decide +kernel
theorem dX8_heldOf_60 : decode cX8_heldOf 60 = .ok (.invokevirtual 95, 3) := by decide +kernel
theorem dX8_heldOf_63 : decode cX8_heldOf 63 = .ok (.iload_n 3, 1) := by decide +kernel
theorem dX8_heldOf_64 : decode cX8_heldOf 64 = .ok (.if_icmp .ne 169, 3) := by decide +kernel
theorem dX8_heldOf_67 : decode cX8_heldOf 67 = .ok (.iload 6, 2) := by decide +kernel
theorem dX8_heldOf_69 : decode cX8_heldOf 69 = .ok (.iload_n 2, 1) := by decide +kernel
theorem dX8_heldOf_70 : decode cX8_heldOf 70 = .ok (.if_icmp .eq 163, 3) := by decide +kernel
theorem dX8_heldOf_73 : decode cX8_heldOf 73 = .ok (.aload_n 0, 1) := by decide +kernel
theorem dX8_heldOf_74 : decode cX8_heldOf 74 = .ok (.iload 6, 2) := by decide +kernel
theorem dX8_heldOf_76 : decode cX8_heldOf 76 = .ok (.iload_n 2, 1) := by decide +kernel
theorem dX8_heldOf_77 : decode cX8_heldOf 77 = .ok (.invokevirtual 173, 3) := by decide +kernel
theorem dX8_heldOf_80 : decode cX8_heldOf 80 = .ok (.ifCond .eq 153, 3) := by decide +kernel
theorem dX8_heldOf_83 : decode cX8_heldOf 83 = .ok (.aload_n 0, 1) := by decide +kernel
theorem dX8_heldOf_84 : decode cX8_heldOf 84 = .ok (.iload_n 2, 1) := by decide +kernel
theorem dX8_heldOf_85 : decode cX8_heldOf 85 = .ok (.bipush 9, 2) := by decide +kernel
theorem dX8_heldOf_87 : decode cX8_heldOf 87 = .ok (.invokevirtual 95, 3) := by decide +kernel
theorem dX8_heldOf_90 : decode cX8_heldOf 90 = .ok (.iload 6, 2) := by decide +kernel
theorem dX8_heldOf_92 : decode cX8_heldOf 92 = .ok (.invokestatic 150, 3) := by decide +kernel
theorem dX8_heldOf_95 : decode cX8_heldOf 95 = .ok (.ifCond .ne 13, 3) := by decide +kernel
theorem dX8_heldOf_98 : decode cX8_heldOf 98 = .ok (.iload 4, 2) := by decide +kernel
theorem dX8_heldOf_100 : decode cX8_heldOf 100 = .ok (.iload 6, 2) := by decide +kernel
theorem dX8_heldOf_102 : decode cX8_heldOf 102 = .ok (.invokestatic 150, 3) := by decide +kernel
theorem dX8_heldOf_105 : decode cX8_heldOf 105 = .ok (.ifCond .eq 7, 3) := by decide +kernel
theorem dX8_heldOf_108 : decode cX8_heldOf 108 = .ok (.iconst 1, 1) := by decide +kernel
theorem dX8_heldOf_109 : decode cX8_heldOf 109 = .ok (.goto 4, 3) := by decide +kernel
theorem dX8_heldOf_112 : decode cX8_heldOf 112 = .ok (.iconst 0, 1) := by decide +kernel
theorem dX8_heldOf_113 : decode cX8_heldOf 113 = .ok (.istore 7, 2) := by decide +kernel
theorem dX8_heldOf_115 : decode cX8_heldOf 115 = .ok (.iload 7, 2) := by decide +kernel
theorem dX8_heldOf_117 : decode cX8_heldOf 117 = .ok (.ifCond .ne 39, 3) := by decide +kernel
theorem dX8_heldOf_120 : decode cX8_heldOf 120 = .ok (.aload_n 0, 1) := by decide +kernel
theorem dX8_heldOf_121 : decode cX8_heldOf 121 = .ok (.getfield 31, 3) := by decide +kernel
theorem dX8_heldOf_124 : decode cX8_heldOf 124 = .ok (.iload_n 1, 1) := by decide +kernel
theorem dX8_heldOf_125 : decode cX8_heldOf 125 = .ok (.iaload, 1) := by decide +kernel
theorem dX8_heldOf_126 : decode cX8_heldOf 126 = .ok (.bipush 97, 2) := by decide +kernel
theorem dX8_heldOf_128 : decode cX8_heldOf 128 = .ok (.if_icmp .ne 32, 3) := by decide +kernel
theorem dX8_heldOf_131 : decode cX8_heldOf 131 = .ok (.aload_n 0, 1) := by decide +kernel
theorem dX8_heldOf_132 : decode cX8_heldOf 132 = .ok (.iload 6, 2) := by decide +kernel
theorem dX8_heldOf_134 : decode cX8_heldOf 134 = .ok (.invokevirtual 147, 3) := by decide +kernel
theorem dX8_heldOf_137 : decode cX8_heldOf 137 = .ok (.ifCond .eq 23, 3) := by decide +kernel
theorem dX8_heldOf_140 : decode cX8_heldOf 140 = .ok (.aload_n 0, 1) := by decide +kernel
theorem dX8_heldOf_141 : decode cX8_heldOf 141 = .ok (.iload 6, 2) := by decide +kernel
theorem dX8_heldOf_143 : decode cX8_heldOf 143 = .ok (.iconst 5, 1) := by decide +kernel
theorem dX8_heldOf_144 : decode cX8_heldOf 144 = .ok (.invokevirtual 95, 3) := by decide +kernel
theorem dX8_heldOf_147 : decode cX8_heldOf 147 = .ok (.aload_n 0, 1) := by decide +kernel
theorem dX8_heldOf_148 : decode cX8_heldOf 148 = .ok (.iload_n 2, 1) := by decide +kernel
theorem dX8_heldOf_149 : decode cX8_heldOf 149 = .ok (.iconst 4, 1) := by decide +kernel
theorem dX8_heldOf_150 : decode cX8_heldOf 150 = .ok (.invokevirtual 95, 3) := by decide +kernel
theorem dX8_heldOf_153 : decode cX8_heldOf 153 = .ok (.if_icmp .gt 7, 3) := by decide +kernel
theorem dX8_heldOf_156 : decode cX8_heldOf 156 = .ok (.iconst 1, 1) := by decide +kernel
theorem dX8_heldOf_157 : decode cX8_heldOf 157 = .ok (.goto 4, 3) := by decide +kernel
theorem dX8_heldOf_160 : decode cX8_heldOf 160 = .ok (.iconst 0, 1) := by decide +kernel
theorem dX8_heldOf_161 : decode cX8_heldOf 161 = .ok (.istore 7, 2) := by decide +kernel
theorem dX8_heldOf_163 : decode cX8_heldOf 163 = .ok (.iload 7, 2) := by decide +kernel
theorem dX8_heldOf_165 : decode cX8_heldOf 165 = .ok (.ifCond .ne 43, 3) := by decide +kernel
theorem dX8_heldOf_168 : decode cX8_heldOf 168 = .ok (.aload_n 0, 1) := by decide +kernel
theorem dX8_heldOf_169 : decode cX8_heldOf 169 = .ok (.getfield 34, 3) := by decide +kernel
theorem dX8_heldOf_172 : decode cX8_heldOf 172 = .ok (.iload_n 1, 1) := by decide +kernel
theorem dX8_heldOf_173 : decode cX8_heldOf 173 = .ok (.baload, 1) := by decide +kernel
theorem dX8_heldOf_174 : decode cX8_heldOf 174 = .ok (.ifCond .eq 38, 3) := by decide +kernel
theorem dX8_heldOf_177 : decode cX8_heldOf 177 = .ok (.aload_n 0, 1) := by decide +kernel
theorem dX8_heldOf_178 : decode cX8_heldOf 178 = .ok (.getfield 16, 3) := by decide +kernel
theorem dX8_heldOf_181 : decode cX8_heldOf 181 = .ok (.iload_n 3, 1) := by decide +kernel
theorem dX8_heldOf_182 : decode cX8_heldOf 182 = .ok (.iaload, 1) := by decide +kernel
theorem dX8_heldOf_183 : decode cX8_heldOf 183 = .ok (.aload_n 0, 1) := by decide +kernel
theorem dX8_heldOf_184 : decode cX8_heldOf 184 = .ok (.iload 6, 2) := by decide +kernel
theorem dX8_heldOf_186 : decode cX8_heldOf 186 = .ok (.iconst 3, 1) := by decide +kernel
theorem dX8_heldOf_187 : decode cX8_heldOf 187 = .ok (.invokevirtual 95, 3) := by decide +kernel
theorem dX8_heldOf_190 : decode cX8_heldOf 190 = .ok (.if_icmp .ne 22, 3) := by decide +kernel
theorem dX8_heldOf_193 : decode cX8_heldOf 193 = .ok (.aload_n 0, 1) := by decide +kernel
theorem dX8_heldOf_194 : decode cX8_heldOf 194 = .ok (.getfield 19, 3) := by decide +kernel
theorem dX8_heldOf_197 : decode cX8_heldOf 197 = .ok (.iload_n 3, 1) := by decide +kernel
theorem dX8_heldOf_198 : decode cX8_heldOf 198 = .ok (.iaload, 1) := by decide +kernel
theorem dX8_heldOf_199 : decode cX8_heldOf 199 = .ok (.aload_n 0, 1) := by decide +kernel
theorem dX8_heldOf_200 : decode cX8_heldOf 200 = .ok (.iload_n 2, 1) := by decide +kernel
theorem dX8_heldOf_201 : decode cX8_heldOf 201 = .ok (.iconst 4, 1) := by decide +kernel
theorem dX8_heldOf_202 : decode cX8_heldOf 202 = .ok (.invokevirtual 95, 3) := by decide +kernel
theorem dX8_heldOf_205 : decode cX8_heldOf 205 = .ok (.if_icmp .gt 7, 3) := by decide +kernel
theorem dX8_heldOf_208 : decode cX8_heldOf 208 = .ok (.iconst 1, 1) := by decide +kernel
theorem dX8_heldOf_209 : decode cX8_heldOf 209 = .ok (.goto 4, 3) := by decide +kernel
theorem dX8_heldOf_212 : decode cX8_heldOf 212 = .ok (.iconst 0, 1) := by decide +kernel
theorem dX8_heldOf_213 : decode cX8_heldOf 213 = .ok (.istore 7, 2) := by decide +kernel
theorem dX8_heldOf_215 : decode cX8_heldOf 215 = .ok (.iload 5, 2) := by decide +kernel
theorem dX8_heldOf_217 : decode cX8_heldOf 217 = .ok (.iload 7, 2) := by decide +kernel
theorem dX8_heldOf_219 : decode cX8_heldOf 219 = .ok (.ifCond .eq 10, 3) := by decide +kernel
theorem dX8_heldOf_222 : decode cX8_heldOf 222 = .ok (.iconst 1, 1) := by decide +kernel
theorem dX8_heldOf_223 : decode cX8_heldOf 223 = .ok (.iload 6, 2) := by decide +kernel
theorem dX8_heldOf_225 : decode cX8_heldOf 225 = .ok (.ishl, 1) := by decide +kernel
theorem dX8_heldOf_226 : decode cX8_heldOf 226 = .ok (.goto 4, 3) := by decide +kernel
theorem dX8_heldOf_229 : decode cX8_heldOf 229 = .ok (.iconst 0, 1) := by decide +kernel
theorem dX8_heldOf_230 : decode cX8_heldOf 230 = .ok (.ior, 1) := by decide +kernel
theorem dX8_heldOf_231 : decode cX8_heldOf 231 = .ok (.istore 5, 2) := by decide +kernel
theorem dX8_heldOf_233 : decode cX8_heldOf 233 = .ok (.iinc 6 1, 3) := by decide +kernel
theorem dX8_heldOf_236 : decode cX8_heldOf 236 = .ok (.goto (-189), 3) := by decide +kernel
theorem dX8_heldOf_239 : decode cX8_heldOf 239 = .ok (.iload 5, 2) := by decide +kernel
theorem dX8_heldOf_241 : decode cX8_heldOf 241 = .ok (.ireturn, 1) := by decide +kernel
theorem dX8_take_0 : decode cX8_take 0 = .ok (.aload_n 0, 1) := by decide +kernel
theorem dX8_take_1 : decode cX8_take 1 = .ok (.iload_n 1, 1) := by decide +kernel
theorem dX8_take_2 : decode cX8_take 2 = .ok (.putfield 176, 3) := by decide +kernel
theorem dX8_take_5 : decode cX8_take 5 = .ok (.iconst 0, 1) := by decide +kernel
theorem dX8_take_6 : decode cX8_take 6 = .ok (.istore_n 2, 1) := by decide +kernel
theorem dX8_take_7 : decode cX8_take 7 = .ok (.iload_n 2, 1) := by decide +kernel
theorem dX8_take_8 : decode cX8_take 8 = .ok (.aload_n 0, 1) := by decide +kernel
theorem dX8_take_9 : decode cX8_take 9 = .ok (.getfield 89, 3) := by decide +kernel
theorem dX8_take_12 : decode cX8_take 12 = .ok (.if_icmp .ge 21, 3) := by decide +kernel
theorem dX8_take_15 : decode cX8_take 15 = .ok (.aload_n 0, 1) := by decide +kernel
theorem dX8_take_16 : decode cX8_take 16 = .ok (.getfield 44, 3) := by decide +kernel
theorem dX8_take_19 : decode cX8_take 19 = .ok (.iload_n 2, 1) := by decide +kernel
theorem dX8_take_20 : decode cX8_take 20 = .ok (.aload_n 0, 1) := by decide +kernel
theorem dX8_take_21 : decode cX8_take 21 = .ok (.iload_n 1, 1) := by decide +kernel
theorem dX8_take_22 : decode cX8_take 22 = .ok (.iload_n 2, 1) := by decide +kernel
theorem dX8_take_23 : decode cX8_take 23 = .ok (.invokevirtual 179, 3) := by decide +kernel
theorem dX8_take_26 : decode cX8_take 26 = .ok (.iastore, 1) := by decide +kernel
theorem dX8_take_27 : decode cX8_take 27 = .ok (.iinc 2 1, 3) := by decide +kernel
theorem dX8_take_30 : decode cX8_take 30 = .ok (.goto (-23), 3) := by decide +kernel
theorem dX8_take_33 : decode cX8_take 33 = .ok (.return_, 1) := by decide +kernel
theorem dX8_held_0 : decode cX8_held 0 = .ok (.aload_n 0, 1) := by decide +kernel
theorem dX8_held_1 : decode cX8_held 1 = .ok (.iload_n 1, 1) := by decide +kernel
theorem dX8_held_2 : decode cX8_held 2 = .ok (.invokevirtual 182, 3) := by decide +kernel
theorem dX8_held_5 : decode cX8_held 5 = .ok (.ifCond .eq 20, 3) := by decide +kernel
theorem dX8_held_8 : decode cX8_held 8 = .ok (.aload_n 0, 1) := by decide +kernel
theorem dX8_held_9 : decode cX8_held 9 = .ok (.iload_n 2, 1) := by decide +kernel
theorem dX8_held_10 : decode cX8_held 10 = .ok (.invokevirtual 92, 3) := by decide +kernel
theorem dX8_held_13 : decode cX8_held 13 = .ok (.ifCond .eq 12, 3) := by decide +kernel
theorem dX8_held_16 : decode cX8_held 16 = .ok (.aload_n 0, 1) := by decide +kernel
theorem dX8_held_17 : decode cX8_held 17 = .ok (.iload_n 1, 1) := by decide +kernel
theorem dX8_held_18 : decode cX8_held 18 = .ok (.iload_n 2, 1) := by decide +kernel
theorem dX8_held_19 : decode cX8_held 19 = .ok (.invokevirtual 179, 3) := by decide +kernel
theorem dX8_held_22 : decode cX8_held 22 = .ok (.goto 5, 3) := by decide +kernel
theorem dX8_held_25 : decode cX8_held 25 = .ok (.bipush (-101), 2) := by decide +kernel
theorem dX8_held_27 : decode cX8_held 27 = .ok (.ireturn, 1) := by decide +kernel
theorem dX8_entered_0 : decode cX8_entered 0 = .ok (.aload_n 0, 1) := by decide +kernel
theorem dX8_entered_1 : decode cX8_entered 1 = .ok (.iload_n 1, 1) := by decide +kernel
theorem dX8_entered_2 : decode cX8_entered 2 = .ok (.iconst 5, 1) := by decide +kernel
theorem dX8_entered_3 : decode cX8_entered 3 = .ok (.invokevirtual 95, 3) := by decide +kernel
theorem dX8_entered_6 : decode cX8_entered 6 = .ok (.iconst (-1), 1) := by decide +kernel
theorem dX8_entered_7 : decode cX8_entered 7 = .ok (.if_icmp .eq 32, 3) := by decide +kernel
theorem dX8_entered_10 : decode cX8_entered 10 = .ok (.aload_n 0, 1) := by decide +kernel
theorem dX8_entered_11 : decode cX8_entered 11 = .ok (.iload_n 1, 1) := by decide +kernel
theorem dX8_entered_12 : decode cX8_entered 12 = .ok (.iconst 5, 1) := by decide +kernel
theorem dX8_entered_13 : decode cX8_entered 13 = .ok (.invokevirtual 95, 3) := by decide +kernel
theorem dX8_entered_16 : decode cX8_entered 16 = .ok (.aload_n 0, 1) := by decide +kernel
theorem dX8_entered_17 : decode cX8_entered 17 = .ok (.iload_n 1, 1) := by decide +kernel
theorem dX8_entered_18 : decode cX8_entered 18 = .ok (.iconst 4, 1) := by decide +kernel
theorem dX8_entered_19 : decode cX8_entered 19 = .ok (.invokevirtual 95, 3) := by decide +kernel
theorem dX8_entered_22 : decode cX8_entered 22 = .ok (.isub, 1) := by decide +kernel
theorem dX8_entered_23 : decode cX8_entered 23 = .ok (.aload_n 0, 1) := by decide +kernel
theorem dX8_entered_24 : decode cX8_entered 24 = .ok (.getfield 41, 3) := by decide +kernel
theorem dX8_entered_27 : decode cX8_entered 27 = .ok (.aload_n 0, 1) := by decide +kernel
theorem dX8_entered_28 : decode cX8_entered 28 = .ok (.getfield 176, 3) := by decide +kernel
theorem dX8_entered_31 : decode cX8_entered 31 = .ok (.iaload, 1) := by decide +kernel
theorem dX8_entered_32 : decode cX8_entered 32 = .ok (.if_icmp .gt 7, 3) := by decide +kernel
theorem dX8_entered_35 : decode cX8_entered 35 = .ok (.iconst 1, 1) := by decide +kernel
theorem dX8_entered_36 : decode cX8_entered 36 = .ok (.goto 4, 3) := by decide +kernel
theorem dX8_entered_39 : decode cX8_entered 39 = .ok (.iconst 0, 1) := by decide +kernel
theorem dX8_entered_40 : decode cX8_entered 40 = .ok (.istore_n 2, 1) := by decide +kernel
theorem dX8_entered_41 : decode cX8_entered 41 = .ok (.iload_n 2, 1) := by decide +kernel
theorem dX8_entered_42 : decode cX8_entered 42 = .ok (.ifCond .eq 12, 3) := by decide +kernel
theorem dX8_entered_45 : decode cX8_entered 45 = .ok (.aload_n 0, 1) := by decide +kernel
theorem dX8_entered_46 : decode cX8_entered 46 = .ok (.iload_n 1, 1) := by decide +kernel
theorem dX8_entered_47 : decode cX8_entered 47 = .ok (.iconst 5, 1) := by decide +kernel
theorem dX8_entered_48 : decode cX8_entered 48 = .ok (.invokevirtual 95, 3) := by decide +kernel
theorem dX8_entered_51 : decode cX8_entered 51 = .ok (.goto 5, 3) := by decide +kernel
theorem dX8_entered_54 : decode cX8_entered 54 = .ok (.ldc 185, 2) := by decide +kernel
theorem dX8_entered_56 : decode cX8_entered 56 = .ok (.ireturn, 1) := by decide +kernel
theorem dX8_isPaid_0 : decode cX8_isPaid 0 = .ok (.aload_n 0, 1) := by decide +kernel
theorem dX8_isPaid_1 : decode cX8_isPaid 1 = .ok (.iload_n 1, 1) := by decide +kernel
theorem dX8_isPaid_2 : decode cX8_isPaid 2 = .ok (.iconst 0, 1) := by decide +kernel
theorem dX8_isPaid_3 : decode cX8_isPaid 3 = .ok (.invokevirtual 95, 3) := by decide +kernel
theorem dX8_isPaid_6 : decode cX8_isPaid 6 = .ok (.istore_n 2, 1) := by decide +kernel
theorem dX8_isPaid_7 : decode cX8_isPaid 7 = .ok (.iload_n 2, 1) := by decide +kernel
theorem dX8_isPaid_8 : decode cX8_isPaid 8 = .ok (.iconst 1, 1) := by decide +kernel
theorem dX8_isPaid_9 : decode cX8_isPaid 9 = .ok (.if_icmp .eq 25, 3) := by decide +kernel
theorem dX8_isPaid_12 : decode cX8_isPaid 12 = .ok (.iload_n 2, 1) := by decide +kernel
theorem dX8_isPaid_13 : decode cX8_isPaid 13 = .ok (.iconst 3, 1) := by decide +kernel
theorem dX8_isPaid_14 : decode cX8_isPaid 14 = .ok (.if_icmp .eq 20, 3) := by decide +kernel
theorem dX8_isPaid_17 : decode cX8_isPaid 17 = .ok (.iload_n 2, 1) := by decide +kernel
theorem dX8_isPaid_18 : decode cX8_isPaid 18 = .ok (.iconst 4, 1) := by decide +kernel
theorem dX8_isPaid_19 : decode cX8_isPaid 19 = .ok (.if_icmp .eq 15, 3) := by decide +kernel
theorem dX8_isPaid_22 : decode cX8_isPaid 22 = .ok (.aload_n 0, 1) := by decide +kernel
theorem dX8_isPaid_23 : decode cX8_isPaid 23 = .ok (.getfield 38, 3) := by decide +kernel
theorem dX8_isPaid_26 : decode cX8_isPaid 26 = .ok (.aload_n 0, 1) := by decide +kernel
theorem dX8_isPaid_27 : decode cX8_isPaid 27 = .ok (.getfield 176, 3) := by decide +kernel
theorem dX8_isPaid_30 : decode cX8_isPaid 30 = .ok (.baload, 1) := by decide +kernel
theorem dX8_isPaid_31 : decode cX8_isPaid 31 = .ok (.ifCond .eq 7, 3) := by decide +kernel
theorem dX8_isPaid_34 : decode cX8_isPaid 34 = .ok (.iconst 1, 1) := by decide +kernel
theorem dX8_isPaid_35 : decode cX8_isPaid 35 = .ok (.goto 4, 3) := by decide +kernel
theorem dX8_isPaid_38 : decode cX8_isPaid 38 = .ok (.iconst 0, 1) := by decide +kernel
theorem dX8_isPaid_39 : decode cX8_isPaid 39 = .ok (.ireturn, 1) := by decide +kernel
theorem dX8_laterPrevails_0 : decode cX8_laterPrevails 0 = .ok (.aload_n 0, 1) := by decide +kernel
theorem dX8_laterPrevails_1 : decode cX8_laterPrevails 1 = .ok (.iload_n 1, 1) := by decide +kernel
theorem dX8_laterPrevails_2 : decode cX8_laterPrevails 2 = .ok (.invokevirtual 186, 3) := by decide +kernel
theorem dX8_laterPrevails_5 : decode cX8_laterPrevails 5 = .ok (.istore_n 3, 1) := by decide +kernel
theorem dX8_laterPrevails_6 : decode cX8_laterPrevails 6 = .ok (.aload_n 0, 1) := by decide +kernel
theorem dX8_laterPrevails_7 : decode cX8_laterPrevails 7 = .ok (.iload_n 2, 1) := by decide +kernel
theorem dX8_laterPrevails_8 : decode cX8_laterPrevails 8 = .ok (.invokevirtual 186, 3) := by decide +kernel
theorem dX8_laterPrevails_11 : decode cX8_laterPrevails 11 = .ok (.istore 4, 2) := by decide +kernel
theorem dX8_laterPrevails_13 : decode cX8_laterPrevails 13 = .ok (.iload 4, 2) := by decide +kernel
theorem dX8_laterPrevails_15 : decode cX8_laterPrevails 15 = .ok (.iload_n 3, 1) := by decide +kernel
theorem dX8_laterPrevails_16 : decode cX8_laterPrevails 16 = .ok (.if_icmp .lt 21, 3) := by decide +kernel
theorem dX8_laterPrevails_19 : decode cX8_laterPrevails 19 = .ok (.iload 4, 2) := by decide +kernel
theorem dX8_laterPrevails_21 : decode cX8_laterPrevails 21 = .ok (.iload_n 3, 1) := by decide +kernel
theorem dX8_laterPrevails_22 : decode cX8_laterPrevails 22 = .ok (.if_icmp .ne 19, 3) := by decide +kernel
theorem dX8_laterPrevails_25 : decode cX8_laterPrevails 25 = .ok (.iload 4, 2) := by decide +kernel
theorem dX8_laterPrevails_27 : decode cX8_laterPrevails 27 = .ok (.ldc 185, 2) := by decide +kernel
theorem dX8_laterPrevails_29 : decode cX8_laterPrevails 29 = .ok (.if_icmp .ge 12, 3) := by decide +kernel
theorem dX8_laterPrevails_32 : decode cX8_laterPrevails 32 = .ok (.iload_n 2, 1) := by decide +kernel
theorem dX8_laterPrevails_33 : decode cX8_laterPrevails 33 = .ok (.iload_n 1, 1) := by decide +kernel
theorem dX8_laterPrevails_34 : decode cX8_laterPrevails 34 = .ok (.if_icmp .ge 7, 3) := by decide +kernel
theorem dX8_laterPrevails_37 : decode cX8_laterPrevails 37 = .ok (.iconst 1, 1) := by decide +kernel
theorem dX8_laterPrevails_38 : decode cX8_laterPrevails 38 = .ok (.goto 4, 3) := by decide +kernel
theorem dX8_laterPrevails_41 : decode cX8_laterPrevails 41 = .ok (.iconst 0, 1) := by decide +kernel
theorem dX8_laterPrevails_42 : decode cX8_laterPrevails 42 = .ok (.istore 5, 2) := by decide +kernel
theorem dX8_laterPrevails_44 : decode cX8_laterPrevails 44 = .ok (.aload_n 0, 1) := by decide +kernel
theorem dX8_laterPrevails_45 : decode cX8_laterPrevails 45 = .ok (.iload_n 2, 1) := by decide +kernel
theorem dX8_laterPrevails_46 : decode cX8_laterPrevails 46 = .ok (.invokevirtual 190, 3) := by decide +kernel
theorem dX8_laterPrevails_49 : decode cX8_laterPrevails 49 = .ok (.ifCond .eq 20, 3) := by decide +kernel
theorem dX8_laterPrevails_52 : decode cX8_laterPrevails 52 = .ok (.aload_n 0, 1) := by decide +kernel
theorem dX8_laterPrevails_53 : decode cX8_laterPrevails 53 = .ok (.getfield 44, 3) := by decide +kernel
theorem dX8_laterPrevails_56 : decode cX8_laterPrevails 56 = .ok (.iload_n 2, 1) := by decide +kernel
theorem dX8_laterPrevails_57 : decode cX8_laterPrevails 57 = .ok (.iaload, 1) := by decide +kernel
theorem dX8_laterPrevails_58 : decode cX8_laterPrevails 58 = .ok (.iload_n 1, 1) := by decide +kernel
theorem dX8_laterPrevails_59 : decode cX8_laterPrevails 59 = .ok (.invokestatic 150, 3) := by decide +kernel
theorem dX8_laterPrevails_62 : decode cX8_laterPrevails 62 = .ok (.ifCond .ne 7, 3) := by decide +kernel
theorem dX8_laterPrevails_65 : decode cX8_laterPrevails 65 = .ok (.iconst 1, 1) := by decide +kernel
theorem dX8_laterPrevails_66 : decode cX8_laterPrevails 66 = .ok (.goto 4, 3) := by decide +kernel
theorem dX8_laterPrevails_69 : decode cX8_laterPrevails 69 = .ok (.iconst 0, 1) := by decide +kernel
theorem dX8_laterPrevails_70 : decode cX8_laterPrevails 70 = .ok (.istore 6, 2) := by decide +kernel
theorem dX8_laterPrevails_72 : decode cX8_laterPrevails 72 = .ok (.aload_n 0, 1) := by decide +kernel
theorem dX8_laterPrevails_73 : decode cX8_laterPrevails 73 = .ok (.getfield 28, 3) := by decide +kernel
theorem dX8_laterPrevails_76 : decode cX8_laterPrevails 76 = .ok (.aload_n 0, 1) := by decide +kernel
theorem dX8_laterPrevails_77 : decode cX8_laterPrevails 77 = .ok (.getfield 176, 3) := by decide +kernel
theorem dX8_laterPrevails_80 : decode cX8_laterPrevails 80 = .ok (.iaload, 1) := by decide +kernel
theorem dX8_laterPrevails_81 : decode cX8_laterPrevails 81 = .ok (.istore 7, 2) := by decide +kernel
theorem dX8_laterPrevails_83 : decode cX8_laterPrevails 83 = .ok (.iload 7, 2) := by decide +kernel
theorem dX8_laterPrevails_85 : decode cX8_laterPrevails 85 = .ok (.bipush 101, 2) := by decide +kernel
theorem dX8_laterPrevails_87 : decode cX8_laterPrevails 87 = .ok (.if_icmp .ne 8, 3) := by decide +kernel
theorem dX8_laterPrevails_90 : decode cX8_laterPrevails 90 = .ok (.iload 5, 2) := by decide +kernel
theorem dX8_laterPrevails_92 : decode cX8_laterPrevails 92 = .ok (.ifCond .ne 32, 3) := by decide +kernel
theorem dX8_laterPrevails_95 : decode cX8_laterPrevails 95 = .ok (.iload 7, 2) := by decide +kernel
theorem dX8_laterPrevails_97 : decode cX8_laterPrevails 97 = .ok (.bipush 110, 2) := by decide +kernel
theorem dX8_laterPrevails_99 : decode cX8_laterPrevails 99 = .ok (.if_icmp .ne 8, 3) := by decide +kernel
theorem dX8_laterPrevails_102 : decode cX8_laterPrevails 102 = .ok (.iload 6, 2) := by decide +kernel
theorem dX8_laterPrevails_104 : decode cX8_laterPrevails 104 = .ok (.ifCond .ne 20, 3) := by decide +kernel
theorem dX8_laterPrevails_107 : decode cX8_laterPrevails 107 = .ok (.iload 7, 2) := by decide +kernel
theorem dX8_laterPrevails_109 : decode cX8_laterPrevails 109 = .ok (.bipush 98, 2) := by decide +kernel
theorem dX8_laterPrevails_111 : decode cX8_laterPrevails 111 = .ok (.if_icmp .ne 17, 3) := by decide +kernel
theorem dX8_laterPrevails_114 : decode cX8_laterPrevails 114 = .ok (.iload 5, 2) := by decide +kernel
theorem dX8_laterPrevails_116 : decode cX8_laterPrevails 116 = .ok (.ifCond .eq 12, 3) := by decide +kernel
theorem dX8_laterPrevails_119 : decode cX8_laterPrevails 119 = .ok (.iload 6, 2) := by decide +kernel
theorem dX8_laterPrevails_121 : decode cX8_laterPrevails 121 = .ok (.ifCond .eq 7, 3) := by decide +kernel
theorem dX8_laterPrevails_124 : decode cX8_laterPrevails 124 = .ok (.iconst 1, 1) := by decide +kernel
theorem dX8_laterPrevails_125 : decode cX8_laterPrevails 125 = .ok (.goto 4, 3) := by decide +kernel
theorem dX8_laterPrevails_128 : decode cX8_laterPrevails 128 = .ok (.iconst 0, 1) := by decide +kernel
theorem dX8_laterPrevails_129 : decode cX8_laterPrevails 129 = .ok (.ireturn, 1) := by decide +kernel
theorem dX8_prevailsOver_0 : decode cX8_prevailsOver 0 = .ok (.aload_n 0, 1) := by decide +kernel
theorem dX8_prevailsOver_1 : decode cX8_prevailsOver 1 = .ok (.iload_n 2, 1) := by decide +kernel
theorem dX8_prevailsOver_2 : decode cX8_prevailsOver 2 = .ok (.iload_n 1, 1) := by decide +kernel
theorem dX8_prevailsOver_3 : decode cX8_prevailsOver 3 = .ok (.invokevirtual 173, 3) := by decide +kernel
theorem dX8_prevailsOver_6 : decode cX8_prevailsOver 6 = .ok (.ifCond .eq 12, 3) := by decide +kernel
theorem dX8_prevailsOver_9 : decode cX8_prevailsOver 9 = .ok (.aload_n 0, 1) := by decide +kernel
theorem dX8_prevailsOver_10 : decode cX8_prevailsOver 10 = .ok (.iload_n 2, 1) := by decide +kernel
theorem dX8_prevailsOver_11 : decode cX8_prevailsOver 11 = .ok (.iload_n 1, 1) := by decide +kernel
theorem dX8_prevailsOver_12 : decode cX8_prevailsOver 12 = .ok (.invokevirtual 193, 3) := by decide +kernel
theorem dX8_prevailsOver_15 : decode cX8_prevailsOver 15 = .ok (.goto 17, 3) := by decide +kernel
theorem dX8_prevailsOver_18 : decode cX8_prevailsOver 18 = .ok (.aload_n 0, 1) := by decide +kernel
theorem dX8_prevailsOver_19 : decode cX8_prevailsOver 19 = .ok (.iload_n 1, 1) := by decide +kernel
theorem dX8_prevailsOver_20 : decode cX8_prevailsOver 20 = .ok (.iload_n 2, 1) := by decide +kernel
theorem dX8_prevailsOver_21 : decode cX8_prevailsOver 21 = .ok (.invokevirtual 193, 3) := by decide +kernel
theorem dX8_prevailsOver_24 : decode cX8_prevailsOver 24 = .ok (.ifCond .ne 7, 3) := by decide +kernel
theorem dX8_prevailsOver_27 : decode cX8_prevailsOver 27 = .ok (.iconst 1, 1) := by decide +kernel
theorem dX8_prevailsOver_28 : decode cX8_prevailsOver 28 = .ok (.goto 4, 3) := by decide +kernel
theorem dX8_prevailsOver_31 : decode cX8_prevailsOver 31 = .ok (.iconst 0, 1) := by decide +kernel
theorem dX8_prevailsOver_32 : decode cX8_prevailsOver 32 = .ok (.ireturn, 1) := by decide +kernel
theorem dX8_prevails_0 : decode cX8_prevails 0 = .ok (.aload_n 0, 1) := by decide +kernel
theorem dX8_prevails_1 : decode cX8_prevails 1 = .ok (.iload_n 1, 1) := by decide +kernel
theorem dX8_prevails_2 : decode cX8_prevails 2 = .ok (.invokevirtual 182, 3) := by decide +kernel
theorem dX8_prevails_5 : decode cX8_prevails 5 = .ok (.ifCond .eq 39, 3) := by decide +kernel
theorem dX8_prevails_8 : decode cX8_prevails 8 = .ok (.aload_n 0, 1) := by decide +kernel
theorem dX8_prevails_9 : decode cX8_prevails 9 = .ok (.iload_n 2, 1) := by decide +kernel
theorem dX8_prevails_10 : decode cX8_prevails 10 = .ok (.invokevirtual 92, 3) := by decide +kernel
theorem dX8_prevails_13 : decode cX8_prevails 13 = .ok (.ifCond .eq 31, 3) := by decide +kernel
theorem dX8_prevails_16 : decode cX8_prevails 16 = .ok (.aload_n 0, 1) := by decide +kernel
theorem dX8_prevails_17 : decode cX8_prevails 17 = .ok (.iload_n 3, 1) := by decide +kernel
theorem dX8_prevails_18 : decode cX8_prevails 18 = .ok (.invokevirtual 92, 3) := by decide +kernel
theorem dX8_prevails_21 : decode cX8_prevails 21 = .ok (.ifCond .eq 23, 3) := by decide +kernel
theorem dX8_prevails_24 : decode cX8_prevails 24 = .ok (.iload_n 2, 1) := by decide +kernel
theorem dX8_prevails_25 : decode cX8_prevails 25 = .ok (.iload_n 3, 1) := by decide +kernel
theorem dX8_prevails_26 : decode cX8_prevails 26 = .ok (.if_icmp .eq 18, 3) := by decide +kernel
theorem dX8_prevails_29 : decode cX8_prevails 29 = .ok (.aload_n 0, 1) := by decide +kernel
theorem dX8_prevails_30 : decode cX8_prevails 30 = .ok (.iload_n 2, 1) := by decide +kernel
theorem dX8_prevails_31 : decode cX8_prevails 31 = .ok (.iconst 1, 1) := by decide +kernel
theorem dX8_prevails_32 : decode cX8_prevails 32 = .ok (.invokevirtual 95, 3) := by decide +kernel
theorem dX8_prevails_35 : decode cX8_prevails 35 = .ok (.aload_n 0, 1) := by decide +kernel
theorem dX8_prevails_36 : decode cX8_prevails 36 = .ok (.iload_n 3, 1) := by decide +kernel
theorem dX8_prevails_37 : decode cX8_prevails 37 = .ok (.iconst 1, 1) := by decide +kernel
theorem dX8_prevails_38 : decode cX8_prevails 38 = .ok (.invokevirtual 95, 3) := by decide +kernel
theorem dX8_prevails_41 : decode cX8_prevails 41 = .ok (.if_icmp .eq 6, 3) := by decide +kernel
theorem dX8_prevails_44 : decode cX8_prevails 44 = .ok (.bipush (-101), 2) := by decide +kernel
theorem dX8_prevails_46 : decode cX8_prevails 46 = .ok (.ireturn, 1) := by decide +kernel
theorem dX8_prevails_47 : decode cX8_prevails 47 = .ok (.aload_n 0, 1) := by decide +kernel
theorem dX8_prevails_48 : decode cX8_prevails 48 = .ok (.iload_n 1, 1) := by decide +kernel
theorem dX8_prevails_49 : decode cX8_prevails 49 = .ok (.invokevirtual 196, 3) := by decide +kernel
theorem dX8_prevails_52 : decode cX8_prevails 52 = .ok (.aload_n 0, 1) := by decide +kernel
theorem dX8_prevails_53 : decode cX8_prevails 53 = .ok (.iload_n 2, 1) := by decide +kernel
theorem dX8_prevails_54 : decode cX8_prevails 54 = .ok (.iload_n 3, 1) := by decide +kernel
theorem dX8_prevails_55 : decode cX8_prevails 55 = .ok (.invokevirtual 200, 3) := by decide +kernel
theorem dX8_prevails_58 : decode cX8_prevails 58 = .ok (.ifCond .eq 7, 3) := by decide +kernel
theorem dX8_prevails_61 : decode cX8_prevails 61 = .ok (.iload_n 2, 1) := by decide +kernel
theorem dX8_prevails_62 : decode cX8_prevails 62 = .ok (.goto 4, 3) := by decide +kernel
theorem dX8_prevails_65 : decode cX8_prevails 65 = .ok (.iload_n 3, 1) := by decide +kernel
theorem dX8_prevails_66 : decode cX8_prevails 66 = .ok (.ireturn, 1) := by decide +kernel
theorem dX8_firstOf_0 : decode cX8_firstOf 0 = .ok (.iconst (-1), 1) := by decide +kernel
theorem dX8_firstOf_1 : decode cX8_firstOf 1 = .ok (.istore_n 2, 1) := by decide +kernel
theorem dX8_firstOf_2 : decode cX8_firstOf 2 = .ok (.iconst (-1), 1) := by decide +kernel
theorem dX8_firstOf_3 : decode cX8_firstOf 3 = .ok (.istore_n 3, 1) := by decide +kernel
theorem dX8_firstOf_4 : decode cX8_firstOf 4 = .ok (.iconst 0, 1) := by decide +kernel
theorem dX8_firstOf_5 : decode cX8_firstOf 5 = .ok (.istore 4, 2) := by decide +kernel
theorem dX8_firstOf_7 : decode cX8_firstOf 7 = .ok (.iload 4, 2) := by decide +kernel
theorem dX8_firstOf_9 : decode cX8_firstOf 9 = .ok (.aload_n 0, 1) := by decide +kernel
theorem dX8_firstOf_10 : decode cX8_firstOf 10 = .ok (.getfield 89, 3) := by decide +kernel
theorem dX8_firstOf_13 : decode cX8_firstOf 13 = .ok (.if_icmp .ge 127, 3) := by decide +kernel
theorem dX8_firstOf_16 : decode cX8_firstOf 16 = .ok (.iload_n 1, 1) := by decide +kernel
theorem dX8_firstOf_17 : decode cX8_firstOf 17 = .ok (.iload 4, 2) := by decide +kernel
theorem dX8_firstOf_19 : decode cX8_firstOf 19 = .ok (.invokestatic 150, 3) := by decide +kernel
theorem dX8_firstOf_22 : decode cX8_firstOf 22 = .ok (.ifCond .eq 112, 3) := by decide +kernel
theorem dX8_firstOf_25 : decode cX8_firstOf 25 = .ok (.iconst 0, 1) := by decide +kernel
theorem dX8_firstOf_26 : decode cX8_firstOf 26 = .ok (.istore 5, 2) := by decide +kernel
theorem dX8_firstOf_28 : decode cX8_firstOf 28 = .ok (.iconst 0, 1) := by decide +kernel
theorem dX8_firstOf_29 : decode cX8_firstOf 29 = .ok (.istore 6, 2) := by decide +kernel
theorem dX8_firstOf_31 : decode cX8_firstOf 31 = .ok (.iload 6, 2) := by decide +kernel
theorem dX8_firstOf_33 : decode cX8_firstOf 33 = .ok (.aload_n 0, 1) := by decide +kernel
theorem dX8_firstOf_34 : decode cX8_firstOf 34 = .ok (.getfield 89, 3) := by decide +kernel
theorem dX8_firstOf_37 : decode cX8_firstOf 37 = .ok (.if_icmp .ge 48, 3) := by decide +kernel
theorem dX8_firstOf_40 : decode cX8_firstOf 40 = .ok (.iload 5, 2) := by decide +kernel
theorem dX8_firstOf_42 : decode cX8_firstOf 42 = .ok (.ifCond .ne 30, 3) := by decide +kernel
theorem dX8_firstOf_45 : decode cX8_firstOf 45 = .ok (.iload_n 1, 1) := by decide +kernel
theorem dX8_firstOf_46 : decode cX8_firstOf 46 = .ok (.iload 6, 2) := by decide +kernel
theorem dX8_firstOf_48 : decode cX8_firstOf 48 = .ok (.invokestatic 150, 3) := by decide +kernel
theorem dX8_firstOf_51 : decode cX8_firstOf 51 = .ok (.ifCond .eq 25, 3) := by decide +kernel
theorem dX8_firstOf_54 : decode cX8_firstOf 54 = .ok (.iload 6, 2) := by decide +kernel
theorem dX8_firstOf_56 : decode cX8_firstOf 56 = .ok (.iload 4, 2) := by decide +kernel
theorem dX8_firstOf_58 : decode cX8_firstOf 58 = .ok (.if_icmp .eq 18, 3) := by decide +kernel
theorem dX8_firstOf_61 : decode cX8_firstOf 61 = .ok (.aload_n 0, 1) := by decide +kernel
theorem dX8_firstOf_62 : decode cX8_firstOf 62 = .ok (.iload 6, 2) := by decide +kernel
theorem dX8_firstOf_64 : decode cX8_firstOf 64 = .ok (.iload 4, 2) := by decide +kernel
theorem dX8_firstOf_66 : decode cX8_firstOf 66 = .ok (.invokevirtual 200, 3) := by decide +kernel
theorem dX8_firstOf_69 : decode cX8_firstOf 69 = .ok (.ifCond .eq 7, 3) := by decide +kernel
theorem dX8_firstOf_72 : decode cX8_firstOf 72 = .ok (.iconst 1, 1) := by decide +kernel
theorem dX8_firstOf_73 : decode cX8_firstOf 73 = .ok (.goto 4, 3) := by decide +kernel
theorem dX8_firstOf_76 : decode cX8_firstOf 76 = .ok (.iconst 0, 1) := by decide +kernel
theorem dX8_firstOf_77 : decode cX8_firstOf 77 = .ok (.istore 5, 2) := by decide +kernel
theorem dX8_firstOf_79 : decode cX8_firstOf 79 = .ok (.iinc 6 1, 3) := by decide +kernel
theorem dX8_firstOf_82 : decode cX8_firstOf 82 = .ok (.goto (-51), 3) := by decide +kernel
theorem dX8_firstOf_85 : decode cX8_firstOf 85 = .ok (.iload 5, 2) := by decide +kernel
theorem dX8_firstOf_87 : decode cX8_firstOf 87 = .ok (.ifCond .ne 23, 3) := by decide +kernel
theorem dX8_firstOf_90 : decode cX8_firstOf 90 = .ok (.iload_n 2, 1) := by decide +kernel
theorem dX8_firstOf_91 : decode cX8_firstOf 91 = .ok (.iconst (-1), 1) := by decide +kernel
theorem dX8_firstOf_92 : decode cX8_firstOf 92 = .ok (.if_icmp .eq 13, 3) := by decide +kernel
theorem dX8_firstOf_95 : decode cX8_firstOf 95 = .ok (.aload_n 0, 1) := by decide +kernel
theorem dX8_firstOf_96 : decode cX8_firstOf 96 = .ok (.iload 4, 2) := by decide +kernel
theorem dX8_firstOf_98 : decode cX8_firstOf 98 = .ok (.iload_n 2, 1) := by decide +kernel
theorem dX8_firstOf_99 : decode cX8_firstOf 99 = .ok (.invokevirtual 173, 3) := by decide +kernel
theorem dX8_firstOf_102 : decode cX8_firstOf 102 = .ok (.ifCond .eq 8, 3) := by decide +kernel
theorem dX8_firstOf_105 : decode cX8_firstOf 105 = .ok (.iload 4, 2) := by decide +kernel
theorem dX8_firstOf_107 : decode cX8_firstOf 107 = .ok (.goto 4, 3) := by decide +kernel
theorem dX8_firstOf_110 : decode cX8_firstOf 110 = .ok (.iload_n 2, 1) := by decide +kernel
theorem dX8_firstOf_111 : decode cX8_firstOf 111 = .ok (.istore_n 2, 1) := by decide +kernel
theorem dX8_firstOf_112 : decode cX8_firstOf 112 = .ok (.iload_n 3, 1) := by decide +kernel
theorem dX8_firstOf_113 : decode cX8_firstOf 113 = .ok (.iconst (-1), 1) := by decide +kernel
theorem dX8_firstOf_114 : decode cX8_firstOf 114 = .ok (.if_icmp .eq 13, 3) := by decide +kernel
theorem dX8_firstOf_117 : decode cX8_firstOf 117 = .ok (.aload_n 0, 1) := by decide +kernel
theorem dX8_firstOf_118 : decode cX8_firstOf 118 = .ok (.iload 4, 2) := by decide +kernel
theorem dX8_firstOf_120 : decode cX8_firstOf 120 = .ok (.iload_n 3, 1) := by decide +kernel
theorem dX8_firstOf_121 : decode cX8_firstOf 121 = .ok (.invokevirtual 173, 3) := by decide +kernel
theorem dX8_firstOf_124 : decode cX8_firstOf 124 = .ok (.ifCond .eq 8, 3) := by decide +kernel
theorem dX8_firstOf_127 : decode cX8_firstOf 127 = .ok (.iload 4, 2) := by decide +kernel
theorem dX8_firstOf_129 : decode cX8_firstOf 129 = .ok (.goto 4, 3) := by decide +kernel
theorem dX8_firstOf_132 : decode cX8_firstOf 132 = .ok (.iload_n 3, 1) := by decide +kernel
theorem dX8_firstOf_133 : decode cX8_firstOf 133 = .ok (.istore_n 3, 1) := by decide +kernel
theorem dX8_firstOf_134 : decode cX8_firstOf 134 = .ok (.iinc 4 1, 3) := by decide +kernel
theorem dX8_firstOf_137 : decode cX8_firstOf 137 = .ok (.goto (-130), 3) := by decide +kernel
theorem dX8_firstOf_140 : decode cX8_firstOf 140 = .ok (.iload_n 2, 1) := by decide +kernel
theorem dX8_firstOf_141 : decode cX8_firstOf 141 = .ok (.iconst (-1), 1) := by decide +kernel
theorem dX8_firstOf_142 : decode cX8_firstOf 142 = .ok (.if_icmp .ne 7, 3) := by decide +kernel
theorem dX8_firstOf_145 : decode cX8_firstOf 145 = .ok (.iload_n 3, 1) := by decide +kernel
theorem dX8_firstOf_146 : decode cX8_firstOf 146 = .ok (.goto 4, 3) := by decide +kernel
theorem dX8_firstOf_149 : decode cX8_firstOf 149 = .ok (.iload_n 2, 1) := by decide +kernel
theorem dX8_firstOf_150 : decode cX8_firstOf 150 = .ok (.ireturn, 1) := by decide +kernel
theorem dX8_first_0 : decode cX8_first 0 = .ok (.aload_n 0, 1) := by decide +kernel
theorem dX8_first_1 : decode cX8_first 1 = .ok (.iload_n 1, 1) := by decide +kernel
theorem dX8_first_2 : decode cX8_first 2 = .ok (.invokevirtual 182, 3) := by decide +kernel
theorem dX8_first_5 : decode cX8_first 5 = .ok (.ifCond .ne 6, 3) := by decide +kernel
theorem dX8_first_8 : decode cX8_first 8 = .ok (.bipush (-101), 2) := by decide +kernel
theorem dX8_first_10 : decode cX8_first 10 = .ok (.ireturn, 1) := by decide +kernel
theorem dX8_first_11 : decode cX8_first 11 = .ok (.iload_n 2, 1) := by decide +kernel
theorem dX8_first_12 : decode cX8_first 12 = .ok (.i2l, 1) := by decide +kernel
theorem dX8_first_13 : decode cX8_first 13 = .ok (.lconst 0, 1) := by decide +kernel
theorem dX8_first_14 : decode cX8_first 14 = .ok (.ldc2_w 104, 3) := by decide +kernel
theorem dX8_first_17 : decode cX8_first 17 = .ok (.invokestatic 65, 3) := by decide +kernel
theorem dX8_first_20 : decode cX8_first 20 = .ok (.ifCond .ne 6, 3) := by decide +kernel
theorem dX8_first_23 : decode cX8_first 23 = .ok (.bipush (-102), 2) := by decide +kernel
theorem dX8_first_25 : decode cX8_first 25 = .ok (.ireturn, 1) := by decide +kernel
theorem dX8_first_26 : decode cX8_first 26 = .ok (.iload_n 2, 1) := by decide +kernel
theorem dX8_first_27 : decode cX8_first 27 = .ok (.aload_n 0, 1) := by decide +kernel
theorem dX8_first_28 : decode cX8_first 28 = .ok (.getfield 89, 3) := by decide +kernel
theorem dX8_first_31 : decode cX8_first 31 = .ok (.ishr, 1) := by decide +kernel
theorem dX8_first_32 : decode cX8_first 32 = .ok (.ifCond .eq 6, 3) := by decide +kernel
theorem dX8_first_35 : decode cX8_first 35 = .ok (.bipush (-101), 2) := by decide +kernel
theorem dX8_first_37 : decode cX8_first 37 = .ok (.ireturn, 1) := by decide +kernel
theorem dX8_first_38 : decode cX8_first 38 = .ok (.iconst (-1), 1) := by decide +kernel
theorem dX8_first_39 : decode cX8_first 39 = .ok (.istore_n 3, 1) := by decide +kernel
theorem dX8_first_40 : decode cX8_first 40 = .ok (.iconst 1, 1) := by decide +kernel
theorem dX8_first_41 : decode cX8_first 41 = .ok (.istore 4, 2) := by decide +kernel
theorem dX8_first_43 : decode cX8_first 43 = .ok (.iconst 0, 1) := by decide +kernel
theorem dX8_first_44 : decode cX8_first 44 = .ok (.istore 5, 2) := by decide +kernel
theorem dX8_first_46 : decode cX8_first 46 = .ok (.iload 5, 2) := by decide +kernel
theorem dX8_first_48 : decode cX8_first 48 = .ok (.aload_n 0, 1) := by decide +kernel
theorem dX8_first_49 : decode cX8_first 49 = .ok (.getfield 89, 3) := by decide +kernel
theorem dX8_first_52 : decode cX8_first 52 = .ok (.if_icmp .ge 54, 3) := by decide +kernel
theorem dX8_first_55 : decode cX8_first 55 = .ok (.iload_n 2, 1) := by decide +kernel
theorem dX8_first_56 : decode cX8_first 56 = .ok (.iload 5, 2) := by decide +kernel
theorem dX8_first_58 : decode cX8_first 58 = .ok (.invokestatic 150, 3) := by decide +kernel
theorem dX8_first_61 : decode cX8_first 61 = .ok (.ifCond .eq 39, 3) := by decide +kernel
theorem dX8_first_64 : decode cX8_first 64 = .ok (.iload 4, 2) := by decide +kernel
theorem dX8_first_66 : decode cX8_first 66 = .ok (.ifCond .eq 23, 3) := by decide +kernel
theorem dX8_first_69 : decode cX8_first 69 = .ok (.iload_n 3, 1) := by decide +kernel
theorem dX8_first_70 : decode cX8_first 70 = .ok (.iconst (-1), 1) := by decide +kernel
theorem dX8_first_71 : decode cX8_first 71 = .ok (.if_icmp .eq 14, 3) := by decide +kernel
theorem dX8_first_74 : decode cX8_first 74 = .ok (.aload_n 0, 1) := by decide +kernel
theorem dX8_first_75 : decode cX8_first 75 = .ok (.iload 5, 2) := by decide +kernel
theorem dX8_first_77 : decode cX8_first 77 = .ok (.iconst 1, 1) := by decide +kernel
theorem dX8_first_78 : decode cX8_first 78 = .ok (.invokevirtual 95, 3) := by decide +kernel
theorem dX8_first_81 : decode cX8_first 81 = .ok (.iload_n 3, 1) := by decide +kernel
theorem dX8_first_82 : decode cX8_first 82 = .ok (.if_icmp .ne 7, 3) := by decide +kernel
theorem dX8_first_85 : decode cX8_first 85 = .ok (.iconst 1, 1) := by decide +kernel
theorem dX8_first_86 : decode cX8_first 86 = .ok (.goto 4, 3) := by decide +kernel
theorem dX8_first_89 : decode cX8_first 89 = .ok (.iconst 0, 1) := by decide +kernel
theorem dX8_first_90 : decode cX8_first 90 = .ok (.istore 4, 2) := by decide +kernel
theorem dX8_first_92 : decode cX8_first 92 = .ok (.aload_n 0, 1) := by decide +kernel
theorem dX8_first_93 : decode cX8_first 93 = .ok (.iload 5, 2) := by decide +kernel
theorem dX8_first_95 : decode cX8_first 95 = .ok (.iconst 1, 1) := by decide +kernel
theorem dX8_first_96 : decode cX8_first 96 = .ok (.invokevirtual 95, 3) := by decide +kernel
theorem dX8_first_99 : decode cX8_first 99 = .ok (.istore_n 3, 1) := by decide +kernel
theorem dX8_first_100 : decode cX8_first 100 = .ok (.iinc 5 1, 3) := by decide +kernel
theorem dX8_first_103 : decode cX8_first 103 = .ok (.goto (-57), 3) := by decide +kernel
theorem dX8_first_106 : decode cX8_first 106 = .ok (.iload 4, 2) := by decide +kernel
theorem dX8_first_108 : decode cX8_first 108 = .ok (.ifCond .ne 6, 3) := by decide +kernel
theorem dX8_first_111 : decode cX8_first 111 = .ok (.bipush (-103), 2) := by decide +kernel
theorem dX8_first_113 : decode cX8_first 113 = .ok (.ireturn, 1) := by decide +kernel
theorem dX8_first_114 : decode cX8_first 114 = .ok (.aload_n 0, 1) := by decide +kernel
theorem dX8_first_115 : decode cX8_first 115 = .ok (.iload_n 1, 1) := by decide +kernel
theorem dX8_first_116 : decode cX8_first 116 = .ok (.invokevirtual 196, 3) := by decide +kernel
theorem dX8_first_119 : decode cX8_first 119 = .ok (.aload_n 0, 1) := by decide +kernel
theorem dX8_first_120 : decode cX8_first 120 = .ok (.iload_n 2, 1) := by decide +kernel
theorem dX8_first_121 : decode cX8_first 121 = .ok (.invokevirtual 203, 3) := by decide +kernel
theorem dX8_first_124 : decode cX8_first 124 = .ok (.ireturn, 1) := by decide +kernel
theorem dX8_fromOwner_0 : decode cX8_fromOwner 0 = .ok (.iconst 0, 1) := by decide +kernel
theorem dX8_fromOwner_1 : decode cX8_fromOwner 1 = .ok (.istore 4, 2) := by decide +kernel
theorem dX8_fromOwner_3 : decode cX8_fromOwner 3 = .ok (.iconst 0, 1) := by decide +kernel
theorem dX8_fromOwner_4 : decode cX8_fromOwner 4 = .ok (.istore 5, 2) := by decide +kernel
theorem dX8_fromOwner_6 : decode cX8_fromOwner 6 = .ok (.iload 5, 2) := by decide +kernel
theorem dX8_fromOwner_8 : decode cX8_fromOwner 8 = .ok (.aload_n 0, 1) := by decide +kernel
theorem dX8_fromOwner_9 : decode cX8_fromOwner 9 = .ok (.getfield 89, 3) := by decide +kernel
theorem dX8_fromOwner_12 : decode cX8_fromOwner 12 = .ok (.if_icmp .ge 74, 3) := by decide +kernel
theorem dX8_fromOwner_15 : decode cX8_fromOwner 15 = .ok (.aload_n 0, 1) := by decide +kernel
theorem dX8_fromOwner_16 : decode cX8_fromOwner 16 = .ok (.iload 5, 2) := by decide +kernel
theorem dX8_fromOwner_18 : decode cX8_fromOwner 18 = .ok (.iconst 1, 1) := by decide +kernel
theorem dX8_fromOwner_19 : decode cX8_fromOwner 19 = .ok (.invokevirtual 95, 3) := by decide +kernel
theorem dX8_fromOwner_22 : decode cX8_fromOwner 22 = .ok (.iload_n 1, 1) := by decide +kernel
theorem dX8_fromOwner_23 : decode cX8_fromOwner 23 = .ok (.if_icmp .ne 36, 3) := by decide +kernel
theorem dX8_fromOwner_26 : decode cX8_fromOwner 26 = .ok (.aload_n 0, 1) := by decide +kernel
theorem dX8_fromOwner_27 : decode cX8_fromOwner 27 = .ok (.iload 5, 2) := by decide +kernel
theorem dX8_fromOwner_29 : decode cX8_fromOwner 29 = .ok (.invokevirtual 144, 3) := by decide +kernel
theorem dX8_fromOwner_32 : decode cX8_fromOwner 32 = .ok (.ifCond .eq 27, 3) := by decide +kernel
theorem dX8_fromOwner_35 : decode cX8_fromOwner 35 = .ok (.aload_n 0, 1) := by decide +kernel
theorem dX8_fromOwner_36 : decode cX8_fromOwner 36 = .ok (.iload 5, 2) := by decide +kernel
theorem dX8_fromOwner_38 : decode cX8_fromOwner 38 = .ok (.iconst 2, 1) := by decide +kernel
theorem dX8_fromOwner_39 : decode cX8_fromOwner 39 = .ok (.invokevirtual 95, 3) := by decide +kernel
theorem dX8_fromOwner_42 : decode cX8_fromOwner 42 = .ok (.iload_n 2, 1) := by decide +kernel
theorem dX8_fromOwner_43 : decode cX8_fromOwner 43 = .ok (.if_icmp .ne 16, 3) := by decide +kernel
theorem dX8_fromOwner_46 : decode cX8_fromOwner 46 = .ok (.iload_n 3, 1) := by decide +kernel
theorem dX8_fromOwner_47 : decode cX8_fromOwner 47 = .ok (.iload 5, 2) := by decide +kernel
theorem dX8_fromOwner_49 : decode cX8_fromOwner 49 = .ok (.invokestatic 150, 3) := by decide +kernel
theorem dX8_fromOwner_52 : decode cX8_fromOwner 52 = .ok (.ifCond .ne 7, 3) := by decide +kernel
theorem dX8_fromOwner_55 : decode cX8_fromOwner 55 = .ok (.iconst 1, 1) := by decide +kernel
theorem dX8_fromOwner_56 : decode cX8_fromOwner 56 = .ok (.goto 4, 3) := by decide +kernel
theorem dX8_fromOwner_59 : decode cX8_fromOwner 59 = .ok (.iconst 0, 1) := by decide +kernel
theorem dX8_fromOwner_60 : decode cX8_fromOwner 60 = .ok (.istore 6, 2) := by decide +kernel
theorem dX8_fromOwner_62 : decode cX8_fromOwner 62 = .ok (.iload 4, 2) := by decide +kernel
theorem dX8_fromOwner_64 : decode cX8_fromOwner 64 = .ok (.iload 6, 2) := by decide +kernel
theorem dX8_fromOwner_66 : decode cX8_fromOwner 66 = .ok (.ifCond .eq 10, 3) := by decide +kernel
theorem dX8_fromOwner_69 : decode cX8_fromOwner 69 = .ok (.iconst 1, 1) := by decide +kernel
theorem dX8_fromOwner_70 : decode cX8_fromOwner 70 = .ok (.iload 5, 2) := by decide +kernel
theorem dX8_fromOwner_72 : decode cX8_fromOwner 72 = .ok (.ishl, 1) := by decide +kernel
theorem dX8_fromOwner_73 : decode cX8_fromOwner 73 = .ok (.goto 4, 3) := by decide +kernel
theorem dX8_fromOwner_76 : decode cX8_fromOwner 76 = .ok (.iconst 0, 1) := by decide +kernel
theorem dX8_fromOwner_77 : decode cX8_fromOwner 77 = .ok (.ior, 1) := by decide +kernel
theorem dX8_fromOwner_78 : decode cX8_fromOwner 78 = .ok (.istore 4, 2) := by decide +kernel
theorem dX8_fromOwner_80 : decode cX8_fromOwner 80 = .ok (.iinc 5 1, 3) := by decide +kernel
theorem dX8_fromOwner_83 : decode cX8_fromOwner 83 = .ok (.goto (-77), 3) := by decide +kernel
theorem dX8_fromOwner_86 : decode cX8_fromOwner 86 = .ok (.iload 4, 2) := by decide +kernel
theorem dX8_fromOwner_88 : decode cX8_fromOwner 88 = .ok (.ireturn, 1) := by decide +kernel
theorem dX8_ownerOf_0 : decode cX8_ownerOf 0 = .ok (.aload_n 0, 1) := by decide +kernel
theorem dX8_ownerOf_1 : decode cX8_ownerOf 1 = .ok (.getfield 13, 3) := by decide +kernel
theorem dX8_ownerOf_4 : decode cX8_ownerOf 4 = .ok (.iload_n 1, 1) := by decide +kernel
theorem dX8_ownerOf_5 : decode cX8_ownerOf 5 = .ok (.iaload, 1) := by decide +kernel
theorem dX8_ownerOf_6 : decode cX8_ownerOf 6 = .ok (.istore_n 2, 1) := by decide +kernel
theorem dX8_ownerOf_7 : decode cX8_ownerOf 7 = .ok (.iconst 0, 1) := by decide +kernel
theorem dX8_ownerOf_8 : decode cX8_ownerOf 8 = .ok (.istore_n 3, 1) := by decide +kernel
theorem dX8_ownerOf_9 : decode cX8_ownerOf 9 = .ok (.aload_n 0, 1) := by decide +kernel
theorem dX8_ownerOf_10 : decode cX8_ownerOf 10 = .ok (.iconst 0, 1) := by decide +kernel
theorem dX8_ownerOf_11 : decode cX8_ownerOf 11 = .ok (.putfield 206, 3) := by decide +kernel
theorem dX8_ownerOf_14 : decode cX8_ownerOf 14 = .ok (.aload_n 0, 1) := by decide +kernel
theorem dX8_ownerOf_15 : decode cX8_ownerOf 15 = .ok (.iload_n 1, 1) := by decide +kernel
theorem dX8_ownerOf_16 : decode cX8_ownerOf 16 = .ok (.iload_n 2, 1) := by decide +kernel
theorem dX8_ownerOf_17 : decode cX8_ownerOf 17 = .ok (.iload_n 3, 1) := by decide +kernel
theorem dX8_ownerOf_18 : decode cX8_ownerOf 18 = .ok (.invokevirtual 209, 3) := by decide +kernel
theorem dX8_ownerOf_21 : decode cX8_ownerOf 21 = .ok (.istore 4, 2) := by decide +kernel
theorem dX8_ownerOf_23 : decode cX8_ownerOf 23 = .ok (.iload 4, 2) := by decide +kernel
theorem dX8_ownerOf_25 : decode cX8_ownerOf 25 = .ok (.ifCond .eq 59, 3) := by decide +kernel
theorem dX8_ownerOf_28 : decode cX8_ownerOf 28 = .ok (.aload_n 0, 1) := by decide +kernel
theorem dX8_ownerOf_29 : decode cX8_ownerOf 29 = .ok (.iload 4, 2) := by decide +kernel
theorem dX8_ownerOf_31 : decode cX8_ownerOf 31 = .ok (.invokevirtual 203, 3) := by decide +kernel
theorem dX8_ownerOf_34 : decode cX8_ownerOf 34 = .ok (.istore 5, 2) := by decide +kernel
theorem dX8_ownerOf_36 : decode cX8_ownerOf 36 = .ok (.iload_n 3, 1) := by decide +kernel
theorem dX8_ownerOf_37 : decode cX8_ownerOf 37 = .ok (.iconst 1, 1) := by decide +kernel
theorem dX8_ownerOf_38 : decode cX8_ownerOf 38 = .ok (.iload 5, 2) := by decide +kernel
theorem dX8_ownerOf_40 : decode cX8_ownerOf 40 = .ok (.ishl, 1) := by decide +kernel
theorem dX8_ownerOf_41 : decode cX8_ownerOf 41 = .ok (.ior, 1) := by decide +kernel
theorem dX8_ownerOf_42 : decode cX8_ownerOf 42 = .ok (.istore_n 3, 1) := by decide +kernel
theorem dX8_ownerOf_43 : decode cX8_ownerOf 43 = .ok (.aload_n 0, 1) := by decide +kernel
theorem dX8_ownerOf_44 : decode cX8_ownerOf 44 = .ok (.getfield 47, 3) := by decide +kernel
theorem dX8_ownerOf_47 : decode cX8_ownerOf 47 = .ok (.aload_n 0, 1) := by decide +kernel
theorem dX8_ownerOf_48 : decode cX8_ownerOf 48 = .ok (.getfield 206, 3) := by decide +kernel
theorem dX8_ownerOf_51 : decode cX8_ownerOf 51 = .ok (.iload 5, 2) := by decide +kernel
theorem dX8_ownerOf_53 : decode cX8_ownerOf 53 = .ok (.iastore, 1) := by decide +kernel
theorem dX8_ownerOf_54 : decode cX8_ownerOf 54 = .ok (.aload_n 0, 1) := by decide +kernel
theorem dX8_ownerOf_55 : decode cX8_ownerOf 55 = .ok (.dup, 1) := by decide +kernel
theorem dX8_ownerOf_56 : decode cX8_ownerOf 56 = .ok (.getfield 206, 3) := by decide +kernel
theorem dX8_ownerOf_59 : decode cX8_ownerOf 59 = .ok (.iconst 1, 1) := by decide +kernel
theorem dX8_ownerOf_60 : decode cX8_ownerOf 60 = .ok (.iadd, 1) := by decide +kernel
theorem dX8_ownerOf_61 : decode cX8_ownerOf 61 = .ok (.putfield 206, 3) := by decide +kernel
theorem dX8_ownerOf_64 : decode cX8_ownerOf 64 = .ok (.aload_n 0, 1) := by decide +kernel
theorem dX8_ownerOf_65 : decode cX8_ownerOf 65 = .ok (.iload 5, 2) := by decide +kernel
theorem dX8_ownerOf_67 : decode cX8_ownerOf 67 = .ok (.iconst 3, 1) := by decide +kernel
theorem dX8_ownerOf_68 : decode cX8_ownerOf 68 = .ok (.invokevirtual 95, 3) := by decide +kernel
theorem dX8_ownerOf_71 : decode cX8_ownerOf 71 = .ok (.istore_n 2, 1) := by decide +kernel
theorem dX8_ownerOf_72 : decode cX8_ownerOf 72 = .ok (.aload_n 0, 1) := by decide +kernel
theorem dX8_ownerOf_73 : decode cX8_ownerOf 73 = .ok (.iload_n 1, 1) := by decide +kernel
theorem dX8_ownerOf_74 : decode cX8_ownerOf 74 = .ok (.iload_n 2, 1) := by decide +kernel
theorem dX8_ownerOf_75 : decode cX8_ownerOf 75 = .ok (.iload_n 3, 1) := by decide +kernel
theorem dX8_ownerOf_76 : decode cX8_ownerOf 76 = .ok (.invokevirtual 209, 3) := by decide +kernel
theorem dX8_ownerOf_79 : decode cX8_ownerOf 79 = .ok (.istore 4, 2) := by decide +kernel
theorem dX8_ownerOf_81 : decode cX8_ownerOf 81 = .ok (.goto (-58), 3) := by decide +kernel
theorem dX8_ownerOf_84 : decode cX8_ownerOf 84 = .ok (.iload_n 2, 1) := by decide +kernel
theorem dX8_ownerOf_85 : decode cX8_ownerOf 85 = .ok (.ireturn, 1) := by decide +kernel
theorem dX8_whose_0 : decode cX8_whose 0 = .ok (.aload_n 0, 1) := by decide +kernel
theorem dX8_whose_1 : decode cX8_whose 1 = .ok (.iload_n 1, 1) := by decide +kernel
theorem dX8_whose_2 : decode cX8_whose 2 = .ok (.invokevirtual 182, 3) := by decide +kernel
theorem dX8_whose_5 : decode cX8_whose 5 = .ok (.ifCond .eq 11, 3) := by decide +kernel
theorem dX8_whose_8 : decode cX8_whose 8 = .ok (.aload_n 0, 1) := by decide +kernel
theorem dX8_whose_9 : decode cX8_whose 9 = .ok (.iload_n 2, 1) := by decide +kernel
theorem dX8_whose_10 : decode cX8_whose 10 = .ok (.invokevirtual 81, 3) := by decide +kernel
theorem dX8_whose_13 : decode cX8_whose 13 = .ok (.ifCond .ne 6, 3) := by decide +kernel
theorem dX8_whose_16 : decode cX8_whose 16 = .ok (.bipush (-101), 2) := by decide +kernel
theorem dX8_whose_18 : decode cX8_whose 18 = .ok (.ireturn, 1) := by decide +kernel
theorem dX8_whose_19 : decode cX8_whose 19 = .ok (.iload_n 3, 1) := by decide +kernel
theorem dX8_whose_20 : decode cX8_whose 20 = .ok (.i2l, 1) := by decide +kernel
theorem dX8_whose_21 : decode cX8_whose 21 = .ok (.lconst 0, 1) := by decide +kernel
theorem dX8_whose_22 : decode cX8_whose 22 = .ok (.lconst 1, 1) := by decide +kernel
theorem dX8_whose_23 : decode cX8_whose 23 = .ok (.invokestatic 65, 3) := by decide +kernel
theorem dX8_whose_26 : decode cX8_whose 26 = .ok (.ifCond .ne 20, 3) := by decide +kernel
theorem dX8_whose_29 : decode cX8_whose 29 = .ok (.iload_n 3, 1) := by decide +kernel
theorem dX8_whose_30 : decode cX8_whose 30 = .ok (.i2l, 1) := by decide +kernel
theorem dX8_whose_31 : decode cX8_whose 31 = .ok (.ldc2_w 212, 3) := by decide +kernel
theorem dX8_whose_34 : decode cX8_whose 34 = .ok (.ldc2_w 214, 3) := by decide +kernel
theorem dX8_whose_37 : decode cX8_whose 37 = .ok (.invokestatic 65, 3) := by decide +kernel
theorem dX8_whose_40 : decode cX8_whose 40 = .ok (.ifCond .ne 6, 3) := by decide +kernel
theorem dX8_whose_43 : decode cX8_whose 43 = .ok (.bipush (-102), 2) := by decide +kernel
theorem dX8_whose_45 : decode cX8_whose 45 = .ok (.ireturn, 1) := by decide +kernel
theorem dX8_whose_46 : decode cX8_whose 46 = .ok (.aload_n 0, 1) := by decide +kernel
theorem dX8_whose_47 : decode cX8_whose 47 = .ok (.iload_n 1, 1) := by decide +kernel
theorem dX8_whose_48 : decode cX8_whose 48 = .ok (.invokevirtual 196, 3) := by decide +kernel
theorem dX8_whose_51 : decode cX8_whose 51 = .ok (.aload_n 0, 1) := by decide +kernel
theorem dX8_whose_52 : decode cX8_whose 52 = .ok (.iload_n 2, 1) := by decide +kernel
theorem dX8_whose_53 : decode cX8_whose 53 = .ok (.invokevirtual 216, 3) := by decide +kernel
theorem dX8_whose_56 : decode cX8_whose 56 = .ok (.istore 4, 2) := by decide +kernel
theorem dX8_whose_58 : decode cX8_whose 58 = .ok (.iload_n 3, 1) := by decide +kernel
theorem dX8_whose_59 : decode cX8_whose 59 = .ok (.ifCond .ne 8, 3) := by decide +kernel
theorem dX8_whose_62 : decode cX8_whose 62 = .ok (.iload 4, 2) := by decide +kernel
theorem dX8_whose_64 : decode cX8_whose 64 = .ok (.goto 39, 3) := by decide +kernel
theorem dX8_whose_67 : decode cX8_whose 67 = .ok (.iload_n 3, 1) := by decide +kernel
theorem dX8_whose_68 : decode cX8_whose 68 = .ok (.iconst 1, 1) := by decide +kernel
theorem dX8_whose_69 : decode cX8_whose 69 = .ok (.if_icmp .ne 10, 3) := by decide +kernel
theorem dX8_whose_72 : decode cX8_whose 72 = .ok (.aload_n 0, 1) := by decide +kernel
theorem dX8_whose_73 : decode cX8_whose 73 = .ok (.getfield 206, 3) := by decide +kernel
theorem dX8_whose_76 : decode cX8_whose 76 = .ok (.goto 27, 3) := by decide +kernel
theorem dX8_whose_79 : decode cX8_whose 79 = .ok (.iload_n 3, 1) := by decide +kernel
theorem dX8_whose_80 : decode cX8_whose 80 = .ok (.bipush 10, 2) := by decide +kernel
theorem dX8_whose_82 : decode cX8_whose 82 = .ok (.isub, 1) := by decide +kernel
theorem dX8_whose_83 : decode cX8_whose 83 = .ok (.aload_n 0, 1) := by decide +kernel
theorem dX8_whose_84 : decode cX8_whose 84 = .ok (.getfield 206, 3) := by decide +kernel
theorem dX8_whose_87 : decode cX8_whose 87 = .ok (.if_icmp .ge 15, 3) := by decide +kernel
theorem dX8_whose_90 : decode cX8_whose 90 = .ok (.aload_n 0, 1) := by decide +kernel
theorem dX8_whose_91 : decode cX8_whose 91 = .ok (.getfield 47, 3) := by decide +kernel
theorem dX8_whose_94 : decode cX8_whose 94 = .ok (.iload_n 3, 1) := by decide +kernel
theorem dX8_whose_95 : decode cX8_whose 95 = .ok (.bipush 10, 2) := by decide +kernel
theorem dX8_whose_97 : decode cX8_whose 97 = .ok (.isub, 1) := by decide +kernel
theorem dX8_whose_98 : decode cX8_whose 98 = .ok (.iaload, 1) := by decide +kernel
theorem dX8_whose_99 : decode cX8_whose 99 = .ok (.goto 4, 3) := by decide +kernel
theorem dX8_whose_102 : decode cX8_whose 102 = .ok (.iconst (-1), 1) := by decide +kernel
theorem dX8_whose_103 : decode cX8_whose 103 = .ok (.ireturn, 1) := by decide +kernel
theorem dX8_riding_0 : decode cX8_riding 0 = .ok (.aload_n 0, 1) := by decide +kernel
theorem dX8_riding_1 : decode cX8_riding 1 = .ok (.iload_n 1, 1) := by decide +kernel
theorem dX8_riding_2 : decode cX8_riding 2 = .ok (.invokevirtual 216, 3) := by decide +kernel
theorem dX8_riding_5 : decode cX8_riding 5 = .ok (.pop, 1) := by decide +kernel
theorem dX8_riding_6 : decode cX8_riding 6 = .ok (.iconst 1, 1) := by decide +kernel
theorem dX8_riding_7 : decode cX8_riding 7 = .ok (.aload_n 0, 1) := by decide +kernel
theorem dX8_riding_8 : decode cX8_riding 8 = .ok (.getfield 13, 3) := by decide +kernel
theorem dX8_riding_11 : decode cX8_riding 11 = .ok (.iload_n 1, 1) := by decide +kernel
theorem dX8_riding_12 : decode cX8_riding 12 = .ok (.iaload, 1) := by decide +kernel
theorem dX8_riding_13 : decode cX8_riding 13 = .ok (.ishl, 1) := by decide +kernel
theorem dX8_riding_14 : decode cX8_riding 14 = .ok (.istore_n 2, 1) := by decide +kernel
theorem dX8_riding_15 : decode cX8_riding 15 = .ok (.iconst 0, 1) := by decide +kernel
theorem dX8_riding_16 : decode cX8_riding 16 = .ok (.istore_n 3, 1) := by decide +kernel
theorem dX8_riding_17 : decode cX8_riding 17 = .ok (.iload_n 3, 1) := by decide +kernel
theorem dX8_riding_18 : decode cX8_riding 18 = .ok (.aload_n 0, 1) := by decide +kernel
theorem dX8_riding_19 : decode cX8_riding 19 = .ok (.getfield 206, 3) := by decide +kernel
theorem dX8_riding_22 : decode cX8_riding 22 = .ok (.if_icmp .ge 25, 3) := by decide +kernel
theorem dX8_riding_25 : decode cX8_riding 25 = .ok (.iload_n 2, 1) := by decide +kernel
theorem dX8_riding_26 : decode cX8_riding 26 = .ok (.iconst 1, 1) := by decide +kernel
theorem dX8_riding_27 : decode cX8_riding 27 = .ok (.aload_n 0, 1) := by decide +kernel
theorem dX8_riding_28 : decode cX8_riding 28 = .ok (.aload_n 0, 1) := by decide +kernel
theorem dX8_riding_29 : decode cX8_riding 29 = .ok (.getfield 47, 3) := by decide +kernel
theorem dX8_riding_32 : decode cX8_riding 32 = .ok (.iload_n 3, 1) := by decide +kernel
theorem dX8_riding_33 : decode cX8_riding 33 = .ok (.iaload, 1) := by decide +kernel
theorem dX8_riding_34 : decode cX8_riding 34 = .ok (.iconst 3, 1) := by decide +kernel
theorem dX8_riding_35 : decode cX8_riding 35 = .ok (.invokevirtual 95, 3) := by decide +kernel
theorem dX8_riding_38 : decode cX8_riding 38 = .ok (.ishl, 1) := by decide +kernel
theorem dX8_riding_39 : decode cX8_riding 39 = .ok (.ior, 1) := by decide +kernel
theorem dX8_riding_40 : decode cX8_riding 40 = .ok (.istore_n 2, 1) := by decide +kernel
theorem dX8_riding_41 : decode cX8_riding 41 = .ok (.iinc 3 1, 3) := by decide +kernel
theorem dX8_riding_44 : decode cX8_riding 44 = .ok (.goto (-27), 3) := by decide +kernel
theorem dX8_riding_47 : decode cX8_riding 47 = .ok (.iconst 0, 1) := by decide +kernel
theorem dX8_riding_48 : decode cX8_riding 48 = .ok (.istore_n 3, 1) := by decide +kernel
theorem dX8_riding_49 : decode cX8_riding 49 = .ok (.iconst 0, 1) := by decide +kernel
theorem dX8_riding_50 : decode cX8_riding 50 = .ok (.istore 4, 2) := by decide +kernel
theorem dX8_riding_52 : decode cX8_riding 52 = .ok (.iload 4, 2) := by decide +kernel
theorem dX8_riding_54 : decode cX8_riding 54 = .ok (.aload_n 0, 1) := by decide +kernel
theorem dX8_riding_55 : decode cX8_riding 55 = .ok (.getfield 89, 3) := by decide +kernel
theorem dX8_riding_58 : decode cX8_riding 58 = .ok (.if_icmp .ge 136, 3) := by decide +kernel
theorem dX8_riding_61 : decode cX8_riding 61 = .ok (.aload_n 0, 1) := by decide +kernel
theorem dX8_riding_62 : decode cX8_riding 62 = .ok (.iload 4, 2) := by decide +kernel
theorem dX8_riding_64 : decode cX8_riding 64 = .ok (.iconst 1, 1) := by decide +kernel
theorem dX8_riding_65 : decode cX8_riding 65 = .ok (.invokevirtual 95, 3) := by decide +kernel
theorem dX8_riding_68 : decode cX8_riding 68 = .ok (.iload_n 1, 1) := by decide +kernel
theorem dX8_riding_69 : decode cX8_riding 69 = .ok (.if_icmp .ne 32, 3) := by decide +kernel
theorem dX8_riding_72 : decode cX8_riding 72 = .ok (.aload_n 0, 1) := by decide +kernel
theorem dX8_riding_73 : decode cX8_riding 73 = .ok (.iload 4, 2) := by decide +kernel
theorem dX8_riding_75 : decode cX8_riding 75 = .ok (.iconst 0, 1) := by decide +kernel
theorem dX8_riding_76 : decode cX8_riding 76 = .ok (.invokevirtual 95, 3) := by decide +kernel
theorem dX8_riding_79 : decode cX8_riding 79 = .ok (.iconst 3, 1) := by decide +kernel
theorem dX8_riding_80 : decode cX8_riding 80 = .ok (.if_icmp .ne 21, 3) := by decide +kernel
theorem dX8_riding_83 : decode cX8_riding 83 = .ok (.iload_n 2, 1) := by decide +kernel
theorem dX8_riding_84 : decode cX8_riding 84 = .ok (.aload_n 0, 1) := by decide +kernel
theorem dX8_riding_85 : decode cX8_riding 85 = .ok (.iload 4, 2) := by decide +kernel
theorem dX8_riding_87 : decode cX8_riding 87 = .ok (.iconst 2, 1) := by decide +kernel
theorem dX8_riding_88 : decode cX8_riding 88 = .ok (.invokevirtual 95, 3) := by decide +kernel
theorem dX8_riding_91 : decode cX8_riding 91 = .ok (.invokestatic 150, 3) := by decide +kernel
theorem dX8_riding_94 : decode cX8_riding 94 = .ok (.ifCond .eq 7, 3) := by decide +kernel
theorem dX8_riding_97 : decode cX8_riding 97 = .ok (.iconst 1, 1) := by decide +kernel
theorem dX8_riding_98 : decode cX8_riding 98 = .ok (.goto 4, 3) := by decide +kernel
theorem dX8_riding_101 : decode cX8_riding 101 = .ok (.iconst 0, 1) := by decide +kernel
theorem dX8_riding_102 : decode cX8_riding 102 = .ok (.istore 5, 2) := by decide +kernel
theorem dX8_riding_104 : decode cX8_riding 104 = .ok (.iconst 0, 1) := by decide +kernel
theorem dX8_riding_105 : decode cX8_riding 105 = .ok (.istore 6, 2) := by decide +kernel
theorem dX8_riding_107 : decode cX8_riding 107 = .ok (.iload 6, 2) := by decide +kernel
theorem dX8_riding_109 : decode cX8_riding 109 = .ok (.aload_n 0, 1) := by decide +kernel
theorem dX8_riding_110 : decode cX8_riding 110 = .ok (.getfield 206, 3) := by decide +kernel
theorem dX8_riding_113 : decode cX8_riding 113 = .ok (.if_icmp .ge 59, 3) := by decide +kernel
theorem dX8_riding_116 : decode cX8_riding 116 = .ok (.iload 5, 2) := by decide +kernel
theorem dX8_riding_118 : decode cX8_riding 118 = .ok (.ifCond .eq 54, 3) := by decide +kernel
theorem dX8_riding_121 : decode cX8_riding 121 = .ok (.aload_n 0, 1) := by decide +kernel
theorem dX8_riding_122 : decode cX8_riding 122 = .ok (.aload_n 0, 1) := by decide +kernel
theorem dX8_riding_123 : decode cX8_riding 123 = .ok (.getfield 47, 3) := by decide +kernel
theorem dX8_riding_126 : decode cX8_riding 126 = .ok (.iload 6, 2) := by decide +kernel
theorem dX8_riding_128 : decode cX8_riding 128 = .ok (.iaload, 1) := by decide +kernel
theorem dX8_riding_129 : decode cX8_riding 129 = .ok (.iconst 2, 1) := by decide +kernel
theorem dX8_riding_130 : decode cX8_riding 130 = .ok (.invokevirtual 95, 3) := by decide +kernel
theorem dX8_riding_133 : decode cX8_riding 133 = .ok (.aload_n 0, 1) := by decide +kernel
theorem dX8_riding_134 : decode cX8_riding 134 = .ok (.iload 4, 2) := by decide +kernel
theorem dX8_riding_136 : decode cX8_riding 136 = .ok (.iconst 2, 1) := by decide +kernel
theorem dX8_riding_137 : decode cX8_riding 137 = .ok (.invokevirtual 95, 3) := by decide +kernel
theorem dX8_riding_140 : decode cX8_riding 140 = .ok (.if_icmp .ne 19, 3) := by decide +kernel
theorem dX8_riding_143 : decode cX8_riding 143 = .ok (.aload_n 0, 1) := by decide +kernel
theorem dX8_riding_144 : decode cX8_riding 144 = .ok (.aload_n 0, 1) := by decide +kernel
theorem dX8_riding_145 : decode cX8_riding 145 = .ok (.getfield 47, 3) := by decide +kernel
theorem dX8_riding_148 : decode cX8_riding 148 = .ok (.iload 6, 2) := by decide +kernel
theorem dX8_riding_150 : decode cX8_riding 150 = .ok (.iaload, 1) := by decide +kernel
theorem dX8_riding_151 : decode cX8_riding 151 = .ok (.iload 4, 2) := by decide +kernel
theorem dX8_riding_153 : decode cX8_riding 153 = .ok (.invokevirtual 200, 3) := by decide +kernel
theorem dX8_riding_156 : decode cX8_riding 156 = .ok (.ifCond .ne 7, 3) := by decide +kernel
theorem dX8_riding_159 : decode cX8_riding 159 = .ok (.iconst 1, 1) := by decide +kernel
theorem dX8_riding_160 : decode cX8_riding 160 = .ok (.goto 4, 3) := by decide +kernel
theorem dX8_riding_163 : decode cX8_riding 163 = .ok (.iconst 0, 1) := by decide +kernel
theorem dX8_riding_164 : decode cX8_riding 164 = .ok (.istore 5, 2) := by decide +kernel
theorem dX8_riding_166 : decode cX8_riding 166 = .ok (.iinc 6 1, 3) := by decide +kernel
theorem dX8_riding_169 : decode cX8_riding 169 = .ok (.goto (-62), 3) := by decide +kernel
theorem dX8_riding_172 : decode cX8_riding 172 = .ok (.iload_n 3, 1) := by decide +kernel
theorem dX8_riding_173 : decode cX8_riding 173 = .ok (.iload 5, 2) := by decide +kernel
theorem dX8_riding_175 : decode cX8_riding 175 = .ok (.ifCond .eq 10, 3) := by decide +kernel
theorem dX8_riding_178 : decode cX8_riding 178 = .ok (.iconst 1, 1) := by decide +kernel
theorem dX8_riding_179 : decode cX8_riding 179 = .ok (.iload 4, 2) := by decide +kernel
theorem dX8_riding_181 : decode cX8_riding 181 = .ok (.ishl, 1) := by decide +kernel
theorem dX8_riding_182 : decode cX8_riding 182 = .ok (.goto 4, 3) := by decide +kernel
theorem dX8_riding_185 : decode cX8_riding 185 = .ok (.iconst 0, 1) := by decide +kernel
theorem dX8_riding_186 : decode cX8_riding 186 = .ok (.ior, 1) := by decide +kernel
theorem dX8_riding_187 : decode cX8_riding 187 = .ok (.istore_n 3, 1) := by decide +kernel
theorem dX8_riding_188 : decode cX8_riding 188 = .ok (.iinc 4 1, 3) := by decide +kernel
theorem dX8_riding_191 : decode cX8_riding 191 = .ok (.goto (-139), 3) := by decide +kernel
theorem dX8_riding_194 : decode cX8_riding 194 = .ok (.iload_n 3, 1) := by decide +kernel
theorem dX8_riding_195 : decode cX8_riding 195 = .ok (.ireturn, 1) := by decide +kernel
theorem dX8_debts_0 : decode cX8_debts 0 = .ok (.aload_n 0, 1) := by decide +kernel
theorem dX8_debts_1 : decode cX8_debts 1 = .ok (.iload_n 1, 1) := by decide +kernel
theorem dX8_debts_2 : decode cX8_debts 2 = .ok (.invokevirtual 182, 3) := by decide +kernel
theorem dX8_debts_5 : decode cX8_debts 5 = .ok (.ifCond .eq 11, 3) := by decide +kernel
theorem dX8_debts_8 : decode cX8_debts 8 = .ok (.aload_n 0, 1) := by decide +kernel
theorem dX8_debts_9 : decode cX8_debts 9 = .ok (.iload_n 2, 1) := by decide +kernel
theorem dX8_debts_10 : decode cX8_debts 10 = .ok (.invokevirtual 81, 3) := by decide +kernel
theorem dX8_debts_13 : decode cX8_debts 13 = .ok (.ifCond .ne 6, 3) := by decide +kernel
theorem dX8_debts_16 : decode cX8_debts 16 = .ok (.bipush (-101), 2) := by decide +kernel
theorem dX8_debts_18 : decode cX8_debts 18 = .ok (.ireturn, 1) := by decide +kernel
theorem dX8_debts_19 : decode cX8_debts 19 = .ok (.iload_n 3, 1) := by decide +kernel
theorem dX8_debts_20 : decode cX8_debts 20 = .ok (.ifCond .eq 20, 3) := by decide +kernel
theorem dX8_debts_23 : decode cX8_debts 23 = .ok (.iload_n 3, 1) := by decide +kernel
theorem dX8_debts_24 : decode cX8_debts 24 = .ok (.i2l, 1) := by decide +kernel
theorem dX8_debts_25 : decode cX8_debts 25 = .ok (.ldc2_w 212, 3) := by decide +kernel
theorem dX8_debts_28 : decode cX8_debts 28 = .ok (.ldc2_w 214, 3) := by decide +kernel
theorem dX8_debts_31 : decode cX8_debts 31 = .ok (.invokestatic 65, 3) := by decide +kernel
theorem dX8_debts_34 : decode cX8_debts 34 = .ok (.ifCond .ne 6, 3) := by decide +kernel
theorem dX8_debts_37 : decode cX8_debts 37 = .ok (.bipush (-102), 2) := by decide +kernel
theorem dX8_debts_39 : decode cX8_debts 39 = .ok (.ireturn, 1) := by decide +kernel
theorem dX8_debts_40 : decode cX8_debts 40 = .ok (.aload_n 0, 1) := by decide +kernel
theorem dX8_debts_41 : decode cX8_debts 41 = .ok (.iload_n 1, 1) := by decide +kernel
theorem dX8_debts_42 : decode cX8_debts 42 = .ok (.invokevirtual 196, 3) := by decide +kernel
theorem dX8_debts_45 : decode cX8_debts 45 = .ok (.aload_n 0, 1) := by decide +kernel
theorem dX8_debts_46 : decode cX8_debts 46 = .ok (.iload_n 2, 1) := by decide +kernel
theorem dX8_debts_47 : decode cX8_debts 47 = .ok (.invokevirtual 219, 3) := by decide +kernel
theorem dX8_debts_50 : decode cX8_debts 50 = .ok (.istore 4, 2) := by decide +kernel
theorem dX8_debts_52 : decode cX8_debts 52 = .ok (.iload_n 3, 1) := by decide +kernel
theorem dX8_debts_53 : decode cX8_debts 53 = .ok (.ifCond .ne 9, 3) := by decide +kernel
theorem dX8_debts_56 : decode cX8_debts 56 = .ok (.iload 4, 2) := by decide +kernel
theorem dX8_debts_58 : decode cX8_debts 58 = .ok (.invokestatic 222, 3) := by decide +kernel
theorem dX8_debts_61 : decode cX8_debts 61 = .ok (.ireturn, 1) := by decide +kernel
theorem dX8_debts_62 : decode cX8_debts 62 = .ok (.bipush 10, 2) := by decide +kernel
theorem dX8_debts_64 : decode cX8_debts 64 = .ok (.istore 5, 2) := by decide +kernel
theorem dX8_debts_66 : decode cX8_debts 66 = .ok (.iload 5, 2) := by decide +kernel
theorem dX8_debts_68 : decode cX8_debts 68 = .ok (.iload_n 3, 1) := by decide +kernel
theorem dX8_debts_69 : decode cX8_debts 69 = .ok (.if_icmp .ge 29, 3) := by decide +kernel
theorem dX8_debts_72 : decode cX8_debts 72 = .ok (.iload 4, 2) := by decide +kernel
theorem dX8_debts_74 : decode cX8_debts 74 = .ok (.ifCond .eq 24, 3) := by decide +kernel
theorem dX8_debts_77 : decode cX8_debts 77 = .ok (.iload 4, 2) := by decide +kernel
theorem dX8_debts_79 : decode cX8_debts 79 = .ok (.iconst 1, 1) := by decide +kernel
theorem dX8_debts_80 : decode cX8_debts 80 = .ok (.aload_n 0, 1) := by decide +kernel
theorem dX8_debts_81 : decode cX8_debts 81 = .ok (.iload 4, 2) := by decide +kernel
theorem dX8_debts_83 : decode cX8_debts 83 = .ok (.invokevirtual 203, 3) := by decide +kernel
theorem dX8_debts_86 : decode cX8_debts 86 = .ok (.ishl, 1) := by decide +kernel
theorem dX8_debts_87 : decode cX8_debts 87 = .ok (.iconst (-1), 1) := by decide +kernel
theorem dX8_debts_88 : decode cX8_debts 88 = .ok (.ixor, 1) := by decide +kernel
theorem dX8_debts_89 : decode cX8_debts 89 = .ok (.iand, 1) := by decide +kernel
theorem dX8_debts_90 : decode cX8_debts 90 = .ok (.istore 4, 2) := by decide +kernel
theorem dX8_debts_92 : decode cX8_debts 92 = .ok (.iinc 5 1, 3) := by decide +kernel
theorem dX8_debts_95 : decode cX8_debts 95 = .ok (.goto (-29), 3) := by decide +kernel
theorem dX8_debts_98 : decode cX8_debts 98 = .ok (.iload 4, 2) := by decide +kernel
theorem dX8_debts_100 : decode cX8_debts 100 = .ok (.ifCond .ne 7, 3) := by decide +kernel
theorem dX8_debts_103 : decode cX8_debts 103 = .ok (.iconst (-1), 1) := by decide +kernel
theorem dX8_debts_104 : decode cX8_debts 104 = .ok (.goto 9, 3) := by decide +kernel
theorem dX8_debts_107 : decode cX8_debts 107 = .ok (.aload_n 0, 1) := by decide +kernel
theorem dX8_debts_108 : decode cX8_debts 108 = .ok (.iload 4, 2) := by decide +kernel
theorem dX8_debts_110 : decode cX8_debts 110 = .ok (.invokevirtual 203, 3) := by decide +kernel
theorem dX8_debts_113 : decode cX8_debts 113 = .ok (.ireturn, 1) := by decide +kernel
theorem dX8_isBeaten_0 : decode cX8_isBeaten 0 = .ok (.aload_n 0, 1) := by decide +kernel
theorem dX8_isBeaten_1 : decode cX8_isBeaten 1 = .ok (.iload_n 2, 1) := by decide +kernel
theorem dX8_isBeaten_2 : decode cX8_isBeaten 2 = .ok (.iload_n 1, 1) := by decide +kernel
theorem dX8_isBeaten_3 : decode cX8_isBeaten 3 = .ok (.invokevirtual 200, 3) := by decide +kernel
theorem dX8_isBeaten_6 : decode cX8_isBeaten 6 = .ok (.ifCond .ne 12, 3) := by decide +kernel
theorem dX8_isBeaten_9 : decode cX8_isBeaten 9 = .ok (.aload_n 0, 1) := by decide +kernel
theorem dX8_isBeaten_10 : decode cX8_isBeaten 10 = .ok (.iload_n 3, 1) := by decide +kernel
theorem dX8_isBeaten_11 : decode cX8_isBeaten 11 = .ok (.iload_n 1, 1) := by decide +kernel
theorem dX8_isBeaten_12 : decode cX8_isBeaten 12 = .ok (.invokevirtual 200, 3) := by decide +kernel
theorem dX8_isBeaten_15 : decode cX8_isBeaten 15 = .ok (.ifCond .eq 7, 3) := by decide +kernel
theorem dX8_isBeaten_18 : decode cX8_isBeaten 18 = .ok (.iconst 1, 1) := by decide +kernel
