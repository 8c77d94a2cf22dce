theorem dX10_init_0 : decode cX10_init 0 = .ok (.aload_n 0, 1) := by decide +kernel
theorem dX10_init_1 : decode cX10_init 1 = .ok (.invokespecial 1, 3) := by decide +kernel
theorem dX10_init_4 : decode cX10_init 4 = .ok (.aload_n 0, 1) := by decide +kernel
theorem dX10_init_5 : decode cX10_init 5 = .ok (.bipush 8, 2) := by decide +kernel
theorem dX10_init_7 : decode cX10_init 7 = .ok (.newarray .int, 2) := by decide +kernel
theorem dX10_init_9 : decode cX10_init 9 = .ok (.putfield 7, 3) := by decide +kernel
theorem dX10_init_12 : decode cX10_init 12 = .ok (.aload_n 0, 1) := by decide +kernel
theorem dX10_init_13 : decode cX10_init 13 = .ok (.iconst 5, 1) := by decide +kernel
theorem dX10_init_14 : decode cX10_init 14 = .ok (.newarray .int, 2) := by decide +kernel
theorem dX10_init_16 : decode cX10_init 16 = .ok (.dup, 1) := by decide +kernel
theorem dX10_init_17 : decode cX10_init 17 = .ok (.iconst 0, 1) := by decide +kernel
theorem dX10_init_18 : decode cX10_init 18 = .ok (.iconst 4, 1) := by decide +kernel
theorem dX10_init_19 : decode cX10_init 19 = .ok (.iastore, 1) := by decide +kernel
theorem dX10_init_20 : decode cX10_init 20 = .ok (.dup, 1) := by decide +kernel
theorem dX10_init_21 : decode cX10_init 21 = .ok (.iconst 1, 1) := by decide +kernel
theorem dX10_init_22 : decode cX10_init 22 = .ok (.bipush 8, 2) := by decide +kernel
theorem dX10_init_24 : decode cX10_init 24 = .ok (.iastore, 1) := by decide +kernel
theorem dX10_init_25 : decode cX10_init 25 = .ok (.dup, 1) := by decide +kernel
theorem dX10_init_26 : decode cX10_init 26 = .ok (.iconst 2, 1) := by decide +kernel
theorem dX10_init_27 : decode cX10_init 27 = .ok (.bipush 25, 2) := by decide +kernel
theorem dX10_init_29 : decode cX10_init 29 = .ok (.iastore, 1) := by decide +kernel
theorem dX10_init_30 : decode cX10_init 30 = .ok (.dup, 1) := by decide +kernel
theorem dX10_init_31 : decode cX10_init 31 = .ok (.iconst 3, 1) := by decide +kernel
theorem dX10_init_32 : decode cX10_init 32 = .ok (.bipush 8, 2) := by decide +kernel
theorem dX10_init_34 : decode cX10_init 34 = .ok (.iastore, 1) := by decide +kernel
theorem dX10_init_35 : decode cX10_init 35 = .ok (.dup, 1) := by decide +kernel
theorem dX10_init_36 : decode cX10_init 36 = .ok (.iconst 4, 1) := by decide +kernel
theorem dX10_init_37 : decode cX10_init 37 = .ok (.iconst 2, 1) := by decide +kernel
theorem dX10_init_38 : decode cX10_init 38 = .ok (.iastore, 1) := by decide +kernel
theorem dX10_init_39 : decode cX10_init 39 = .ok (.putfield 13, 3) := by decide +kernel
theorem dX10_init_42 : decode cX10_init 42 = .ok (.aload_n 0, 1) := by decide +kernel
theorem dX10_init_43 : decode cX10_init 43 = .ok (.iconst 5, 1) := by decide +kernel
theorem dX10_init_44 : decode cX10_init 44 = .ok (.newarray .int, 2) := by decide +kernel
theorem dX10_init_46 : decode cX10_init 46 = .ok (.dup, 1) := by decide +kernel
theorem dX10_init_47 : decode cX10_init 47 = .ok (.iconst 0, 1) := by decide +kernel
theorem dX10_init_48 : decode cX10_init 48 = .ok (.iconst 0, 1) := by decide +kernel
theorem dX10_init_49 : decode cX10_init 49 = .ok (.iastore, 1) := by decide +kernel
theorem dX10_init_50 : decode cX10_init 50 = .ok (.dup, 1) := by decide +kernel
theorem dX10_init_51 : decode cX10_init 51 = .ok (.iconst 1, 1) := by decide +kernel
theorem dX10_init_52 : decode cX10_init 52 = .ok (.iconst 1, 1) := by decide +kernel
theorem dX10_init_53 : decode cX10_init 53 = .ok (.iastore, 1) := by decide +kernel
theorem dX10_init_54 : decode cX10_init 54 = .ok (.dup, 1) := by decide +kernel
theorem dX10_init_55 : decode cX10_init 55 = .ok (.iconst 2, 1) := by decide +kernel
theorem dX10_init_56 : decode cX10_init 56 = .ok (.iconst 0, 1) := by decide +kernel
theorem dX10_init_57 : decode cX10_init 57 = .ok (.iastore, 1) := by decide +kernel
theorem dX10_init_58 : decode cX10_init 58 = .ok (.dup, 1) := by decide +kernel
theorem dX10_init_59 : decode cX10_init 59 = .ok (.iconst 3, 1) := by decide +kernel
theorem dX10_init_60 : decode cX10_init 60 = .ok (.iconst 1, 1) := by decide +kernel
theorem dX10_init_61 : decode cX10_init 61 = .ok (.iastore, 1) := by decide +kernel
theorem dX10_init_62 : decode cX10_init 62 = .ok (.dup, 1) := by decide +kernel
theorem dX10_init_63 : decode cX10_init 63 = .ok (.iconst 4, 1) := by decide +kernel
theorem dX10_init_64 : decode cX10_init 64 = .ok (.iconst 1, 1) := by decide +kernel
theorem dX10_init_65 : decode cX10_init 65 = .ok (.iastore, 1) := by decide +kernel
theorem dX10_init_66 : decode cX10_init 66 = .ok (.putfield 16, 3) := by decide +kernel
theorem dX10_init_69 : decode cX10_init 69 = .ok (.aload_n 0, 1) := by decide +kernel
theorem dX10_init_70 : decode cX10_init 70 = .ok (.iconst 5, 1) := by decide +kernel
theorem dX10_init_71 : decode cX10_init 71 = .ok (.newarray .int, 2) := by decide +kernel
theorem dX10_init_73 : decode cX10_init 73 = .ok (.dup, 1) := by decide +kernel
theorem dX10_init_74 : decode cX10_init 74 = .ok (.iconst 0, 1) := by decide +kernel
theorem dX10_init_75 : decode cX10_init 75 = .ok (.bipush 16, 2) := by decide +kernel
theorem dX10_init_77 : decode cX10_init 77 = .ok (.iastore, 1) := by decide +kernel
theorem dX10_init_78 : decode cX10_init 78 = .ok (.dup, 1) := by decide +kernel
theorem dX10_init_79 : decode cX10_init 79 = .ok (.iconst 1, 1) := by decide +kernel
theorem dX10_init_80 : decode cX10_init 80 = .ok (.bipush 16, 2) := by decide +kernel
theorem dX10_init_82 : decode cX10_init 82 = .ok (.iastore, 1) := by decide +kernel
theorem dX10_init_83 : decode cX10_init 83 = .ok (.dup, 1) := by decide +kernel
theorem dX10_init_84 : decode cX10_init 84 = .ok (.iconst 2, 1) := by decide +kernel
theorem dX10_init_85 : decode cX10_init 85 = .ok (.bipush 100, 2) := by decide +kernel
theorem dX10_init_87 : decode cX10_init 87 = .ok (.iastore, 1) := by decide +kernel
theorem dX10_init_88 : decode cX10_init 88 = .ok (.dup, 1) := by decide +kernel
theorem dX10_init_89 : decode cX10_init 89 = .ok (.iconst 3, 1) := by decide +kernel
theorem dX10_init_90 : decode cX10_init 90 = .ok (.bipush 32, 2) := by decide +kernel
theorem dX10_init_92 : decode cX10_init 92 = .ok (.iastore, 1) := by decide +kernel
theorem dX10_init_93 : decode cX10_init 93 = .ok (.dup, 1) := by decide +kernel
theorem dX10_init_94 : decode cX10_init 94 = .ok (.iconst 4, 1) := by decide +kernel
theorem dX10_init_95 : decode cX10_init 95 = .ok (.iconst 4, 1) := by decide +kernel
theorem dX10_init_96 : decode cX10_init 96 = .ok (.iastore, 1) := by decide +kernel
theorem dX10_init_97 : decode cX10_init 97 = .ok (.putfield 19, 3) := by decide +kernel
theorem dX10_init_100 : decode cX10_init 100 = .ok (.aload_n 0, 1) := by decide +kernel
theorem dX10_init_101 : decode cX10_init 101 = .ok (.sipush 1339, 3) := by decide +kernel
theorem dX10_init_104 : decode cX10_init 104 = .ok (.newarray .int, 2) := by decide +kernel
theorem dX10_init_106 : decode cX10_init 106 = .ok (.putfield 22, 3) := by decide +kernel
theorem dX10_init_109 : decode cX10_init 109 = .ok (.aload_n 0, 1) := by decide +kernel
theorem dX10_init_110 : decode cX10_init 110 = .ok (.sipush 665, 3) := by decide +kernel
theorem dX10_init_113 : decode cX10_init 113 = .ok (.newarray .int, 2) := by decide +kernel
theorem dX10_init_115 : decode cX10_init 115 = .ok (.putfield 25, 3) := by decide +kernel
theorem dX10_init_118 : decode cX10_init 118 = .ok (.aload_n 0, 1) := by decide +kernel
theorem dX10_init_119 : decode cX10_init 119 = .ok (.sipush 400, 3) := by decide +kernel
theorem dX10_init_122 : decode cX10_init 122 = .ok (.newarray .int, 2) := by decide +kernel
theorem dX10_init_124 : decode cX10_init 124 = .ok (.putfield 28, 3) := by decide +kernel
theorem dX10_init_127 : decode cX10_init 127 = .ok (.aload_n 0, 1) := by decide +kernel
theorem dX10_init_128 : decode cX10_init 128 = .ok (.iconst (-1), 1) := by decide +kernel
theorem dX10_init_129 : decode cX10_init 129 = .ok (.putfield 31, 3) := by decide +kernel
theorem dX10_init_132 : decode cX10_init 132 = .ok (.aload_n 0, 1) := by decide +kernel
theorem dX10_init_133 : decode cX10_init 133 = .ok (.iconst (-1), 1) := by decide +kernel
theorem dX10_init_134 : decode cX10_init 134 = .ok (.putfield 35, 3) := by decide +kernel
theorem dX10_init_137 : decode cX10_init 137 = .ok (.aload_n 0, 1) := by decide +kernel
theorem dX10_init_138 : decode cX10_init 138 = .ok (.sipush 2600, 3) := by decide +kernel
theorem dX10_init_141 : decode cX10_init 141 = .ok (.newarray .int, 2) := by decide +kernel
theorem dX10_init_143 : decode cX10_init 143 = .ok (.putfield 38, 3) := by decide +kernel
theorem dX10_init_146 : decode cX10_init 146 = .ok (.aload_n 0, 1) := by decide +kernel
theorem dX10_init_147 : decode cX10_init 147 = .ok (.sipush 2600, 3) := by decide +kernel
theorem dX10_init_150 : decode cX10_init 150 = .ok (.newarray .int, 2) := by decide +kernel
theorem dX10_init_152 : decode cX10_init 152 = .ok (.putfield 41, 3) := by decide +kernel
theorem dX10_init_155 : decode cX10_init 155 = .ok (.aload_n 0, 1) := by decide +kernel
theorem dX10_init_156 : decode cX10_init 156 = .ok (.sipush 2700, 3) := by decide +kernel
theorem dX10_init_159 : decode cX10_init 159 = .ok (.newarray .int, 2) := by decide +kernel
theorem dX10_init_161 : decode cX10_init 161 = .ok (.putfield 44, 3) := by decide +kernel
theorem dX10_init_164 : decode cX10_init 164 = .ok (.aload_n 0, 1) := by decide +kernel
theorem dX10_init_165 : decode cX10_init 165 = .ok (.sipush 256, 3) := by decide +kernel
theorem dX10_init_168 : decode cX10_init 168 = .ok (.newarray .int, 2) := by decide +kernel
theorem dX10_init_170 : decode cX10_init 170 = .ok (.putfield 47, 3) := by decide +kernel
theorem dX10_init_173 : decode cX10_init 173 = .ok (.aload_n 0, 1) := by decide +kernel
theorem dX10_init_174 : decode cX10_init 174 = .ok (.sipush 2048, 3) := by decide +kernel
theorem dX10_init_177 : decode cX10_init 177 = .ok (.newarray .int, 2) := by decide +kernel
theorem dX10_init_179 : decode cX10_init 179 = .ok (.putfield 50, 3) := by decide +kernel
theorem dX10_init_182 : decode cX10_init 182 = .ok (.aload_n 0, 1) := by decide +kernel
theorem dX10_init_183 : decode cX10_init 183 = .ok (.sipush 260, 3) := by decide +kernel
theorem dX10_init_186 : decode cX10_init 186 = .ok (.newarray .int, 2) := by decide +kernel
theorem dX10_init_188 : decode cX10_init 188 = .ok (.putfield 53, 3) := by decide +kernel
theorem dX10_init_191 : decode cX10_init 191 = .ok (.aload_n 0, 1) := by decide +kernel
theorem dX10_init_192 : decode cX10_init 192 = .ok (.sipush 260, 3) := by decide +kernel
theorem dX10_init_195 : decode cX10_init 195 = .ok (.newarray .int, 2) := by decide +kernel
theorem dX10_init_197 : decode cX10_init 197 = .ok (.putfield 56, 3) := by decide +kernel
theorem dX10_init_200 : decode cX10_init 200 = .ok (.aload_n 0, 1) := by decide +kernel
theorem dX10_init_201 : decode cX10_init 201 = .ok (.sipush 260, 3) := by decide +kernel
theorem dX10_init_204 : decode cX10_init 204 = .ok (.newarray .int, 2) := by decide +kernel
theorem dX10_init_206 : decode cX10_init 206 = .ok (.putfield 59, 3) := by decide +kernel
theorem dX10_init_209 : decode cX10_init 209 = .ok (.aload_n 0, 1) := by decide +kernel
theorem dX10_init_210 : decode cX10_init 210 = .ok (.sipush 260, 3) := by decide +kernel
theorem dX10_init_213 : decode cX10_init 213 = .ok (.newarray .int, 2) := by decide +kernel
theorem dX10_init_215 : decode cX10_init 215 = .ok (.putfield 62, 3) := by decide +kernel
theorem dX10_init_218 : decode cX10_init 218 = .ok (.aload_n 0, 1) := by decide +kernel
theorem dX10_init_219 : decode cX10_init 219 = .ok (.sipush 21424, 3) := by decide +kernel
theorem dX10_init_222 : decode cX10_init 222 = .ok (.newarray .int, 2) := by decide +kernel
theorem dX10_init_224 : decode cX10_init 224 = .ok (.putfield 65, 3) := by decide +kernel
theorem dX10_init_227 : decode cX10_init 227 = .ok (.aload_n 0, 1) := by decide +kernel
theorem dX10_init_228 : decode cX10_init 228 = .ok (.bipush 16, 2) := by decide +kernel
theorem dX10_init_230 : decode cX10_init 230 = .ok (.newarray .int, 2) := by decide +kernel
theorem dX10_init_232 : decode cX10_init 232 = .ok (.putfield 68, 3) := by decide +kernel
theorem dX10_init_235 : decode cX10_init 235 = .ok (.aload_n 0, 1) := by decide +kernel
theorem dX10_init_236 : decode cX10_init 236 = .ok (.iconst 4, 1) := by decide +kernel
theorem dX10_init_237 : decode cX10_init 237 = .ok (.newarray .int, 2) := by decide +kernel
theorem dX10_init_239 : decode cX10_init 239 = .ok (.putfield 71, 3) := by decide +kernel
theorem dX10_init_242 : decode cX10_init 242 = .ok (.aload_n 0, 1) := by decide +kernel
theorem dX10_init_243 : decode cX10_init 243 = .ok (.bipush 10, 2) := by decide +kernel
theorem dX10_init_245 : decode cX10_init 245 = .ok (.newarray .int, 2) := by decide +kernel
theorem dX10_init_247 : decode cX10_init 247 = .ok (.putfield 74, 3) := by decide +kernel
theorem dX10_init_250 : decode cX10_init 250 = .ok (.aload_n 0, 1) := by decide +kernel
theorem dX10_init_251 : decode cX10_init 251 = .ok (.getfield 22, 3) := by decide +kernel
theorem dX10_init_254 : decode cX10_init 254 = .ok (.sipush 640, 3) := by decide +kernel
theorem dX10_init_257 : decode cX10_init 257 = .ok (.iconst 1, 1) := by decide +kernel
theorem dX10_init_258 : decode cX10_init 258 = .ok (.iastore, 1) := by decide +kernel
theorem dX10_init_259 : decode cX10_init 259 = .ok (.return_, 1) := by decide +kernel
theorem dX10_refuses_0 : decode cX10_refuses 0 = .ok (.aload_n 0, 1) := by decide +kernel
theorem dX10_refuses_1 : decode cX10_refuses 1 = .ok (.iload_n 1, 1) := by decide +kernel
theorem dX10_refuses_2 : decode cX10_refuses 2 = .ok (.putfield 80, 3) := by decide +kernel
theorem dX10_refuses_5 : decode cX10_refuses 5 = .ok (.aload_n 0, 1) := by decide +kernel
theorem dX10_refuses_6 : decode cX10_refuses 6 = .ok (.getfield 7, 3) := by decide +kernel
theorem dX10_refuses_9 : decode cX10_refuses 9 = .ok (.iload_n 1, 1) := by decide +kernel
theorem dX10_refuses_10 : decode cX10_refuses 10 = .ok (.ineg, 1) := by decide +kernel
theorem dX10_refuses_11 : decode cX10_refuses 11 = .ok (.dup2, 1) := by decide +kernel
theorem dX10_refuses_12 : decode cX10_refuses 12 = .ok (.iaload, 1) := by decide +kernel
theorem dX10_refuses_13 : decode cX10_refuses 13 = .ok (.iconst 1, 1) := by decide +kernel
theorem dX10_refuses_14 : decode cX10_refuses 14 = .ok (.iadd, 1) := by decide +kernel
theorem dX10_refuses_15 : decode cX10_refuses 15 = .ok (.iastore, 1) := by decide +kernel
theorem dX10_refuses_16 : decode cX10_refuses 16 = .ok (.iload_n 1, 1) := by decide +kernel
theorem dX10_refuses_17 : decode cX10_refuses 17 = .ok (.ireturn, 1) := by decide +kernel
theorem dX10_tells_0 : decode cX10_tells 0 = .ok (.aload_n 0, 1) := by decide +kernel
theorem dX10_tells_1 : decode cX10_tells 1 = .ok (.iconst 0, 1) := by decide +kernel
theorem dX10_tells_2 : decode cX10_tells 2 = .ok (.putfield 80, 3) := by decide +kernel
theorem dX10_tells_5 : decode cX10_tells 5 = .ok (.iload_n 1, 1) := by decide +kernel
theorem dX10_tells_6 : decode cX10_tells 6 = .ok (.ireturn, 1) := by decide +kernel
theorem dX10_isIn_0 : decode cX10_isIn 0 = .ok (.iload_n 0, 1) := by decide +kernel
theorem dX10_isIn_1 : decode cX10_isIn 1 = .ok (.iload_n 1, 1) := by decide +kernel
theorem dX10_isIn_2 : decode cX10_isIn 2 = .ok (.if_icmp .lt 12, 3) := by decide +kernel
theorem dX10_isIn_5 : decode cX10_isIn 5 = .ok (.iload_n 0, 1) := by decide +kernel
theorem dX10_isIn_6 : decode cX10_isIn 6 = .ok (.iload_n 2, 1) := by decide +kernel
theorem dX10_isIn_7 : decode cX10_isIn 7 = .ok (.if_icmp .gt 7, 3) := by decide +kernel
theorem dX10_isIn_10 : decode cX10_isIn 10 = .ok (.iconst 1, 1) := by decide +kernel
theorem dX10_isIn_11 : decode cX10_isIn 11 = .ok (.goto 4, 3) := by decide +kernel
theorem dX10_isIn_14 : decode cX10_isIn 14 = .ok (.iconst 0, 1) := by decide +kernel
theorem dX10_isIn_15 : decode cX10_isIn 15 = .ok (.ireturn, 1) := by decide +kernel
theorem dX10_isDown_0 : decode cX10_isDown 0 = .ok (.aload_n 0, 1) := by decide +kernel
theorem dX10_isDown_1 : decode cX10_isDown 1 = .ok (.getfield 22, 3) := by decide +kernel
theorem dX10_isDown_4 : decode cX10_isDown 4 = .ok (.sipush 665, 3) := by decide +kernel
theorem dX10_isDown_7 : decode cX10_isDown 7 = .ok (.iaload, 1) := by decide +kernel
theorem dX10_isDown_8 : decode cX10_isDown 8 = .ok (.iconst 1, 1) := by decide +kernel
theorem dX10_isDown_9 : decode cX10_isDown 9 = .ok (.if_icmp .ne 7, 3) := by decide +kernel
theorem dX10_isDown_12 : decode cX10_isDown 12 = .ok (.iconst 1, 1) := by decide +kernel
theorem dX10_isDown_13 : decode cX10_isDown 13 = .ok (.goto 4, 3) := by decide +kernel
theorem dX10_isDown_16 : decode cX10_isDown 16 = .ok (.iconst 0, 1) := by decide +kernel
theorem dX10_isDown_17 : decode cX10_isDown 17 = .ok (.ireturn, 1) := by decide +kernel
theorem dX10_terms_0 : decode cX10_terms 0 = .ok (.aload_n 0, 1) := by decide +kernel
theorem dX10_terms_1 : decode cX10_terms 1 = .ok (.iconst 0, 1) := by decide +kernel
theorem dX10_terms_2 : decode cX10_terms 2 = .ok (.putfield 77, 3) := by decide +kernel
theorem dX10_terms_5 : decode cX10_terms 5 = .ok (.iload_n 1, 1) := by decide +kernel
theorem dX10_terms_6 : decode cX10_terms 6 = .ok (.iconst 0, 1) := by decide +kernel
theorem dX10_terms_7 : decode cX10_terms 7 = .ok (.iconst 4, 1) := by decide +kernel
theorem dX10_terms_8 : decode cX10_terms 8 = .ok (.invokestatic 83, 3) := by decide +kernel
theorem dX10_terms_11 : decode cX10_terms 11 = .ok (.ifCond .eq 22, 3) := by decide +kernel
theorem dX10_terms_14 : decode cX10_terms 14 = .ok (.iload_n 2, 1) := by decide +kernel
theorem dX10_terms_15 : decode cX10_terms 15 = .ok (.aload_n 0, 1) := by decide +kernel
theorem dX10_terms_16 : decode cX10_terms 16 = .ok (.getfield 16, 3) := by decide +kernel
theorem dX10_terms_19 : decode cX10_terms 19 = .ok (.iload_n 1, 1) := by decide +kernel
theorem dX10_terms_20 : decode cX10_terms 20 = .ok (.iaload, 1) := by decide +kernel
theorem dX10_terms_21 : decode cX10_terms 21 = .ok (.aload_n 0, 1) := by decide +kernel
theorem dX10_terms_22 : decode cX10_terms 22 = .ok (.getfield 19, 3) := by decide +kernel
theorem dX10_terms_25 : decode cX10_terms 25 = .ok (.iload_n 1, 1) := by decide +kernel
theorem dX10_terms_26 : decode cX10_terms 26 = .ok (.iaload, 1) := by decide +kernel
theorem dX10_terms_27 : decode cX10_terms 27 = .ok (.invokestatic 83, 3) := by decide +kernel
theorem dX10_terms_30 : decode cX10_terms 30 = .ok (.ifCond .ne 9, 3) := by decide +kernel
theorem dX10_terms_33 : decode cX10_terms 33 = .ok (.aload_n 0, 1) := by decide +kernel
theorem dX10_terms_34 : decode cX10_terms 34 = .ok (.iconst (-1), 1) := by decide +kernel
theorem dX10_terms_35 : decode cX10_terms 35 = .ok (.invokevirtual 87, 3) := by decide +kernel
theorem dX10_terms_38 : decode cX10_terms 38 = .ok (.ireturn, 1) := by decide +kernel
theorem dX10_terms_39 : decode cX10_terms 39 = .ok (.aload_n 0, 1) := by decide +kernel
theorem dX10_terms_40 : decode cX10_terms 40 = .ok (.getfield 13, 3) := by decide +kernel
theorem dX10_terms_43 : decode cX10_terms 43 = .ok (.iload_n 1, 1) := by decide +kernel
theorem dX10_terms_44 : decode cX10_terms 44 = .ok (.iaload, 1) := by decide +kernel
theorem dX10_terms_45 : decode cX10_terms 45 = .ok (.istore_n 3, 1) := by decide +kernel
theorem dX10_terms_46 : decode cX10_terms 46 = .ok (.aload_n 0, 1) := by decide +kernel
theorem dX10_terms_47 : decode cX10_terms 47 = .ok (.getfield 13, 3) := by decide +kernel
theorem dX10_terms_50 : decode cX10_terms 50 = .ok (.iload_n 1, 1) := by decide +kernel
theorem dX10_terms_51 : decode cX10_terms 51 = .ok (.iload_n 2, 1) := by decide +kernel
theorem dX10_terms_52 : decode cX10_terms 52 = .ok (.iastore, 1) := by decide +kernel
theorem dX10_terms_53 : decode cX10_terms 53 = .ok (.iload_n 1, 1) := by decide +kernel
theorem dX10_terms_54 : decode cX10_terms 54 = .ok (.iconst 4, 1) := by decide +kernel
theorem dX10_terms_55 : decode cX10_terms 55 = .ok (.if_icmp .ne 19, 3) := by decide +kernel
theorem dX10_terms_58 : decode cX10_terms 58 = .ok (.aload_n 0, 1) := by decide +kernel
theorem dX10_terms_59 : decode cX10_terms 59 = .ok (.getfield 91, 3) := by decide +kernel
theorem dX10_terms_62 : decode cX10_terms 62 = .ok (.iload_n 2, 1) := by decide +kernel
theorem dX10_terms_63 : decode cX10_terms 63 = .ok (.if_icmp .le 11, 3) := by decide +kernel
theorem dX10_terms_66 : decode cX10_terms 66 = .ok (.aload_n 0, 1) := by decide +kernel
theorem dX10_terms_67 : decode cX10_terms 67 = .ok (.iconst 0, 1) := by decide +kernel
theorem dX10_terms_68 : decode cX10_terms 68 = .ok (.invokevirtual 94, 3) := by decide +kernel
theorem dX10_terms_71 : decode cX10_terms 71 = .ok (.goto (-18), 3) := by decide +kernel
theorem dX10_terms_74 : decode cX10_terms 74 = .ok (.aload_n 0, 1) := by decide +kernel
theorem dX10_terms_75 : decode cX10_terms 75 = .ok (.iload_n 3, 1) := by decide +kernel
theorem dX10_terms_76 : decode cX10_terms 76 = .ok (.invokevirtual 98, 3) := by decide +kernel
theorem dX10_terms_79 : decode cX10_terms 79 = .ok (.ireturn, 1) := by decide +kernel
theorem dX10_types_0 : decode cX10_types 0 = .ok (.bipush 24, 2) := by decide +kernel
theorem dX10_types_2 : decode cX10_types 2 = .ok (.istore_n 2, 1) := by decide +kernel
theorem dX10_types_3 : decode cX10_types 3 = .ok (.iload_n 2, 1) := by decide +kernel
theorem dX10_types_4 : decode cX10_types 4 = .ok (.ifCond .lt 35, 3) := by decide +kernel
theorem dX10_types_7 : decode cX10_types 7 = .ok (.aload_n 0, 1) := by decide +kernel
theorem dX10_types_8 : decode cX10_types 8 = .ok (.getfield 28, 3) := by decide +kernel
theorem dX10_types_11 : decode cX10_types 11 = .ok (.aload_n 0, 1) := by decide +kernel
theorem dX10_types_12 : decode cX10_types 12 = .ok (.getfield 101, 3) := by decide +kernel
theorem dX10_types_15 : decode cX10_types 15 = .ok (.iload_n 1, 1) := by decide +kernel
theorem dX10_types_16 : decode cX10_types 16 = .ok (.iload_n 2, 1) := by decide +kernel
theorem dX10_types_17 : decode cX10_types 17 = .ok (.ishr, 1) := by decide +kernel
theorem dX10_types_18 : decode cX10_types 18 = .ok (.sipush 255, 3) := by decide +kernel
theorem dX10_types_21 : decode cX10_types 21 = .ok (.iand, 1) := by decide +kernel
theorem dX10_types_22 : decode cX10_types 22 = .ok (.iastore, 1) := by decide +kernel
theorem dX10_types_23 : decode cX10_types 23 = .ok (.aload_n 0, 1) := by decide +kernel
theorem dX10_types_24 : decode cX10_types 24 = .ok (.dup, 1) := by decide +kernel
theorem dX10_types_25 : decode cX10_types 25 = .ok (.getfield 101, 3) := by decide +kernel
theorem dX10_types_28 : decode cX10_types 28 = .ok (.iconst 1, 1) := by decide +kernel
theorem dX10_types_29 : decode cX10_types 29 = .ok (.iadd, 1) := by decide +kernel
theorem dX10_types_30 : decode cX10_types 30 = .ok (.putfield 101, 3) := by decide +kernel
theorem dX10_types_33 : decode cX10_types 33 = .ok (.iinc 2 (-8), 3) := by decide +kernel
theorem dX10_types_36 : decode cX10_types 36 = .ok (.goto (-33), 3) := by decide +kernel
theorem dX10_types_39 : decode cX10_types 39 = .ok (.return_, 1) := by decide +kernel
theorem dX10_feed_0 : decode cX10_feed 0 = .ok (.aload_n 0, 1) := by decide +kernel
theorem dX10_feed_1 : decode cX10_feed 1 = .ok (.iconst 0, 1) := by decide +kernel
theorem dX10_feed_2 : decode cX10_feed 2 = .ok (.putfield 77, 3) := by decide +kernel
theorem dX10_feed_5 : decode cX10_feed 5 = .ok (.aload_n 0, 1) := by decide +kernel
theorem dX10_feed_6 : decode cX10_feed 6 = .ok (.getfield 101, 3) := by decide +kernel
theorem dX10_feed_9 : decode cX10_feed 9 = .ok (.sipush 380, 3) := by decide +kernel
theorem dX10_feed_12 : decode cX10_feed 12 = .ok (.if_icmp .le 5, 3) := by decide +kernel
theorem dX10_feed_15 : decode cX10_feed 15 = .ok (.iconst (-1), 1) := by decide +kernel
theorem dX10_feed_16 : decode cX10_feed 16 = .ok (.ireturn, 1) := by decide +kernel
theorem dX10_feed_17 : decode cX10_feed 17 = .ok (.aload_n 0, 1) := by decide +kernel
theorem dX10_feed_18 : decode cX10_feed 18 = .ok (.iload_n 1, 1) := by decide +kernel
theorem dX10_feed_19 : decode cX10_feed 19 = .ok (.invokevirtual 104, 3) := by decide +kernel
theorem dX10_feed_22 : decode cX10_feed 22 = .ok (.aload_n 0, 1) := by decide +kernel
theorem dX10_feed_23 : decode cX10_feed 23 = .ok (.iload_n 2, 1) := by decide +kernel
theorem dX10_feed_24 : decode cX10_feed 24 = .ok (.invokevirtual 104, 3) := by decide +kernel
theorem dX10_feed_27 : decode cX10_feed 27 = .ok (.aload_n 0, 1) := by decide +kernel
theorem dX10_feed_28 : decode cX10_feed 28 = .ok (.iload_n 3, 1) := by decide +kernel
theorem dX10_feed_29 : decode cX10_feed 29 = .ok (.invokevirtual 104, 3) := by decide +kernel
theorem dX10_feed_32 : decode cX10_feed 32 = .ok (.aload_n 0, 1) := by decide +kernel
theorem dX10_feed_33 : decode cX10_feed 33 = .ok (.iload 4, 2) := by decide +kernel
theorem dX10_feed_35 : decode cX10_feed 35 = .ok (.invokevirtual 104, 3) := by decide +kernel
theorem dX10_feed_38 : decode cX10_feed 38 = .ok (.aload_n 0, 1) := by decide +kernel
theorem dX10_feed_39 : decode cX10_feed 39 = .ok (.iload 5, 2) := by decide +kernel
theorem dX10_feed_41 : decode cX10_feed 41 = .ok (.invokevirtual 104, 3) := by decide +kernel
theorem dX10_feed_44 : decode cX10_feed 44 = .ok (.aload_n 0, 1) := by decide +kernel
theorem dX10_feed_45 : decode cX10_feed 45 = .ok (.getfield 101, 3) := by decide +kernel
theorem dX10_feed_48 : decode cX10_feed 48 = .ok (.ireturn, 1) := by decide +kernel
theorem dX10_end_0 : decode cX10_end 0 = .ok (.aload_n 0, 1) := by decide +kernel
theorem dX10_end_1 : decode cX10_end 1 = .ok (.iconst 0, 1) := by decide +kernel
theorem dX10_end_2 : decode cX10_end 2 = .ok (.putfield 77, 3) := by decide +kernel
theorem dX10_end_5 : decode cX10_end 5 = .ok (.iload_n 1, 1) := by decide +kernel
theorem dX10_end_6 : decode cX10_end 6 = .ok (.iconst 0, 1) := by decide +kernel
theorem dX10_end_7 : decode cX10_end 7 = .ok (.aload_n 0, 1) := by decide +kernel
theorem dX10_end_8 : decode cX10_end 8 = .ok (.getfield 101, 3) := by decide +kernel
theorem dX10_end_11 : decode cX10_end 11 = .ok (.invokestatic 83, 3) := by decide +kernel
theorem dX10_end_14 : decode cX10_end 14 = .ok (.ifCond .ne 5, 3) := by decide +kernel
theorem dX10_end_17 : decode cX10_end 17 = .ok (.iconst (-1), 1) := by decide +kernel
theorem dX10_end_18 : decode cX10_end 18 = .ok (.ireturn, 1) := by decide +kernel
theorem dX10_end_19 : decode cX10_end 19 = .ok (.aload_n 0, 1) := by decide +kernel
theorem dX10_end_20 : decode cX10_end 20 = .ok (.iload_n 1, 1) := by decide +kernel
theorem dX10_end_21 : decode cX10_end 21 = .ok (.putfield 101, 3) := by decide +kernel
theorem dX10_end_24 : decode cX10_end 24 = .ok (.iload_n 1, 1) := by decide +kernel
theorem dX10_end_25 : decode cX10_end 25 = .ok (.ireturn, 1) := by decide +kernel
theorem dX10_tape_0 : decode cX10_tape 0 = .ok (.aload_n 0, 1) := by decide +kernel
theorem dX10_tape_1 : decode cX10_tape 1 = .ok (.iconst 0, 1) := by decide +kernel
theorem dX10_tape_2 : decode cX10_tape 2 = .ok (.putfield 77, 3) := by decide +kernel
theorem dX10_tape_5 : decode cX10_tape 5 = .ok (.iload_n 1, 1) := by decide +kernel
theorem dX10_tape_6 : decode cX10_tape 6 = .ok (.iconst 0, 1) := by decide +kernel
theorem dX10_tape_7 : decode cX10_tape 7 = .ok (.aload_n 0, 1) := by decide +kernel
theorem dX10_tape_8 : decode cX10_tape 8 = .ok (.getfield 101, 3) := by decide +kernel
theorem dX10_tape_11 : decode cX10_tape 11 = .ok (.iconst 1, 1) := by decide +kernel
theorem dX10_tape_12 : decode cX10_tape 12 = .ok (.isub, 1) := by decide +kernel
theorem dX10_tape_13 : decode cX10_tape 13 = .ok (.invokestatic 83, 3) := by decide +kernel
theorem dX10_tape_16 : decode cX10_tape 16 = .ok (.ifCond .eq 12, 3) := by decide +kernel
theorem dX10_tape_19 : decode cX10_tape 19 = .ok (.aload_n 0, 1) := by decide +kernel
theorem dX10_tape_20 : decode cX10_tape 20 = .ok (.getfield 28, 3) := by decide +kernel
theorem dX10_tape_23 : decode cX10_tape 23 = .ok (.iload_n 1, 1) := by decide +kernel
theorem dX10_tape_24 : decode cX10_tape 24 = .ok (.iaload, 1) := by decide +kernel
theorem dX10_tape_25 : decode cX10_tape 25 = .ok (.goto 4, 3) := by decide +kernel
theorem dX10_tape_28 : decode cX10_tape 28 = .ok (.iconst (-1), 1) := by decide +kernel
theorem dX10_tape_29 : decode cX10_tape 29 = .ok (.ireturn, 1) := by decide +kernel
theorem dX10_filteredAt_0 : decode cX10_filteredAt 0 = .ok (.iload_n 1, 1) := by decide +kernel
theorem dX10_filteredAt_1 : decode cX10_filteredAt 1 = .ok (.ifCond .le 14, 3) := by decide +kernel
theorem dX10_filteredAt_4 : decode cX10_filteredAt 4 = .ok (.aload_n 0, 1) := by decide +kernel
theorem dX10_filteredAt_5 : decode cX10_filteredAt 5 = .ok (.getfield 38, 3) := by decide +kernel
theorem dX10_filteredAt_8 : decode cX10_filteredAt 8 = .ok (.iload_n 1, 1) := by decide +kernel
theorem dX10_filteredAt_9 : decode cX10_filteredAt 9 = .ok (.iconst 1, 1) := by decide +kernel
theorem dX10_filteredAt_10 : decode cX10_filteredAt 10 = .ok (.isub, 1) := by decide +kernel
theorem dX10_filteredAt_11 : decode cX10_filteredAt 11 = .ok (.iaload, 1) := by decide +kernel
theorem dX10_filteredAt_12 : decode cX10_filteredAt 12 = .ok (.goto 4, 3) := by decide +kernel
theorem dX10_filteredAt_15 : decode cX10_filteredAt 15 = .ok (.iconst 0, 1) := by decide +kernel
theorem dX10_filteredAt_16 : decode cX10_filteredAt 16 = .ok (.istore_n 3, 1) := by decide +kernel
theorem dX10_filteredAt_17 : decode cX10_filteredAt 17 = .ok (.iload_n 1, 1) := by decide +kernel
theorem dX10_filteredAt_18 : decode cX10_filteredAt 18 = .ok (.iconst 1, 1) := by decide +kernel
theorem dX10_filteredAt_19 : decode cX10_filteredAt 19 = .ok (.if_icmp .le 14, 3) := by decide +kernel
theorem dX10_filteredAt_22 : decode cX10_filteredAt 22 = .ok (.aload_n 0, 1) := by decide +kernel
theorem dX10_filteredAt_23 : decode cX10_filteredAt 23 = .ok (.getfield 38, 3) := by decide +kernel
theorem dX10_filteredAt_26 : decode cX10_filteredAt 26 = .ok (.iload_n 1, 1) := by decide +kernel
theorem dX10_filteredAt_27 : decode cX10_filteredAt 27 = .ok (.iconst 2, 1) := by decide +kernel
theorem dX10_filteredAt_28 : decode cX10_filteredAt 28 = .ok (.isub, 1) := by decide +kernel
theorem dX10_filteredAt_29 : decode cX10_filteredAt 29 = .ok (.iaload, 1) := by decide +kernel
theorem dX10_filteredAt_30 : decode cX10_filteredAt 30 = .ok (.goto 4, 3) := by decide +kernel
theorem dX10_filteredAt_33 : decode cX10_filteredAt 33 = .ok (.iconst 0, 1) := by decide +kernel
theorem dX10_filteredAt_34 : decode cX10_filteredAt 34 = .ok (.istore 4, 2) := by decide +kernel
theorem dX10_filteredAt_36 : decode cX10_filteredAt 36 = .ok (.iload_n 2, 1) := by decide +kernel
theorem dX10_filteredAt_37 : decode cX10_filteredAt 37 = .ok (.iconst 1, 1) := by decide +kernel
theorem dX10_filteredAt_38 : decode cX10_filteredAt 38 = .ok (.if_icmp .ne 16, 3) := by decide +kernel
theorem dX10_filteredAt_41 : decode cX10_filteredAt 41 = .ok (.aload_n 0, 1) := by decide +kernel
theorem dX10_filteredAt_42 : decode cX10_filteredAt 42 = .ok (.getfield 38, 3) := by decide +kernel
theorem dX10_filteredAt_45 : decode cX10_filteredAt 45 = .ok (.iload_n 1, 1) := by decide +kernel
theorem dX10_filteredAt_46 : decode cX10_filteredAt 46 = .ok (.iaload, 1) := by decide +kernel
theorem dX10_filteredAt_47 : decode cX10_filteredAt 47 = .ok (.iload_n 3, 1) := by decide +kernel
theorem dX10_filteredAt_48 : decode cX10_filteredAt 48 = .ok (.isub, 1) := by decide +kernel
theorem dX10_filteredAt_49 : decode cX10_filteredAt 49 = .ok (.sipush 255, 3) := by decide +kernel
theorem dX10_filteredAt_52 : decode cX10_filteredAt 52 = .ok (.iand, 1) := by decide +kernel
theorem dX10_filteredAt_53 : decode cX10_filteredAt 53 = .ok (.ireturn, 1) := by decide +kernel
theorem dX10_filteredAt_54 : decode cX10_filteredAt 54 = .ok (.iload_n 2, 1) := by decide +kernel
theorem dX10_filteredAt_55 : decode cX10_filteredAt 55 = .ok (.iconst 2, 1) := by decide +kernel
theorem dX10_filteredAt_56 : decode cX10_filteredAt 56 = .ok (.if_icmp .ne 12, 3) := by decide +kernel
theorem dX10_filteredAt_59 : decode cX10_filteredAt 59 = .ok (.aload_n 0, 1) := by decide +kernel
theorem dX10_filteredAt_60 : decode cX10_filteredAt 60 = .ok (.getfield 38, 3) := by decide +kernel
theorem dX10_filteredAt_63 : decode cX10_filteredAt 63 = .ok (.iload_n 1, 1) := by decide +kernel
theorem dX10_filteredAt_64 : decode cX10_filteredAt 64 = .ok (.iaload, 1) := by decide +kernel
theorem dX10_filteredAt_65 : decode cX10_filteredAt 65 = .ok (.iload_n 3, 1) := by decide +kernel
theorem dX10_filteredAt_66 : decode cX10_filteredAt 66 = .ok (.ixor, 1) := by decide +kernel
theorem dX10_filteredAt_67 : decode cX10_filteredAt 67 = .ok (.ireturn, 1) := by decide +kernel
theorem dX10_filteredAt_68 : decode cX10_filteredAt 68 = .ok (.iload_n 2, 1) := by decide +kernel
theorem dX10_filteredAt_69 : decode cX10_filteredAt 69 = .ok (.iconst 3, 1) := by decide +kernel
theorem dX10_filteredAt_70 : decode cX10_filteredAt 70 = .ok (.if_icmp .ne 19, 3) := by decide +kernel
theorem dX10_filteredAt_73 : decode cX10_filteredAt 73 = .ok (.aload_n 0, 1) := by decide +kernel
theorem dX10_filteredAt_74 : decode cX10_filteredAt 74 = .ok (.getfield 38, 3) := by decide +kernel
theorem dX10_filteredAt_77 : decode cX10_filteredAt 77 = .ok (.iload_n 1, 1) := by decide +kernel
theorem dX10_filteredAt_78 : decode cX10_filteredAt 78 = .ok (.iaload, 1) := by decide +kernel
theorem dX10_filteredAt_79 : decode cX10_filteredAt 79 = .ok (.iload 4, 2) := by decide +kernel
theorem dX10_filteredAt_81 : decode cX10_filteredAt 81 = .ok (.isub, 1) := by decide +kernel
theorem dX10_filteredAt_82 : decode cX10_filteredAt 82 = .ok (.sipush 255, 3) := by decide +kernel
theorem dX10_filteredAt_85 : decode cX10_filteredAt 85 = .ok (.iand, 1) := by decide +kernel
theorem dX10_filteredAt_86 : decode cX10_filteredAt 86 = .ok (.goto 9, 3) := by decide +kernel
theorem dX10_filteredAt_89 : decode cX10_filteredAt 89 = .ok (.aload_n 0, 1) := by decide +kernel
theorem dX10_filteredAt_90 : decode cX10_filteredAt 90 = .ok (.getfield 38, 3) := by decide +kernel
theorem dX10_filteredAt_93 : decode cX10_filteredAt 93 = .ok (.iload_n 1, 1) := by decide +kernel
theorem dX10_filteredAt_94 : decode cX10_filteredAt 94 = .ok (.iaload, 1) := by decide +kernel
theorem dX10_filteredAt_95 : decode cX10_filteredAt 95 = .ok (.ireturn, 1) := by decide +kernel
theorem dX10_likeFrom_0 : decode cX10_likeFrom 0 = .ok (.iconst 0, 1) := by decide +kernel
theorem dX10_likeFrom_1 : decode cX10_likeFrom 1 = .ok (.istore_n 3, 1) := by decide +kernel
theorem dX10_likeFrom_2 : decode cX10_likeFrom 2 = .ok (.iload_n 3, 1) := by decide +kernel
theorem dX10_likeFrom_3 : decode cX10_likeFrom 3 = .ok (.sipush 130, 3) := by decide +kernel
theorem dX10_likeFrom_6 : decode cX10_likeFrom 6 = .ok (.if_icmp .ge 40, 3) := by decide +kernel
theorem dX10_likeFrom_9 : decode cX10_likeFrom 9 = .ok (.iload_n 1, 1) := by decide +kernel
theorem dX10_likeFrom_10 : decode cX10_likeFrom 10 = .ok (.iload_n 3, 1) := by decide +kernel
theorem dX10_likeFrom_11 : decode cX10_likeFrom 11 = .ok (.iadd, 1) := by decide +kernel
theorem dX10_likeFrom_12 : decode cX10_likeFrom 12 = .ok (.aload_n 0, 1) := by decide +kernel
theorem dX10_likeFrom_13 : decode cX10_likeFrom 13 = .ok (.getfield 107, 3) := by decide +kernel
theorem dX10_likeFrom_16 : decode cX10_likeFrom 16 = .ok (.if_icmp .ge 30, 3) := by decide +kernel
theorem dX10_likeFrom_19 : decode cX10_likeFrom 19 = .ok (.aload_n 0, 1) := by decide +kernel
theorem dX10_likeFrom_20 : decode cX10_likeFrom 20 = .ok (.getfield 41, 3) := by decide +kernel
theorem dX10_likeFrom_23 : decode cX10_likeFrom 23 = .ok (.iload_n 1, 1) := by decide +kernel
theorem dX10_likeFrom_24 : decode cX10_likeFrom 24 = .ok (.iload_n 3, 1) := by decide +kernel
theorem dX10_likeFrom_25 : decode cX10_likeFrom 25 = .ok (.iadd, 1) := by decide +kernel
theorem dX10_likeFrom_26 : decode cX10_likeFrom 26 = .ok (.iaload, 1) := by decide +kernel
theorem dX10_likeFrom_27 : decode cX10_likeFrom 27 = .ok (.aload_n 0, 1) := by decide +kernel
theorem dX10_likeFrom_28 : decode cX10_likeFrom 28 = .ok (.getfield 41, 3) := by decide +kernel
theorem dX10_likeFrom_31 : decode cX10_likeFrom 31 = .ok (.iload_n 1, 1) := by decide +kernel
theorem dX10_likeFrom_32 : decode cX10_likeFrom 32 = .ok (.iload_n 3, 1) := by decide +kernel
theorem dX10_likeFrom_33 : decode cX10_likeFrom 33 = .ok (.iadd, 1) := by decide +kernel
theorem dX10_likeFrom_34 : decode cX10_likeFrom 34 = .ok (.iload_n 2, 1) := by decide +kernel
theorem dX10_likeFrom_35 : decode cX10_likeFrom 35 = .ok (.isub, 1) := by decide +kernel
theorem dX10_likeFrom_36 : decode cX10_likeFrom 36 = .ok (.iaload, 1) := by decide +kernel
theorem dX10_likeFrom_37 : decode cX10_likeFrom 37 = .ok (.if_icmp .ne 9, 3) := by decide +kernel
theorem dX10_likeFrom_40 : decode cX10_likeFrom 40 = .ok (.iinc 3 1, 3) := by decide +kernel
theorem dX10_likeFrom_43 : decode cX10_likeFrom 43 = .ok (.goto (-41), 3) := by decide +kernel
theorem dX10_likeFrom_46 : decode cX10_likeFrom 46 = .ok (.iload_n 3, 1) := by decide +kernel
theorem dX10_likeFrom_47 : decode cX10_likeFrom 47 = .ok (.ireturn, 1) := by decide +kernel
theorem dX10_emits_0 : decode cX10_emits 0 = .ok (.aload_n 0, 1) := by decide +kernel
theorem dX10_emits_1 : decode cX10_emits 1 = .ok (.getfield 44, 3) := by decide +kernel
theorem dX10_emits_4 : decode cX10_emits 4 = .ok (.aload_n 0, 1) := by decide +kernel
theorem dX10_emits_5 : decode cX10_emits 5 = .ok (.getfield 110, 3) := by decide +kernel
theorem dX10_emits_8 : decode cX10_emits 8 = .ok (.iload_n 1, 1) := by decide +kernel
theorem dX10_emits_9 : decode cX10_emits 9 = .ok (.iastore, 1) := by decide +kernel
theorem dX10_emits_10 : decode cX10_emits 10 = .ok (.aload_n 0, 1) := by decide +kernel
theorem dX10_emits_11 : decode cX10_emits 11 = .ok (.dup, 1) := by decide +kernel
theorem dX10_emits_12 : decode cX10_emits 12 = .ok (.getfield 110, 3) := by decide +kernel
theorem dX10_emits_15 : decode cX10_emits 15 = .ok (.iconst 1, 1) := by decide +kernel
theorem dX10_emits_16 : decode cX10_emits 16 = .ok (.iadd, 1) := by decide +kernel
theorem dX10_emits_17 : decode cX10_emits 17 = .ok (.putfield 110, 3) := by decide +kernel
theorem dX10_emits_20 : decode cX10_emits 20 = .ok (.return_, 1) := by decide +kernel
theorem dX10_emitsSingle_0 : decode cX10_emitsSingle 0 = .ok (.iload_n 1, 1) := by decide +kernel
theorem dX10_emitsSingle_1 : decode cX10_emitsSingle 1 = .ok (.istore_n 3, 1) := by decide +kernel
theorem dX10_emitsSingle_2 : decode cX10_emitsSingle 2 = .ok (.iload_n 3, 1) := by decide +kernel
theorem dX10_emitsSingle_3 : decode cX10_emitsSingle 3 = .ok (.iload_n 2, 1) := by decide +kernel
theorem dX10_emitsSingle_4 : decode cX10_emitsSingle 4 = .ok (.if_icmp .ge 68, 3) := by decide +kernel
theorem dX10_emitsSingle_7 : decode cX10_emitsSingle 7 = .ok (.iload_n 2, 1) := by decide +kernel
theorem dX10_emitsSingle_8 : decode cX10_emitsSingle 8 = .ok (.iload_n 3, 1) := by decide +kernel
theorem dX10_emitsSingle_9 : decode cX10_emitsSingle 9 = .ok (.isub, 1) := by decide +kernel
theorem dX10_emitsSingle_10 : decode cX10_emitsSingle 10 = .ok (.sipush 128, 3) := by decide +kernel
theorem dX10_emitsSingle_13 : decode cX10_emitsSingle 13 = .ok (.if_icmp .ge 9, 3) := by decide +kernel
theorem dX10_emitsSingle_16 : decode cX10_emitsSingle 16 = .ok (.iload_n 2, 1) := by decide +kernel
theorem dX10_emitsSingle_17 : decode cX10_emitsSingle 17 = .ok (.iload_n 3, 1) := by decide +kernel
theorem dX10_emitsSingle_18 : decode cX10_emitsSingle 18 = .ok (.isub, 1) := by decide +kernel
theorem dX10_emitsSingle_19 : decode cX10_emitsSingle 19 = .ok (.goto 6, 3) := by decide +kernel
theorem dX10_emitsSingle_22 : decode cX10_emitsSingle 22 = .ok (.sipush 128, 3) := by decide +kernel
theorem dX10_emitsSingle_25 : decode cX10_emitsSingle 25 = .ok (.istore 4, 2) := by decide +kernel
theorem dX10_emitsSingle_27 : decode cX10_emitsSingle 27 = .ok (.aload_n 0, 1) := by decide +kernel
theorem dX10_emitsSingle_28 : decode cX10_emitsSingle 28 = .ok (.iload 4, 2) := by decide +kernel
theorem dX10_emitsSingle_30 : decode cX10_emitsSingle 30 = .ok (.iconst 1, 1) := by decide +kernel
theorem dX10_emitsSingle_31 : decode cX10_emitsSingle 31 = .ok (.isub, 1) := by decide +kernel
theorem dX10_emitsSingle_32 : decode cX10_emitsSingle 32 = .ok (.invokevirtual 113, 3) := by decide +kernel
theorem dX10_emitsSingle_35 : decode cX10_emitsSingle 35 = .ok (.iconst 0, 1) := by decide +kernel
theorem dX10_emitsSingle_36 : decode cX10_emitsSingle 36 = .ok (.istore 5, 2) := by decide +kernel
theorem dX10_emitsSingle_38 : decode cX10_emitsSingle 38 = .ok (.iload 5, 2) := by decide +kernel
theorem dX10_emitsSingle_40 : decode cX10_emitsSingle 40 = .ok (.iload 4, 2) := by decide +kernel
theorem dX10_emitsSingle_42 : decode cX10_emitsSingle 42 = .ok (.if_icmp .ge 22, 3) := by decide +kernel
theorem dX10_emitsSingle_45 : decode cX10_emitsSingle 45 = .ok (.aload_n 0, 1) := by decide +kernel
theorem dX10_emitsSingle_46 : decode cX10_emitsSingle 46 = .ok (.aload_n 0, 1) := by decide +kernel
theorem dX10_emitsSingle_47 : decode cX10_emitsSingle 47 = .ok (.getfield 41, 3) := by decide +kernel
theorem dX10_emitsSingle_50 : decode cX10_emitsSingle 50 = .ok (.iload_n 3, 1) := by decide +kernel
theorem dX10_emitsSingle_51 : decode cX10_emitsSingle 51 = .ok (.iload 5, 2) := by decide +kernel
theorem dX10_emitsSingle_53 : decode cX10_emitsSingle 53 = .ok (.iadd, 1) := by decide +kernel
theorem dX10_emitsSingle_54 : decode cX10_emitsSingle 54 = .ok (.iaload, 1) := by decide +kernel
theorem dX10_emitsSingle_55 : decode cX10_emitsSingle 55 = .ok (.invokevirtual 113, 3) := by decide +kernel
theorem dX10_emitsSingle_58 : decode cX10_emitsSingle 58 = .ok (.iinc 5 1, 3) := by decide +kernel
theorem dX10_emitsSingle_61 : decode cX10_emitsSingle 61 = .ok (.goto (-23), 3) := by decide +kernel
theorem dX10_emitsSingle_64 : decode cX10_emitsSingle 64 = .ok (.iload_n 3, 1) := by decide +kernel
theorem dX10_emitsSingle_65 : decode cX10_emitsSingle 65 = .ok (.iload 4, 2) := by decide +kernel
theorem dX10_emitsSingle_67 : decode cX10_emitsSingle 67 = .ok (.iadd, 1) := by decide +kernel
theorem dX10_emitsSingle_68 : decode cX10_emitsSingle 68 = .ok (.istore_n 3, 1) := by decide +kernel
theorem dX10_emitsSingle_69 : decode cX10_emitsSingle 69 = .ok (.goto (-67), 3) := by decide +kernel
theorem dX10_emitsSingle_72 : decode cX10_emitsSingle 72 = .ok (.return_, 1) := by decide +kernel
theorem dX10_packs_0 : decode cX10_packs 0 = .ok (.iconst 0, 1) := by decide +kernel
theorem dX10_packs_1 : decode cX10_packs 1 = .ok (.istore_n 2, 1) := by decide +kernel
theorem dX10_packs_2 : decode cX10_packs 2 = .ok (.iload_n 2, 1) := by decide +kernel
theorem dX10_packs_3 : decode cX10_packs 3 = .ok (.aload_n 0, 1) := by decide +kernel
theorem dX10_packs_4 : decode cX10_packs 4 = .ok (.getfield 107, 3) := by decide +kernel
theorem dX10_packs_7 : decode cX10_packs 7 = .ok (.if_icmp .ge 21, 3) := by decide +kernel
theorem dX10_packs_10 : decode cX10_packs 10 = .ok (.aload_n 0, 1) := by decide +kernel
theorem dX10_packs_11 : decode cX10_packs 11 = .ok (.getfield 41, 3) := by decide +kernel
theorem dX10_packs_14 : decode cX10_packs 14 = .ok (.iload_n 2, 1) := by decide +kernel
theorem dX10_packs_15 : decode cX10_packs 15 = .ok (.aload_n 0, 1) := by decide +kernel
theorem dX10_packs_16 : decode cX10_packs 16 = .ok (.iload_n 2, 1) := by decide +kernel
theorem dX10_packs_17 : decode cX10_packs 17 = .ok (.iload_n 1, 1) := by decide +kernel
theorem dX10_packs_18 : decode cX10_packs 18 = .ok (.invokevirtual 116, 3) := by decide +kernel
theorem dX10_packs_21 : decode cX10_packs 21 = .ok (.iastore, 1) := by decide +kernel
theorem dX10_packs_22 : decode cX10_packs 22 = .ok (.iinc 2 1, 3) := by decide +kernel
theorem dX10_packs_25 : decode cX10_packs 25 = .ok (.goto (-23), 3) := by decide +kernel
theorem dX10_packs_28 : decode cX10_packs 28 = .ok (.aload_n 0, 1) := by decide +kernel
theorem dX10_packs_29 : decode cX10_packs 29 = .ok (.iconst 0, 1) := by decide +kernel
theorem dX10_packs_30 : decode cX10_packs 30 = .ok (.putfield 110, 3) := by decide +kernel
theorem dX10_packs_33 : decode cX10_packs 33 = .ok (.iconst 0, 1) := by decide +kernel
theorem dX10_packs_34 : decode cX10_packs 34 = .ok (.istore_n 2, 1) := by decide +kernel
theorem dX10_packs_35 : decode cX10_packs 35 = .ok (.iconst 0, 1) := by decide +kernel
theorem dX10_packs_36 : decode cX10_packs 36 = .ok (.istore_n 3, 1) := by decide +kernel
theorem dX10_packs_37 : decode cX10_packs 37 = .ok (.iload_n 3, 1) := by decide +kernel
theorem dX10_packs_38 : decode cX10_packs 38 = .ok (.aload_n 0, 1) := by decide +kernel
theorem dX10_packs_39 : decode cX10_packs 39 = .ok (.getfield 107, 3) := by decide +kernel
theorem dX10_packs_42 : decode cX10_packs 42 = .ok (.if_icmp .ge 100, 3) := by decide +kernel
theorem dX10_packs_45 : decode cX10_packs 45 = .ok (.iconst 2, 1) := by decide +kernel
theorem dX10_packs_46 : decode cX10_packs 46 = .ok (.istore 4, 2) := by decide +kernel
theorem dX10_packs_48 : decode cX10_packs 48 = .ok (.iconst 0, 1) := by decide +kernel
theorem dX10_packs_49 : decode cX10_packs 49 = .ok (.istore 5, 2) := by decide +kernel
theorem dX10_packs_51 : decode cX10_packs 51 = .ok (.iconst 1, 1) := by decide +kernel
theorem dX10_packs_52 : decode cX10_packs 52 = .ok (.istore 6, 2) := by decide +kernel
theorem dX10_packs_54 : decode cX10_packs 54 = .ok (.iload 6, 2) := by decide +kernel
theorem dX10_packs_56 : decode cX10_packs 56 = .ok (.bipush 127, 2) := by decide +kernel
theorem dX10_packs_58 : decode cX10_packs 58 = .ok (.if_icmp .gt 42, 3) := by decide +kernel
theorem dX10_packs_61 : decode cX10_packs 61 = .ok (.iload 6, 2) := by decide +kernel
theorem dX10_packs_63 : decode cX10_packs 63 = .ok (.iload_n 3, 1) := by decide +kernel
theorem dX10_packs_64 : decode cX10_packs 64 = .ok (.if_icmp .gt 36, 3) := by decide +kernel
theorem dX10_packs_67 : decode cX10_packs 67 = .ok (.aload_n 0, 1) := by decide +kernel
theorem dX10_packs_68 : decode cX10_packs 68 = .ok (.iload_n 3, 1) := by decide +kernel
theorem dX10_packs_69 : decode cX10_packs 69 = .ok (.iload 6, 2) := by decide +kernel
theorem dX10_packs_71 : decode cX10_packs 71 = .ok (.invokevirtual 120, 3) := by decide +kernel
theorem dX10_packs_74 : decode cX10_packs 74 = .ok (.istore 7, 2) := by decide +kernel
theorem dX10_packs_76 : decode cX10_packs 76 = .ok (.iload 7, 2) := by decide +kernel
theorem dX10_packs_78 : decode cX10_packs 78 = .ok (.iload 4, 2) := by decide +kernel
theorem dX10_packs_80 : decode cX10_packs 80 = .ok (.if_icmp .gt 6, 3) := by decide +kernel
theorem dX10_packs_83 : decode cX10_packs 83 = .ok (.goto 11, 3) := by decide +kernel
theorem dX10_packs_86 : decode cX10_packs 86 = .ok (.iload 7, 2) := by decide +kernel
theorem dX10_packs_88 : decode cX10_packs 88 = .ok (.istore 4, 2) := by decide +kernel
theorem dX10_packs_90 : decode cX10_packs 90 = .ok (.iload 6, 2) := by decide +kernel
theorem dX10_packs_92 : decode cX10_packs 92 = .ok (.istore 5, 2) := by decide +kernel
theorem dX10_packs_94 : decode cX10_packs 94 = .ok (.iinc 6 1, 3) := by decide +kernel
theorem dX10_packs_97 : decode cX10_packs 97 = .ok (.goto (-43), 3) := by decide +kernel
theorem dX10_packs_100 : decode cX10_packs 100 = .ok (.iload 5, 2) := by decide +kernel
theorem dX10_packs_102 : decode cX10_packs 102 = .ok (.ifCond .ne 9, 3) := by decide +kernel
theorem dX10_packs_105 : decode cX10_packs 105 = .ok (.iinc 3 1, 3) := by decide +kernel
theorem dX10_packs_108 : decode cX10_packs 108 = .ok (.goto (-71), 3) := by decide +kernel
theorem dX10_packs_111 : decode cX10_packs 111 = .ok (.aload_n 0, 1) := by decide +kernel
theorem dX10_packs_112 : decode cX10_packs 112 = .ok (.iload_n 2, 1) := by decide +kernel
theorem dX10_packs_113 : decode cX10_packs 113 = .ok (.iload_n 3, 1) := by decide +kernel
theorem dX10_packs_114 : decode cX10_packs 114 = .ok (.invokevirtual 123, 3) := by decide +kernel
theorem dX10_packs_117 : decode cX10_packs 117 = .ok (.aload_n 0, 1) := by decide +kernel
theorem dX10_packs_118 : decode cX10_packs 118 = .ok (.bipush 125, 2) := by decide +kernel
theorem dX10_packs_120 : decode cX10_packs 120 = .ok (.iload 4, 2) := by decide +kernel
theorem dX10_packs_122 : decode cX10_packs 122 = .ok (.iadd, 1) := by decide +kernel
theorem dX10_packs_123 : decode cX10_packs 123 = .ok (.invokevirtual 113, 3) := by decide +kernel
theorem dX10_packs_126 : decode cX10_packs 126 = .ok (.aload_n 0, 1) := by decide +kernel
theorem dX10_packs_127 : decode cX10_packs 127 = .ok (.iload 5, 2) := by decide +kernel
theorem dX10_packs_129 : decode cX10_packs 129 = .ok (.invokevirtual 113, 3) := by decide +kernel
theorem dX10_packs_132 : decode cX10_packs 132 = .ok (.iload_n 3, 1) := by decide +kernel
theorem dX10_packs_133 : decode cX10_packs 133 = .ok (.iload 4, 2) := by decide +kernel
theorem dX10_packs_135 : decode cX10_packs 135 = .ok (.iadd, 1) := by decide +kernel
theorem dX10_packs_136 : decode cX10_packs 136 = .ok (.istore_n 3, 1) := by decide +kernel
theorem dX10_packs_137 : decode cX10_packs 137 = .ok (.iload_n 3, 1) := by decide +kernel
theorem dX10_packs_138 : decode cX10_packs 138 = .ok (.istore_n 2, 1) := by decide +kernel
theorem dX10_packs_139 : decode cX10_packs 139 = .ok (.goto (-102), 3) := by decide +kernel
theorem dX10_packs_142 : decode cX10_packs 142 = .ok (.aload_n 0, 1) := by decide +kernel
theorem dX10_packs_143 : decode cX10_packs 143 = .ok (.iload_n 2, 1) := by decide +kernel
theorem dX10_packs_144 : decode cX10_packs 144 = .ok (.aload_n 0, 1) := by decide +kernel
theorem dX10_packs_145 : decode cX10_packs 145 = .ok (.getfield 107, 3) := by decide +kernel
theorem dX10_packs_148 : decode cX10_packs 148 = .ok (.invokevirtual 123, 3) := by decide +kernel
theorem dX10_packs_151 : decode cX10_packs 151 = .ok (.aload_n 0, 1) := by decide +kernel
theorem dX10_packs_152 : decode cX10_packs 152 = .ok (.getfield 110, 3) := by decide +kernel
theorem dX10_packs_155 : decode cX10_packs 155 = .ok (.ireturn, 1) := by decide +kernel
theorem dX10_shapeOf_0 : decode cX10_shapeOf 0 = .ok (.iconst 0, 1) := by decide +kernel
theorem dX10_shapeOf_1 : decode cX10_shapeOf 1 = .ok (.istore_n 1, 1) := by decide +kernel
theorem dX10_shapeOf_2 : decode cX10_shapeOf 2 = .ok (.aload_n 0, 1) := by decide +kernel
theorem dX10_shapeOf_3 : decode cX10_shapeOf 3 = .ok (.iconst 0, 1) := by decide +kernel
theorem dX10_shapeOf_4 : decode cX10_shapeOf 4 = .ok (.invokevirtual 127, 3) := by decide +kernel
theorem dX10_shapeOf_7 : decode cX10_shapeOf 7 = .ok (.istore_n 2, 1) := by decide +kernel
theorem dX10_shapeOf_8 : decode cX10_shapeOf 8 = .ok (.iconst 1, 1) := by decide +kernel
theorem dX10_shapeOf_9 : decode cX10_shapeOf 9 = .ok (.istore_n 3, 1) := by decide +kernel
theorem dX10_shapeOf_10 : decode cX10_shapeOf 10 = .ok (.iload_n 3, 1) := by decide +kernel
theorem dX10_shapeOf_11 : decode cX10_shapeOf 11 = .ok (.iconst 4, 1) := by decide +kernel
theorem dX10_shapeOf_12 : decode cX10_shapeOf 12 = .ok (.if_icmp .ge 30, 3) := by decide +kernel
theorem dX10_shapeOf_15 : decode cX10_shapeOf 15 = .ok (.aload_n 0, 1) := by decide +kernel
theorem dX10_shapeOf_16 : decode cX10_shapeOf 16 = .ok (.iload_n 3, 1) := by decide +kernel
theorem dX10_shapeOf_17 : decode cX10_shapeOf 17 = .ok (.invokevirtual 127, 3) := by decide +kernel
theorem dX10_shapeOf_20 : decode cX10_shapeOf 20 = .ok (.istore 4, 2) := by decide +kernel
theorem dX10_shapeOf_22 : decode cX10_shapeOf 22 = .ok (.iload 4, 2) := by decide +kernel
theorem dX10_shapeOf_24 : decode cX10_shapeOf 24 = .ok (.iload_n 2, 1) := by decide +kernel
theorem dX10_shapeOf_25 : decode cX10_shapeOf 25 = .ok (.if_icmp .lt 6, 3) := by decide +kernel
theorem dX10_shapeOf_28 : decode cX10_shapeOf 28 = .ok (.goto 8, 3) := by decide +kernel
theorem dX10_shapeOf_31 : decode cX10_shapeOf 31 = .ok (.iload 4, 2) := by decide +kernel
theorem dX10_shapeOf_33 : decode cX10_shapeOf 33 = .ok (.istore_n 2, 1) := by decide +kernel
theorem dX10_shapeOf_34 : decode cX10_shapeOf 34 = .ok (.iload_n 3, 1) := by decide +kernel
theorem dX10_shapeOf_35 : decode cX10_shapeOf 35 = .ok (.istore_n 1, 1) := by decide +kernel
theorem dX10_shapeOf_36 : decode cX10_shapeOf 36 = .ok (.iinc 3 1, 3) := by decide +kernel
theorem dX10_shapeOf_39 : decode cX10_shapeOf 39 = .ok (.goto (-29), 3) := by decide +kernel
theorem dX10_shapeOf_42 : decode cX10_shapeOf 42 = .ok (.aload_n 0, 1) := by decide +kernel
theorem dX10_shapeOf_43 : decode cX10_shapeOf 43 = .ok (.iload_n 1, 1) := by decide +kernel
theorem dX10_shapeOf_44 : decode cX10_shapeOf 44 = .ok (.invokevirtual 127, 3) := by decide +kernel
theorem dX10_shapeOf_47 : decode cX10_shapeOf 47 = .ok (.pop, 1) := by decide +kernel
theorem dX10_shapeOf_48 : decode cX10_shapeOf 48 = .ok (.iload_n 1, 1) := by decide +kernel
theorem dX10_shapeOf_49 : decode cX10_shapeOf 49 = .ok (.ireturn, 1) := by decide +kernel
theorem dX10_unpacks_0 : decode cX10_unpacks 0 = .ok (.aload_n 0, 1) := by decide +kernel
theorem dX10_unpacks_1 : decode cX10_unpacks 1 = .ok (.iconst 0, 1) := by decide +kernel
theorem dX10_unpacks_2 : decode cX10_unpacks 2 = .ok (.putfield 107, 3) := by decide +kernel
theorem dX10_unpacks_5 : decode cX10_unpacks 5 = .ok (.iconst 0, 1) := by decide +kernel
theorem dX10_unpacks_6 : decode cX10_unpacks 6 = .ok (.istore 5, 2) := by decide +kernel
theorem dX10_unpacks_8 : decode cX10_unpacks 8 = .ok (.iload 5, 2) := by decide +kernel
theorem dX10_unpacks_10 : decode cX10_unpacks 10 = .ok (.iload_n 3, 1) := by decide +kernel
theorem dX10_unpacks_11 : decode cX10_unpacks 11 = .ok (.if_icmp .ge 204, 3) := by decide +kernel
theorem dX10_unpacks_14 : decode cX10_unpacks 14 = .ok (.aload_n 1, 1) := by decide +kernel
theorem dX10_unpacks_15 : decode cX10_unpacks 15 = .ok (.iload_n 2, 1) := by decide +kernel
theorem dX10_unpacks_16 : decode cX10_unpacks 16 = .ok (.iload 5, 2) := by decide +kernel
theorem dX10_unpacks_18 : decode cX10_unpacks 18 = .ok (.iadd, 1) := by decide +kernel
theorem dX10_unpacks_19 : decode cX10_unpacks 19 = .ok (.iaload, 1) := by decide +kernel
theorem dX10_unpacks_20 : decode cX10_unpacks 20 = .ok (.istore 6, 2) := by decide +kernel
theorem dX10_unpacks_22 : decode cX10_unpacks 22 = .ok (.iload 6, 2) := by decide +kernel
theorem dX10_unpacks_24 : decode cX10_unpacks 24 = .ok (.sipush 128, 3) := by decide +kernel
theorem dX10_unpacks_27 : decode cX10_unpacks 27 = .ok (.if_icmp .ge 10, 3) := by decide +kernel
theorem dX10_unpacks_30 : decode cX10_unpacks 30 = .ok (.iload 6, 2) := by decide +kernel
theorem dX10_unpacks_32 : decode cX10_unpacks 32 = .ok (.iconst 1, 1) := by decide +kernel
theorem dX10_unpacks_33 : decode cX10_unpacks 33 = .ok (.iadd, 1) := by decide +kernel
theorem dX10_unpacks_34 : decode cX10_unpacks 34 = .ok (.goto 8, 3) := by decide +kernel
theorem dX10_unpacks_37 : decode cX10_unpacks 37 = .ok (.iload 6, 2) := by decide +kernel
theorem dX10_unpacks_39 : decode cX10_unpacks 39 = .ok (.bipush 125, 2) := by decide +kernel
theorem dX10_unpacks_41 : decode cX10_unpacks 41 = .ok (.isub, 1) := by decide +kernel
theorem dX10_unpacks_42 : decode cX10_unpacks 42 = .ok (.istore 7, 2) := by decide +kernel
theorem dX10_unpacks_44 : decode cX10_unpacks 44 = .ok (.aload_n 0, 1) := by decide +kernel
theorem dX10_unpacks_45 : decode cX10_unpacks 45 = .ok (.getfield 107, 3) := by decide +kernel
theorem dX10_unpacks_48 : decode cX10_unpacks 48 = .ok (.iload 7, 2) := by decide +kernel
theorem dX10_unpacks_50 : decode cX10_unpacks 50 = .ok (.iadd, 1) := by decide +kernel
theorem dX10_unpacks_51 : decode cX10_unpacks 51 = .ok (.sipush 400, 3) := by decide +kernel
theorem dX10_unpacks_54 : decode cX10_unpacks 54 = .ok (.if_icmp .le 10, 3) := by decide +kernel
theorem dX10_unpacks_57 : decode cX10_unpacks 57 = .ok (.aload_n 0, 1) := by decide +kernel
theorem dX10_unpacks_58 : decode cX10_unpacks 58 = .ok (.iload 5, 2) := by decide +kernel
theorem dX10_unpacks_60 : decode cX10_unpacks 60 = .ok (.invokevirtual 130, 3) := by decide +kernel
theorem dX10_unpacks_63 : decode cX10_unpacks 63 = .ok (.ireturn, 1) := by decide +kernel
theorem dX10_unpacks_64 : decode cX10_unpacks 64 = .ok (.iinc 5 1, 3) := by decide +kernel
theorem dX10_unpacks_67 : decode cX10_unpacks 67 = .ok (.iload 6, 2) := by decide +kernel
theorem dX10_unpacks_69 : decode cX10_unpacks 69 = .ok (.sipush 128, 3) := by decide +kernel
theorem dX10_unpacks_72 : decode cX10_unpacks 72 = .ok (.if_icmp .ge 57, 3) := by decide +kernel
theorem dX10_unpacks_75 : decode cX10_unpacks 75 = .ok (.iload 5, 2) := by decide +kernel
theorem dX10_unpacks_77 : decode cX10_unpacks 77 = .ok (.iload 7, 2) := by decide +kernel
theorem dX10_unpacks_79 : decode cX10_unpacks 79 = .ok (.iadd, 1) := by decide +kernel
theorem dX10_unpacks_80 : decode cX10_unpacks 80 = .ok (.iload_n 3, 1) := by decide +kernel
theorem dX10_unpacks_81 : decode cX10_unpacks 81 = .ok (.if_icmp .le 9, 3) := by decide +kernel
theorem dX10_unpacks_84 : decode cX10_unpacks 84 = .ok (.aload_n 0, 1) := by decide +kernel
theorem dX10_unpacks_85 : decode cX10_unpacks 85 = .ok (.iload_n 3, 1) := by decide +kernel
theorem dX10_unpacks_86 : decode cX10_unpacks 86 = .ok (.invokevirtual 130, 3) := by decide +kernel
theorem dX10_unpacks_89 : decode cX10_unpacks 89 = .ok (.ireturn, 1) := by decide +kernel
theorem dX10_unpacks_90 : decode cX10_unpacks 90 = .ok (.iconst 0, 1) := by decide +kernel
theorem dX10_unpacks_91 : decode cX10_unpacks 91 = .ok (.istore 8, 2) := by decide +kernel
theorem dX10_unpacks_93 : decode cX10_unpacks 93 = .ok (.iload 8, 2) := by decide +kernel
theorem dX10_unpacks_95 : decode cX10_unpacks 95 = .ok (.iload 7, 2) := by decide +kernel
theorem dX10_unpacks_97 : decode cX10_unpacks 97 = .ok (.if_icmp .ge 22, 3) := by decide +kernel
theorem dX10_unpacks_100 : decode cX10_unpacks 100 = .ok (.aload_n 0, 1) := by decide +kernel
theorem dX10_unpacks_101 : decode cX10_unpacks 101 = .ok (.aload_n 1, 1) := by decide +kernel
theorem dX10_unpacks_102 : decode cX10_unpacks 102 = .ok (.iload_n 2, 1) := by decide +kernel
theorem dX10_unpacks_103 : decode cX10_unpacks 103 = .ok (.iload 5, 2) := by decide +kernel
theorem dX10_unpacks_105 : decode cX10_unpacks 105 = .ok (.iadd, 1) := by decide +kernel
theorem dX10_unpacks_106 : decode cX10_unpacks 106 = .ok (.iload 8, 2) := by decide +kernel
theorem dX10_unpacks_108 : decode cX10_unpacks 108 = .ok (.iadd, 1) := by decide +kernel
theorem dX10_unpacks_109 : decode cX10_unpacks 109 = .ok (.iaload, 1) := by decide +kernel
theorem dX10_unpacks_110 : decode cX10_unpacks 110 = .ok (.invokevirtual 134, 3) := by decide +kernel
theorem dX10_unpacks_113 : decode cX10_unpacks 113 = .ok (.iinc 8 1, 3) := by decide +kernel
theorem dX10_unpacks_116 : decode cX10_unpacks 116 = .ok (.goto (-23), 3) := by decide +kernel
theorem dX10_unpacks_119 : decode cX10_unpacks 119 = .ok (.iload 5, 2) := by decide +kernel
theorem dX10_unpacks_121 : decode cX10_unpacks 121 = .ok (.iload 7, 2) := by decide +kernel
theorem dX10_unpacks_123 : decode cX10_unpacks 123 = .ok (.iadd, 1) := by decide +kernel
theorem dX10_unpacks_124 : decode cX10_unpacks 124 = .ok (.istore 5, 2) := by decide +kernel
theorem dX10_unpacks_126 : decode cX10_unpacks 126 = .ok (.goto 86, 3) := by decide +kernel
theorem dX10_unpacks_129 : decode cX10_unpacks 129 = .ok (.iload 5, 2) := by decide +kernel
theorem dX10_unpacks_131 : decode cX10_unpacks 131 = .ok (.iload_n 3, 1) := by decide +kernel
theorem dX10_unpacks_132 : decode cX10_unpacks 132 = .ok (.if_icmp .ne 9, 3) := by decide +kernel
theorem dX10_unpacks_135 : decode cX10_unpacks 135 = .ok (.aload_n 0, 1) := by decide +kernel
theorem dX10_unpacks_136 : decode cX10_unpacks 136 = .ok (.iload_n 3, 1) := by decide +kernel
theorem dX10_unpacks_137 : decode cX10_unpacks 137 = .ok (.invokevirtual 130, 3) := by decide +kernel
theorem dX10_unpacks_140 : decode cX10_unpacks 140 = .ok (.ireturn, 1) := by decide +kernel
theorem dX10_unpacks_141 : decode cX10_unpacks 141 = .ok (.aload_n 1, 1) := by decide +kernel
theorem dX10_unpacks_142 : decode cX10_unpacks 142 = .ok (.iload_n 2, 1) := by decide +kernel
theorem dX10_unpacks_143 : decode cX10_unpacks 143 = .ok (.iload 5, 2) := by decide +kernel
theorem dX10_unpacks_145 : decode cX10_unpacks 145 = .ok (.iadd, 1) := by decide +kernel
theorem dX10_unpacks_146 : decode cX10_unpacks 146 = .ok (.iaload, 1) := by decide +kernel
theorem dX10_unpacks_147 : decode cX10_unpacks 147 = .ok (.istore 8, 2) := by decide +kernel
theorem dX10_unpacks_149 : decode cX10_unpacks 149 = .ok (.iload 8, 2) := by decide +kernel
theorem dX10_unpacks_151 : decode cX10_unpacks 151 = .ok (.ifCond .eq 19, 3) := by decide +kernel
theorem dX10_unpacks_154 : decode cX10_unpacks 154 = .ok (.iload 8, 2) := by decide +kernel
theorem dX10_unpacks_156 : decode cX10_unpacks 156 = .ok (.bipush 127, 2) := by decide +kernel
theorem dX10_unpacks_158 : decode cX10_unpacks 158 = .ok (.if_icmp .gt 12, 3) := by decide +kernel
theorem dX10_unpacks_161 : decode cX10_unpacks 161 = .ok (.iload 8, 2) := by decide +kernel
theorem dX10_unpacks_163 : decode cX10_unpacks 163 = .ok (.aload_n 0, 1) := by decide +kernel
theorem dX10_unpacks_164 : decode cX10_unpacks 164 = .ok (.getfield 107, 3) := by decide +kernel
theorem dX10_unpacks_167 : decode cX10_unpacks 167 = .ok (.if_icmp .le 10, 3) := by decide +kernel
theorem dX10_unpacks_170 : decode cX10_unpacks 170 = .ok (.aload_n 0, 1) := by decide +kernel
theorem dX10_unpacks_171 : decode cX10_unpacks 171 = .ok (.iload 5, 2) := by decide +kernel
theorem dX10_unpacks_173 : decode cX10_unpacks 173 = .ok (.invokevirtual 130, 3) := by decide +kernel
theorem dX10_unpacks_176 : decode cX10_unpacks 176 = .ok (.ireturn, 1) := by decide +kernel
theorem dX10_unpacks_177 : decode cX10_unpacks 177 = .ok (.iconst 0, 1) := by decide +kernel
theorem dX10_unpacks_178 : decode cX10_unpacks 178 = .ok (.istore 9, 2) := by decide +kernel
theorem dX10_unpacks_180 : decode cX10_unpacks 180 = .ok (.iload 9, 2) := by decide +kernel
theorem dX10_unpacks_182 : decode cX10_unpacks 182 = .ok (.iload 7, 2) := by decide +kernel
theorem dX10_unpacks_184 : decode cX10_unpacks 184 = .ok (.if_icmp .ge 25, 3) := by decide +kernel
theorem dX10_unpacks_187 : decode cX10_unpacks 187 = .ok (.aload_n 0, 1) := by decide +kernel
theorem dX10_unpacks_188 : decode cX10_unpacks 188 = .ok (.aload_n 0, 1) := by decide +kernel
theorem dX10_unpacks_189 : decode cX10_unpacks 189 = .ok (.getfield 38, 3) := by decide +kernel
theorem dX10_unpacks_192 : decode cX10_unpacks 192 = .ok (.aload_n 0, 1) := by decide +kernel
theorem dX10_unpacks_193 : decode cX10_unpacks 193 = .ok (.getfield 107, 3) := by decide +kernel
theorem dX10_unpacks_196 : decode cX10_unpacks 196 = .ok (.iload 8, 2) := by decide +kernel
theorem dX10_unpacks_198 : decode cX10_unpacks 198 = .ok (.isub, 1) := by decide +kernel
theorem dX10_unpacks_199 : decode cX10_unpacks 199 = .ok (.iaload, 1) := by decide +kernel
theorem dX10_unpacks_200 : decode cX10_unpacks 200 = .ok (.invokevirtual 134, 3) := by decide +kernel
theorem dX10_unpacks_203 : decode cX10_unpacks 203 = .ok (.iinc 9 1, 3) := by decide +kernel
theorem dX10_unpacks_206 : decode cX10_unpacks 206 = .ok (.goto (-26), 3) := by decide +kernel
theorem dX10_unpacks_209 : decode cX10_unpacks 209 = .ok (.iinc 5 1, 3) := by decide +kernel
theorem dX10_unpacks_212 : decode cX10_unpacks 212 = .ok (.goto (-204), 3) := by decide +kernel
theorem dX10_unpacks_215 : decode cX10_unpacks 215 = .ok (.iconst 0, 1) := by decide +kernel
theorem dX10_unpacks_216 : decode cX10_unpacks 216 = .ok (.istore 6, 2) := by decide +kernel
theorem dX10_unpacks_218 : decode cX10_unpacks 218 = .ok (.iload 6, 2) := by decide +kernel
theorem dX10_unpacks_220 : decode cX10_unpacks 220 = .ok (.aload_n 0, 1) := by decide +kernel
theorem dX10_unpacks_221 : decode cX10_unpacks 221 = .ok (.getfield 107, 3) := by decide +kernel
theorem dX10_unpacks_224 : decode cX10_unpacks 224 = .ok (.if_icmp .ge 127, 3) := by decide +kernel
theorem dX10_unpacks_227 : decode cX10_unpacks 227 = .ok (.iload 6, 2) := by decide +kernel
theorem dX10_unpacks_229 : decode cX10_unpacks 229 = .ok (.ifCond .le 15, 3) := by decide +kernel
theorem dX10_unpacks_232 : decode cX10_unpacks 232 = .ok (.aload_n 0, 1) := by decide +kernel
theorem dX10_unpacks_233 : decode cX10_unpacks 233 = .ok (.getfield 38, 3) := by decide +kernel
theorem dX10_unpacks_236 : decode cX10_unpacks 236 = .ok (.iload 6, 2) := by decide +kernel
theorem dX10_unpacks_238 : decode cX10_unpacks 238 = .ok (.iconst 1, 1) := by decide +kernel
theorem dX10_unpacks_239 : decode cX10_unpacks 239 = .ok (.isub, 1) := by decide +kernel
theorem dX10_unpacks_240 : decode cX10_unpacks 240 = .ok (.iaload, 1) := by decide +kernel
theorem dX10_unpacks_241 : decode cX10_unpacks 241 = .ok (.goto 4, 3) := by decide +kernel
theorem dX10_unpacks_244 : decode cX10_unpacks 244 = .ok (.iconst 0, 1) := by decide +kernel
theorem dX10_unpacks_245 : decode cX10_unpacks 245 = .ok (.istore 7, 2) := by decide +kernel
theorem dX10_unpacks_247 : decode cX10_unpacks 247 = .ok (.iload 6, 2) := by decide +kernel
theorem dX10_unpacks_249 : decode cX10_unpacks 249 = .ok (.iconst 1, 1) := by decide +kernel
theorem dX10_unpacks_250 : decode cX10_unpacks 250 = .ok (.if_icmp .le 15, 3) := by decide +kernel
theorem dX10_unpacks_253 : decode cX10_unpacks 253 = .ok (.aload_n 0, 1) := by decide +kernel
theorem dX10_unpacks_254 : decode cX10_unpacks 254 = .ok (.getfield 38, 3) := by decide +kernel
theorem dX10_unpacks_257 : decode cX10_unpacks 257 = .ok (.iload 6, 2) := by decide +kernel
theorem dX10_unpacks_259 : decode cX10_unpacks 259 = .ok (.iconst 2, 1) := by decide +kernel
theorem dX10_unpacks_260 : decode cX10_unpacks 260 = .ok (.isub, 1) := by decide +kernel
theorem dX10_unpacks_261 : decode cX10_unpacks 261 = .ok (.iaload, 1) := by decide +kernel
theorem dX10_unpacks_262 : decode cX10_unpacks 262 = .ok (.goto 4, 3) := by decide +kernel
theorem dX10_unpacks_265 : decode cX10_unpacks 265 = .ok (.iconst 0, 1) := by decide +kernel
theorem dX10_unpacks_266 : decode cX10_unpacks 266 = .ok (.istore 8, 2) := by decide +kernel
theorem dX10_unpacks_268 : decode cX10_unpacks 268 = .ok (.iload 4, 2) := by decide +kernel
theorem dX10_unpacks_270 : decode cX10_unpacks 270 = .ok (.iconst 1, 1) := by decide +kernel
theorem dX10_unpacks_271 : decode cX10_unpacks 271 = .ok (.if_icmp .ne 24, 3) := by decide +kernel
theorem dX10_unpacks_274 : decode cX10_unpacks 274 = .ok (.aload_n 0, 1) := by decide +kernel
theorem dX10_unpacks_275 : decode cX10_unpacks 275 = .ok (.getfield 38, 3) := by decide +kernel
theorem dX10_unpacks_278 : decode cX10_unpacks 278 = .ok (.iload 6, 2) := by decide +kernel
theorem dX10_unpacks_280 : decode cX10_unpacks 280 = .ok (.aload_n 0, 1) := by decide +kernel
theorem dX10_unpacks_281 : decode cX10_unpacks 281 = .ok (.getfield 38, 3) := by decide +kernel
theorem dX10_unpacks_284 : decode cX10_unpacks 284 = .ok (.iload 6, 2) := by decide +kernel
theorem dX10_unpacks_286 : decode cX10_unpacks 286 = .ok (.iaload, 1) := by decide +kernel
theorem dX10_unpacks_287 : decode cX10_unpacks 287 = .ok (.iload 7, 2) := by decide +kernel
theorem dX10_unpacks_289 : decode cX10_unpacks 289 = .ok (.iadd, 1) := by decide +kernel
theorem dX10_unpacks_290 : decode cX10_unpacks 290 = .ok (.sipush 255, 3) := by decide +kernel
theorem dX10_unpacks_293 : decode cX10_unpacks 293 = .ok (.iand, 1) := by decide +kernel
theorem dX10_unpacks_294 : decode cX10_unpacks 294 = .ok (.iastore, 1) := by decide +kernel
theorem dX10_unpacks_295 : decode cX10_unpacks 295 = .ok (.iload 4, 2) := by decide +kernel
theorem dX10_unpacks_297 : decode cX10_unpacks 297 = .ok (.iconst 2, 1) := by decide +kernel
theorem dX10_unpacks_298 : decode cX10_unpacks 298 = .ok (.if_icmp .ne 20, 3) := by decide +kernel
theorem dX10_unpacks_301 : decode cX10_unpacks 301 = .ok (.aload_n 0, 1) := by decide +kernel
theorem dX10_unpacks_302 : decode cX10_unpacks 302 = .ok (.getfield 38, 3) := by decide +kernel
theorem dX10_unpacks_305 : decode cX10_unpacks 305 = .ok (.iload 6, 2) := by decide +kernel
theorem dX10_unpacks_307 : decode cX10_unpacks 307 = .ok (.aload_n 0, 1) := by decide +kernel
theorem dX10_unpacks_308 : decode cX10_unpacks 308 = .ok (.getfield 38, 3) := by decide +kernel
theorem dX10_unpacks_311 : decode cX10_unpacks 311 = .ok (.iload 6, 2) := by decide +kernel
theorem dX10_unpacks_313 : decode cX10_unpacks 313 = .ok (.iaload, 1) := by decide +kernel
theorem dX10_unpacks_314 : decode cX10_unpacks 314 = .ok (.iload 7, 2) := by decide +kernel
theorem dX10_unpacks_316 : decode cX10_unpacks 316 = .ok (.ixor, 1) := by decide +kernel
theorem dX10_unpacks_317 : decode cX10_unpacks 317 = .ok (.iastore, 1) := by decide +kernel
theorem dX10_unpacks_318 : decode cX10_unpacks 318 = .ok (.iload 4, 2) := by decide +kernel
theorem dX10_unpacks_320 : decode cX10_unpacks 320 = .ok (.iconst 3, 1) := by decide +kernel
theorem dX10_unpacks_321 : decode cX10_unpacks 321 = .ok (.if_icmp .ne 24, 3) := by decide +kernel
theorem dX10_unpacks_324 : decode cX10_unpacks 324 = .ok (.aload_n 0, 1) := by decide +kernel
theorem dX10_unpacks_325 : decode cX10_unpacks 325 = .ok (.getfield 38, 3) := by decide +kernel
theorem dX10_unpacks_328 : decode cX10_unpacks 328 = .ok (.iload 6, 2) := by decide +kernel
theorem dX10_unpacks_330 : decode cX10_unpacks 330 = .ok (.aload_n 0, 1) := by decide +kernel
theorem dX10_unpacks_331 : decode cX10_unpacks 331 = .ok (.getfield 38, 3) := by decide +kernel
theorem dX10_unpacks_334 : decode cX10_unpacks 334 = .ok (.iload 6, 2) := by decide +kernel
theorem dX10_unpacks_336 : decode cX10_unpacks 336 = .ok (.iaload, 1) := by decide +kernel
theorem dX10_unpacks_337 : decode cX10_unpacks 337 = .ok (.iload 8, 2) := by decide +kernel
theorem dX10_unpacks_339 : decode cX10_unpacks 339 = .ok (.iadd, 1) := by decide +kernel
theorem dX10_unpacks_340 : decode cX10_unpacks 340 = .ok (.sipush 255, 3) := by decide +kernel
theorem dX10_unpacks_343 : decode cX10_unpacks 343 = .ok (.iand, 1) := by decide +kernel
theorem dX10_unpacks_344 : decode cX10_unpacks 344 = .ok (.iastore, 1) := by decide +kernel
theorem dX10_unpacks_345 : decode cX10_unpacks 345 = .ok (.iinc 6 1, 3) := by decide +kernel
theorem dX10_unpacks_348 : decode cX10_unpacks 348 = .ok (.goto (-130), 3) := by decide +kernel
theorem dX10_unpacks_351 : decode cX10_unpacks 351 = .ok (.aload_n 0, 1) := by decide +kernel
theorem dX10_unpacks_352 : decode cX10_unpacks 352 = .ok (.iconst (-1), 1) := by decide +kernel
theorem dX10_unpacks_353 : decode cX10_unpacks 353 = .ok (.putfield 137, 3) := by decide +kernel
theorem dX10_unpacks_356 : decode cX10_unpacks 356 = .ok (.iconst 1, 1) := by decide +kernel
theorem dX10_unpacks_357 : decode cX10_unpacks 357 = .ok (.ireturn, 1) := by decide +kernel
theorem dX10_comesOut_0 : decode cX10_comesOut 0 = .ok (.aload_n 0, 1) := by decide +kernel
theorem dX10_comesOut_1 : decode cX10_comesOut 1 = .ok (.getfield 38, 3) := by decide +kernel
theorem dX10_comesOut_4 : decode cX10_comesOut 4 = .ok (.aload_n 0, 1) := by decide +kernel
theorem dX10_comesOut_5 : decode cX10_comesOut 5 = .ok (.getfield 107, 3) := by decide +kernel
theorem dX10_comesOut_8 : decode cX10_comesOut 8 = .ok (.iload_n 1, 1) := by decide +kernel
theorem dX10_comesOut_9 : decode cX10_comesOut 9 = .ok (.iastore, 1) := by decide +kernel
theorem dX10_comesOut_10 : decode cX10_comesOut 10 = .ok (.aload_n 0, 1) := by decide +kernel
theorem dX10_comesOut_11 : decode cX10_comesOut 11 = .ok (.dup, 1) := by decide +kernel
theorem dX10_comesOut_12 : decode cX10_comesOut 12 = .ok (.getfield 107, 3) := by decide +kernel
theorem dX10_comesOut_15 : decode cX10_comesOut 15 = .ok (.iconst 1, 1) := by decide +kernel
theorem dX10_comesOut_16 : decode cX10_comesOut 16 = .ok (.iadd, 1) := by decide +kernel
theorem dX10_comesOut_17 : decode cX10_comesOut 17 = .ok (.putfield 107, 3) := by decide +kernel
theorem dX10_comesOut_20 : decode cX10_comesOut 20 = .ok (.return_, 1) := by decide +kernel
theorem dX10_flawed_0 : decode cX10_flawed 0 = .ok (.aload_n 0, 1) := by decide +kernel
theorem dX10_flawed_1 : decode cX10_flawed 1 = .ok (.iload_n 1, 1) := by decide +kernel
theorem dX10_flawed_2 : decode cX10_flawed 2 = .ok (.putfield 137, 3) := by decide +kernel
theorem dX10_flawed_5 : decode cX10_flawed 5 = .ok (.iconst 0, 1) := by decide +kernel
theorem dX10_flawed_6 : decode cX10_flawed 6 = .ok (.ireturn, 1) := by decide +kernel
theorem dX10_pack_0 : decode cX10_pack 0 = .ok (.aload_n 0, 1) := by decide +kernel
theorem dX10_pack_1 : decode cX10_pack 1 = .ok (.iconst 0, 1) := by decide +kernel
theorem dX10_pack_2 : decode cX10_pack 2 = .ok (.putfield 77, 3) := by decide +kernel
theorem dX10_pack_5 : decode cX10_pack 5 = .ok (.iload_n 1, 1) := by decide +kernel
theorem dX10_pack_6 : decode cX10_pack 6 = .ok (.iconst (-1), 1) := by decide +kernel
theorem dX10_pack_7 : decode cX10_pack 7 = .ok (.iconst 3, 1) := by decide +kernel
theorem dX10_pack_8 : decode cX10_pack 8 = .ok (.invokestatic 83, 3) := by decide +kernel
theorem dX10_pack_11 : decode cX10_pack 11 = .ok (.ifCond .ne 9, 3) := by decide +kernel
theorem dX10_pack_14 : decode cX10_pack 14 = .ok (.aload_n 0, 1) := by decide +kernel
theorem dX10_pack_15 : decode cX10_pack 15 = .ok (.iconst (-1), 1) := by decide +kernel
theorem dX10_pack_16 : decode cX10_pack 16 = .ok (.invokevirtual 87, 3) := by decide +kernel
theorem dX10_pack_19 : decode cX10_pack 19 = .ok (.ireturn, 1) := by decide +kernel
theorem dX10_pack_20 : decode cX10_pack 20 = .ok (.aload_n 0, 1) := by decide +kernel
theorem dX10_pack_21 : decode cX10_pack 21 = .ok (.aload_n 0, 1) := by decide +kernel
theorem dX10_pack_22 : decode cX10_pack 22 = .ok (.getfield 101, 3) := by decide +kernel
theorem dX10_pack_25 : decode cX10_pack 25 = .ok (.putfield 107, 3) := by decide +kernel
theorem dX10_pack_28 : decode cX10_pack 28 = .ok (.iconst 0, 1) := by decide +kernel
theorem dX10_pack_29 : decode cX10_pack 29 = .ok (.istore_n 2, 1) := by decide +kernel
theorem dX10_pack_30 : decode cX10_pack 30 = .ok (.iload_n 2, 1) := by decide +kernel
theorem dX10_pack_31 : decode cX10_pack 31 = .ok (.aload_n 0, 1) := by decide +kernel
theorem dX10_pack_32 : decode cX10_pack 32 = .ok (.getfield 101, 3) := by decide +kernel
theorem dX10_pack_35 : decode cX10_pack 35 = .ok (.if_icmp .ge 21, 3) := by decide +kernel
theorem dX10_pack_38 : decode cX10_pack 38 = .ok (.aload_n 0, 1) := by decide +kernel
theorem dX10_pack_39 : decode cX10_pack 39 = .ok (.getfield 38, 3) := by decide +kernel
theorem dX10_pack_42 : decode cX10_pack 42 = .ok (.iload_n 2, 1) := by decide +kernel
theorem dX10_pack_43 : decode cX10_pack 43 = .ok (.aload_n 0, 1) := by decide +kernel
theorem dX10_pack_44 : decode cX10_pack 44 = .ok (.getfield 28, 3) := by decide +kernel
theorem dX10_pack_47 : decode cX10_pack 47 = .ok (.iload_n 2, 1) := by decide +kernel
theorem dX10_pack_48 : decode cX10_pack 48 = .ok (.iaload, 1) := by decide +kernel
theorem dX10_pack_49 : decode cX10_pack 49 = .ok (.iastore, 1) := by decide +kernel
theorem dX10_pack_50 : decode cX10_pack 50 = .ok (.iinc 2 1, 3) := by decide +kernel
theorem dX10_pack_53 : decode cX10_pack 53 = .ok (.goto (-23), 3) := by decide +kernel
theorem dX10_pack_56 : decode cX10_pack 56 = .ok (.iload_n 1, 1) := by decide +kernel
theorem dX10_pack_57 : decode cX10_pack 57 = .ok (.iconst (-1), 1) := by decide +kernel
theorem dX10_pack_58 : decode cX10_pack 58 = .ok (.if_icmp .ne 11, 3) := by decide +kernel
theorem dX10_pack_61 : decode cX10_pack 61 = .ok (.aload_n 0, 1) := by decide +kernel
theorem dX10_pack_62 : decode cX10_pack 62 = .ok (.invokevirtual 140, 3) := by decide +kernel
theorem dX10_pack_65 : decode cX10_pack 65 = .ok (.istore_n 2, 1) := by decide +kernel
theorem dX10_pack_66 : decode cX10_pack 66 = .ok (.goto 9, 3) := by decide +kernel
theorem dX10_pack_69 : decode cX10_pack 69 = .ok (.aload_n 0, 1) := by decide +kernel
theorem dX10_pack_70 : decode cX10_pack 70 = .ok (.iload_n 1, 1) := by decide +kernel
theorem dX10_pack_71 : decode cX10_pack 71 = .ok (.invokevirtual 127, 3) := by decide +kernel
theorem dX10_pack_74 : decode cX10_pack 74 = .ok (.istore_n 2, 1) := by decide +kernel
theorem dX10_pack_75 : decode cX10_pack 75 = .ok (.aload_n 0, 1) := by decide +kernel
theorem dX10_pack_76 : decode cX10_pack 76 = .ok (.getfield 110, 3) := by decide +kernel
theorem dX10_pack_79 : decode cX10_pack 79 = .ok (.sipush 400, 3) := by decide +kernel
theorem dX10_pack_82 : decode cX10_pack 82 = .ok (.if_icmp .le 10, 3) := by decide +kernel
theorem dX10_pack_85 : decode cX10_pack 85 = .ok (.aload_n 0, 1) := by decide +kernel
theorem dX10_pack_86 : decode cX10_pack 86 = .ok (.bipush (-5), 2) := by decide +kernel
theorem dX10_pack_88 : decode cX10_pack 88 = .ok (.invokevirtual 87, 3) := by decide +kernel
theorem dX10_pack_91 : decode cX10_pack 91 = .ok (.ireturn, 1) := by decide +kernel
theorem dX10_pack_92 : decode cX10_pack 92 = .ok (.aload_n 0, 1) := by decide +kernel
theorem dX10_pack_93 : decode cX10_pack 93 = .ok (.aload_n 0, 1) := by decide +kernel
theorem dX10_pack_94 : decode cX10_pack 94 = .ok (.getfield 110, 3) := by decide +kernel
theorem dX10_pack_97 : decode cX10_pack 97 = .ok (.putfield 101, 3) := by decide +kernel
theorem dX10_pack_100 : decode cX10_pack 100 = .ok (.iconst 0, 1) := by decide +kernel
theorem dX10_pack_101 : decode cX10_pack 101 = .ok (.istore_n 2, 1) := by decide +kernel
theorem dX10_pack_102 : decode cX10_pack 102 = .ok (.iload_n 2, 1) := by decide +kernel
theorem dX10_pack_103 : decode cX10_pack 103 = .ok (.aload_n 0, 1) := by decide +kernel
theorem dX10_pack_104 : decode cX10_pack 104 = .ok (.getfield 101, 3) := by decide +kernel
theorem dX10_pack_107 : decode cX10_pack 107 = .ok (.if_icmp .ge 21, 3) := by decide +kernel
theorem dX10_pack_110 : decode cX10_pack 110 = .ok (.aload_n 0, 1) := by decide +kernel
theorem dX10_pack_111 : decode cX10_pack 111 = .ok (.getfield 28, 3) := by decide +kernel
theorem dX10_pack_114 : decode cX10_pack 114 = .ok (.iload_n 2, 1) := by decide +kernel
theorem dX10_pack_115 : decode cX10_pack 115 = .ok (.aload_n 0, 1) := by decide +kernel
theorem dX10_pack_116 : decode cX10_pack 116 = .ok (.getfield 44, 3) := by decide +kernel
theorem dX10_pack_119 : decode cX10_pack 119 = .ok (.iload_n 2, 1) := by decide +kernel
theorem dX10_pack_120 : decode cX10_pack 120 = .ok (.iaload, 1) := by decide +kernel
theorem dX10_pack_121 : decode cX10_pack 121 = .ok (.iastore, 1) := by decide +kernel
theorem dX10_pack_122 : decode cX10_pack 122 = .ok (.iinc 2 1, 3) := by decide +kernel
theorem dX10_pack_125 : decode cX10_pack 125 = .ok (.goto (-23), 3) := by decide +kernel
theorem dX10_pack_128 : decode cX10_pack 128 = .ok (.aload_n 0, 1) := by decide +kernel
theorem dX10_pack_129 : decode cX10_pack 129 = .ok (.aload_n 0, 1) := by decide +kernel
theorem dX10_pack_130 : decode cX10_pack 130 = .ok (.getfield 101, 3) := by decide +kernel
theorem dX10_pack_133 : decode cX10_pack 133 = .ok (.invokevirtual 98, 3) := by decide +kernel
theorem dX10_pack_136 : decode cX10_pack 136 = .ok (.ireturn, 1) := by decide +kernel
theorem dX10_unpack_0 : decode cX10_unpack 0 = .ok (.aload_n 0, 1) := by decide +kernel
theorem dX10_unpack_1 : decode cX10_unpack 1 = .ok (.iconst 0, 1) := by decide +kernel
theorem dX10_unpack_2 : decode cX10_unpack 2 = .ok (.putfield 77, 3) := by decide +kernel
theorem dX10_unpack_5 : decode cX10_unpack 5 = .ok (.iload_n 1, 1) := by decide +kernel
theorem dX10_unpack_6 : decode cX10_unpack 6 = .ok (.iconst 0, 1) := by decide +kernel
theorem dX10_unpack_7 : decode cX10_unpack 7 = .ok (.iconst 3, 1) := by decide +kernel
theorem dX10_unpack_8 : decode cX10_unpack 8 = .ok (.invokestatic 83, 3) := by decide +kernel
theorem dX10_unpack_11 : decode cX10_unpack 11 = .ok (.ifCond .ne 9, 3) := by decide +kernel
theorem dX10_unpack_14 : decode cX10_unpack 14 = .ok (.aload_n 0, 1) := by decide +kernel
theorem dX10_unpack_15 : decode cX10_unpack 15 = .ok (.iconst (-1), 1) := by decide +kernel
theorem dX10_unpack_16 : decode cX10_unpack 16 = .ok (.invokevirtual 87, 3) := by decide +kernel
theorem dX10_unpack_19 : decode cX10_unpack 19 = .ok (.ireturn, 1) := by decide +kernel
theorem dX10_unpack_20 : decode cX10_unpack 20 = .ok (.aload_n 0, 1) := by decide +kernel
theorem dX10_unpack_21 : decode cX10_unpack 21 = .ok (.aload_n 0, 1) := by decide +kernel
theorem dX10_unpack_22 : decode cX10_unpack 22 = .ok (.getfield 28, 3) := by decide +kernel
theorem dX10_unpack_25 : decode cX10_unpack 25 = .ok (.iconst 0, 1) := by decide +kernel
theorem dX10_unpack_26 : decode cX10_unpack 26 = .ok (.aload_n 0, 1) := by decide +kernel
theorem dX10_unpack_27 : decode cX10_unpack 27 = .ok (.getfield 101, 3) := by decide +kernel
theorem dX10_unpack_30 : decode cX10_unpack 30 = .ok (.iload_n 1, 1) := by decide +kernel
theorem dX10_unpack_31 : decode cX10_unpack 31 = .ok (.invokevirtual 144, 3) := by decide +kernel
theorem dX10_unpack_34 : decode cX10_unpack 34 = .ok (.istore_n 2, 1) := by decide +kernel
theorem dX10_unpack_35 : decode cX10_unpack 35 = .ok (.aload_n 0, 1) := by decide +kernel
theorem dX10_unpack_36 : decode cX10_unpack 36 = .ok (.aload_n 0, 1) := by decide +kernel
theorem dX10_unpack_37 : decode cX10_unpack 37 = .ok (.getfield 137, 3) := by decide +kernel
theorem dX10_unpack_40 : decode cX10_unpack 40 = .ok (.putfield 31, 3) := by decide +kernel
theorem dX10_unpack_43 : decode cX10_unpack 43 = .ok (.iload_n 2, 1) := by decide +kernel
theorem dX10_unpack_44 : decode cX10_unpack 44 = .ok (.ifCond .ne 10, 3) := by decide +kernel
theorem dX10_unpack_47 : decode cX10_unpack 47 = .ok (.aload_n 0, 1) := by decide +kernel
theorem dX10_unpack_48 : decode cX10_unpack 48 = .ok (.bipush (-6), 2) := by decide +kernel
theorem dX10_unpack_50 : decode cX10_unpack 50 = .ok (.invokevirtual 87, 3) := by decide +kernel
theorem dX10_unpack_53 : decode cX10_unpack 53 = .ok (.ireturn, 1) := by decide +kernel
theorem dX10_unpack_54 : decode cX10_unpack 54 = .ok (.aload_n 0, 1) := by decide +kernel
theorem dX10_unpack_55 : decode cX10_unpack 55 = .ok (.aload_n 0, 1) := by decide +kernel
theorem dX10_unpack_56 : decode cX10_unpack 56 = .ok (.getfield 107, 3) := by decide +kernel
theorem dX10_unpack_59 : decode cX10_unpack 59 = .ok (.putfield 101, 3) := by decide +kernel
theorem dX10_unpack_62 : decode cX10_unpack 62 = .ok (.iconst 0, 1) := by decide +kernel
theorem dX10_unpack_63 : decode cX10_unpack 63 = .ok (.istore_n 3, 1) := by decide +kernel
theorem dX10_unpack_64 : decode cX10_unpack 64 = .ok (.iload_n 3, 1) := by decide +kernel
theorem dX10_unpack_65 : decode cX10_unpack 65 = .ok (.aload_n 0, 1) := by decide +kernel
theorem dX10_unpack_66 : decode cX10_unpack 66 = .ok (.getfield 101, 3) := by decide +kernel
theorem dX10_unpack_69 : decode cX10_unpack 69 = .ok (.if_icmp .ge 21, 3) := by decide +kernel
theorem dX10_unpack_72 : decode cX10_unpack 72 = .ok (.aload_n 0, 1) := by decide +kernel
theorem dX10_unpack_73 : decode cX10_unpack 73 = .ok (.getfield 28, 3) := by decide +kernel
theorem dX10_unpack_76 : decode cX10_unpack 76 = .ok (.iload_n 3, 1) := by decide +kernel
theorem dX10_unpack_77 : decode cX10_unpack 77 = .ok (.aload_n 0, 1) := by decide +kernel
theorem dX10_unpack_78 : decode cX10_unpack 78 = .ok (.getfield 38, 3) := by decide +kernel
theorem dX10_unpack_81 : decode cX10_unpack 81 = .ok (.iload_n 3, 1) := by decide +kernel
theorem dX10_unpack_82 : decode cX10_unpack 82 = .ok (.iaload, 1) := by decide +kernel
theorem dX10_unpack_83 : decode cX10_unpack 83 = .ok (.iastore, 1) := by decide +kernel
theorem dX10_unpack_84 : decode cX10_unpack 84 = .ok (.iinc 3 1, 3) := by decide +kernel
theorem dX10_unpack_87 : decode cX10_unpack 87 = .ok (.goto (-23), 3) := by decide +kernel
theorem dX10_unpack_90 : decode cX10_unpack 90 = .ok (.aload_n 0, 1) := by decide +kernel
theorem dX10_unpack_91 : decode cX10_unpack 91 = .ok (.aload_n 0, 1) := by decide +kernel
theorem dX10_unpack_92 : decode cX10_unpack 92 = .ok (.getfield 101, 3) := by decide +kernel
theorem dX10_unpack_95 : decode cX10_unpack 95 = .ok (.invokevirtual 98, 3) := by decide +kernel
theorem dX10_unpack_98 : decode cX10_unpack 98 = .ok (.ireturn, 1) := by decide +kernel
theorem dX10_flaw_0 : decode cX10_flaw 0 = .ok (.aload_n 0, 1) := by decide +kernel
theorem dX10_flaw_1 : decode cX10_flaw 1 = .ok (.iconst 0, 1) := by decide +kernel
theorem dX10_flaw_2 : decode cX10_flaw 2 = .ok (.putfield 77, 3) := by decide +kernel
theorem dX10_flaw_5 : decode cX10_flaw 5 = .ok (.aload_n 0, 1) := by decide +kernel
theorem dX10_flaw_6 : decode cX10_flaw 6 = .ok (.getfield 31, 3) := by decide +kernel
theorem dX10_flaw_9 : decode cX10_flaw 9 = .ok (.ireturn, 1) := by decide +kernel
theorem dX10_clears_0 : decode cX10_clears 0 = .ok (.iconst 0, 1) := by decide +kernel
theorem dX10_clears_1 : decode cX10_clears 1 = .ok (.istore_n 1, 1) := by decide +kernel
theorem dX10_clears_2 : decode cX10_clears 2 = .ok (.iload_n 1, 1) := by decide +kernel
theorem dX10_clears_3 : decode cX10_clears 3 = .ok (.sipush 256, 3) := by decide +kernel
theorem dX10_clears_6 : decode cX10_clears 6 = .ok (.if_icmp .ge 16, 3) := by decide +kernel
theorem dX10_clears_9 : decode cX10_clears 9 = .ok (.aload_n 0, 1) := by decide +kernel
theorem dX10_clears_10 : decode cX10_clears 10 = .ok (.getfield 47, 3) := by decide +kernel
theorem dX10_clears_13 : decode cX10_clears 13 = .ok (.iload_n 1, 1) := by decide +kernel
theorem dX10_clears_14 : decode cX10_clears 14 = .ok (.iconst (-1), 1) := by decide +kernel
theorem dX10_clears_15 : decode cX10_clears 15 = .ok (.iastore, 1) := by decide +kernel
theorem dX10_clears_16 : decode cX10_clears 16 = .ok (.iinc 1 1, 3) := by decide +kernel
theorem dX10_clears_19 : decode cX10_clears 19 = .ok (.goto (-17), 3) := by decide +kernel
theorem dX10_clears_22 : decode cX10_clears 22 = .ok (.return_, 1) := by decide +kernel
theorem dX10_recordMany_0 : decode cX10_recordMany 0 = .ok (.iconst 0, 1) := by decide +kernel
theorem dX10_recordMany_1 : decode cX10_recordMany 1 = .ok (.istore_n 1, 1) := by decide +kernel
theorem dX10_recordMany_2 : decode cX10_recordMany 2 = .ok (.iconst 0, 1) := by decide +kernel
theorem dX10_recordMany_3 : decode cX10_recordMany 3 = .ok (.istore_n 2, 1) := by decide +kernel
theorem dX10_recordMany_4 : decode cX10_recordMany 4 = .ok (.iload_n 2, 1) := by decide +kernel
theorem dX10_recordMany_5 : decode cX10_recordMany 5 = .ok (.sipush 256, 3) := by decide +kernel
theorem dX10_recordMany_8 : decode cX10_recordMany 8 = .ok (.if_icmp .ge 22, 3) := by decide +kernel
theorem dX10_recordMany_11 : decode cX10_recordMany 11 = .ok (.aload_n 0, 1) := by decide +kernel
theorem dX10_recordMany_12 : decode cX10_recordMany 12 = .ok (.getfield 47, 3) := by decide +kernel
theorem dX10_recordMany_15 : decode cX10_recordMany 15 = .ok (.iload_n 2, 1) := by decide +kernel
theorem dX10_recordMany_16 : decode cX10_recordMany 16 = .ok (.iaload, 1) := by decide +kernel
theorem dX10_recordMany_17 : decode cX10_recordMany 17 = .ok (.iconst (-1), 1) := by decide +kernel
theorem dX10_recordMany_18 : decode cX10_recordMany 18 = .ok (.if_icmp .eq 6, 3) := by decide +kernel
theorem dX10_recordMany_21 : decode cX10_recordMany 21 = .ok (.iinc 1 1, 3) := by decide +kernel
theorem dX10_recordMany_24 : decode cX10_recordMany 24 = .ok (.iinc 2 1, 3) := by decide +kernel
theorem dX10_recordMany_27 : decode cX10_recordMany 27 = .ok (.goto (-23), 3) := by decide +kernel
theorem dX10_recordMany_30 : decode cX10_recordMany 30 = .ok (.iload_n 1, 1) := by decide +kernel
theorem dX10_recordMany_31 : decode cX10_recordMany 31 = .ok (.ireturn, 1) := by decide +kernel
theorem dX10_plainOf_0 : decode cX10_plainOf 0 = .ok (.iconst 0, 1) := by decide +kernel
theorem dX10_plainOf_1 : decode cX10_plainOf 1 = .ok (.istore_n 3, 1) := by decide +kernel
theorem dX10_plainOf_2 : decode cX10_plainOf 2 = .ok (.iload_n 1, 1) := by decide +kernel
theorem dX10_plainOf_3 : decode cX10_plainOf 3 = .ok (.istore 4, 2) := by decide +kernel
theorem dX10_plainOf_5 : decode cX10_plainOf 5 = .ok (.iload 4, 2) := by decide +kernel
theorem dX10_plainOf_7 : decode cX10_plainOf 7 = .ok (.iload_n 2, 1) := by decide +kernel
theorem dX10_plainOf_8 : decode cX10_plainOf 8 = .ok (.if_icmp .gt 32, 3) := by decide +kernel
theorem dX10_plainOf_11 : decode cX10_plainOf 11 = .ok (.aload_n 0, 1) := by decide +kernel
theorem dX10_plainOf_12 : decode cX10_plainOf 12 = .ok (.getfield 47, 3) := by decide +kernel
theorem dX10_plainOf_15 : decode cX10_plainOf 15 = .ok (.iload 4, 2) := by decide +kernel
theorem dX10_plainOf_17 : decode cX10_plainOf 17 = .ok (.iaload, 1) := by decide +kernel
theorem dX10_plainOf_18 : decode cX10_plainOf 18 = .ok (.iconst (-1), 1) := by decide +kernel
theorem dX10_plainOf_19 : decode cX10_plainOf 19 = .ok (.if_icmp .eq 15, 3) := by decide +kernel
theorem dX10_plainOf_22 : decode cX10_plainOf 22 = .ok (.iload_n 3, 1) := by decide +kernel
theorem dX10_plainOf_23 : decode cX10_plainOf 23 = .ok (.iconst 2, 1) := by decide +kernel
theorem dX10_plainOf_24 : decode cX10_plainOf 24 = .ok (.aload_n 0, 1) := by decide +kernel
theorem dX10_plainOf_25 : decode cX10_plainOf 25 = .ok (.getfield 47, 3) := by decide +kernel
theorem dX10_plainOf_28 : decode cX10_plainOf 28 = .ok (.iload 4, 2) := by decide +kernel
theorem dX10_plainOf_30 : decode cX10_plainOf 30 = .ok (.iaload, 1) := by decide +kernel
theorem dX10_plainOf_31 : decode cX10_plainOf 31 = .ok (.iadd, 1) := by decide +kernel
theorem dX10_plainOf_32 : decode cX10_plainOf 32 = .ok (.iadd, 1) := by decide +kernel
theorem dX10_plainOf_33 : decode cX10_plainOf 33 = .ok (.istore_n 3, 1) := by decide +kernel
theorem dX10_plainOf_34 : decode cX10_plainOf 34 = .ok (.iinc 4 1, 3) := by decide +kernel
theorem dX10_plainOf_37 : decode cX10_plainOf 37 = .ok (.goto (-32), 3) := by decide +kernel
theorem dX10_plainOf_40 : decode cX10_plainOf 40 = .ok (.iload_n 3, 1) := by decide +kernel
theorem dX10_plainOf_41 : decode cX10_plainOf 41 = .ok (.ireturn, 1) := by decide +kernel
theorem dX10_laysPlain_0 : decode cX10_laysPlain 0 = .ok (.aload_n 0, 1) := by decide +kernel
theorem dX10_laysPlain_1 : decode cX10_laysPlain 1 = .ok (.iconst 0, 1) := by decide +kernel
theorem dX10_laysPlain_2 : decode cX10_laysPlain 2 = .ok (.putfield 107, 3) := by decide +kernel
theorem dX10_laysPlain_5 : decode cX10_laysPlain 5 = .ok (.iload_n 1, 1) := by decide +kernel
theorem dX10_laysPlain_6 : decode cX10_laysPlain 6 = .ok (.istore_n 3, 1) := by decide +kernel
theorem dX10_laysPlain_7 : decode cX10_laysPlain 7 = .ok (.iload_n 3, 1) := by decide +kernel
theorem dX10_laysPlain_8 : decode cX10_laysPlain 8 = .ok (.iload_n 2, 1) := by decide +kernel
theorem dX10_laysPlain_9 : decode cX10_laysPlain 9 = .ok (.if_icmp .gt 73, 3) := by decide +kernel
theorem dX10_laysPlain_12 : decode cX10_laysPlain 12 = .ok (.aload_n 0, 1) := by decide +kernel
theorem dX10_laysPlain_13 : decode cX10_laysPlain 13 = .ok (.getfield 47, 3) := by decide +kernel
theorem dX10_laysPlain_16 : decode cX10_laysPlain 16 = .ok (.iload_n 3, 1) := by decide +kernel
theorem dX10_laysPlain_17 : decode cX10_laysPlain 17 = .ok (.iaload, 1) := by decide +kernel
theorem dX10_laysPlain_18 : decode cX10_laysPlain 18 = .ok (.iconst (-1), 1) := by decide +kernel
theorem dX10_laysPlain_19 : decode cX10_laysPlain 19 = .ok (.if_icmp .ne 6, 3) := by decide +kernel
theorem dX10_laysPlain_22 : decode cX10_laysPlain 22 = .ok (.goto 54, 3) := by decide +kernel
theorem dX10_laysPlain_25 : decode cX10_laysPlain 25 = .ok (.aload_n 0, 1) := by decide +kernel
theorem dX10_laysPlain_26 : decode cX10_laysPlain 26 = .ok (.iload_n 3, 1) := by decide +kernel
theorem dX10_laysPlain_27 : decode cX10_laysPlain 27 = .ok (.invokevirtual 134, 3) := by decide +kernel
theorem dX10_laysPlain_30 : decode cX10_laysPlain 30 = .ok (.aload_n 0, 1) := by decide +kernel
theorem dX10_laysPlain_31 : decode cX10_laysPlain 31 = .ok (.aload_n 0, 1) := by decide +kernel
theorem dX10_laysPlain_32 : decode cX10_laysPlain 32 = .ok (.getfield 47, 3) := by decide +kernel
theorem dX10_laysPlain_35 : decode cX10_laysPlain 35 = .ok (.iload_n 3, 1) := by decide +kernel
theorem dX10_laysPlain_36 : decode cX10_laysPlain 36 = .ok (.iaload, 1) := by decide +kernel
theorem dX10_laysPlain_37 : decode cX10_laysPlain 37 = .ok (.invokevirtual 134, 3) := by decide +kernel
theorem dX10_laysPlain_40 : decode cX10_laysPlain 40 = .ok (.iconst 0, 1) := by decide +kernel
theorem dX10_laysPlain_41 : decode cX10_laysPlain 41 = .ok (.istore 4, 2) := by decide +kernel
theorem dX10_laysPlain_43 : decode cX10_laysPlain 43 = .ok (.iload 4, 2) := by decide +kernel
theorem dX10_laysPlain_45 : decode cX10_laysPlain 45 = .ok (.aload_n 0, 1) := by decide +kernel
theorem dX10_laysPlain_46 : decode cX10_laysPlain 46 = .ok (.getfield 47, 3) := by decide +kernel
theorem dX10_laysPlain_49 : decode cX10_laysPlain 49 = .ok (.iload_n 3, 1) := by decide +kernel
theorem dX10_laysPlain_50 : decode cX10_laysPlain 50 = .ok (.iaload, 1) := by decide +kernel
theorem dX10_laysPlain_51 : decode cX10_laysPlain 51 = .ok (.if_icmp .ge 25, 3) := by decide +kernel
theorem dX10_laysPlain_54 : decode cX10_laysPlain 54 = .ok (.aload_n 0, 1) := by decide +kernel
theorem dX10_laysPlain_55 : decode cX10_laysPlain 55 = .ok (.aload_n 0, 1) := by decide +kernel
theorem dX10_laysPlain_56 : decode cX10_laysPlain 56 = .ok (.getfield 50, 3) := by decide +kernel
theorem dX10_laysPlain_59 : decode cX10_laysPlain 59 = .ok (.bipush 8, 2) := by decide +kernel
theorem dX10_laysPlain_61 : decode cX10_laysPlain 61 = .ok (.iload_n 3, 1) := by decide +kernel
theorem dX10_laysPlain_62 : decode cX10_laysPlain 62 = .ok (.imul, 1) := by decide +kernel
theorem dX10_laysPlain_63 : decode cX10_laysPlain 63 = .ok (.iload 4, 2) := by decide +kernel
theorem dX10_laysPlain_65 : decode cX10_laysPlain 65 = .ok (.iadd, 1) := by decide +kernel
theorem dX10_laysPlain_66 : decode cX10_laysPlain 66 = .ok (.iaload, 1) := by decide +kernel
theorem dX10_laysPlain_67 : decode cX10_laysPlain 67 = .ok (.invokevirtual 134, 3) := by decide +kernel
theorem dX10_laysPlain_70 : decode cX10_laysPlain 70 = .ok (.iinc 4 1, 3) := by decide +kernel
theorem dX10_laysPlain_73 : decode cX10_laysPlain 73 = .ok (.goto (-30), 3) := by decide +kernel
theorem dX10_laysPlain_76 : decode cX10_laysPlain 76 = .ok (.iinc 3 1, 3) := by decide +kernel
theorem dX10_laysPlain_79 : decode cX10_laysPlain 79 = .ok (.goto (-72), 3) := by decide +kernel
theorem dX10_laysPlain_82 : decode cX10_laysPlain 82 = .ok (.return_, 1) := by decide +kernel
theorem dX10_kindOf_0 : decode cX10_kindOf 0 = .ok (.iload_n 0, 1) := by decide +kernel
theorem dX10_kindOf_1 : decode cX10_kindOf 1 = .ok (.bipush 16, 2) := by decide +kernel
theorem dX10_kindOf_3 : decode cX10_kindOf 3 = .ok (.idiv, 1) := by decide +kernel
theorem dX10_kindOf_4 : decode cX10_kindOf 4 = .ok (.ireturn, 1) := by decide +kernel
theorem dX10_lengthOf_0 : decode cX10_lengthOf 0 = .ok (.iload_n 0, 1) := by decide +kernel
theorem dX10_lengthOf_1 : decode cX10_lengthOf 1 = .ok (.invokestatic 148, 3) := by decide +kernel
theorem dX10_lengthOf_4 : decode cX10_lengthOf 4 = .ok (.istore_n 1, 1) := by decide +kernel
theorem dX10_lengthOf_5 : decode cX10_lengthOf 5 = .ok (.iload_n 1, 1) := by decide +kernel
theorem dX10_lengthOf_6 : decode cX10_lengthOf 6 = .ok (.iconst 2, 1) := by decide +kernel
theorem dX10_lengthOf_7 : decode cX10_lengthOf 7 = .ok (.if_icmp .ne 7, 3) := by decide +kernel
theorem dX10_lengthOf_10 : decode cX10_lengthOf 10 = .ok (.iconst 2, 1) := by decide +kernel
theorem dX10_lengthOf_11 : decode cX10_lengthOf 11 = .ok (.goto 18, 3) := by decide +kernel
theorem dX10_lengthOf_14 : decode cX10_lengthOf 14 = .ok (.iload_n 1, 1) := by decide +kernel
theorem dX10_lengthOf_15 : decode cX10_lengthOf 15 = .ok (.iconst 3, 1) := by decide +kernel
theorem dX10_lengthOf_16 : decode cX10_lengthOf 16 = .ok (.if_icmp .ne 7, 3) := by decide +kernel
theorem dX10_lengthOf_19 : decode cX10_lengthOf 19 = .ok (.iconst 3, 1) := by decide +kernel
theorem dX10_lengthOf_20 : decode cX10_lengthOf 20 = .ok (.goto 9, 3) := by decide +kernel
theorem dX10_lengthOf_23 : decode cX10_lengthOf 23 = .ok (.iconst 2, 1) := by decide +kernel
theorem dX10_lengthOf_24 : decode cX10_lengthOf 24 = .ok (.iload_n 0, 1) := by decide +kernel
theorem dX10_lengthOf_25 : decode cX10_lengthOf 25 = .ok (.bipush 16, 2) := by decide +kernel
theorem dX10_lengthOf_27 : decode cX10_lengthOf 27 = .ok (.irem, 1) := by decide +kernel
theorem dX10_lengthOf_28 : decode cX10_lengthOf 28 = .ok (.iadd, 1) := by decide +kernel
theorem dX10_lengthOf_29 : decode cX10_lengthOf 29 = .ok (.ireturn, 1) := by decide +kernel
theorem dX10_isEntry_0 : decode cX10_isEntry 0 = .ok (.iload_n 0, 1) := by decide +kernel
theorem dX10_isEntry_1 : decode cX10_isEntry 1 = .ok (.bipush 16, 2) := by decide +kernel
theorem dX10_isEntry_3 : decode cX10_isEntry 3 = .ok (.irem, 1) := by decide +kernel
theorem dX10_isEntry_4 : decode cX10_isEntry 4 = .ok (.istore_n 1, 1) := by decide +kernel
theorem dX10_isEntry_5 : decode cX10_isEntry 5 = .ok (.iload_n 0, 1) := by decide +kernel
theorem dX10_isEntry_6 : decode cX10_isEntry 6 = .ok (.invokestatic 148, 3) := by decide +kernel
theorem dX10_isEntry_9 : decode cX10_isEntry 9 = .ok (.tableswitch 82 1 4 #[31, 43, 53, 65], 31) := by decide +kernel
theorem dX10_isEntry_40 : decode cX10_isEntry 40 = .ok (.iload_n 1, 1) := by decide +kernel
theorem dX10_isEntry_41 : decode cX10_isEntry 41 = .ok (.bipush 8, 2) := by decide +kernel
theorem dX10_isEntry_43 : decode cX10_isEntry 43 = .ok (.if_icmp .gt 7, 3) := by decide +kernel
theorem dX10_isEntry_46 : decode cX10_isEntry 46 = .ok (.iconst 1, 1) := by decide +kernel
theorem dX10_isEntry_47 : decode cX10_isEntry 47 = .ok (.goto 4, 3) := by decide +kernel
theorem dX10_isEntry_50 : decode cX10_isEntry 50 = .ok (.iconst 0, 1) := by decide +kernel
theorem dX10_isEntry_51 : decode cX10_isEntry 51 = .ok (.ireturn, 1) := by decide +kernel
theorem dX10_isEntry_52 : decode cX10_isEntry 52 = .ok (.iload_n 1, 1) := by decide +kernel
theorem dX10_isEntry_53 : decode cX10_isEntry 53 = .ok (.ifCond .ne 7, 3) := by decide +kernel
theorem dX10_isEntry_56 : decode cX10_isEntry 56 = .ok (.iconst 1, 1) := by decide +kernel
theorem dX10_isEntry_57 : decode cX10_isEntry 57 = .ok (.goto 4, 3) := by decide +kernel
theorem dX10_isEntry_60 : decode cX10_isEntry 60 = .ok (.iconst 0, 1) := by decide +kernel
theorem dX10_isEntry_61 : decode cX10_isEntry 61 = .ok (.ireturn, 1) := by decide +kernel
theorem dX10_isEntry_62 : decode cX10_isEntry 62 = .ok (.iload_n 1, 1) := by decide +kernel
theorem dX10_isEntry_63 : decode cX10_isEntry 63 = .ok (.bipush 7, 2) := by decide +kernel
theorem dX10_isEntry_65 : decode cX10_isEntry 65 = .ok (.if_icmp .gt 7, 3) := by decide +kernel
theorem dX10_isEntry_68 : decode cX10_isEntry 68 = .ok (.iconst 1, 1) := by decide +kernel
theorem dX10_isEntry_69 : decode cX10_isEntry 69 = .ok (.goto 4, 3) := by decide +kernel
theorem dX10_isEntry_72 : decode cX10_isEntry 72 = .ok (.iconst 0, 1) := by decide +kernel
theorem dX10_isEntry_73 : decode cX10_isEntry 73 = .ok (.ireturn, 1) := by decide +kernel
theorem dX10_isEntry_74 : decode cX10_isEntry 74 = .ok (.iload_n 1, 1) := by decide +kernel
theorem dX10_isEntry_75 : decode cX10_isEntry 75 = .ok (.iconst 1, 1) := by decide +kernel
theorem dX10_isEntry_76 : decode cX10_isEntry 76 = .ok (.if_icmp .lt 13, 3) := by decide +kernel
theorem dX10_isEntry_79 : decode cX10_isEntry 79 = .ok (.iload_n 1, 1) := by decide +kernel
theorem dX10_isEntry_80 : decode cX10_isEntry 80 = .ok (.bipush 8, 2) := by decide +kernel
theorem dX10_isEntry_82 : decode cX10_isEntry 82 = .ok (.if_icmp .gt 7, 3) := by decide +kernel
theorem dX10_isEntry_85 : decode cX10_isEntry 85 = .ok (.iconst 1, 1) := by decide +kernel
theorem dX10_isEntry_86 : decode cX10_isEntry 86 = .ok (.goto 4, 3) := by decide +kernel
theorem dX10_isEntry_89 : decode cX10_isEntry 89 = .ok (.iconst 0, 1) := by decide +kernel
theorem dX10_isEntry_90 : decode cX10_isEntry 90 = .ok (.ireturn, 1) := by decide +kernel
theorem dX10_isEntry_91 : decode cX10_isEntry 91 = .ok (.iconst 0, 1) := by decide +kernel
theorem dX10_isEntry_92 : decode cX10_isEntry 92 = .ok (.ireturn, 1) := by decide +kernel
theorem dX10_does_0 : decode cX10_does 0 = .ok (.aload_n 1, 1) := by decide +kernel
theorem dX10_does_1 : decode cX10_does 1 = .ok (.iload_n 2, 1) := by decide +kernel
theorem dX10_does_2 : decode cX10_does 2 = .ok (.iaload, 1) := by decide +kernel
theorem dX10_does_3 : decode cX10_does 3 = .ok (.invokestatic 148, 3) := by decide +kernel
theorem dX10_does_6 : decode cX10_does 6 = .ok (.istore_n 3, 1) := by decide +kernel
theorem dX10_does_7 : decode cX10_does 7 = .ok (.aload_n 1, 1) := by decide +kernel
theorem dX10_does_8 : decode cX10_does 8 = .ok (.iload_n 2, 1) := by decide +kernel
theorem dX10_does_9 : decode cX10_does 9 = .ok (.iaload, 1) := by decide +kernel
theorem dX10_does_10 : decode cX10_does 10 = .ok (.bipush 16, 2) := by decide +kernel
theorem dX10_does_12 : decode cX10_does 12 = .ok (.irem, 1) := by decide +kernel
theorem dX10_does_13 : decode cX10_does 13 = .ok (.istore 4, 2) := by decide +kernel
theorem dX10_does_15 : decode cX10_does 15 = .ok (.aload_n 1, 1) := by decide +kernel
theorem dX10_does_16 : decode cX10_does 16 = .ok (.iload_n 2, 1) := by decide +kernel
theorem dX10_does_17 : decode cX10_does 17 = .ok (.iconst 1, 1) := by decide +kernel
theorem dX10_does_18 : decode cX10_does 18 = .ok (.iadd, 1) := by decide +kernel
theorem dX10_does_19 : decode cX10_does 19 = .ok (.iaload, 1) := by decide +kernel
theorem dX10_does_20 : decode cX10_does 20 = .ok (.istore 5, 2) := by decide +kernel
theorem dX10_does_22 : decode cX10_does 22 = .ok (.iload_n 3, 1) := by decide +kernel
theorem dX10_does_23 : decode cX10_does 23 = .ok (.iconst 2, 1) := by decide +kernel
theorem dX10_does_24 : decode cX10_does 24 = .ok (.if_icmp .ne 12, 3) := by decide +kernel
theorem dX10_does_27 : decode cX10_does 27 = .ok (.aload_n 0, 1) := by decide +kernel
theorem dX10_does_28 : decode cX10_does 28 = .ok (.getfield 47, 3) := by decide +kernel
theorem dX10_does_31 : decode cX10_does 31 = .ok (.iload 5, 2) := by decide +kernel
theorem dX10_does_33 : decode cX10_does 33 = .ok (.iconst (-1), 1) := by decide +kernel
theorem dX10_does_34 : decode cX10_does 34 = .ok (.iastore, 1) := by decide +kernel
theorem dX10_does_35 : decode cX10_does 35 = .ok (.return_, 1) := by decide +kernel
theorem dX10_does_36 : decode cX10_does 36 = .ok (.iload_n 3, 1) := by decide +kernel
theorem dX10_does_37 : decode cX10_does 37 = .ok (.iconst 3, 1) := by decide +kernel
theorem dX10_does_38 : decode cX10_does 38 = .ok (.if_icmp .ne 22, 3) := by decide +kernel
theorem dX10_does_41 : decode cX10_does 41 = .ok (.aload_n 0, 1) := by decide +kernel
theorem dX10_does_42 : decode cX10_does 42 = .ok (.getfield 50, 3) := by decide +kernel
theorem dX10_does_45 : decode cX10_does 45 = .ok (.bipush 8, 2) := by decide +kernel
theorem dX10_does_47 : decode cX10_does 47 = .ok (.iload 5, 2) := by decide +kernel
theorem dX10_does_49 : decode cX10_does 49 = .ok (.imul, 1) := by decide +kernel
theorem dX10_does_50 : decode cX10_does 50 = .ok (.iload 4, 2) := by decide +kernel
theorem dX10_does_52 : decode cX10_does 52 = .ok (.iadd, 1) := by decide +kernel
theorem dX10_does_53 : decode cX10_does 53 = .ok (.aload_n 1, 1) := by decide +kernel
theorem dX10_does_54 : decode cX10_does 54 = .ok (.iload_n 2, 1) := by decide +kernel
theorem dX10_does_55 : decode cX10_does 55 = .ok (.iconst 2, 1) := by decide +kernel
theorem dX10_does_56 : decode cX10_does 56 = .ok (.iadd, 1) := by decide +kernel
theorem dX10_does_57 : decode cX10_does 57 = .ok (.iaload, 1) := by decide +kernel
theorem dX10_does_58 : decode cX10_does 58 = .ok (.iastore, 1) := by decide +kernel
theorem dX10_does_59 : decode cX10_does 59 = .ok (.return_, 1) := by decide +kernel
theorem dX10_does_60 : decode cX10_does 60 = .ok (.iload_n 3, 1) := by decide +kernel
theorem dX10_does_61 : decode cX10_does 61 = .ok (.iconst 1, 1) := by decide +kernel
theorem dX10_does_62 : decode cX10_does 62 = .ok (.if_icmp .ne 7, 3) := by decide +kernel
theorem dX10_does_65 : decode cX10_does 65 = .ok (.iconst 0, 1) := by decide +kernel
theorem dX10_does_66 : decode cX10_does 66 = .ok (.goto 10, 3) := by decide +kernel
theorem dX10_does_69 : decode cX10_does 69 = .ok (.aload_n 0, 1) := by decide +kernel
theorem dX10_does_70 : decode cX10_does 70 = .ok (.getfield 47, 3) := by decide +kernel
theorem dX10_does_73 : decode cX10_does 73 = .ok (.iload 5, 2) := by decide +kernel
theorem dX10_does_75 : decode cX10_does 75 = .ok (.iaload, 1) := by decide +kernel
theorem dX10_does_76 : decode cX10_does 76 = .ok (.istore 6, 2) := by decide +kernel
theorem dX10_does_78 : decode cX10_does 78 = .ok (.iconst 0, 1) := by decide +kernel
theorem dX10_does_79 : decode cX10_does 79 = .ok (.istore 7, 2) := by decide +kernel
theorem dX10_does_81 : decode cX10_does 81 = .ok (.iload 7, 2) := by decide +kernel
theorem dX10_does_83 : decode cX10_does 83 = .ok (.iload 4, 2) := by decide +kernel
theorem dX10_does_85 : decode cX10_does 85 = .ok (.if_icmp .ge 33, 3) := by decide +kernel
theorem dX10_does_88 : decode cX10_does 88 = .ok (.aload_n 0, 1) := by decide +kernel
theorem dX10_does_89 : decode cX10_does 89 = .ok (.getfield 50, 3) := by decide +kernel
theorem dX10_does_92 : decode cX10_does 92 = .ok (.bipush 8, 2) := by decide +kernel
theorem dX10_does_94 : decode cX10_does 94 = .ok (.iload 5, 2) := by decide +kernel
theorem dX10_does_96 : decode cX10_does 96 = .ok (.imul, 1) := by decide +kernel
theorem dX10_does_97 : decode cX10_does 97 = .ok (.iload 6, 2) := by decide +kernel
theorem dX10_does_99 : decode cX10_does 99 = .ok (.iadd, 1) := by decide +kernel
theorem dX10_does_100 : decode cX10_does 100 = .ok (.iload 7, 2) := by decide +kernel
theorem dX10_does_102 : decode cX10_does 102 = .ok (.iadd, 1) := by decide +kernel
theorem dX10_does_103 : decode cX10_does 103 = .ok (.aload_n 1, 1) := by decide +kernel
theorem dX10_does_104 : decode cX10_does 104 = .ok (.iload_n 2, 1) := by decide +kernel
theorem dX10_does_105 : decode cX10_does 105 = .ok (.iconst 2, 1) := by decide +kernel
theorem dX10_does_106 : decode cX10_does 106 = .ok (.iadd, 1) := by decide +kernel
theorem dX10_does_107 : decode cX10_does 107 = .ok (.iload 7, 2) := by decide +kernel
theorem dX10_does_109 : decode cX10_does 109 = .ok (.iadd, 1) := by decide +kernel
theorem dX10_does_110 : decode cX10_does 110 = .ok (.iaload, 1) := by decide +kernel
theorem dX10_does_111 : decode cX10_does 111 = .ok (.iastore, 1) := by decide +kernel
theorem dX10_does_112 : decode cX10_does 112 = .ok (.iinc 7 1, 3) := by decide +kernel
theorem dX10_does_115 : decode cX10_does 115 = .ok (.goto (-34), 3) := by decide +kernel
theorem dX10_does_118 : decode cX10_does 118 = .ok (.aload_n 0, 1) := by decide +kernel
theorem dX10_does_119 : decode cX10_does 119 = .ok (.getfield 47, 3) := by decide +kernel
theorem dX10_does_122 : decode cX10_does 122 = .ok (.iload 5, 2) := by decide +kernel
theorem dX10_does_124 : decode cX10_does 124 = .ok (.iload 6, 2) := by decide +kernel
theorem dX10_does_126 : decode cX10_does 126 = .ok (.iload 4, 2) := by decide +kernel
theorem dX10_does_128 : decode cX10_does 128 = .ok (.iadd, 1) := by decide +kernel
theorem dX10_does_129 : decode cX10_does 129 = .ok (.iastore, 1) := by decide +kernel
theorem dX10_does_130 : decode cX10_does 130 = .ok (.return_, 1) := by decide +kernel
theorem dX10_cant_0 : decode cX10_cant 0 = .ok (.aload_n 1, 1) := by decide +kernel
theorem dX10_cant_1 : decode cX10_cant 1 = .ok (.iload_n 2, 1) := by decide +kernel
theorem dX10_cant_2 : decode cX10_cant 2 = .ok (.iaload, 1) := by decide +kernel
theorem dX10_cant_3 : decode cX10_cant 3 = .ok (.invokestatic 148, 3) := by decide +kernel
theorem dX10_cant_6 : decode cX10_cant 6 = .ok (.istore_n 3, 1) := by decide +kernel
theorem dX10_cant_7 : decode cX10_cant 7 = .ok (.aload_n 1, 1) := by decide +kernel
theorem dX10_cant_8 : decode cX10_cant 8 = .ok (.iload_n 2, 1) := by decide +kernel
theorem dX10_cant_9 : decode cX10_cant 9 = .ok (.iaload, 1) := by decide +kernel
theorem dX10_cant_10 : decode cX10_cant 10 = .ok (.bipush 16, 2) := by decide +kernel
theorem dX10_cant_12 : decode cX10_cant 12 = .ok (.irem, 1) := by decide +kernel
theorem dX10_cant_13 : decode cX10_cant 13 = .ok (.istore 4, 2) := by decide +kernel
theorem dX10_cant_15 : decode cX10_cant 15 = .ok (.aload_n 1, 1) := by decide +kernel
theorem dX10_cant_16 : decode cX10_cant 16 = .ok (.iload_n 2, 1) := by decide +kernel
theorem dX10_cant_17 : decode cX10_cant 17 = .ok (.iconst 1, 1) := by decide +kernel
theorem dX10_cant_18 : decode cX10_cant 18 = .ok (.iadd, 1) := by decide +kernel
theorem dX10_cant_19 : decode cX10_cant 19 = .ok (.iaload, 1) := by decide +kernel
theorem dX10_cant_20 : decode cX10_cant 20 = .ok (.istore 5, 2) := by decide +kernel
theorem dX10_cant_22 : decode cX10_cant 22 = .ok (.iload_n 3, 1) := by decide +kernel
theorem dX10_cant_23 : decode cX10_cant 23 = .ok (.iconst 1, 1) := by decide +kernel
theorem dX10_cant_24 : decode cX10_cant 24 = .ok (.if_icmp .eq 17, 3) := by decide +kernel
theorem dX10_cant_27 : decode cX10_cant 27 = .ok (.aload_n 0, 1) := by decide +kernel
theorem dX10_cant_28 : decode cX10_cant 28 = .ok (.getfield 47, 3) := by decide +kernel
theorem dX10_cant_31 : decode cX10_cant 31 = .ok (.iload 5, 2) := by decide +kernel
theorem dX10_cant_33 : decode cX10_cant 33 = .ok (.iaload, 1) := by decide +kernel
theorem dX10_cant_34 : decode cX10_cant 34 = .ok (.iconst (-1), 1) := by decide +kernel
theorem dX10_cant_35 : decode cX10_cant 35 = .ok (.if_icmp .ne 6, 3) := by decide +kernel
theorem dX10_cant_38 : decode cX10_cant 38 = .ok (.bipush (-2), 2) := by decide +kernel
theorem dX10_cant_40 : decode cX10_cant 40 = .ok (.ireturn, 1) := by decide +kernel
theorem dX10_cant_41 : decode cX10_cant 41 = .ok (.iload_n 3, 1) := by decide +kernel
theorem dX10_cant_42 : decode cX10_cant 42 = .ok (.iconst 3, 1) := by decide +kernel
theorem dX10_cant_43 : decode cX10_cant 43 = .ok (.if_icmp .ne 39, 3) := by decide +kernel
theorem dX10_cant_46 : decode cX10_cant 46 = .ok (.iload 4, 2) := by decide +kernel
theorem dX10_cant_48 : decode cX10_cant 48 = .ok (.aload_n 0, 1) := by decide +kernel
theorem dX10_cant_49 : decode cX10_cant 49 = .ok (.getfield 47, 3) := by decide +kernel
theorem dX10_cant_52 : decode cX10_cant 52 = .ok (.iload 5, 2) := by decide +kernel
theorem dX10_cant_54 : decode cX10_cant 54 = .ok (.iaload, 1) := by decide +kernel
theorem dX10_cant_55 : decode cX10_cant 55 = .ok (.if_icmp .ge 24, 3) := by decide +kernel
theorem dX10_cant_58 : decode cX10_cant 58 = .ok (.aload_n 0, 1) := by decide +kernel
theorem dX10_cant_59 : decode cX10_cant 59 = .ok (.getfield 50, 3) := by decide +kernel
theorem dX10_cant_62 : decode cX10_cant 62 = .ok (.bipush 8, 2) := by decide +kernel
theorem dX10_cant_64 : decode cX10_cant 64 = .ok (.iload 5, 2) := by decide +kernel
theorem dX10_cant_66 : decode cX10_cant 66 = .ok (.imul, 1) := by decide +kernel
theorem dX10_cant_67 : decode cX10_cant 67 = .ok (.iload 4, 2) := by decide +kernel
theorem dX10_cant_69 : decode cX10_cant 69 = .ok (.iadd, 1) := by decide +kernel
theorem dX10_cant_70 : decode cX10_cant 70 = .ok (.iaload, 1) := by decide +kernel
theorem dX10_cant_71 : decode cX10_cant 71 = .ok (.aload_n 1, 1) := by decide +kernel
theorem dX10_cant_72 : decode cX10_cant 72 = .ok (.iload_n 2, 1) := by decide +kernel
theorem dX10_cant_73 : decode cX10_cant 73 = .ok (.iconst 2, 1) := by decide +kernel
theorem dX10_cant_74 : decode cX10_cant 74 = .ok (.iadd, 1) := by decide +kernel
theorem dX10_cant_75 : decode cX10_cant 75 = .ok (.iaload, 1) := by decide +kernel
theorem dX10_cant_76 : decode cX10_cant 76 = .ok (.if_icmp .ne 6, 3) := by decide +kernel
theorem dX10_cant_79 : decode cX10_cant 79 = .ok (.bipush (-4), 2) := by decide +kernel
theorem dX10_cant_81 : decode cX10_cant 81 = .ok (.ireturn, 1) := by decide +kernel
theorem dX10_cant_82 : decode cX10_cant 82 = .ok (.iload_n 3, 1) := by decide +kernel
theorem dX10_cant_83 : decode cX10_cant 83 = .ok (.iconst 4, 1) := by decide +kernel
theorem dX10_cant_84 : decode cX10_cant 84 = .ok (.if_icmp .ne 21, 3) := by decide +kernel
theorem dX10_cant_87 : decode cX10_cant 87 = .ok (.aload_n 0, 1) := by decide +kernel
theorem dX10_cant_88 : decode cX10_cant 88 = .ok (.getfield 47, 3) := by decide +kernel
theorem dX10_cant_91 : decode cX10_cant 91 = .ok (.iload 5, 2) := by decide +kernel
theorem dX10_cant_93 : decode cX10_cant 93 = .ok (.iaload, 1) := by decide +kernel
theorem dX10_cant_94 : decode cX10_cant 94 = .ok (.iload 4, 2) := by decide +kernel
theorem dX10_cant_96 : decode cX10_cant 96 = .ok (.iadd, 1) := by decide +kernel
theorem dX10_cant_97 : decode cX10_cant 97 = .ok (.bipush 8, 2) := by decide +kernel
theorem dX10_cant_99 : decode cX10_cant 99 = .ok (.if_icmp .le 6, 3) := by decide +kernel
theorem dX10_cant_102 : decode cX10_cant 102 = .ok (.bipush (-4), 2) := by decide +kernel
theorem dX10_cant_104 : decode cX10_cant 104 = .ok (.ireturn, 1) := by decide +kernel
theorem dX10_cant_105 : decode cX10_cant 105 = .ok (.iload_n 3, 1) := by decide +kernel
theorem dX10_cant_106 : decode cX10_cant 106 = .ok (.iconst 1, 1) := by decide +kernel
theorem dX10_cant_107 : decode cX10_cant 107 = .ok (.if_icmp .ne 15, 3) := by decide +kernel
theorem dX10_cant_110 : decode cX10_cant 110 = .ok (.aload_n 0, 1) := by decide +kernel
theorem dX10_cant_111 : decode cX10_cant 111 = .ok (.getfield 47, 3) := by decide +kernel
theorem dX10_cant_114 : decode cX10_cant 114 = .ok (.iload 5, 2) := by decide +kernel
theorem dX10_cant_116 : decode cX10_cant 116 = .ok (.iaload, 1) := by decide +kernel
theorem dX10_cant_117 : decode cX10_cant 117 = .ok (.iload 4, 2) := by decide +kernel
theorem dX10_cant_119 : decode cX10_cant 119 = .ok (.if_icmp .eq 5, 3) := by decide +kernel
theorem dX10_cant_122 : decode cX10_cant 122 = .ok (.iconst 0, 1) := by decide +kernel
theorem dX10_cant_123 : decode cX10_cant 123 = .ok (.ireturn, 1) := by decide +kernel
theorem dX10_cant_124 : decode cX10_cant 124 = .ok (.iconst 0, 1) := by decide +kernel
theorem dX10_cant_125 : decode cX10_cant 125 = .ok (.istore 6, 2) := by decide +kernel
theorem dX10_cant_127 : decode cX10_cant 127 = .ok (.iload 6, 2) := by decide +kernel
theorem dX10_cant_129 : decode cX10_cant 129 = .ok (.iload 4, 2) := by decide +kernel
theorem dX10_cant_131 : decode cX10_cant 131 = .ok (.if_icmp .ge 35, 3) := by decide +kernel
theorem dX10_cant_134 : decode cX10_cant 134 = .ok (.aload_n 0, 1) := by decide +kernel
theorem dX10_cant_135 : decode cX10_cant 135 = .ok (.getfield 50, 3) := by decide +kernel
theorem dX10_cant_138 : decode cX10_cant 138 = .ok (.bipush 8, 2) := by decide +kernel
theorem dX10_cant_140 : decode cX10_cant 140 = .ok (.iload 5, 2) := by decide +kernel
theorem dX10_cant_142 : decode cX10_cant 142 = .ok (.imul, 1) := by decide +kernel
theorem dX10_cant_143 : decode cX10_cant 143 = .ok (.iload 6, 2) := by decide +kernel
theorem dX10_cant_145 : decode cX10_cant 145 = .ok (.iadd, 1) := by decide +kernel
theorem dX10_cant_146 : decode cX10_cant 146 = .ok (.iaload, 1) := by decide +kernel
theorem dX10_cant_147 : decode cX10_cant 147 = .ok (.aload_n 1, 1) := by decide +kernel
theorem dX10_cant_148 : decode cX10_cant 148 = .ok (.iload_n 2, 1) := by decide +kernel
theorem dX10_cant_149 : decode cX10_cant 149 = .ok (.iconst 2, 1) := by decide +kernel
theorem dX10_cant_150 : decode cX10_cant 150 = .ok (.iadd, 1) := by decide +kernel
theorem dX10_cant_151 : decode cX10_cant 151 = .ok (.iload 6, 2) := by decide +kernel
theorem dX10_cant_153 : decode cX10_cant 153 = .ok (.iadd, 1) := by decide +kernel
theorem dX10_cant_154 : decode cX10_cant 154 = .ok (.iaload, 1) := by decide +kernel
theorem dX10_cant_155 : decode cX10_cant 155 = .ok (.if_icmp .eq 5, 3) := by decide +kernel
theorem dX10_cant_158 : decode cX10_cant 158 = .ok (.iconst 0, 1) := by decide +kernel
theorem dX10_cant_159 : decode cX10_cant 159 = .ok (.ireturn, 1) := by decide +kernel
theorem dX10_cant_160 : decode cX10_cant 160 = .ok (.iinc 6 1, 3) := by decide +kernel
theorem dX10_cant_163 : decode cX10_cant 163 = .ok (.goto (-36), 3) := by decide +kernel
theorem dX10_cant_166 : decode cX10_cant 166 = .ok (.bipush (-4), 2) := by decide +kernel
theorem dX10_cant_168 : decode cX10_cant 168 = .ok (.ireturn, 1) := by decide +kernel
theorem dX10_pagesOf_0 : decode cX10_pagesOf 0 = .ok (.aload_n 0, 1) := by decide +kernel
theorem dX10_pagesOf_1 : decode cX10_pagesOf 1 = .ok (.sipush 640, 3) := by decide +kernel
theorem dX10_pagesOf_4 : decode cX10_pagesOf 4 = .ok (.iaload, 1) := by decide +kernel
theorem dX10_pagesOf_5 : decode cX10_pagesOf 5 = .ok (.ireturn, 1) := by decide +kernel
theorem dX10_numberOf_0 : decode cX10_numberOf 0 = .ok (.aload_n 0, 1) := by decide +kernel
theorem dX10_numberOf_1 : decode cX10_numberOf 1 = .ok (.sipush 641, 3) := by decide +kernel
theorem dX10_numberOf_4 : decode cX10_numberOf 4 = .ok (.iconst 2, 1) := by decide +kernel
theorem dX10_numberOf_5 : decode cX10_numberOf 5 = .ok (.iload_n 1, 1) := by decide +kernel
theorem dX10_numberOf_6 : decode cX10_numberOf 6 = .ok (.imul, 1) := by decide +kernel
theorem dX10_numberOf_7 : decode cX10_numberOf 7 = .ok (.iadd, 1) := by decide +kernel
theorem dX10_numberOf_8 : decode cX10_numberOf 8 = .ok (.iaload, 1) := by decide +kernel
theorem dX10_numberOf_9 : decode cX10_numberOf 9 = .ok (.ireturn, 1) := by decide +kernel
theorem dX10_fenceOf_0 : decode cX10_fenceOf 0 = .ok (.aload_n 0, 1) := by decide +kernel
theorem dX10_fenceOf_1 : decode cX10_fenceOf 1 = .ok (.sipush 642, 3) := by decide +kernel
theorem dX10_fenceOf_4 : decode cX10_fenceOf 4 = .ok (.iconst 2, 1) := by decide +kernel
theorem dX10_fenceOf_5 : decode cX10_fenceOf 5 = .ok (.iload_n 1, 1) := by decide +kernel
theorem dX10_fenceOf_6 : decode cX10_fenceOf 6 = .ok (.imul, 1) := by decide +kernel
theorem dX10_fenceOf_7 : decode cX10_fenceOf 7 = .ok (.iadd, 1) := by decide +kernel
theorem dX10_fenceOf_8 : decode cX10_fenceOf 8 = .ok (.iaload, 1) := by decide +kernel
theorem dX10_fenceOf_9 : decode cX10_fenceOf 9 = .ok (.ireturn, 1) := by decide +kernel
theorem dX10_placeFor_0 : decode cX10_placeFor 0 = .ok (.iconst 0, 1) := by decide +kernel
theorem dX10_placeFor_1 : decode cX10_placeFor 1 = .ok (.istore_n 2, 1) := by decide +kernel
theorem dX10_placeFor_2 : decode cX10_placeFor 2 = .ok (.iload_n 2, 1) := by decide +kernel
theorem dX10_placeFor_3 : decode cX10_placeFor 3 = .ok (.iconst 1, 1) := by decide +kernel
theorem dX10_placeFor_4 : decode cX10_placeFor 4 = .ok (.iadd, 1) := by decide +kernel
theorem dX10_placeFor_5 : decode cX10_placeFor 5 = .ok (.aload_n 0, 1) := by decide +kernel
theorem dX10_placeFor_6 : decode cX10_placeFor 6 = .ok (.invokestatic 151, 3) := by decide +kernel
theorem dX10_placeFor_9 : decode cX10_placeFor 9 = .ok (.if_icmp .ge 20, 3) := by decide +kernel
theorem dX10_placeFor_12 : decode cX10_placeFor 12 = .ok (.aload_n 0, 1) := by decide +kernel
theorem dX10_placeFor_13 : decode cX10_placeFor 13 = .ok (.iload_n 2, 1) := by decide +kernel
theorem dX10_placeFor_14 : decode cX10_placeFor 14 = .ok (.iconst 1, 1) := by decide +kernel
theorem dX10_placeFor_15 : decode cX10_placeFor 15 = .ok (.iadd, 1) := by decide +kernel
theorem dX10_placeFor_16 : decode cX10_placeFor 16 = .ok (.invokestatic 155, 3) := by decide +kernel
theorem dX10_placeFor_19 : decode cX10_placeFor 19 = .ok (.iload_n 1, 1) := by decide +kernel
theorem dX10_placeFor_20 : decode cX10_placeFor 20 = .ok (.if_icmp .gt 9, 3) := by decide +kernel
theorem dX10_placeFor_23 : decode cX10_placeFor 23 = .ok (.iinc 2 1, 3) := by decide +kernel
theorem dX10_placeFor_26 : decode cX10_placeFor 26 = .ok (.goto (-24), 3) := by decide +kernel
theorem dX10_placeFor_29 : decode cX10_placeFor 29 = .ok (.iload_n 2, 1) := by decide +kernel
theorem dX10_placeFor_30 : decode cX10_placeFor 30 = .ok (.ireturn, 1) := by decide +kernel
theorem dX10_laysPacked_0 : decode cX10_laysPacked 0 = .ok (.bipush 64, 2) := by decide +kernel
theorem dX10_laysPacked_2 : decode cX10_laysPacked 2 = .ok (.iload_n 2, 1) := by decide +kernel
theorem dX10_laysPacked_3 : decode cX10_laysPacked 3 = .ok (.imul, 1) := by decide +kernel
theorem dX10_laysPacked_4 : decode cX10_laysPacked 4 = .ok (.istore_n 3, 1) := by decide +kernel
theorem dX10_laysPacked_5 : decode cX10_laysPacked 5 = .ok (.aload_n 0, 1) := by decide +kernel
theorem dX10_laysPacked_6 : decode cX10_laysPacked 6 = .ok (.aload_n 1, 1) := by decide +kernel
theorem dX10_laysPacked_7 : decode cX10_laysPacked 7 = .ok (.iload_n 3, 1) := by decide +kernel
theorem dX10_laysPacked_8 : decode cX10_laysPacked 8 = .ok (.iconst 2, 1) := by decide +kernel
theorem dX10_laysPacked_9 : decode cX10_laysPacked 9 = .ok (.iadd, 1) := by decide +kernel
theorem dX10_laysPacked_10 : decode cX10_laysPacked 10 = .ok (.aload_n 1, 1) := by decide +kernel
theorem dX10_laysPacked_11 : decode cX10_laysPacked 11 = .ok (.iload_n 3, 1) := by decide +kernel
theorem dX10_laysPacked_12 : decode cX10_laysPacked 12 = .ok (.iconst 1, 1) := by decide +kernel
theorem dX10_laysPacked_13 : decode cX10_laysPacked 13 = .ok (.iadd, 1) := by decide +kernel
theorem dX10_laysPacked_14 : decode cX10_laysPacked 14 = .ok (.iaload, 1) := by decide +kernel
theorem dX10_laysPacked_15 : decode cX10_laysPacked 15 = .ok (.aload_n 1, 1) := by decide +kernel
theorem dX10_laysPacked_16 : decode cX10_laysPacked 16 = .ok (.iload_n 3, 1) := by decide +kernel
theorem dX10_laysPacked_17 : decode cX10_laysPacked 17 = .ok (.iaload, 1) := by decide +kernel
theorem dX10_laysPacked_18 : decode cX10_laysPacked 18 = .ok (.invokevirtual 144, 3) := by decide +kernel
theorem dX10_laysPacked_21 : decode cX10_laysPacked 21 = .ok (.istore 4, 2) := by decide +kernel
theorem dX10_laysPacked_23 : decode cX10_laysPacked 23 = .ok (.iconst 0, 1) := by decide +kernel
theorem dX10_laysPacked_24 : decode cX10_laysPacked 24 = .ok (.istore 5, 2) := by decide +kernel
theorem dX10_laysPacked_26 : decode cX10_laysPacked 26 = .ok (.iload 5, 2) := by decide +kernel
theorem dX10_laysPacked_28 : decode cX10_laysPacked 28 = .ok (.aload_n 0, 1) := by decide +kernel
theorem dX10_laysPacked_29 : decode cX10_laysPacked 29 = .ok (.getfield 107, 3) := by decide +kernel
theorem dX10_laysPacked_32 : decode cX10_laysPacked 32 = .ok (.if_icmp .ge 91, 3) := by decide +kernel
theorem dX10_laysPacked_35 : decode cX10_laysPacked 35 = .ok (.aload_n 0, 1) := by decide +kernel
theorem dX10_laysPacked_36 : decode cX10_laysPacked 36 = .ok (.getfield 38, 3) := by decide +kernel
theorem dX10_laysPacked_39 : decode cX10_laysPacked 39 = .ok (.iload 5, 2) := by decide +kernel
theorem dX10_laysPacked_41 : decode cX10_laysPacked 41 = .ok (.iaload, 1) := by decide +kernel
theorem dX10_laysPacked_42 : decode cX10_laysPacked 42 = .ok (.istore 6, 2) := by decide +kernel
theorem dX10_laysPacked_44 : decode cX10_laysPacked 44 = .ok (.aload_n 0, 1) := by decide +kernel
theorem dX10_laysPacked_45 : decode cX10_laysPacked 45 = .ok (.getfield 47, 3) := by decide +kernel
theorem dX10_laysPacked_48 : decode cX10_laysPacked 48 = .ok (.iload 6, 2) := by decide +kernel
theorem dX10_laysPacked_50 : decode cX10_laysPacked 50 = .ok (.aload_n 0, 1) := by decide +kernel
theorem dX10_laysPacked_51 : decode cX10_laysPacked 51 = .ok (.getfield 38, 3) := by decide +kernel
theorem dX10_laysPacked_54 : decode cX10_laysPacked 54 = .ok (.iload 5, 2) := by decide +kernel
theorem dX10_laysPacked_56 : decode cX10_laysPacked 56 = .ok (.iconst 1, 1) := by decide +kernel
theorem dX10_laysPacked_57 : decode cX10_laysPacked 57 = .ok (.iadd, 1) := by decide +kernel
theorem dX10_laysPacked_58 : decode cX10_laysPacked 58 = .ok (.iaload, 1) := by decide +kernel
theorem dX10_laysPacked_59 : decode cX10_laysPacked 59 = .ok (.iastore, 1) := by decide +kernel
theorem dX10_laysPacked_60 : decode cX10_laysPacked 60 = .ok (.iconst 0, 1) := by decide +kernel
theorem dX10_laysPacked_61 : decode cX10_laysPacked 61 = .ok (.istore 7, 2) := by decide +kernel
theorem dX10_laysPacked_63 : decode cX10_laysPacked 63 = .ok (.iload 7, 2) := by decide +kernel
theorem dX10_laysPacked_65 : decode cX10_laysPacked 65 = .ok (.aload_n 0, 1) := by decide +kernel
theorem dX10_laysPacked_66 : decode cX10_laysPacked 66 = .ok (.getfield 47, 3) := by decide +kernel
theorem dX10_laysPacked_69 : decode cX10_laysPacked 69 = .ok (.iload 6, 2) := by decide +kernel
theorem dX10_laysPacked_71 : decode cX10_laysPacked 71 = .ok (.iaload, 1) := by decide +kernel
theorem dX10_laysPacked_72 : decode cX10_laysPacked 72 = .ok (.if_icmp .ge 34, 3) := by decide +kernel
theorem dX10_laysPacked_75 : decode cX10_laysPacked 75 = .ok (.aload_n 0, 1) := by decide +kernel
theorem dX10_laysPacked_76 : decode cX10_laysPacked 76 = .ok (.getfield 50, 3) := by decide +kernel
theorem dX10_laysPacked_79 : decode cX10_laysPacked 79 = .ok (.bipush 8, 2) := by decide +kernel
theorem dX10_laysPacked_81 : decode cX10_laysPacked 81 = .ok (.iload 6, 2) := by decide +kernel
theorem dX10_laysPacked_83 : decode cX10_laysPacked 83 = .ok (.imul, 1) := by decide +kernel
theorem dX10_laysPacked_84 : decode cX10_laysPacked 84 = .ok (.iload 7, 2) := by decide +kernel
theorem dX10_laysPacked_86 : decode cX10_laysPacked 86 = .ok (.iadd, 1) := by decide +kernel
theorem dX10_laysPacked_87 : decode cX10_laysPacked 87 = .ok (.aload_n 0, 1) := by decide +kernel
theorem dX10_laysPacked_88 : decode cX10_laysPacked 88 = .ok (.getfield 38, 3) := by decide +kernel
theorem dX10_laysPacked_91 : decode cX10_laysPacked 91 = .ok (.iload 5, 2) := by decide +kernel
theorem dX10_laysPacked_93 : decode cX10_laysPacked 93 = .ok (.iconst 2, 1) := by decide +kernel
theorem dX10_laysPacked_94 : decode cX10_laysPacked 94 = .ok (.iadd, 1) := by decide +kernel
theorem dX10_laysPacked_95 : decode cX10_laysPacked 95 = .ok (.iload 7, 2) := by decide +kernel
theorem dX10_laysPacked_97 : decode cX10_laysPacked 97 = .ok (.iadd, 1) := by decide +kernel
theorem dX10_laysPacked_98 : decode cX10_laysPacked 98 = .ok (.iaload, 1) := by decide +kernel
theorem dX10_laysPacked_99 : decode cX10_laysPacked 99 = .ok (.iastore, 1) := by decide +kernel
theorem dX10_laysPacked_100 : decode cX10_laysPacked 100 = .ok (.iinc 7 1, 3) := by decide +kernel
theorem dX10_laysPacked_103 : decode cX10_laysPacked 103 = .ok (.goto (-40), 3) := by decide +kernel
theorem dX10_laysPacked_106 : decode cX10_laysPacked 106 = .ok (.iload 5, 2) := by decide +kernel
theorem dX10_laysPacked_108 : decode cX10_laysPacked 108 = .ok (.iconst 2, 1) := by decide +kernel
theorem dX10_laysPacked_109 : decode cX10_laysPacked 109 = .ok (.aload_n 0, 1) := by decide +kernel
theorem dX10_laysPacked_110 : decode cX10_laysPacked 110 = .ok (.getfield 47, 3) := by decide +kernel
theorem dX10_laysPacked_113 : decode cX10_laysPacked 113 = .ok (.iload 6, 2) := by decide +kernel
theorem dX10_laysPacked_115 : decode cX10_laysPacked 115 = .ok (.iaload, 1) := by decide +kernel
theorem dX10_laysPacked_116 : decode cX10_laysPacked 116 = .ok (.iadd, 1) := by decide +kernel
theorem dX10_laysPacked_117 : decode cX10_laysPacked 117 = .ok (.iadd, 1) := by decide +kernel
theorem dX10_laysPacked_118 : decode cX10_laysPacked 118 = .ok (.istore 5, 2) := by decide +kernel
theorem dX10_laysPacked_120 : decode cX10_laysPacked 120 = .ok (.goto (-94), 3) := by decide +kernel
theorem dX10_laysPacked_123 : decode cX10_laysPacked 123 = .ok (.return_, 1) := by decide +kernel
theorem dX10_entryAt_0 : decode cX10_entryAt 0 = .ok (.bipush 64, 2) := by decide +kernel
theorem dX10_entryAt_2 : decode cX10_entryAt 2 = .ok (.iload_n 1, 1) := by decide +kernel
theorem dX10_entryAt_3 : decode cX10_entryAt 3 = .ok (.imul, 1) := by decide +kernel
theorem dX10_entryAt_4 : decode cX10_entryAt 4 = .ok (.istore_n 3, 1) := by decide +kernel
theorem dX10_entryAt_5 : decode cX10_entryAt 5 = .ok (.iconst 2, 1) := by decide +kernel
theorem dX10_entryAt_6 : decode cX10_entryAt 6 = .ok (.aload_n 0, 1) := by decide +kernel
theorem dX10_entryAt_7 : decode cX10_entryAt 7 = .ok (.iload_n 3, 1) := by decide +kernel
theorem dX10_entryAt_8 : decode cX10_entryAt 8 = .ok (.iconst 1, 1) := by decide +kernel
theorem dX10_entryAt_9 : decode cX10_entryAt 9 = .ok (.iadd, 1) := by decide +kernel
theorem dX10_entryAt_10 : decode cX10_entryAt 10 = .ok (.iaload, 1) := by decide +kernel
theorem dX10_entryAt_11 : decode cX10_entryAt 11 = .ok (.iadd, 1) := by decide +kernel
theorem dX10_entryAt_12 : decode cX10_entryAt 12 = .ok (.istore 4, 2) := by decide +kernel
theorem dX10_entryAt_14 : decode cX10_entryAt 14 = .ok (.iconst 0, 1) := by decide +kernel
theorem dX10_entryAt_15 : decode cX10_entryAt 15 = .ok (.istore 5, 2) := by decide +kernel
theorem dX10_entryAt_17 : decode cX10_entryAt 17 = .ok (.iload 5, 2) := by decide +kernel
theorem dX10_entryAt_19 : decode cX10_entryAt 19 = .ok (.iload_n 2, 1) := by decide +kernel
theorem dX10_entryAt_20 : decode cX10_entryAt 20 = .ok (.if_icmp .ge 39, 3) := by decide +kernel
theorem dX10_entryAt_23 : decode cX10_entryAt 23 = .ok (.iload 4, 2) := by decide +kernel
theorem dX10_entryAt_25 : decode cX10_entryAt 25 = .ok (.bipush 64, 2) := by decide +kernel
theorem dX10_entryAt_27 : decode cX10_entryAt 27 = .ok (.if_icmp .ge 32, 3) := by decide +kernel
theorem dX10_entryAt_30 : decode cX10_entryAt 30 = .ok (.aload_n 0, 1) := by decide +kernel
theorem dX10_entryAt_31 : decode cX10_entryAt 31 = .ok (.iload_n 3, 1) := by decide +kernel
theorem dX10_entryAt_32 : decode cX10_entryAt 32 = .ok (.iload 4, 2) := by decide +kernel
theorem dX10_entryAt_34 : decode cX10_entryAt 34 = .ok (.iadd, 1) := by decide +kernel
theorem dX10_entryAt_35 : decode cX10_entryAt 35 = .ok (.iaload, 1) := by decide +kernel
theorem dX10_entryAt_36 : decode cX10_entryAt 36 = .ok (.ifCond .eq 23, 3) := by decide +kernel
theorem dX10_entryAt_39 : decode cX10_entryAt 39 = .ok (.iload 4, 2) := by decide +kernel
theorem dX10_entryAt_41 : decode cX10_entryAt 41 = .ok (.aload_n 0, 1) := by decide +kernel
theorem dX10_entryAt_42 : decode cX10_entryAt 42 = .ok (.iload_n 3, 1) := by decide +kernel
theorem dX10_entryAt_43 : decode cX10_entryAt 43 = .ok (.iload 4, 2) := by decide +kernel
theorem dX10_entryAt_45 : decode cX10_entryAt 45 = .ok (.iadd, 1) := by decide +kernel
theorem dX10_entryAt_46 : decode cX10_entryAt 46 = .ok (.iaload, 1) := by decide +kernel
theorem dX10_entryAt_47 : decode cX10_entryAt 47 = .ok (.invokestatic 159, 3) := by decide +kernel
theorem dX10_entryAt_50 : decode cX10_entryAt 50 = .ok (.iadd, 1) := by decide +kernel
theorem dX10_entryAt_51 : decode cX10_entryAt 51 = .ok (.istore 4, 2) := by decide +kernel
theorem dX10_entryAt_53 : decode cX10_entryAt 53 = .ok (.iinc 5 1, 3) := by decide +kernel
theorem dX10_entryAt_56 : decode cX10_entryAt 56 = .ok (.goto (-39), 3) := by decide +kernel
theorem dX10_entryAt_59 : decode cX10_entryAt 59 = .ok (.iload 4, 2) := by decide +kernel
theorem dX10_entryAt_61 : decode cX10_entryAt 61 = .ok (.ireturn, 1) := by decide +kernel
theorem dX10_endOf_0 : decode cX10_endOf 0 = .ok (.aload_n 0, 1) := by decide +kernel
theorem dX10_endOf_1 : decode cX10_endOf 1 = .ok (.iload_n 1, 1) := by decide +kernel
theorem dX10_endOf_2 : decode cX10_endOf 2 = .ok (.bipush 64, 2) := by decide +kernel
theorem dX10_endOf_4 : decode cX10_endOf 4 = .ok (.invokestatic 162, 3) := by decide +kernel
theorem dX10_endOf_7 : decode cX10_endOf 7 = .ok (.ireturn, 1) := by decide +kernel
theorem dX10_entriesOf_0 : decode cX10_entriesOf 0 = .ok (.aload_n 0, 1) := by decide +kernel
theorem dX10_entriesOf_1 : decode cX10_entriesOf 1 = .ok (.iload_n 1, 1) := by decide +kernel
theorem dX10_entriesOf_2 : decode cX10_entriesOf 2 = .ok (.invokestatic 166, 3) := by decide +kernel
theorem dX10_entriesOf_5 : decode cX10_entriesOf 5 = .ok (.istore_n 2, 1) := by decide +kernel
theorem dX10_entriesOf_6 : decode cX10_entriesOf 6 = .ok (.iconst 0, 1) := by decide +kernel
theorem dX10_entriesOf_7 : decode cX10_entriesOf 7 = .ok (.istore_n 3, 1) := by decide +kernel
theorem dX10_entriesOf_8 : decode cX10_entriesOf 8 = .ok (.aload_n 0, 1) := by decide +kernel
theorem dX10_entriesOf_9 : decode cX10_entriesOf 9 = .ok (.iload_n 1, 1) := by decide +kernel
theorem dX10_entriesOf_10 : decode cX10_entriesOf 10 = .ok (.iload_n 3, 1) := by decide +kernel
theorem dX10_entriesOf_11 : decode cX10_entriesOf 11 = .ok (.invokestatic 162, 3) := by decide +kernel
theorem dX10_entriesOf_14 : decode cX10_entriesOf 14 = .ok (.iload_n 2, 1) := by decide +kernel
theorem dX10_entriesOf_15 : decode cX10_entriesOf 15 = .ok (.if_icmp .ge 9, 3) := by decide +kernel
theorem dX10_entriesOf_18 : decode cX10_entriesOf 18 = .ok (.iinc 3 1, 3) := by decide +kernel
theorem dX10_entriesOf_21 : decode cX10_entriesOf 21 = .ok (.goto (-13), 3) := by decide +kernel
theorem dX10_entriesOf_24 : decode cX10_entriesOf 24 = .ok (.iload_n 3, 1) := by decide +kernel
theorem dX10_entriesOf_25 : decode cX10_entriesOf 25 = .ok (.ireturn, 1) := by decide +kernel
theorem dX10_lays_0 : decode cX10_lays 0 = .ok (.aload_n 0, 1) := by decide +kernel
theorem dX10_lays_1 : decode cX10_lays 1 = .ok (.aload_n 1, 1) := by decide +kernel
theorem dX10_lays_2 : decode cX10_lays 2 = .ok (.iload_n 2, 1) := by decide +kernel
theorem dX10_lays_3 : decode cX10_lays 3 = .ok (.invokevirtual 169, 3) := by decide +kernel
theorem dX10_lays_6 : decode cX10_lays 6 = .ok (.aload_n 1, 1) := by decide +kernel
theorem dX10_lays_7 : decode cX10_lays 7 = .ok (.iload_n 2, 1) := by decide +kernel
theorem dX10_lays_8 : decode cX10_lays 8 = .ok (.iload_n 3, 1) := by decide +kernel
theorem dX10_lays_9 : decode cX10_lays 9 = .ok (.invokestatic 162, 3) := by decide +kernel
theorem dX10_lays_12 : decode cX10_lays 12 = .ok (.istore 4, 2) := by decide +kernel
theorem dX10_lays_14 : decode cX10_lays 14 = .ok (.iconst 2, 1) := by decide +kernel
theorem dX10_lays_15 : decode cX10_lays 15 = .ok (.aload_n 1, 1) := by decide +kernel
theorem dX10_lays_16 : decode cX10_lays 16 = .ok (.bipush 64, 2) := by decide +kernel
theorem dX10_lays_18 : decode cX10_lays 18 = .ok (.iload_n 2, 1) := by decide +kernel
theorem dX10_lays_19 : decode cX10_lays 19 = .ok (.imul, 1) := by decide +kernel
theorem dX10_lays_20 : decode cX10_lays 20 = .ok (.iconst 1, 1) := by decide +kernel
theorem dX10_lays_21 : decode cX10_lays 21 = .ok (.iadd, 1) := by decide +kernel
theorem dX10_lays_22 : decode cX10_lays 22 = .ok (.iaload, 1) := by decide +kernel
theorem dX10_lays_23 : decode cX10_lays 23 = .ok (.iadd, 1) := by decide +kernel
theorem dX10_lays_24 : decode cX10_lays 24 = .ok (.istore 5, 2) := by decide +kernel
theorem dX10_lays_26 : decode cX10_lays 26 = .ok (.iload 5, 2) := by decide +kernel
theorem dX10_lays_28 : decode cX10_lays 28 = .ok (.iload 4, 2) := by decide +kernel
theorem dX10_lays_30 : decode cX10_lays 30 = .ok (.if_icmp .ge 35, 3) := by decide +kernel
theorem dX10_lays_33 : decode cX10_lays 33 = .ok (.aload_n 0, 1) := by decide +kernel
theorem dX10_lays_34 : decode cX10_lays 34 = .ok (.aload_n 1, 1) := by decide +kernel
theorem dX10_lays_35 : decode cX10_lays 35 = .ok (.bipush 64, 2) := by decide +kernel
theorem dX10_lays_37 : decode cX10_lays 37 = .ok (.iload_n 2, 1) := by decide +kernel
theorem dX10_lays_38 : decode cX10_lays 38 = .ok (.imul, 1) := by decide +kernel
theorem dX10_lays_39 : decode cX10_lays 39 = .ok (.iload 5, 2) := by decide +kernel
theorem dX10_lays_41 : decode cX10_lays 41 = .ok (.iadd, 1) := by decide +kernel
theorem dX10_lays_42 : decode cX10_lays 42 = .ok (.invokevirtual 173, 3) := by decide +kernel
theorem dX10_lays_45 : decode cX10_lays 45 = .ok (.iload 5, 2) := by decide +kernel
theorem dX10_lays_47 : decode cX10_lays 47 = .ok (.aload_n 1, 1) := by decide +kernel
theorem dX10_lays_48 : decode cX10_lays 48 = .ok (.bipush 64, 2) := by decide +kernel
theorem dX10_lays_50 : decode cX10_lays 50 = .ok (.iload_n 2, 1) := by decide +kernel
theorem dX10_lays_51 : decode cX10_lays 51 = .ok (.imul, 1) := by decide +kernel
theorem dX10_lays_52 : decode cX10_lays 52 = .ok (.iload 5, 2) := by decide +kernel
theorem dX10_lays_54 : decode cX10_lays 54 = .ok (.iadd, 1) := by decide +kernel
theorem dX10_lays_55 : decode cX10_lays 55 = .ok (.iaload, 1) := by decide +kernel
theorem dX10_lays_56 : decode cX10_lays 56 = .ok (.invokestatic 159, 3) := by decide +kernel
theorem dX10_lays_59 : decode cX10_lays 59 = .ok (.iadd, 1) := by decide +kernel
theorem dX10_lays_60 : decode cX10_lays 60 = .ok (.istore 5, 2) := by decide +kernel
theorem dX10_lays_62 : decode cX10_lays 62 = .ok (.goto (-36), 3) := by decide +kernel
theorem dX10_lays_65 : decode cX10_lays 65 = .ok (.return_, 1) := by decide +kernel
theorem dX10_laysAlone_0 : decode cX10_laysAlone 0 = .ok (.aload_n 0, 1) := by decide +kernel
theorem dX10_laysAlone_1 : decode cX10_laysAlone 1 = .ok (.invokevirtual 176, 3) := by decide +kernel
theorem dX10_laysAlone_4 : decode cX10_laysAlone 4 = .ok (.aload_n 0, 1) := by decide +kernel
theorem dX10_laysAlone_5 : decode cX10_laysAlone 5 = .ok (.aload_n 1, 1) := by decide +kernel
theorem dX10_laysAlone_6 : decode cX10_laysAlone 6 = .ok (.iload_n 2, 1) := by decide +kernel
theorem dX10_laysAlone_7 : decode cX10_laysAlone 7 = .ok (.bipush 64, 2) := by decide +kernel
theorem dX10_laysAlone_9 : decode cX10_laysAlone 9 = .ok (.invokevirtual 179, 3) := by decide +kernel
theorem dX10_laysAlone_12 : decode cX10_laysAlone 12 = .ok (.return_, 1) := by decide +kernel
theorem dX10_laysAll_0 : decode cX10_laysAll 0 = .ok (.aload_n 0, 1) := by decide +kernel
theorem dX10_laysAll_1 : decode cX10_laysAll 1 = .ok (.invokevirtual 176, 3) := by decide +kernel
theorem dX10_laysAll_4 : decode cX10_laysAll 4 = .ok (.iconst 0, 1) := by decide +kernel
theorem dX10_laysAll_5 : decode cX10_laysAll 5 = .ok (.istore_n 2, 1) := by decide +kernel
theorem dX10_laysAll_6 : decode cX10_laysAll 6 = .ok (.iload_n 2, 1) := by decide +kernel
theorem dX10_laysAll_7 : decode cX10_laysAll 7 = .ok (.aload_n 1, 1) := by decide +kernel
theorem dX10_laysAll_8 : decode cX10_laysAll 8 = .ok (.invokestatic 151, 3) := by decide +kernel
theorem dX10_laysAll_11 : decode cX10_laysAll 11 = .ok (.if_icmp .ge 21, 3) := by decide +kernel
theorem dX10_laysAll_14 : decode cX10_laysAll 14 = .ok (.aload_n 0, 1) := by decide +kernel
theorem dX10_laysAll_15 : decode cX10_laysAll 15 = .ok (.aload_n 1, 1) := by decide +kernel
theorem dX10_laysAll_16 : decode cX10_laysAll 16 = .ok (.aload_n 1, 1) := by decide +kernel
theorem dX10_laysAll_17 : decode cX10_laysAll 17 = .ok (.iload_n 2, 1) := by decide +kernel
theorem dX10_laysAll_18 : decode cX10_laysAll 18 = .ok (.invokestatic 183, 3) := by decide +kernel
theorem dX10_laysAll_21 : decode cX10_laysAll 21 = .ok (.bipush 64, 2) := by decide +kernel
theorem dX10_laysAll_23 : decode cX10_laysAll 23 = .ok (.invokevirtual 179, 3) := by decide +kernel
theorem dX10_laysAll_26 : decode cX10_laysAll 26 = .ok (.iinc 2 1, 3) := by decide +kernel
theorem dX10_laysAll_29 : decode cX10_laysAll 29 = .ok (.goto (-23), 3) := by decide +kernel
theorem dX10_laysAll_32 : decode cX10_laysAll 32 = .ok (.return_, 1) := by decide +kernel
theorem dX10_full_0 : decode cX10_full 0 = .ok (.bipush 120, 2) := by decide +kernel
theorem dX10_full_2 : decode cX10_full 2 = .ok (.aload_n 0, 1) := by decide +kernel
theorem dX10_full_3 : decode cX10_full 3 = .ok (.getfield 25, 3) := by decide +kernel
theorem dX10_full_6 : decode cX10_full 6 = .ok (.sipush 661, 3) := by decide +kernel
theorem dX10_full_9 : decode cX10_full 9 = .ok (.iaload, 1) := by decide +kernel
theorem dX10_full_10 : decode cX10_full 10 = .ok (.isub, 1) := by decide +kernel
theorem dX10_full_11 : decode cX10_full 11 = .ok (.ireturn, 1) := by decide +kernel
theorem dX10_keysFrom_0 : decode cX10_keysFrom 0 = .ok (.iconst 0, 1) := by decide +kernel
theorem dX10_keysFrom_1 : decode cX10_keysFrom 1 = .ok (.istore_n 3, 1) := by decide +kernel
theorem dX10_keysFrom_2 : decode cX10_keysFrom 2 = .ok (.iload_n 1, 1) := by decide +kernel
theorem dX10_keysFrom_3 : decode cX10_keysFrom 3 = .ok (.istore 4, 2) := by decide +kernel
theorem dX10_keysFrom_5 : decode cX10_keysFrom 5 = .ok (.iload 4, 2) := by decide +kernel
theorem dX10_keysFrom_7 : decode cX10_keysFrom 7 = .ok (.iload_n 2, 1) := by decide +kernel
theorem dX10_keysFrom_8 : decode cX10_keysFrom 8 = .ok (.if_icmp .gt 28, 3) := by decide +kernel
theorem dX10_keysFrom_11 : decode cX10_keysFrom 11 = .ok (.iload_n 3, 1) := by decide +kernel
theorem dX10_keysFrom_12 : decode cX10_keysFrom 12 = .ok (.aload_n 0, 1) := by decide +kernel
theorem dX10_keysFrom_13 : decode cX10_keysFrom 13 = .ok (.getfield 47, 3) := by decide +kernel
theorem dX10_keysFrom_16 : decode cX10_keysFrom 16 = .ok (.iload 4, 2) := by decide +kernel
theorem dX10_keysFrom_18 : decode cX10_keysFrom 18 = .ok (.iaload, 1) := by decide +kernel
theorem dX10_keysFrom_19 : decode cX10_keysFrom 19 = .ok (.iconst (-1), 1) := by decide +kernel
theorem dX10_keysFrom_20 : decode cX10_keysFrom 20 = .ok (.if_icmp .ne 7, 3) := by decide +kernel
theorem dX10_keysFrom_23 : decode cX10_keysFrom 23 = .ok (.iconst 0, 1) := by decide +kernel
theorem dX10_keysFrom_24 : decode cX10_keysFrom 24 = .ok (.goto 4, 3) := by decide +kernel
theorem dX10_keysFrom_27 : decode cX10_keysFrom 27 = .ok (.iconst 1, 1) := by decide +kernel
theorem dX10_keysFrom_28 : decode cX10_keysFrom 28 = .ok (.iadd, 1) := by decide +kernel
theorem dX10_keysFrom_29 : decode cX10_keysFrom 29 = .ok (.istore_n 3, 1) := by decide +kernel
theorem dX10_keysFrom_30 : decode cX10_keysFrom 30 = .ok (.iinc 4 1, 3) := by decide +kernel
theorem dX10_keysFrom_33 : decode cX10_keysFrom 33 = .ok (.goto (-28), 3) := by decide +kernel
theorem dX10_keysFrom_36 : decode cX10_keysFrom 36 = .ok (.iload_n 3, 1) := by decide +kernel
theorem dX10_keysFrom_37 : decode cX10_keysFrom 37 = .ok (.ireturn, 1) := by decide +kernel
theorem dX10_fits_0 : decode cX10_fits 0 = .ok (.aload_n 0, 1) := by decide +kernel
theorem dX10_fits_1 : decode cX10_fits 1 = .ok (.iload_n 1, 1) := by decide +kernel
theorem dX10_fits_2 : decode cX10_fits 2 = .ok (.iload_n 2, 1) := by decide +kernel
theorem dX10_fits_3 : decode cX10_fits 3 = .ok (.invokevirtual 186, 3) := by decide +kernel
theorem dX10_fits_6 : decode cX10_fits 6 = .ok (.iconst 2, 1) := by decide +kernel
theorem dX10_fits_7 : decode cX10_fits 7 = .ok (.if_icmp .ge 5, 3) := by decide +kernel
theorem dX10_fits_10 : decode cX10_fits 10 = .ok (.iconst 1, 1) := by decide +kernel
theorem dX10_fits_11 : decode cX10_fits 11 = .ok (.ireturn, 1) := by decide +kernel
theorem dX10_fits_12 : decode cX10_fits 12 = .ok (.aload_n 0, 1) := by decide +kernel
theorem dX10_fits_13 : decode cX10_fits 13 = .ok (.iload_n 1, 1) := by decide +kernel
theorem dX10_fits_14 : decode cX10_fits 14 = .ok (.iload_n 2, 1) := by decide +kernel
theorem dX10_fits_15 : decode cX10_fits 15 = .ok (.invokevirtual 189, 3) := by decide +kernel
theorem dX10_fits_18 : decode cX10_fits 18 = .ok (.aload_n 0, 1) := by decide +kernel
theorem dX10_fits_19 : decode cX10_fits 19 = .ok (.invokevirtual 140, 3) := by decide +kernel
theorem dX10_fits_22 : decode cX10_fits 22 = .ok (.istore_n 3, 1) := by decide +kernel
theorem dX10_fits_23 : decode cX10_fits 23 = .ok (.iconst 2, 1) := by decide +kernel
theorem dX10_fits_24 : decode cX10_fits 24 = .ok (.aload_n 0, 1) := by decide +kernel
theorem dX10_fits_25 : decode cX10_fits 25 = .ok (.getfield 110, 3) := by decide +kernel
theorem dX10_fits_28 : decode cX10_fits 28 = .ok (.iadd, 1) := by decide +kernel
theorem dX10_fits_29 : decode cX10_fits 29 = .ok (.aload_n 0, 1) := by decide +kernel
theorem dX10_fits_30 : decode cX10_fits 30 = .ok (.getfield 13, 3) := by decide +kernel
theorem dX10_fits_33 : decode cX10_fits 33 = .ok (.iconst 0, 1) := by decide +kernel
theorem dX10_fits_34 : decode cX10_fits 34 = .ok (.iaload, 1) := by decide +kernel
theorem dX10_fits_35 : decode cX10_fits 35 = .ok (.iadd, 1) := by decide +kernel
theorem dX10_fits_36 : decode cX10_fits 36 = .ok (.bipush 64, 2) := by decide +kernel
theorem dX10_fits_38 : decode cX10_fits 38 = .ok (.if_icmp .gt 7, 3) := by decide +kernel
theorem dX10_fits_41 : decode cX10_fits 41 = .ok (.iconst 1, 1) := by decide +kernel
theorem dX10_fits_42 : decode cX10_fits 42 = .ok (.goto 4, 3) := by decide +kernel
theorem dX10_fits_45 : decode cX10_fits 45 = .ok (.iconst 0, 1) := by decide +kernel
theorem dX10_fits_46 : decode cX10_fits 46 = .ok (.ireturn, 1) := by decide +kernel
theorem dX10_learns_0 : decode cX10_learns 0 = .ok (.aload_n 0, 1) := by decide +kernel
theorem dX10_learns_1 : decode cX10_learns 1 = .ok (.getfield 25, 3) := by decide +kernel
theorem dX10_learns_4 : decode cX10_learns 4 = .ok (.sipush 662, 3) := by decide +kernel
theorem dX10_learns_7 : decode cX10_learns 7 = .ok (.dup2, 1) := by decide +kernel
theorem dX10_learns_8 : decode cX10_learns 8 = .ok (.iaload, 1) := by decide +kernel
theorem dX10_learns_9 : decode cX10_learns 9 = .ok (.iconst 1, 1) := by decide +kernel
theorem dX10_learns_10 : decode cX10_learns 10 = .ok (.iadd, 1) := by decide +kernel
theorem dX10_learns_11 : decode cX10_learns 11 = .ok (.iastore, 1) := by decide +kernel
theorem dX10_learns_12 : decode cX10_learns 12 = .ok (.aload_n 0, 1) := by decide +kernel
theorem dX10_learns_13 : decode cX10_learns 13 = .ok (.getfield 25, 3) := by decide +kernel
theorem dX10_learns_16 : decode cX10_learns 16 = .ok (.sipush 663, 3) := by decide +kernel
theorem dX10_learns_19 : decode cX10_learns 19 = .ok (.dup2, 1) := by decide +kernel
theorem dX10_learns_20 : decode cX10_learns 20 = .ok (.iaload, 1) := by decide +kernel
theorem dX10_learns_21 : decode cX10_learns 21 = .ok (.iload_n 1, 1) := by decide +kernel
theorem dX10_learns_22 : decode cX10_learns 22 = .ok (.ifCond .eq 7, 3) := by decide +kernel
theorem dX10_learns_25 : decode cX10_learns 25 = .ok (.iconst 0, 1) := by decide +kernel
theorem dX10_learns_26 : decode cX10_learns 26 = .ok (.goto 4, 3) := by decide +kernel
theorem dX10_learns_29 : decode cX10_learns 29 = .ok (.iconst 1, 1) := by decide +kernel
theorem dX10_learns_30 : decode cX10_learns 30 = .ok (.iadd, 1) := by decide +kernel
theorem dX10_learns_31 : decode cX10_learns 31 = .ok (.iastore, 1) := by decide +kernel
theorem dX10_learns_32 : decode cX10_learns 32 = .ok (.aload_n 0, 1) := by decide +kernel
theorem dX10_learns_33 : decode cX10_learns 33 = .ok (.getfield 25, 3) := by decide +kernel
theorem dX10_learns_36 : decode cX10_learns 36 = .ok (.sipush 662, 3) := by decide +kernel
theorem dX10_learns_39 : decode cX10_learns 39 = .ok (.iaload, 1) := by decide +kernel
theorem dX10_learns_40 : decode cX10_learns 40 = .ok (.aload_n 0, 1) := by decide +kernel
theorem dX10_learns_41 : decode cX10_learns 41 = .ok (.getfield 13, 3) := by decide +kernel
theorem dX10_learns_44 : decode cX10_learns 44 = .ok (.iconst 1, 1) := by decide +kernel
theorem dX10_learns_45 : decode cX10_learns 45 = .ok (.iaload, 1) := by decide +kernel
theorem dX10_learns_46 : decode cX10_learns 46 = .ok (.if_icmp .ge 4, 3) := by decide +kernel
theorem dX10_learns_49 : decode cX10_learns 49 = .ok (.return_, 1) := by decide +kernel
theorem dX10_learns_50 : decode cX10_learns 50 = .ok (.aload_n 0, 1) := by decide +kernel
theorem dX10_learns_51 : decode cX10_learns 51 = .ok (.getfield 25, 3) := by decide +kernel
theorem dX10_learns_54 : decode cX10_learns 54 = .ok (.sipush 663, 3) := by decide +kernel
theorem dX10_learns_57 : decode cX10_learns 57 = .ok (.iaload, 1) := by decide +kernel
theorem dX10_learns_58 : decode cX10_learns 58 = .ok (.bipush 100, 2) := by decide +kernel
theorem dX10_learns_60 : decode cX10_learns 60 = .ok (.imul, 1) := by decide +kernel
theorem dX10_learns_61 : decode cX10_learns 61 = .ok (.aload_n 0, 1) := by decide +kernel
theorem dX10_learns_62 : decode cX10_learns 62 = .ok (.getfield 13, 3) := by decide +kernel
theorem dX10_learns_65 : decode cX10_learns 65 = .ok (.iconst 2, 1) := by decide +kernel
theorem dX10_learns_66 : decode cX10_learns 66 = .ok (.iaload, 1) := by decide +kernel
theorem dX10_learns_67 : decode cX10_learns 67 = .ok (.aload_n 0, 1) := by decide +kernel
theorem dX10_learns_68 : decode cX10_learns 68 = .ok (.getfield 25, 3) := by decide +kernel
theorem dX10_learns_71 : decode cX10_learns 71 = .ok (.sipush 662, 3) := by decide +kernel
theorem dX10_learns_74 : decode cX10_learns 74 = .ok (.iaload, 1) := by decide +kernel
theorem dX10_learns_75 : decode cX10_learns 75 = .ok (.imul, 1) := by decide +kernel
theorem dX10_learns_76 : decode cX10_learns 76 = .ok (.if_icmp .le 7, 3) := by decide +kernel
theorem dX10_learns_79 : decode cX10_learns 79 = .ok (.iconst 1, 1) := by decide +kernel
theorem dX10_learns_80 : decode cX10_learns 80 = .ok (.goto 4, 3) := by decide +kernel
theorem dX10_learns_83 : decode cX10_learns 83 = .ok (.iconst 0, 1) := by decide +kernel
theorem dX10_learns_84 : decode cX10_learns 84 = .ok (.istore_n 2, 1) := by decide +kernel
theorem dX10_learns_85 : decode cX10_learns 85 = .ok (.aload_n 0, 1) := by decide +kernel
theorem dX10_learns_86 : decode cX10_learns 86 = .ok (.getfield 25, 3) := by decide +kernel
theorem dX10_learns_89 : decode cX10_learns 89 = .ok (.sipush 662, 3) := by decide +kernel
theorem dX10_learns_92 : decode cX10_learns 92 = .ok (.iconst 0, 1) := by decide +kernel
theorem dX10_learns_93 : decode cX10_learns 93 = .ok (.iastore, 1) := by decide +kernel
theorem dX10_learns_94 : decode cX10_learns 94 = .ok (.aload_n 0, 1) := by decide +kernel
theorem dX10_learns_95 : decode cX10_learns 95 = .ok (.getfield 25, 3) := by decide +kernel
theorem dX10_learns_98 : decode cX10_learns 98 = .ok (.sipush 663, 3) := by decide +kernel
theorem dX10_learns_101 : decode cX10_learns 101 = .ok (.iconst 0, 1) := by decide +kernel
theorem dX10_learns_102 : decode cX10_learns 102 = .ok (.iastore, 1) := by decide +kernel
theorem dX10_learns_103 : decode cX10_learns 103 = .ok (.iload_n 2, 1) := by decide +kernel
theorem dX10_learns_104 : decode cX10_learns 104 = .ok (.ifCond .eq 61, 3) := by decide +kernel
theorem dX10_learns_107 : decode cX10_learns 107 = .ok (.aload_n 0, 1) := by decide +kernel
theorem dX10_learns_108 : decode cX10_learns 108 = .ok (.getfield 25, 3) := by decide +kernel
theorem dX10_learns_111 : decode cX10_learns 111 = .ok (.sipush 661, 3) := by decide +kernel
theorem dX10_learns_114 : decode cX10_learns 114 = .ok (.aload_n 0, 1) := by decide +kernel
theorem dX10_learns_115 : decode cX10_learns 115 = .ok (.getfield 25, 3) := by decide +kernel
theorem dX10_learns_118 : decode cX10_learns 118 = .ok (.sipush 661, 3) := by decide +kernel
theorem dX10_learns_121 : decode cX10_learns 121 = .ok (.iaload, 1) := by decide +kernel
theorem dX10_learns_122 : decode cX10_learns 122 = .ok (.aload_n 0, 1) := by decide +kernel
theorem dX10_learns_123 : decode cX10_learns 123 = .ok (.getfield 13, 3) := by decide +kernel
theorem dX10_learns_126 : decode cX10_learns 126 = .ok (.iconst 3, 1) := by decide +kernel
theorem dX10_learns_127 : decode cX10_learns 127 = .ok (.iaload, 1) := by decide +kernel
theorem dX10_learns_128 : decode cX10_learns 128 = .ok (.iadd, 1) := by decide +kernel
theorem dX10_learns_129 : decode cX10_learns 129 = .ok (.bipush 64, 2) := by decide +kernel
theorem dX10_learns_131 : decode cX10_learns 131 = .ok (.if_icmp .le 8, 3) := by decide +kernel
theorem dX10_learns_134 : decode cX10_learns 134 = .ok (.bipush 64, 2) := by decide +kernel
theorem dX10_learns_136 : decode cX10_learns 136 = .ok (.goto 18, 3) := by decide +kernel
theorem dX10_learns_139 : decode cX10_learns 139 = .ok (.aload_n 0, 1) := by decide +kernel
theorem dX10_learns_140 : decode cX10_learns 140 = .ok (.getfield 25, 3) := by decide +kernel
theorem dX10_learns_143 : decode cX10_learns 143 = .ok (.sipush 661, 3) := by decide +kernel
theorem dX10_learns_146 : decode cX10_learns 146 = .ok (.iaload, 1) := by decide +kernel
theorem dX10_learns_147 : decode cX10_learns 147 = .ok (.aload_n 0, 1) := by decide +kernel
theorem dX10_learns_148 : decode cX10_learns 148 = .ok (.getfield 13, 3) := by decide +kernel
theorem dX10_learns_151 : decode cX10_learns 151 = .ok (.iconst 3, 1) := by decide +kernel
theorem dX10_learns_152 : decode cX10_learns 152 = .ok (.iaload, 1) := by decide +kernel
theorem dX10_learns_153 : decode cX10_learns 153 = .ok (.iadd, 1) := by decide +kernel
theorem dX10_learns_154 : decode cX10_learns 154 = .ok (.iastore, 1) := by decide +kernel
theorem dX10_learns_155 : decode cX10_learns 155 = .ok (.aload_n 0, 1) := by decide +kernel
theorem dX10_learns_156 : decode cX10_learns 156 = .ok (.getfield 25, 3) := by decide +kernel
theorem dX10_learns_159 : decode cX10_learns 159 = .ok (.sipush 664, 3) := by decide +kernel
theorem dX10_learns_162 : decode cX10_learns 162 = .ok (.iconst 0, 1) := by decide +kernel
theorem dX10_learns_163 : decode cX10_learns 163 = .ok (.iastore, 1) := by decide +kernel
theorem dX10_learns_164 : decode cX10_learns 164 = .ok (.return_, 1) := by decide +kernel
theorem dX10_learns_165 : decode cX10_learns 165 = .ok (.aload_n 0, 1) := by decide +kernel
theorem dX10_learns_166 : decode cX10_learns 166 = .ok (.getfield 25, 3) := by decide +kernel
theorem dX10_learns_169 : decode cX10_learns 169 = .ok (.sipush 664, 3) := by decide +kernel
theorem dX10_learns_172 : decode cX10_learns 172 = .ok (.dup2, 1) := by decide +kernel
theorem dX10_learns_173 : decode cX10_learns 173 = .ok (.iaload, 1) := by decide +kernel
theorem dX10_learns_174 : decode cX10_learns 174 = .ok (.iconst 1, 1) := by decide +kernel
theorem dX10_learns_175 : decode cX10_learns 175 = .ok (.iadd, 1) := by decide +kernel
theorem dX10_learns_176 : decode cX10_learns 176 = .ok (.iastore, 1) := by decide +kernel
theorem dX10_learns_177 : decode cX10_learns 177 = .ok (.aload_n 0, 1) := by decide +kernel
theorem dX10_learns_178 : decode cX10_learns 178 = .ok (.getfield 25, 3) := by decide +kernel
theorem dX10_learns_181 : decode cX10_learns 181 = .ok (.sipush 664, 3) := by decide +kernel
theorem dX10_learns_184 : decode cX10_learns 184 = .ok (.iaload, 1) := by decide +kernel
theorem dX10_learns_185 : decode cX10_learns 185 = .ok (.iconst 3, 1) := by decide +kernel
theorem dX10_learns_186 : decode cX10_learns 186 = .ok (.if_icmp .ge 4, 3) := by decide +kernel
theorem dX10_learns_189 : decode cX10_learns 189 = .ok (.return_, 1) := by decide +kernel
theorem dX10_learns_190 : decode cX10_learns 190 = .ok (.aload_n 0, 1) := by decide +kernel
theorem dX10_learns_191 : decode cX10_learns 191 = .ok (.getfield 25, 3) := by decide +kernel
theorem dX10_learns_194 : decode cX10_learns 194 = .ok (.sipush 664, 3) := by decide +kernel
theorem dX10_learns_197 : decode cX10_learns 197 = .ok (.iconst 0, 1) := by decide +kernel
theorem dX10_learns_198 : decode cX10_learns 198 = .ok (.iastore, 1) := by decide +kernel
theorem dX10_learns_199 : decode cX10_learns 199 = .ok (.aload_n 0, 1) := by decide +kernel
theorem dX10_learns_200 : decode cX10_learns 200 = .ok (.getfield 25, 3) := by decide +kernel
theorem dX10_learns_203 : decode cX10_learns 203 = .ok (.sipush 661, 3) := by decide +kernel
theorem dX10_learns_206 : decode cX10_learns 206 = .ok (.aload_n 0, 1) := by decide +kernel
theorem dX10_learns_207 : decode cX10_learns 207 = .ok (.getfield 25, 3) := by decide +kernel
theorem dX10_learns_210 : decode cX10_learns 210 = .ok (.sipush 661, 3) := by decide +kernel
theorem dX10_learns_213 : decode cX10_learns 213 = .ok (.iaload, 1) := by decide +kernel
theorem dX10_learns_214 : decode cX10_learns 214 = .ok (.aload_n 0, 1) := by decide +kernel
theorem dX10_learns_215 : decode cX10_learns 215 = .ok (.getfield 13, 3) := by decide +kernel
theorem dX10_learns_218 : decode cX10_learns 218 = .ok (.iconst 3, 1) := by decide +kernel
theorem dX10_learns_219 : decode cX10_learns 219 = .ok (.iaload, 1) := by decide +kernel
theorem dX10_learns_220 : decode cX10_learns 220 = .ok (.if_icmp .ge 7, 3) := by decide +kernel
theorem dX10_learns_223 : decode cX10_learns 223 = .ok (.iconst 0, 1) := by decide +kernel
theorem dX10_learns_224 : decode cX10_learns 224 = .ok (.goto 18, 3) := by decide +kernel
theorem dX10_learns_227 : decode cX10_learns 227 = .ok (.aload_n 0, 1) := by decide +kernel
theorem dX10_learns_228 : decode cX10_learns 228 = .ok (.getfield 25, 3) := by decide +kernel
theorem dX10_learns_231 : decode cX10_learns 231 = .ok (.sipush 661, 3) := by decide +kernel
theorem dX10_learns_234 : decode cX10_learns 234 = .ok (.iaload, 1) := by decide +kernel
theorem dX10_learns_235 : decode cX10_learns 235 = .ok (.aload_n 0, 1) := by decide +kernel
theorem dX10_learns_236 : decode cX10_learns 236 = .ok (.getfield 13, 3) := by decide +kernel
theorem dX10_learns_239 : decode cX10_learns 239 = .ok (.iconst 3, 1) := by decide +kernel
theorem dX10_learns_240 : decode cX10_learns 240 = .ok (.iaload, 1) := by decide +kernel
theorem dX10_learns_241 : decode cX10_learns 241 = .ok (.isub, 1) := by decide +kernel
theorem dX10_learns_242 : decode cX10_learns 242 = .ok (.iastore, 1) := by decide +kernel
theorem dX10_learns_243 : decode cX10_learns 243 = .ok (.return_, 1) := by decide +kernel
theorem dX10_waits_0 : decode cX10_waits 0 = .ok (.aload_n 0, 1) := by decide +kernel
theorem dX10_waits_1 : decode cX10_waits 1 = .ok (.getfield 59, 3) := by decide +kernel
theorem dX10_waits_4 : decode cX10_waits 4 = .ok (.aload_n 0, 1) := by decide +kernel
theorem dX10_waits_5 : decode cX10_waits 5 = .ok (.getfield 192, 3) := by decide +kernel
theorem dX10_waits_8 : decode cX10_waits 8 = .ok (.iload_n 1, 1) := by decide +kernel
theorem dX10_waits_9 : decode cX10_waits 9 = .ok (.iastore, 1) := by decide +kernel
theorem dX10_waits_10 : decode cX10_waits 10 = .ok (.aload_n 0, 1) := by decide +kernel
theorem dX10_waits_11 : decode cX10_waits 11 = .ok (.getfield 62, 3) := by decide +kernel
theorem dX10_waits_14 : decode cX10_waits 14 = .ok (.aload_n 0, 1) := by decide +kernel
theorem dX10_waits_15 : decode cX10_waits 15 = .ok (.getfield 192, 3) := by decide +kernel
theorem dX10_waits_18 : decode cX10_waits 18 = .ok (.iload_n 2, 1) := by decide +kernel
theorem dX10_waits_19 : decode cX10_waits 19 = .ok (.iastore, 1) := by decide +kernel
theorem dX10_waits_20 : decode cX10_waits 20 = .ok (.aload_n 0, 1) := by decide +kernel
theorem dX10_waits_21 : decode cX10_waits 21 = .ok (.dup, 1) := by decide +kernel
theorem dX10_waits_22 : decode cX10_waits 22 = .ok (.getfield 192, 3) := by decide +kernel
theorem dX10_waits_25 : decode cX10_waits 25 = .ok (.iconst 1, 1) := by decide +kernel
theorem dX10_waits_26 : decode cX10_waits 26 = .ok (.iadd, 1) := by decide +kernel
theorem dX10_waits_27 : decode cX10_waits 27 = .ok (.putfield 192, 3) := by decide +kernel
theorem dX10_waits_30 : decode cX10_waits 30 = .ok (.return_, 1) := by decide +kernel
theorem dX10_isPart_0 : decode cX10_isPart 0 = .ok (.aload_n 0, 1) := by decide +kernel
theorem dX10_isPart_1 : decode cX10_isPart 1 = .ok (.iload_n 1, 1) := by decide +kernel
theorem dX10_isPart_2 : decode cX10_isPart 2 = .ok (.iload_n 2, 1) := by decide +kernel
theorem dX10_isPart_3 : decode cX10_isPart 3 = .ok (.invokevirtual 186, 3) := by decide +kernel
theorem dX10_isPart_6 : decode cX10_isPart 6 = .ok (.iconst 1, 1) := by decide +kernel
theorem dX10_isPart_7 : decode cX10_isPart 7 = .ok (.if_icmp .le 18, 3) := by decide +kernel
theorem dX10_isPart_10 : decode cX10_isPart 10 = .ok (.aload_n 0, 1) := by decide +kernel
theorem dX10_isPart_11 : decode cX10_isPart 11 = .ok (.iload_n 1, 1) := by decide +kernel
theorem dX10_isPart_12 : decode cX10_isPart 12 = .ok (.iload_n 2, 1) := by decide +kernel
theorem dX10_isPart_13 : decode cX10_isPart 13 = .ok (.invokevirtual 195, 3) := by decide +kernel
theorem dX10_isPart_16 : decode cX10_isPart 16 = .ok (.aload_n 0, 1) := by decide +kernel
theorem dX10_isPart_17 : decode cX10_isPart 17 = .ok (.invokevirtual 198, 3) := by decide +kernel
theorem dX10_isPart_20 : decode cX10_isPart 20 = .ok (.if_icmp .le 5, 3) := by decide +kernel
theorem dX10_isPart_23 : decode cX10_isPart 23 = .ok (.iconst 0, 1) := by decide +kernel
theorem dX10_isPart_24 : decode cX10_isPart 24 = .ok (.ireturn, 1) := by decide +kernel
theorem dX10_isPart_25 : decode cX10_isPart 25 = .ok (.aload_n 0, 1) := by decide +kernel
theorem dX10_isPart_26 : decode cX10_isPart 26 = .ok (.iload_n 1, 1) := by decide +kernel
theorem dX10_isPart_27 : decode cX10_isPart 27 = .ok (.iload_n 2, 1) := by decide +kernel
theorem dX10_isPart_28 : decode cX10_isPart 28 = .ok (.invokevirtual 201, 3) := by decide +kernel
theorem dX10_isPart_31 : decode cX10_isPart 31 = .ok (.istore_n 3, 1) := by decide +kernel
theorem dX10_isPart_32 : decode cX10_isPart 32 = .ok (.aload_n 0, 1) := by decide +kernel
theorem dX10_isPart_33 : decode cX10_isPart 33 = .ok (.iload_n 3, 1) := by decide +kernel
theorem dX10_isPart_34 : decode cX10_isPart 34 = .ok (.invokevirtual 205, 3) := by decide +kernel
theorem dX10_isPart_37 : decode cX10_isPart 37 = .ok (.iload_n 3, 1) := by decide +kernel
theorem dX10_isPart_38 : decode cX10_isPart 38 = .ok (.ireturn, 1) := by decide +kernel
theorem dX10_middleOf_0 : decode cX10_middleOf 0 = .ok (.aload_n 0, 1) := by decide +kernel
theorem dX10_middleOf_1 : decode cX10_middleOf 1 = .ok (.iload_n 1, 1) := by decide +kernel
theorem dX10_middleOf_2 : decode cX10_middleOf 2 = .ok (.iload_n 2, 1) := by decide +kernel
theorem dX10_middleOf_3 : decode cX10_middleOf 3 = .ok (.invokevirtual 186, 3) := by decide +kernel
theorem dX10_middleOf_6 : decode cX10_middleOf 6 = .ok (.iconst 2, 1) := by decide +kernel
theorem dX10_middleOf_7 : decode cX10_middleOf 7 = .ok (.idiv, 1) := by decide +kernel
theorem dX10_middleOf_8 : decode cX10_middleOf 8 = .ok (.istore_n 3, 1) := by decide +kernel
theorem dX10_middleOf_9 : decode cX10_middleOf 9 = .ok (.iload_n 1, 1) := by decide +kernel
theorem dX10_middleOf_10 : decode cX10_middleOf 10 = .ok (.istore 4, 2) := by decide +kernel
theorem dX10_middleOf_12 : decode cX10_middleOf 12 = .ok (.iconst 0, 1) := by decide +kernel
theorem dX10_middleOf_13 : decode cX10_middleOf 13 = .ok (.istore 5, 2) := by decide +kernel
theorem dX10_middleOf_15 : decode cX10_middleOf 15 = .ok (.iload 5, 2) := by decide +kernel
theorem dX10_middleOf_17 : decode cX10_middleOf 17 = .ok (.iload_n 3, 1) := by decide +kernel
theorem dX10_middleOf_18 : decode cX10_middleOf 18 = .ok (.if_icmp .ge 30, 3) := by decide +kernel
theorem dX10_middleOf_21 : decode cX10_middleOf 21 = .ok (.iload 5, 2) := by decide +kernel
theorem dX10_middleOf_23 : decode cX10_middleOf 23 = .ok (.aload_n 0, 1) := by decide +kernel
theorem dX10_middleOf_24 : decode cX10_middleOf 24 = .ok (.getfield 47, 3) := by decide +kernel
theorem dX10_middleOf_27 : decode cX10_middleOf 27 = .ok (.iload 4, 2) := by decide +kernel
theorem dX10_middleOf_29 : decode cX10_middleOf 29 = .ok (.iaload, 1) := by decide +kernel
theorem dX10_middleOf_30 : decode cX10_middleOf 30 = .ok (.iconst (-1), 1) := by decide +kernel
theorem dX10_middleOf_31 : decode cX10_middleOf 31 = .ok (.if_icmp .ne 7, 3) := by decide +kernel
theorem dX10_middleOf_34 : decode cX10_middleOf 34 = .ok (.iconst 0, 1) := by decide +kernel
theorem dX10_middleOf_35 : decode cX10_middleOf 35 = .ok (.goto 4, 3) := by decide +kernel
theorem dX10_middleOf_38 : decode cX10_middleOf 38 = .ok (.iconst 1, 1) := by decide +kernel
theorem dX10_middleOf_39 : decode cX10_middleOf 39 = .ok (.iadd, 1) := by decide +kernel
theorem dX10_middleOf_40 : decode cX10_middleOf 40 = .ok (.istore 5, 2) := by decide +kernel
theorem dX10_middleOf_42 : decode cX10_middleOf 42 = .ok (.iinc 4 1, 3) := by decide +kernel
theorem dX10_middleOf_45 : decode cX10_middleOf 45 = .ok (.goto (-30), 3) := by decide +kernel
theorem dX10_middleOf_48 : decode cX10_middleOf 48 = .ok (.iload 4, 2) := by decide +kernel
theorem dX10_middleOf_50 : decode cX10_middleOf 50 = .ok (.ireturn, 1) := by decide +kernel
theorem dX10_spreads_0 : decode cX10_spreads 0 = .ok (.aload_n 0, 1) := by decide +kernel
theorem dX10_spreads_1 : decode cX10_spreads 1 = .ok (.iconst 0, 1) := by decide +kernel
theorem dX10_spreads_2 : decode cX10_spreads 2 = .ok (.putfield 192, 3) := by decide +kernel
theorem dX10_spreads_5 : decode cX10_spreads 5 = .ok (.aload_n 0, 1) := by decide +kernel
theorem dX10_spreads_6 : decode cX10_spreads 6 = .ok (.iconst 0, 1) := by decide +kernel
theorem dX10_spreads_7 : decode cX10_spreads 7 = .ok (.sipush 255, 3) := by decide +kernel
theorem dX10_spreads_10 : decode cX10_spreads 10 = .ok (.invokevirtual 209, 3) := by decide +kernel
theorem dX10_spreads_13 : decode cX10_spreads 13 = .ok (.aload_n 0, 1) := by decide +kernel
theorem dX10_spreads_14 : decode cX10_spreads 14 = .ok (.getfield 192, 3) := by decide +kernel
theorem dX10_spreads_17 : decode cX10_spreads 17 = .ok (.ifCond .le 99, 3) := by decide +kernel
theorem dX10_spreads_20 : decode cX10_spreads 20 = .ok (.aload_n 0, 1) := by decide +kernel
theorem dX10_spreads_21 : decode cX10_spreads 21 = .ok (.dup, 1) := by decide +kernel
theorem dX10_spreads_22 : decode cX10_spreads 22 = .ok (.getfield 192, 3) := by decide +kernel
theorem dX10_spreads_25 : decode cX10_spreads 25 = .ok (.iconst 1, 1) := by decide +kernel
theorem dX10_spreads_26 : decode cX10_spreads 26 = .ok (.isub, 1) := by decide +kernel
theorem dX10_spreads_27 : decode cX10_spreads 27 = .ok (.putfield 192, 3) := by decide +kernel
theorem dX10_spreads_30 : decode cX10_spreads 30 = .ok (.aload_n 0, 1) := by decide +kernel
theorem dX10_spreads_31 : decode cX10_spreads 31 = .ok (.getfield 59, 3) := by decide +kernel
theorem dX10_spreads_34 : decode cX10_spreads 34 = .ok (.aload_n 0, 1) := by decide +kernel
theorem dX10_spreads_35 : decode cX10_spreads 35 = .ok (.getfield 192, 3) := by decide +kernel
theorem dX10_spreads_38 : decode cX10_spreads 38 = .ok (.iaload, 1) := by decide +kernel
theorem dX10_spreads_39 : decode cX10_spreads 39 = .ok (.istore_n 1, 1) := by decide +kernel
theorem dX10_spreads_40 : decode cX10_spreads 40 = .ok (.aload_n 0, 1) := by decide +kernel
theorem dX10_spreads_41 : decode cX10_spreads 41 = .ok (.getfield 62, 3) := by decide +kernel
theorem dX10_spreads_44 : decode cX10_spreads 44 = .ok (.aload_n 0, 1) := by decide +kernel
theorem dX10_spreads_45 : decode cX10_spreads 45 = .ok (.getfield 192, 3) := by decide +kernel
theorem dX10_spreads_48 : decode cX10_spreads 48 = .ok (.iaload, 1) := by decide +kernel
theorem dX10_spreads_49 : decode cX10_spreads 49 = .ok (.istore_n 2, 1) := by decide +kernel
theorem dX10_spreads_50 : decode cX10_spreads 50 = .ok (.aload_n 0, 1) := by decide +kernel
theorem dX10_spreads_51 : decode cX10_spreads 51 = .ok (.iload_n 1, 1) := by decide +kernel
theorem dX10_spreads_52 : decode cX10_spreads 52 = .ok (.iload_n 2, 1) := by decide +kernel
theorem dX10_spreads_53 : decode cX10_spreads 53 = .ok (.invokevirtual 212, 3) := by decide +kernel
theorem dX10_spreads_56 : decode cX10_spreads 56 = .ok (.ifCond .eq 36, 3) := by decide +kernel
theorem dX10_spreads_59 : decode cX10_spreads 59 = .ok (.aload_n 0, 1) := by decide +kernel
theorem dX10_spreads_60 : decode cX10_spreads 60 = .ok (.getfield 53, 3) := by decide +kernel
theorem dX10_spreads_63 : decode cX10_spreads 63 = .ok (.aload_n 0, 1) := by decide +kernel
theorem dX10_spreads_64 : decode cX10_spreads 64 = .ok (.getfield 215, 3) := by decide +kernel
theorem dX10_spreads_67 : decode cX10_spreads 67 = .ok (.iload_n 1, 1) := by decide +kernel
theorem dX10_spreads_68 : decode cX10_spreads 68 = .ok (.iastore, 1) := by decide +kernel
theorem dX10_spreads_69 : decode cX10_spreads 69 = .ok (.aload_n 0, 1) := by decide +kernel
theorem dX10_spreads_70 : decode cX10_spreads 70 = .ok (.getfield 56, 3) := by decide +kernel
theorem dX10_spreads_73 : decode cX10_spreads 73 = .ok (.aload_n 0, 1) := by decide +kernel
theorem dX10_spreads_74 : decode cX10_spreads 74 = .ok (.getfield 215, 3) := by decide +kernel
theorem dX10_spreads_77 : decode cX10_spreads 77 = .ok (.iload_n 2, 1) := by decide +kernel
theorem dX10_spreads_78 : decode cX10_spreads 78 = .ok (.iastore, 1) := by decide +kernel
theorem dX10_spreads_79 : decode cX10_spreads 79 = .ok (.aload_n 0, 1) := by decide +kernel
theorem dX10_spreads_80 : decode cX10_spreads 80 = .ok (.dup, 1) := by decide +kernel
theorem dX10_spreads_81 : decode cX10_spreads 81 = .ok (.getfield 215, 3) := by decide +kernel
theorem dX10_spreads_84 : decode cX10_spreads 84 = .ok (.iconst 1, 1) := by decide +kernel
theorem dX10_spreads_85 : decode cX10_spreads 85 = .ok (.iadd, 1) := by decide +kernel
theorem dX10_spreads_86 : decode cX10_spreads 86 = .ok (.putfield 215, 3) := by decide +kernel
theorem dX10_spreads_89 : decode cX10_spreads 89 = .ok (.goto 24, 3) := by decide +kernel
theorem dX10_spreads_92 : decode cX10_spreads 92 = .ok (.aload_n 0, 1) := by decide +kernel
theorem dX10_spreads_93 : decode cX10_spreads 93 = .ok (.iload_n 1, 1) := by decide +kernel
theorem dX10_spreads_94 : decode cX10_spreads 94 = .ok (.iload_n 2, 1) := by decide +kernel
theorem dX10_spreads_95 : decode cX10_spreads 95 = .ok (.invokevirtual 218, 3) := by decide +kernel
theorem dX10_spreads_98 : decode cX10_spreads 98 = .ok (.istore_n 3, 1) := by decide +kernel
theorem dX10_spreads_99 : decode cX10_spreads 99 = .ok (.aload_n 0, 1) := by decide +kernel
theorem dX10_spreads_100 : decode cX10_spreads 100 = .ok (.iload_n 3, 1) := by decide +kernel
theorem dX10_spreads_101 : decode cX10_spreads 101 = .ok (.iload_n 2, 1) := by decide +kernel
theorem dX10_spreads_102 : decode cX10_spreads 102 = .ok (.invokevirtual 209, 3) := by decide +kernel
theorem dX10_spreads_105 : decode cX10_spreads 105 = .ok (.aload_n 0, 1) := by decide +kernel
theorem dX10_spreads_106 : decode cX10_spreads 106 = .ok (.iload_n 1, 1) := by decide +kernel
theorem dX10_spreads_107 : decode cX10_spreads 107 = .ok (.iload_n 3, 1) := by decide +kernel
theorem dX10_spreads_108 : decode cX10_spreads 108 = .ok (.iconst 1, 1) := by decide +kernel
theorem dX10_spreads_109 : decode cX10_spreads 109 = .ok (.isub, 1) := by decide +kernel
theorem dX10_spreads_110 : decode cX10_spreads 110 = .ok (.invokevirtual 209, 3) := by decide +kernel
theorem dX10_spreads_113 : decode cX10_spreads 113 = .ok (.goto (-100), 3) := by decide +kernel
theorem dX10_spreads_116 : decode cX10_spreads 116 = .ok (.return_, 1) := by decide +kernel
theorem dX10_lowestKey_0 : decode cX10_lowestKey 0 = .ok (.iload_n 1, 1) := by decide +kernel
theorem dX10_lowestKey_1 : decode cX10_lowestKey 1 = .ok (.istore_n 3, 1) := by decide +kernel
theorem dX10_lowestKey_2 : decode cX10_lowestKey 2 = .ok (.iload_n 3, 1) := by decide +kernel
theorem dX10_lowestKey_3 : decode cX10_lowestKey 3 = .ok (.iload_n 2, 1) := by decide +kernel
theorem dX10_lowestKey_4 : decode cX10_lowestKey 4 = .ok (.if_icmp .ge 19, 3) := by decide +kernel
theorem dX10_lowestKey_7 : decode cX10_lowestKey 7 = .ok (.aload_n 0, 1) := by decide +kernel
theorem dX10_lowestKey_8 : decode cX10_lowestKey 8 = .ok (.getfield 47, 3) := by decide +kernel
theorem dX10_lowestKey_11 : decode cX10_lowestKey 11 = .ok (.iload_n 3, 1) := by decide +kernel
theorem dX10_lowestKey_12 : decode cX10_lowestKey 12 = .ok (.iaload, 1) := by decide +kernel
theorem dX10_lowestKey_13 : decode cX10_lowestKey 13 = .ok (.iconst (-1), 1) := by decide +kernel
theorem dX10_lowestKey_14 : decode cX10_lowestKey 14 = .ok (.if_icmp .ne 9, 3) := by decide +kernel
theorem dX10_lowestKey_17 : decode cX10_lowestKey 17 = .ok (.iinc 3 1, 3) := by decide +kernel
theorem dX10_lowestKey_20 : decode cX10_lowestKey 20 = .ok (.goto (-18), 3) := by decide +kernel
theorem dX10_lowestKey_23 : decode cX10_lowestKey 23 = .ok (.iload_n 3, 1) := by decide +kernel
theorem dX10_lowestKey_24 : decode cX10_lowestKey 24 = .ok (.ireturn, 1) := by decide +kernel
theorem dX10_shapes_0 : decode cX10_shapes 0 = .ok (.aload_n 0, 1) := by decide +kernel
theorem dX10_shapes_1 : decode cX10_shapes 1 = .ok (.iload_n 2, 1) := by decide +kernel
theorem dX10_shapes_2 : decode cX10_shapes 2 = .ok (.iload_n 3, 1) := by decide +kernel
theorem dX10_shapes_3 : decode cX10_shapes 3 = .ok (.invokevirtual 189, 3) := by decide +kernel
theorem dX10_shapes_6 : decode cX10_shapes 6 = .ok (.bipush 64, 2) := by decide +kernel
theorem dX10_shapes_8 : decode cX10_shapes 8 = .ok (.iload_n 1, 1) := by decide +kernel
theorem dX10_shapes_9 : decode cX10_shapes 9 = .ok (.imul, 1) := by decide +kernel
theorem dX10_shapes_10 : decode cX10_shapes 10 = .ok (.istore 4, 2) := by decide +kernel
theorem dX10_shapes_12 : decode cX10_shapes 12 = .ok (.aload_n 0, 1) := by decide +kernel
theorem dX10_shapes_13 : decode cX10_shapes 13 = .ok (.getfield 25, 3) := by decide +kernel
theorem dX10_shapes_16 : decode cX10_shapes 16 = .ok (.iload 4, 2) := by decide +kernel
theorem dX10_shapes_18 : decode cX10_shapes 18 = .ok (.aload_n 0, 1) := by decide +kernel
theorem dX10_shapes_19 : decode cX10_shapes 19 = .ok (.invokevirtual 140, 3) := by decide +kernel
theorem dX10_shapes_22 : decode cX10_shapes 22 = .ok (.iastore, 1) := by decide +kernel
theorem dX10_shapes_23 : decode cX10_shapes 23 = .ok (.aload_n 0, 1) := by decide +kernel
theorem dX10_shapes_24 : decode cX10_shapes 24 = .ok (.getfield 25, 3) := by decide +kernel
theorem dX10_shapes_27 : decode cX10_shapes 27 = .ok (.iload 4, 2) := by decide +kernel
theorem dX10_shapes_29 : decode cX10_shapes 29 = .ok (.iconst 1, 1) := by decide +kernel
theorem dX10_shapes_30 : decode cX10_shapes 30 = .ok (.iadd, 1) := by decide +kernel
theorem dX10_shapes_31 : decode cX10_shapes 31 = .ok (.aload_n 0, 1) := by decide +kernel
theorem dX10_shapes_32 : decode cX10_shapes 32 = .ok (.getfield 110, 3) := by decide +kernel
theorem dX10_shapes_35 : decode cX10_shapes 35 = .ok (.iastore, 1) := by decide +kernel
theorem dX10_shapes_36 : decode cX10_shapes 36 = .ok (.iconst 0, 1) := by decide +kernel
theorem dX10_shapes_37 : decode cX10_shapes 37 = .ok (.istore 5, 2) := by decide +kernel
theorem dX10_shapes_39 : decode cX10_shapes 39 = .ok (.iload 5, 2) := by decide +kernel
theorem dX10_shapes_41 : decode cX10_shapes 41 = .ok (.iconst 2, 1) := by decide +kernel
theorem dX10_shapes_42 : decode cX10_shapes 42 = .ok (.iadd, 1) := by decide +kernel
theorem dX10_shapes_43 : decode cX10_shapes 43 = .ok (.bipush 64, 2) := by decide +kernel
theorem dX10_shapes_45 : decode cX10_shapes 45 = .ok (.if_icmp .ge 41, 3) := by decide +kernel
theorem dX10_shapes_48 : decode cX10_shapes 48 = .ok (.aload_n 0, 1) := by decide +kernel
theorem dX10_shapes_49 : decode cX10_shapes 49 = .ok (.getfield 25, 3) := by decide +kernel
theorem dX10_shapes_52 : decode cX10_shapes 52 = .ok (.iload 4, 2) := by decide +kernel
theorem dX10_shapes_54 : decode cX10_shapes 54 = .ok (.iconst 2, 1) := by decide +kernel
theorem dX10_shapes_55 : decode cX10_shapes 55 = .ok (.iadd, 1) := by decide +kernel
theorem dX10_shapes_56 : decode cX10_shapes 56 = .ok (.iload 5, 2) := by decide +kernel
theorem dX10_shapes_58 : decode cX10_shapes 58 = .ok (.iadd, 1) := by decide +kernel
theorem dX10_shapes_59 : decode cX10_shapes 59 = .ok (.iload 5, 2) := by decide +kernel
theorem dX10_shapes_61 : decode cX10_shapes 61 = .ok (.aload_n 0, 1) := by decide +kernel
theorem dX10_shapes_62 : decode cX10_shapes 62 = .ok (.getfield 110, 3) := by decide +kernel
theorem dX10_shapes_65 : decode cX10_shapes 65 = .ok (.if_icmp .ge 13, 3) := by decide +kernel
theorem dX10_shapes_68 : decode cX10_shapes 68 = .ok (.aload_n 0, 1) := by decide +kernel
theorem dX10_shapes_69 : decode cX10_shapes 69 = .ok (.getfield 44, 3) := by decide +kernel
theorem dX10_shapes_72 : decode cX10_shapes 72 = .ok (.iload 5, 2) := by decide +kernel
theorem dX10_shapes_74 : decode cX10_shapes 74 = .ok (.iaload, 1) := by decide +kernel
theorem dX10_shapes_75 : decode cX10_shapes 75 = .ok (.goto 4, 3) := by decide +kernel
theorem dX10_shapes_78 : decode cX10_shapes 78 = .ok (.iconst 0, 1) := by decide +kernel
theorem dX10_shapes_79 : decode cX10_shapes 79 = .ok (.iastore, 1) := by decide +kernel
theorem dX10_shapes_80 : decode cX10_shapes 80 = .ok (.iinc 5 1, 3) := by decide +kernel
theorem dX10_shapes_83 : decode cX10_shapes 83 = .ok (.goto (-44), 3) := by decide +kernel
theorem dX10_shapes_86 : decode cX10_shapes 86 = .ok (.return_, 1) := by decide +kernel
theorem dX10_lowestFree_0 : decode cX10_lowestFree 0 = .ok (.iconst 0, 1) := by decide +kernel
theorem dX10_lowestFree_1 : decode cX10_lowestFree 1 = .ok (.istore_n 1, 1) := by decide +kernel
theorem dX10_lowestFree_2 : decode cX10_lowestFree 2 = .ok (.iload_n 1, 1) := by decide +kernel
theorem dX10_lowestFree_3 : decode cX10_lowestFree 3 = .ok (.bipush 10, 2) := by decide +kernel
theorem dX10_lowestFree_5 : decode cX10_lowestFree 5 = .ok (.if_icmp .ge 58, 3) := by decide +kernel
theorem dX10_lowestFree_8 : decode cX10_lowestFree 8 = .ok (.iconst 1, 1) := by decide +kernel
theorem dX10_lowestFree_9 : decode cX10_lowestFree 9 = .ok (.istore_n 2, 1) := by decide +kernel
theorem dX10_lowestFree_10 : decode cX10_lowestFree 10 = .ok (.iconst 0, 1) := by decide +kernel
theorem dX10_lowestFree_11 : decode cX10_lowestFree 11 = .ok (.istore_n 3, 1) := by decide +kernel
theorem dX10_lowestFree_12 : decode cX10_lowestFree 12 = .ok (.iload_n 3, 1) := by decide +kernel
theorem dX10_lowestFree_13 : decode cX10_lowestFree 13 = .ok (.aload_n 0, 1) := by decide +kernel
theorem dX10_lowestFree_14 : decode cX10_lowestFree 14 = .ok (.getfield 25, 3) := by decide +kernel
theorem dX10_lowestFree_17 : decode cX10_lowestFree 17 = .ok (.invokestatic 151, 3) := by decide +kernel
theorem dX10_lowestFree_20 : decode cX10_lowestFree 20 = .ok (.if_icmp .ge 31, 3) := by decide +kernel
theorem dX10_lowestFree_23 : decode cX10_lowestFree 23 = .ok (.iload_n 2, 1) := by decide +kernel
theorem dX10_lowestFree_24 : decode cX10_lowestFree 24 = .ok (.ifCond .eq 19, 3) := by decide +kernel
theorem dX10_lowestFree_27 : decode cX10_lowestFree 27 = .ok (.aload_n 0, 1) := by decide +kernel
theorem dX10_lowestFree_28 : decode cX10_lowestFree 28 = .ok (.getfield 25, 3) := by decide +kernel
theorem dX10_lowestFree_31 : decode cX10_lowestFree 31 = .ok (.iload_n 3, 1) := by decide +kernel
theorem dX10_lowestFree_32 : decode cX10_lowestFree 32 = .ok (.invokestatic 183, 3) := by decide +kernel
theorem dX10_lowestFree_35 : decode cX10_lowestFree 35 = .ok (.iload_n 1, 1) := by decide +kernel
theorem dX10_lowestFree_36 : decode cX10_lowestFree 36 = .ok (.if_icmp .eq 7, 3) := by decide +kernel
theorem dX10_lowestFree_39 : decode cX10_lowestFree 39 = .ok (.iconst 1, 1) := by decide +kernel
theorem dX10_lowestFree_40 : decode cX10_lowestFree 40 = .ok (.goto 4, 3) := by decide +kernel
theorem dX10_lowestFree_43 : decode cX10_lowestFree 43 = .ok (.iconst 0, 1) := by decide +kernel
theorem dX10_lowestFree_44 : decode cX10_lowestFree 44 = .ok (.istore_n 2, 1) := by decide +kernel
theorem dX10_lowestFree_45 : decode cX10_lowestFree 45 = .ok (.iinc 3 1, 3) := by decide +kernel
theorem dX10_lowestFree_48 : decode cX10_lowestFree 48 = .ok (.goto (-36), 3) := by decide +kernel
theorem dX10_lowestFree_51 : decode cX10_lowestFree 51 = .ok (.iload_n 2, 1) := by decide +kernel
theorem dX10_lowestFree_52 : decode cX10_lowestFree 52 = .ok (.ifCond .eq 5, 3) := by decide +kernel
theorem dX10_lowestFree_55 : decode cX10_lowestFree 55 = .ok (.iload_n 1, 1) := by decide +kernel
theorem dX10_lowestFree_56 : decode cX10_lowestFree 56 = .ok (.ireturn, 1) := by decide +kernel
theorem dX10_lowestFree_57 : decode cX10_lowestFree 57 = .ok (.iinc 1 1, 3) := by decide +kernel
theorem dX10_lowestFree_60 : decode cX10_lowestFree 60 = .ok (.goto (-58), 3) := by decide +kernel
theorem dX10_lowestFree_63 : decode cX10_lowestFree 63 = .ok (.iconst (-1), 1) := by decide +kernel
theorem dX10_lowestFree_64 : decode cX10_lowestFree 64 = .ok (.ireturn, 1) := by decide +kernel
theorem dX10_goes_0 : decode cX10_goes 0 = .ok (.aload_n 0, 1) := by decide +kernel
theorem dX10_goes_1 : decode cX10_goes 1 = .ok (.getfield 25, 3) := by decide +kernel
theorem dX10_goes_4 : decode cX10_goes 4 = .ok (.sipush 640, 3) := by decide +kernel
theorem dX10_goes_7 : decode cX10_goes 7 = .ok (.dup2, 1) := by decide +kernel
theorem dX10_goes_8 : decode cX10_goes 8 = .ok (.iaload, 1) := by decide +kernel
theorem dX10_goes_9 : decode cX10_goes 9 = .ok (.iconst 1, 1) := by decide +kernel
theorem dX10_goes_10 : decode cX10_goes 10 = .ok (.isub, 1) := by decide +kernel
theorem dX10_goes_11 : decode cX10_goes 11 = .ok (.iastore, 1) := by decide +kernel
theorem dX10_goes_12 : decode cX10_goes 12 = .ok (.sipush 641, 3) := by decide +kernel
theorem dX10_goes_15 : decode cX10_goes 15 = .ok (.iconst 2, 1) := by decide +kernel
theorem dX10_goes_16 : decode cX10_goes 16 = .ok (.iload_n 1, 1) := by decide +kernel
theorem dX10_goes_17 : decode cX10_goes 17 = .ok (.imul, 1) := by decide +kernel
theorem dX10_goes_18 : decode cX10_goes 18 = .ok (.iadd, 1) := by decide +kernel
theorem dX10_goes_19 : decode cX10_goes 19 = .ok (.istore_n 2, 1) := by decide +kernel
theorem dX10_goes_20 : decode cX10_goes 20 = .ok (.iload_n 2, 1) := by decide +kernel
theorem dX10_goes_21 : decode cX10_goes 21 = .ok (.sipush 641, 3) := by decide +kernel
theorem dX10_goes_24 : decode cX10_goes 24 = .ok (.iconst 2, 1) := by decide +kernel
theorem dX10_goes_25 : decode cX10_goes 25 = .ok (.aload_n 0, 1) := by decide +kernel
theorem dX10_goes_26 : decode cX10_goes 26 = .ok (.getfield 25, 3) := by decide +kernel
theorem dX10_goes_29 : decode cX10_goes 29 = .ok (.invokestatic 151, 3) := by decide +kernel
theorem dX10_goes_32 : decode cX10_goes 32 = .ok (.imul, 1) := by decide +kernel
theorem dX10_goes_33 : decode cX10_goes 33 = .ok (.iadd, 1) := by decide +kernel
theorem dX10_goes_34 : decode cX10_goes 34 = .ok (.if_icmp .ge 23, 3) := by decide +kernel
theorem dX10_goes_37 : decode cX10_goes 37 = .ok (.aload_n 0, 1) := by decide +kernel
theorem dX10_goes_38 : decode cX10_goes 38 = .ok (.getfield 25, 3) := by decide +kernel
theorem dX10_goes_41 : decode cX10_goes 41 = .ok (.iload_n 2, 1) := by decide +kernel
theorem dX10_goes_42 : decode cX10_goes 42 = .ok (.aload_n 0, 1) := by decide +kernel
theorem dX10_goes_43 : decode cX10_goes 43 = .ok (.getfield 25, 3) := by decide +kernel
theorem dX10_goes_46 : decode cX10_goes 46 = .ok (.iload_n 2, 1) := by decide +kernel
theorem dX10_goes_47 : decode cX10_goes 47 = .ok (.iconst 2, 1) := by decide +kernel
theorem dX10_goes_48 : decode cX10_goes 48 = .ok (.iadd, 1) := by decide +kernel
theorem dX10_goes_49 : decode cX10_goes 49 = .ok (.iaload, 1) := by decide +kernel
theorem dX10_goes_50 : decode cX10_goes 50 = .ok (.iastore, 1) := by decide +kernel
theorem dX10_goes_51 : decode cX10_goes 51 = .ok (.iinc 2 1, 3) := by decide +kernel
theorem dX10_goes_54 : decode cX10_goes 54 = .ok (.goto (-34), 3) := by decide +kernel
theorem dX10_goes_57 : decode cX10_goes 57 = .ok (.return_, 1) := by decide +kernel
theorem dX10_comes_0 : decode cX10_comes 0 = .ok (.sipush 640, 3) := by decide +kernel
theorem dX10_comes_3 : decode cX10_comes 3 = .ok (.iconst 2, 1) := by decide +kernel
theorem dX10_comes_4 : decode cX10_comes 4 = .ok (.aload_n 0, 1) := by decide +kernel
theorem dX10_comes_5 : decode cX10_comes 5 = .ok (.getfield 25, 3) := by decide +kernel
theorem dX10_comes_8 : decode cX10_comes 8 = .ok (.invokestatic 151, 3) := by decide +kernel
theorem dX10_comes_11 : decode cX10_comes 11 = .ok (.imul, 1) := by decide +kernel
theorem dX10_comes_12 : decode cX10_comes 12 = .ok (.iadd, 1) := by decide +kernel
theorem dX10_comes_13 : decode cX10_comes 13 = .ok (.istore 4, 2) := by decide +kernel
theorem dX10_comes_15 : decode cX10_comes 15 = .ok (.iload 4, 2) := by decide +kernel
theorem dX10_comes_17 : decode cX10_comes 17 = .ok (.sipush 640, 3) := by decide +kernel
theorem dX10_comes_20 : decode cX10_comes 20 = .ok (.iconst 2, 1) := by decide +kernel
theorem dX10_comes_21 : decode cX10_comes 21 = .ok (.iload_n 1, 1) := by decide +kernel
theorem dX10_comes_22 : decode cX10_comes 22 = .ok (.imul, 1) := by decide +kernel
theorem dX10_comes_23 : decode cX10_comes 23 = .ok (.iadd, 1) := by decide +kernel
theorem dX10_comes_24 : decode cX10_comes 24 = .ok (.if_icmp .le 25, 3) := by decide +kernel
theorem dX10_comes_27 : decode cX10_comes 27 = .ok (.aload_n 0, 1) := by decide +kernel
theorem dX10_comes_28 : decode cX10_comes 28 = .ok (.getfield 25, 3) := by decide +kernel
theorem dX10_comes_31 : decode cX10_comes 31 = .ok (.iload 4, 2) := by decide +kernel
theorem dX10_comes_33 : decode cX10_comes 33 = .ok (.iconst 2, 1) := by decide +kernel
theorem dX10_comes_34 : decode cX10_comes 34 = .ok (.iadd, 1) := by decide +kernel
theorem dX10_comes_35 : decode cX10_comes 35 = .ok (.aload_n 0, 1) := by decide +kernel
theorem dX10_comes_36 : decode cX10_comes 36 = .ok (.getfield 25, 3) := by decide +kernel
theorem dX10_comes_39 : decode cX10_comes 39 = .ok (.iload 4, 2) := by decide +kernel
theorem dX10_comes_41 : decode cX10_comes 41 = .ok (.iaload, 1) := by decide +kernel
theorem dX10_comes_42 : decode cX10_comes 42 = .ok (.iastore, 1) := by decide +kernel
theorem dX10_comes_43 : decode cX10_comes 43 = .ok (.iinc 4 (-1), 3) := by decide +kernel
theorem dX10_comes_46 : decode cX10_comes 46 = .ok (.goto (-31), 3) := by decide +kernel
theorem dX10_comes_49 : decode cX10_comes 49 = .ok (.aload_n 0, 1) := by decide +kernel
theorem dX10_comes_50 : decode cX10_comes 50 = .ok (.getfield 25, 3) := by decide +kernel
theorem dX10_comes_53 : decode cX10_comes 53 = .ok (.sipush 640, 3) := by decide +kernel
theorem dX10_comes_56 : decode cX10_comes 56 = .ok (.dup2, 1) := by decide +kernel
theorem dX10_comes_57 : decode cX10_comes 57 = .ok (.iaload, 1) := by decide +kernel
theorem dX10_comes_58 : decode cX10_comes 58 = .ok (.iconst 1, 1) := by decide +kernel
theorem dX10_comes_59 : decode cX10_comes 59 = .ok (.iadd, 1) := by decide +kernel
theorem dX10_comes_60 : decode cX10_comes 60 = .ok (.iastore, 1) := by decide +kernel
theorem dX10_comes_61 : decode cX10_comes 61 = .ok (.aload_n 0, 1) := by decide +kernel
theorem dX10_comes_62 : decode cX10_comes 62 = .ok (.getfield 25, 3) := by decide +kernel
theorem dX10_comes_65 : decode cX10_comes 65 = .ok (.sipush 641, 3) := by decide +kernel
theorem dX10_comes_68 : decode cX10_comes 68 = .ok (.iconst 2, 1) := by decide +kernel
theorem dX10_comes_69 : decode cX10_comes 69 = .ok (.iload_n 1, 1) := by decide +kernel
theorem dX10_comes_70 : decode cX10_comes 70 = .ok (.imul, 1) := by decide +kernel
theorem dX10_comes_71 : decode cX10_comes 71 = .ok (.iadd, 1) := by decide +kernel
theorem dX10_comes_72 : decode cX10_comes 72 = .ok (.iload_n 2, 1) := by decide +kernel
theorem dX10_comes_73 : decode cX10_comes 73 = .ok (.iastore, 1) := by decide +kernel
theorem dX10_comes_74 : decode cX10_comes 74 = .ok (.aload_n 0, 1) := by decide +kernel
theorem dX10_comes_75 : decode cX10_comes 75 = .ok (.getfield 25, 3) := by decide +kernel
theorem dX10_comes_78 : decode cX10_comes 78 = .ok (.sipush 642, 3) := by decide +kernel
theorem dX10_comes_81 : decode cX10_comes 81 = .ok (.iconst 2, 1) := by decide +kernel
theorem dX10_comes_82 : decode cX10_comes 82 = .ok (.iload_n 1, 1) := by decide +kernel
theorem dX10_comes_83 : decode cX10_comes 83 = .ok (.imul, 1) := by decide +kernel
theorem dX10_comes_84 : decode cX10_comes 84 = .ok (.iadd, 1) := by decide +kernel
theorem dX10_comes_85 : decode cX10_comes 85 = .ok (.iload_n 3, 1) := by decide +kernel
theorem dX10_comes_86 : decode cX10_comes 86 = .ok (.iastore, 1) := by decide +kernel
theorem dX10_comes_87 : decode cX10_comes 87 = .ok (.return_, 1) := by decide +kernel
theorem dX10_drafts_0 : decode cX10_drafts 0 = .ok (.iconst 0, 1) := by decide +kernel
theorem dX10_drafts_1 : decode cX10_drafts 1 = .ok (.istore_n 1, 1) := by decide +kernel
theorem dX10_drafts_2 : decode cX10_drafts 2 = .ok (.iload_n 1, 1) := by decide +kernel
theorem dX10_drafts_3 : decode cX10_drafts 3 = .ok (.sipush 665, 3) := by decide +kernel
theorem dX10_drafts_6 : decode cX10_drafts 6 = .ok (.if_icmp .ge 21, 3) := by decide +kernel
theorem dX10_drafts_9 : decode cX10_drafts 9 = .ok (.aload_n 0, 1) := by decide +kernel
theorem dX10_drafts_10 : decode cX10_drafts 10 = .ok (.getfield 25, 3) := by decide +kernel
theorem dX10_drafts_13 : decode cX10_drafts 13 = .ok (.iload_n 1, 1) := by decide +kernel
theorem dX10_drafts_14 : decode cX10_drafts 14 = .ok (.aload_n 0, 1) := by decide +kernel
theorem dX10_drafts_15 : decode cX10_drafts 15 = .ok (.getfield 22, 3) := by decide +kernel
theorem dX10_drafts_18 : decode cX10_drafts 18 = .ok (.iload_n 1, 1) := by decide +kernel
theorem dX10_drafts_19 : decode cX10_drafts 19 = .ok (.iaload, 1) := by decide +kernel
theorem dX10_drafts_20 : decode cX10_drafts 20 = .ok (.iastore, 1) := by decide +kernel
theorem dX10_drafts_21 : decode cX10_drafts 21 = .ok (.iinc 1 1, 3) := by decide +kernel
theorem dX10_drafts_24 : decode cX10_drafts 24 = .ok (.goto (-22), 3) := by decide +kernel
theorem dX10_drafts_27 : decode cX10_drafts 27 = .ok (.aload_n 0, 1) := by decide +kernel
theorem dX10_drafts_28 : decode cX10_drafts 28 = .ok (.iconst 0, 1) := by decide +kernel
theorem dX10_drafts_29 : decode cX10_drafts 29 = .ok (.putfield 221, 3) := by decide +kernel
theorem dX10_drafts_32 : decode cX10_drafts 32 = .ok (.return_, 1) := by decide +kernel
theorem dX10_edits_0 : decode cX10_edits 0 = .ok (.aload_n 1, 1) := by decide +kernel
theorem dX10_edits_1 : decode cX10_edits 1 = .ok (.iload_n 2, 1) := by decide +kernel
theorem dX10_edits_2 : decode cX10_edits 2 = .ok (.iconst 1, 1) := by decide +kernel
theorem dX10_edits_3 : decode cX10_edits 3 = .ok (.iadd, 1) := by decide +kernel
theorem dX10_edits_4 : decode cX10_edits 4 = .ok (.iaload, 1) := by decide +kernel
theorem dX10_edits_5 : decode cX10_edits 5 = .ok (.istore_n 3, 1) := by decide +kernel
theorem dX10_edits_6 : decode cX10_edits 6 = .ok (.aload_n 1, 1) := by decide +kernel
theorem dX10_edits_7 : decode cX10_edits 7 = .ok (.iload_n 2, 1) := by decide +kernel
theorem dX10_edits_8 : decode cX10_edits 8 = .ok (.iaload, 1) := by decide +kernel
theorem dX10_edits_9 : decode cX10_edits 9 = .ok (.invokestatic 148, 3) := by decide +kernel
theorem dX10_edits_12 : decode cX10_edits 12 = .ok (.istore 4, 2) := by decide +kernel
theorem dX10_edits_14 : decode cX10_edits 14 = .ok (.aload_n 0, 1) := by decide +kernel
theorem dX10_edits_15 : decode cX10_edits 15 = .ok (.getfield 25, 3) := by decide +kernel
theorem dX10_edits_18 : decode cX10_edits 18 = .ok (.iload_n 3, 1) := by decide +kernel
theorem dX10_edits_19 : decode cX10_edits 19 = .ok (.invokestatic 224, 3) := by decide +kernel
theorem dX10_edits_22 : decode cX10_edits 22 = .ok (.istore 5, 2) := by decide +kernel
theorem dX10_edits_24 : decode cX10_edits 24 = .ok (.aload_n 0, 1) := by decide +kernel
theorem dX10_edits_25 : decode cX10_edits 25 = .ok (.getfield 25, 3) := by decide +kernel
theorem dX10_edits_28 : decode cX10_edits 28 = .ok (.iload 5, 2) := by decide +kernel
theorem dX10_edits_30 : decode cX10_edits 30 = .ok (.invokestatic 183, 3) := by decide +kernel
theorem dX10_edits_33 : decode cX10_edits 33 = .ok (.istore 6, 2) := by decide +kernel
theorem dX10_edits_35 : decode cX10_edits 35 = .ok (.aload_n 0, 1) := by decide +kernel
theorem dX10_edits_36 : decode cX10_edits 36 = .ok (.aload_n 0, 1) := by decide +kernel
theorem dX10_edits_37 : decode cX10_edits 37 = .ok (.getfield 25, 3) := by decide +kernel
theorem dX10_edits_40 : decode cX10_edits 40 = .ok (.iload 6, 2) := by decide +kernel
theorem dX10_edits_42 : decode cX10_edits 42 = .ok (.invokevirtual 227, 3) := by decide +kernel
theorem dX10_edits_45 : decode cX10_edits 45 = .ok (.aload_n 0, 1) := by decide +kernel
theorem dX10_edits_46 : decode cX10_edits 46 = .ok (.aload_n 1, 1) := by decide +kernel
theorem dX10_edits_47 : decode cX10_edits 47 = .ok (.iload_n 2, 1) := by decide +kernel
theorem dX10_edits_48 : decode cX10_edits 48 = .ok (.invokevirtual 230, 3) := by decide +kernel
theorem dX10_edits_51 : decode cX10_edits 51 = .ok (.istore 7, 2) := by decide +kernel
theorem dX10_edits_53 : decode cX10_edits 53 = .ok (.iload 7, 2) := by decide +kernel
theorem dX10_edits_55 : decode cX10_edits 55 = .ok (.ifCond .ge 6, 3) := by decide +kernel
theorem dX10_edits_58 : decode cX10_edits 58 = .ok (.iload 7, 2) := by decide +kernel
theorem dX10_edits_60 : decode cX10_edits 60 = .ok (.ireturn, 1) := by decide +kernel
theorem dX10_edits_61 : decode cX10_edits 61 = .ok (.aload_n 0, 1) := by decide +kernel
theorem dX10_edits_62 : decode cX10_edits 62 = .ok (.iconst 0, 1) := by decide +kernel
theorem dX10_edits_63 : decode cX10_edits 63 = .ok (.sipush 255, 3) := by decide +kernel
theorem dX10_edits_66 : decode cX10_edits 66 = .ok (.invokevirtual 195, 3) := by decide +kernel
theorem dX10_edits_69 : decode cX10_edits 69 = .ok (.istore 8, 2) := by decide +kernel
theorem dX10_edits_71 : decode cX10_edits 71 = .ok (.aload_n 0, 1) := by decide +kernel
theorem dX10_edits_72 : decode cX10_edits 72 = .ok (.aload_n 1, 1) := by decide +kernel
theorem dX10_edits_73 : decode cX10_edits 73 = .ok (.iload_n 2, 1) := by decide +kernel
theorem dX10_edits_74 : decode cX10_edits 74 = .ok (.invokevirtual 173, 3) := by decide +kernel
theorem dX10_edits_77 : decode cX10_edits 77 = .ok (.iload 4, 2) := by decide +kernel
theorem dX10_edits_79 : decode cX10_edits 79 = .ok (.iconst 2, 1) := by decide +kernel
theorem dX10_edits_80 : decode cX10_edits 80 = .ok (.if_icmp .ne 30, 3) := by decide +kernel
theorem dX10_edits_83 : decode cX10_edits 83 = .ok (.aload_n 0, 1) := by decide +kernel
theorem dX10_edits_84 : decode cX10_edits 84 = .ok (.invokevirtual 233, 3) := by decide +kernel
theorem dX10_edits_87 : decode cX10_edits 87 = .ok (.ifCond .ne 23, 3) := by decide +kernel
theorem dX10_edits_90 : decode cX10_edits 90 = .ok (.aload_n 0, 1) := by decide +kernel
theorem dX10_edits_91 : decode cX10_edits 91 = .ok (.getfield 25, 3) := by decide +kernel
theorem dX10_edits_94 : decode cX10_edits 94 = .ok (.iload 5, 2) := by decide +kernel
theorem dX10_edits_96 : decode cX10_edits 96 = .ok (.invokestatic 155, 3) := by decide +kernel
theorem dX10_edits_99 : decode cX10_edits 99 = .ok (.ifCond .eq 11, 3) := by decide +kernel
theorem dX10_edits_102 : decode cX10_edits 102 = .ok (.aload_n 0, 1) := by decide +kernel
theorem dX10_edits_103 : decode cX10_edits 103 = .ok (.iload 5, 2) := by decide +kernel
theorem dX10_edits_105 : decode cX10_edits 105 = .ok (.invokevirtual 236, 3) := by decide +kernel
theorem dX10_edits_108 : decode cX10_edits 108 = .ok (.iconst 2, 1) := by decide +kernel
theorem dX10_edits_109 : decode cX10_edits 109 = .ok (.ireturn, 1) := by decide +kernel
theorem dX10_edits_110 : decode cX10_edits 110 = .ok (.aload_n 1, 1) := by decide +kernel
theorem dX10_edits_111 : decode cX10_edits 111 = .ok (.iload_n 2, 1) := by decide +kernel
theorem dX10_edits_112 : decode cX10_edits 112 = .ok (.iaload, 1) := by decide +kernel
theorem dX10_edits_113 : decode cX10_edits 113 = .ok (.invokestatic 159, 3) := by decide +kernel
theorem dX10_edits_116 : decode cX10_edits 116 = .ok (.istore 9, 2) := by decide +kernel
theorem dX10_edits_118 : decode cX10_edits 118 = .ok (.aload_n 0, 1) := by decide +kernel
theorem dX10_edits_119 : decode cX10_edits 119 = .ok (.getfield 25, 3) := by decide +kernel
theorem dX10_edits_122 : decode cX10_edits 122 = .ok (.iload 6, 2) := by decide +kernel
theorem dX10_edits_124 : decode cX10_edits 124 = .ok (.invokestatic 166, 3) := by decide +kernel
theorem dX10_edits_127 : decode cX10_edits 127 = .ok (.istore 10, 2) := by decide +kernel
theorem dX10_edits_129 : decode cX10_edits 129 = .ok (.aload_n 0, 1) := by decide +kernel
theorem dX10_edits_130 : decode cX10_edits 130 = .ok (.iconst 0, 1) := by decide +kernel
theorem dX10_edits_131 : decode cX10_edits 131 = .ok (.sipush 255, 3) := by decide +kernel
theorem dX10_edits_134 : decode cX10_edits 134 = .ok (.invokevirtual 195, 3) := by decide +kernel
theorem dX10_edits_137 : decode cX10_edits 137 = .ok (.istore 11, 2) := by decide +kernel
theorem dX10_edits_139 : decode cX10_edits 139 = .ok (.iload 10, 2) := by decide +kernel
theorem dX10_edits_141 : decode cX10_edits 141 = .ok (.iload 9, 2) := by decide +kernel
theorem dX10_edits_143 : decode cX10_edits 143 = .ok (.iadd, 1) := by decide +kernel
theorem dX10_edits_144 : decode cX10_edits 144 = .ok (.iload 4, 2) := by decide +kernel
theorem dX10_edits_146 : decode cX10_edits 146 = .ok (.iconst 2, 1) := by decide +kernel
theorem dX10_edits_147 : decode cX10_edits 147 = .ok (.if_icmp .ne 7, 3) := by decide +kernel
theorem dX10_edits_150 : decode cX10_edits 150 = .ok (.iconst 0, 1) := by decide +kernel
theorem dX10_edits_151 : decode cX10_edits 151 = .ok (.goto 9, 3) := by decide +kernel
theorem dX10_edits_154 : decode cX10_edits 154 = .ok (.aload_n 0, 1) := by decide +kernel
theorem dX10_edits_155 : decode cX10_edits 155 = .ok (.getfield 13, 3) := by decide +kernel
theorem dX10_edits_158 : decode cX10_edits 158 = .ok (.iconst 0, 1) := by decide +kernel
theorem dX10_edits_159 : decode cX10_edits 159 = .ok (.iaload, 1) := by decide +kernel
theorem dX10_edits_160 : decode cX10_edits 160 = .ok (.iadd, 1) := by decide +kernel
theorem dX10_edits_161 : decode cX10_edits 161 = .ok (.bipush 64, 2) := by decide +kernel
theorem dX10_edits_163 : decode cX10_edits 163 = .ok (.if_icmp .gt 73, 3) := by decide +kernel
theorem dX10_edits_166 : decode cX10_edits 166 = .ok (.iload 11, 2) := by decide +kernel
theorem dX10_edits_168 : decode cX10_edits 168 = .ok (.aload_n 0, 1) := by decide +kernel
theorem dX10_edits_169 : decode cX10_edits 169 = .ok (.invokevirtual 198, 3) := by decide +kernel
theorem dX10_edits_172 : decode cX10_edits 172 = .ok (.if_icmp .le 10, 3) := by decide +kernel
theorem dX10_edits_175 : decode cX10_edits 175 = .ok (.iload 11, 2) := by decide +kernel
theorem dX10_edits_177 : decode cX10_edits 177 = .ok (.iload 8, 2) := by decide +kernel
theorem dX10_edits_179 : decode cX10_edits 179 = .ok (.if_icmp .gt 57, 3) := by decide +kernel
theorem dX10_edits_182 : decode cX10_edits 182 = .ok (.aload_n 0, 1) := by decide +kernel
theorem dX10_edits_183 : decode cX10_edits 183 = .ok (.bipush 64, 2) := by decide +kernel
theorem dX10_edits_185 : decode cX10_edits 185 = .ok (.iload 6, 2) := by decide +kernel
theorem dX10_edits_187 : decode cX10_edits 187 = .ok (.imul, 1) := by decide +kernel
theorem dX10_edits_188 : decode cX10_edits 188 = .ok (.iload 10, 2) := by decide +kernel
theorem dX10_edits_190 : decode cX10_edits 190 = .ok (.iadd, 1) := by decide +kernel
theorem dX10_edits_191 : decode cX10_edits 191 = .ok (.putfield 239, 3) := by decide +kernel
theorem dX10_edits_194 : decode cX10_edits 194 = .ok (.aload_n 0, 1) := by decide +kernel
theorem dX10_edits_195 : decode cX10_edits 195 = .ok (.iload 9, 2) := by decide +kernel
theorem dX10_edits_197 : decode cX10_edits 197 = .ok (.putfield 242, 3) := by decide +kernel
theorem dX10_edits_200 : decode cX10_edits 200 = .ok (.iconst 0, 1) := by decide +kernel
theorem dX10_edits_201 : decode cX10_edits 201 = .ok (.istore 12, 2) := by decide +kernel
theorem dX10_edits_203 : decode cX10_edits 203 = .ok (.iload 12, 2) := by decide +kernel
theorem dX10_edits_205 : decode cX10_edits 205 = .ok (.iload 9, 2) := by decide +kernel
theorem dX10_edits_207 : decode cX10_edits 207 = .ok (.if_icmp .ge 27, 3) := by decide +kernel
theorem dX10_edits_210 : decode cX10_edits 210 = .ok (.aload_n 0, 1) := by decide +kernel
theorem dX10_edits_211 : decode cX10_edits 211 = .ok (.getfield 25, 3) := by decide +kernel
theorem dX10_edits_214 : decode cX10_edits 214 = .ok (.aload_n 0, 1) := by decide +kernel
theorem dX10_edits_215 : decode cX10_edits 215 = .ok (.getfield 239, 3) := by decide +kernel
theorem dX10_edits_218 : decode cX10_edits 218 = .ok (.iload 12, 2) := by decide +kernel
theorem dX10_edits_220 : decode cX10_edits 220 = .ok (.iadd, 1) := by decide +kernel
theorem dX10_edits_221 : decode cX10_edits 221 = .ok (.aload_n 1, 1) := by decide +kernel
theorem dX10_edits_222 : decode cX10_edits 222 = .ok (.iload_n 2, 1) := by decide +kernel
theorem dX10_edits_223 : decode cX10_edits 223 = .ok (.iload 12, 2) := by decide +kernel
theorem dX10_edits_225 : decode cX10_edits 225 = .ok (.iadd, 1) := by decide +kernel
theorem dX10_edits_226 : decode cX10_edits 226 = .ok (.iaload, 1) := by decide +kernel
theorem dX10_edits_227 : decode cX10_edits 227 = .ok (.iastore, 1) := by decide +kernel
theorem dX10_edits_228 : decode cX10_edits 228 = .ok (.iinc 12 1, 3) := by decide +kernel
theorem dX10_edits_231 : decode cX10_edits 231 = .ok (.goto (-28), 3) := by decide +kernel
theorem dX10_edits_234 : decode cX10_edits 234 = .ok (.iconst 0, 1) := by decide +kernel
theorem dX10_edits_235 : decode cX10_edits 235 = .ok (.ireturn, 1) := by decide +kernel
theorem dX10_edits_236 : decode cX10_edits 236 = .ok (.aload_n 0, 1) := by decide +kernel
theorem dX10_edits_237 : decode cX10_edits 237 = .ok (.iload 5, 2) := by decide +kernel
theorem dX10_edits_239 : decode cX10_edits 239 = .ok (.invokevirtual 245, 3) := by decide +kernel
theorem dX10_edits_242 : decode cX10_edits 242 = .ok (.ireturn, 1) := by decide +kernel
theorem dX10_spreadsPage_0 : decode cX10_spreadsPage 0 = .ok (.aload_n 0, 1) := by decide +kernel
theorem dX10_spreadsPage_1 : decode cX10_spreadsPage 1 = .ok (.getfield 25, 3) := by decide +kernel
theorem dX10_spreadsPage_4 : decode cX10_spreadsPage 4 = .ok (.iload_n 1, 1) := by decide +kernel
theorem dX10_spreadsPage_5 : decode cX10_spreadsPage 5 = .ok (.invokestatic 183, 3) := by decide +kernel
theorem dX10_spreadsPage_8 : decode cX10_spreadsPage 8 = .ok (.istore_n 2, 1) := by decide +kernel
theorem dX10_spreadsPage_9 : decode cX10_spreadsPage 9 = .ok (.aload_n 0, 1) := by decide +kernel
theorem dX10_spreadsPage_10 : decode cX10_spreadsPage 10 = .ok (.iconst 0, 1) := by decide +kernel
theorem dX10_spreadsPage_11 : decode cX10_spreadsPage 11 = .ok (.putfield 215, 3) := by decide +kernel
theorem dX10_spreadsPage_14 : decode cX10_spreadsPage 14 = .ok (.aload_n 0, 1) := by decide +kernel
theorem dX10_spreadsPage_15 : decode cX10_spreadsPage 15 = .ok (.invokevirtual 248, 3) := by decide +kernel
theorem dX10_spreadsPage_18 : decode cX10_spreadsPage 18 = .ok (.aload_n 0, 1) := by decide +kernel
theorem dX10_spreadsPage_19 : decode cX10_spreadsPage 19 = .ok (.getfield 215, 3) := by decide +kernel
theorem dX10_spreadsPage_22 : decode cX10_spreadsPage 22 = .ok (.iconst 1, 1) := by decide +kernel
theorem dX10_spreadsPage_23 : decode cX10_spreadsPage 23 = .ok (.isub, 1) := by decide +kernel
theorem dX10_spreadsPage_24 : decode cX10_spreadsPage 24 = .ok (.bipush 10, 2) := by decide +kernel
theorem dX10_spreadsPage_26 : decode cX10_spreadsPage 26 = .ok (.aload_n 0, 1) := by decide +kernel
theorem dX10_spreadsPage_27 : decode cX10_spreadsPage 27 = .ok (.getfield 25, 3) := by decide +kernel
theorem dX10_spreadsPage_30 : decode cX10_spreadsPage 30 = .ok (.invokestatic 151, 3) := by decide +kernel
theorem dX10_spreadsPage_33 : decode cX10_spreadsPage 33 = .ok (.isub, 1) := by decide +kernel
theorem dX10_spreadsPage_34 : decode cX10_spreadsPage 34 = .ok (.if_icmp .le 6, 3) := by decide +kernel
theorem dX10_spreadsPage_37 : decode cX10_spreadsPage 37 = .ok (.bipush (-5), 2) := by decide +kernel
theorem dX10_spreadsPage_39 : decode cX10_spreadsPage 39 = .ok (.ireturn, 1) := by decide +kernel
theorem dX10_spreadsPage_40 : decode cX10_spreadsPage 40 = .ok (.iconst 0, 1) := by decide +kernel
theorem dX10_spreadsPage_41 : decode cX10_spreadsPage 41 = .ok (.istore_n 3, 1) := by decide +kernel
theorem dX10_spreadsPage_42 : decode cX10_spreadsPage 42 = .ok (.iload_n 3, 1) := by decide +kernel
theorem dX10_spreadsPage_43 : decode cX10_spreadsPage 43 = .ok (.aload_n 0, 1) := by decide +kernel
theorem dX10_spreadsPage_44 : decode cX10_spreadsPage 44 = .ok (.getfield 215, 3) := by decide +kernel
theorem dX10_spreadsPage_47 : decode cX10_spreadsPage 47 = .ok (.if_icmp .ge 83, 3) := by decide +kernel
theorem dX10_spreadsPage_50 : decode cX10_spreadsPage 50 = .ok (.iload_n 3, 1) := by decide +kernel
theorem dX10_spreadsPage_51 : decode cX10_spreadsPage 51 = .ok (.ifCond .ne 7, 3) := by decide +kernel
theorem dX10_spreadsPage_54 : decode cX10_spreadsPage 54 = .ok (.iload_n 2, 1) := by decide +kernel
theorem dX10_spreadsPage_55 : decode cX10_spreadsPage 55 = .ok (.goto 7, 3) := by decide +kernel
theorem dX10_spreadsPage_58 : decode cX10_spreadsPage 58 = .ok (.aload_n 0, 1) := by decide +kernel
theorem dX10_spreadsPage_59 : decode cX10_spreadsPage 59 = .ok (.invokevirtual 251, 3) := by decide +kernel
theorem dX10_spreadsPage_62 : decode cX10_spreadsPage 62 = .ok (.istore 4, 2) := by decide +kernel
theorem dX10_spreadsPage_64 : decode cX10_spreadsPage 64 = .ok (.aload_n 0, 1) := by decide +kernel
theorem dX10_spreadsPage_65 : decode cX10_spreadsPage 65 = .ok (.iload 4, 2) := by decide +kernel
theorem dX10_spreadsPage_67 : decode cX10_spreadsPage 67 = .ok (.aload_n 0, 1) := by decide +kernel
theorem dX10_spreadsPage_68 : decode cX10_spreadsPage 68 = .ok (.getfield 53, 3) := by decide +kernel
theorem dX10_spreadsPage_71 : decode cX10_spreadsPage 71 = .ok (.iload_n 3, 1) := by decide +kernel
theorem dX10_spreadsPage_72 : decode cX10_spreadsPage 72 = .ok (.iaload, 1) := by decide +kernel
theorem dX10_spreadsPage_73 : decode cX10_spreadsPage 73 = .ok (.aload_n 0, 1) := by decide +kernel
theorem dX10_spreadsPage_74 : decode cX10_spreadsPage 74 = .ok (.getfield 56, 3) := by decide +kernel
theorem dX10_spreadsPage_77 : decode cX10_spreadsPage 77 = .ok (.iload_n 3, 1) := by decide +kernel
theorem dX10_spreadsPage_78 : decode cX10_spreadsPage 78 = .ok (.iaload, 1) := by decide +kernel
theorem dX10_spreadsPage_79 : decode cX10_spreadsPage 79 = .ok (.invokevirtual 254, 3) := by decide +kernel
theorem dX10_spreadsPage_82 : decode cX10_spreadsPage 82 = .ok (.aload_n 0, 1) := by decide +kernel
theorem dX10_spreadsPage_83 : decode cX10_spreadsPage 83 = .ok (.dup, 1) := by decide +kernel
theorem dX10_spreadsPage_84 : decode cX10_spreadsPage 84 = .ok (.getfield 221, 3) := by decide +kernel
theorem dX10_spreadsPage_87 : decode cX10_spreadsPage 87 = .ok (.iconst 1, 1) := by decide +kernel
theorem dX10_spreadsPage_88 : decode cX10_spreadsPage 88 = .ok (.iload 4, 2) := by decide +kernel
theorem dX10_spreadsPage_90 : decode cX10_spreadsPage 90 = .ok (.ishl, 1) := by decide +kernel
theorem dX10_spreadsPage_91 : decode cX10_spreadsPage 91 = .ok (.ior, 1) := by decide +kernel
theorem dX10_spreadsPage_92 : decode cX10_spreadsPage 92 = .ok (.putfield 221, 3) := by decide +kernel
theorem dX10_spreadsPage_95 : decode cX10_spreadsPage 95 = .ok (.iload_n 3, 1) := by decide +kernel
theorem dX10_spreadsPage_96 : decode cX10_spreadsPage 96 = .ok (.ifCond .le 28, 3) := by decide +kernel
theorem dX10_spreadsPage_99 : decode cX10_spreadsPage 99 = .ok (.aload_n 0, 1) := by decide +kernel
theorem dX10_spreadsPage_100 : decode cX10_spreadsPage 100 = .ok (.iload_n 1, 1) := by decide +kernel
theorem dX10_spreadsPage_101 : decode cX10_spreadsPage 101 = .ok (.iload_n 3, 1) := by decide +kernel
theorem dX10_spreadsPage_102 : decode cX10_spreadsPage 102 = .ok (.iadd, 1) := by decide +kernel
theorem dX10_spreadsPage_103 : decode cX10_spreadsPage 103 = .ok (.iload 4, 2) := by decide +kernel
theorem dX10_spreadsPage_105 : decode cX10_spreadsPage 105 = .ok (.aload_n 0, 1) := by decide +kernel
theorem dX10_spreadsPage_106 : decode cX10_spreadsPage 106 = .ok (.aload_n 0, 1) := by decide +kernel
theorem dX10_spreadsPage_107 : decode cX10_spreadsPage 107 = .ok (.getfield 53, 3) := by decide +kernel
theorem dX10_spreadsPage_110 : decode cX10_spreadsPage 110 = .ok (.iload_n 3, 1) := by decide +kernel
theorem dX10_spreadsPage_111 : decode cX10_spreadsPage 111 = .ok (.iaload, 1) := by decide +kernel
theorem dX10_spreadsPage_112 : decode cX10_spreadsPage 112 = .ok (.aload_n 0, 1) := by decide +kernel
theorem dX10_spreadsPage_113 : decode cX10_spreadsPage 113 = .ok (.getfield 56, 3) := by decide +kernel
theorem dX10_spreadsPage_116 : decode cX10_spreadsPage 116 = .ok (.iload_n 3, 1) := by decide +kernel
theorem dX10_spreadsPage_117 : decode cX10_spreadsPage 117 = .ok (.iaload, 1) := by decide +kernel
theorem dX10_spreadsPage_118 : decode cX10_spreadsPage 118 = .ok (.invokevirtual 258, 3) := by decide +kernel
theorem dX10_spreadsPage_121 : decode cX10_spreadsPage 121 = .ok (.invokevirtual 261, 3) := by decide +kernel
theorem dX10_spreadsPage_124 : decode cX10_spreadsPage 124 = .ok (.iinc 3 1, 3) := by decide +kernel
theorem dX10_spreadsPage_127 : decode cX10_spreadsPage 127 = .ok (.goto (-85), 3) := by decide +kernel
theorem dX10_spreadsPage_130 : decode cX10_spreadsPage 130 = .ok (.aload_n 0, 1) := by decide +kernel
theorem dX10_spreadsPage_131 : decode cX10_spreadsPage 131 = .ok (.getfield 215, 3) := by decide +kernel
theorem dX10_spreadsPage_134 : decode cX10_spreadsPage 134 = .ok (.iconst 1, 1) := by decide +kernel
theorem dX10_spreadsPage_135 : decode cX10_spreadsPage 135 = .ok (.if_icmp .ne 7, 3) := by decide +kernel
theorem dX10_spreadsPage_138 : decode cX10_spreadsPage 138 = .ok (.iconst 1, 1) := by decide +kernel
theorem dX10_spreadsPage_139 : decode cX10_spreadsPage 139 = .ok (.goto 10, 3) := by decide +kernel
theorem dX10_spreadsPage_142 : decode cX10_spreadsPage 142 = .ok (.bipush 9, 2) := by decide +kernel
theorem dX10_spreadsPage_144 : decode cX10_spreadsPage 144 = .ok (.aload_n 0, 1) := by decide +kernel
theorem dX10_spreadsPage_145 : decode cX10_spreadsPage 145 = .ok (.getfield 215, 3) := by decide +kernel
theorem dX10_spreadsPage_148 : decode cX10_spreadsPage 148 = .ok (.iadd, 1) := by decide +kernel
theorem dX10_spreadsPage_149 : decode cX10_spreadsPage 149 = .ok (.ireturn, 1) := by decide +kernel
theorem dX10_writes_0 : decode cX10_writes 0 = .ok (.aload_n 0, 1) := by decide +kernel
theorem dX10_writes_1 : decode cX10_writes 1 = .ok (.getfield 264, 3) := by decide +kernel
theorem dX10_writes_4 : decode cX10_writes 4 = .ok (.ifCond .eq 4, 3) := by decide +kernel
theorem dX10_writes_7 : decode cX10_writes 7 = .ok (.return_, 1) := by decide +kernel
theorem dX10_writes_8 : decode cX10_writes 8 = .ok (.aload_n 0, 1) := by decide +kernel
theorem dX10_writes_9 : decode cX10_writes 9 = .ok (.getfield 35, 3) := by decide +kernel
theorem dX10_writes_12 : decode cX10_writes 12 = .ok (.ifCond .ne 9, 3) := by decide +kernel
theorem dX10_writes_15 : decode cX10_writes 15 = .ok (.aload_n 0, 1) := by decide +kernel
theorem dX10_writes_16 : decode cX10_writes 16 = .ok (.iconst 1, 1) := by decide +kernel
theorem dX10_writes_17 : decode cX10_writes 17 = .ok (.putfield 264, 3) := by decide +kernel
theorem dX10_writes_20 : decode cX10_writes 20 = .ok (.return_, 1) := by decide +kernel
theorem dX10_writes_21 : decode cX10_writes 21 = .ok (.aload_n 0, 1) := by decide +kernel
theorem dX10_writes_22 : decode cX10_writes 22 = .ok (.getfield 22, 3) := by decide +kernel
theorem dX10_writes_25 : decode cX10_writes 25 = .ok (.iload_n 1, 1) := by decide +kernel
theorem dX10_writes_26 : decode cX10_writes 26 = .ok (.iload_n 2, 1) := by decide +kernel
theorem dX10_writes_27 : decode cX10_writes 27 = .ok (.iastore, 1) := by decide +kernel
theorem dX10_writes_28 : decode cX10_writes 28 = .ok (.aload_n 0, 1) := by decide +kernel
theorem dX10_writes_29 : decode cX10_writes 29 = .ok (.dup, 1) := by decide +kernel
theorem dX10_writes_30 : decode cX10_writes 30 = .ok (.getfield 268, 3) := by decide +kernel
theorem dX10_writes_33 : decode cX10_writes 33 = .ok (.iconst 1, 1) := by decide +kernel
theorem dX10_writes_34 : decode cX10_writes 34 = .ok (.iadd, 1) := by decide +kernel
theorem dX10_writes_35 : decode cX10_writes 35 = .ok (.putfield 268, 3) := by decide +kernel
theorem dX10_writes_38 : decode cX10_writes 38 = .ok (.aload_n 0, 1) := by decide +kernel
theorem dX10_writes_39 : decode cX10_writes 39 = .ok (.getfield 35, 3) := by decide +kernel
theorem dX10_writes_42 : decode cX10_writes 42 = .ok (.ifCond .le 13, 3) := by decide +kernel
theorem dX10_writes_45 : decode cX10_writes 45 = .ok (.aload_n 0, 1) := by decide +kernel
theorem dX10_writes_46 : decode cX10_writes 46 = .ok (.dup, 1) := by decide +kernel
theorem dX10_writes_47 : decode cX10_writes 47 = .ok (.getfield 35, 3) := by decide +kernel
theorem dX10_writes_50 : decode cX10_writes 50 = .ok (.iconst 1, 1) := by decide +kernel
theorem dX10_writes_51 : decode cX10_writes 51 = .ok (.isub, 1) := by decide +kernel
theorem dX10_writes_52 : decode cX10_writes 52 = .ok (.putfield 35, 3) := by decide +kernel
theorem dX10_writes_55 : decode cX10_writes 55 = .ok (.return_, 1) := by decide +kernel
theorem dX10_beginsWriting_0 : decode cX10_beginsWriting 0 = .ok (.aload_n 0, 1) := by decide +kernel
theorem dX10_beginsWriting_1 : decode cX10_beginsWriting 1 = .ok (.iconst 0, 1) := by decide +kernel
theorem dX10_beginsWriting_2 : decode cX10_beginsWriting 2 = .ok (.putfield 268, 3) := by decide +kernel
theorem dX10_beginsWriting_5 : decode cX10_beginsWriting 5 = .ok (.aload_n 0, 1) := by decide +kernel
theorem dX10_beginsWriting_6 : decode cX10_beginsWriting 6 = .ok (.iconst 0, 1) := by decide +kernel
theorem dX10_beginsWriting_7 : decode cX10_beginsWriting 7 = .ok (.putfield 264, 3) := by decide +kernel
theorem dX10_beginsWriting_10 : decode cX10_beginsWriting 10 = .ok (.return_, 1) := by decide +kernel
theorem dX10_ends_0 : decode cX10_ends 0 = .ok (.sipush 661, 3) := by decide +kernel
theorem dX10_ends_3 : decode cX10_ends 3 = .ok (.istore_n 2, 1) := by decide +kernel
theorem dX10_ends_4 : decode cX10_ends 4 = .ok (.iload_n 2, 1) := by decide +kernel
theorem dX10_ends_5 : decode cX10_ends 5 = .ok (.sipush 664, 3) := by decide +kernel
theorem dX10_ends_8 : decode cX10_ends 8 = .ok (.if_icmp .gt 21, 3) := by decide +kernel
theorem dX10_ends_11 : decode cX10_ends 11 = .ok (.aload_n 0, 1) := by decide +kernel
theorem dX10_ends_12 : decode cX10_ends 12 = .ok (.getfield 22, 3) := by decide +kernel
theorem dX10_ends_15 : decode cX10_ends 15 = .ok (.iload_n 2, 1) := by decide +kernel
theorem dX10_ends_16 : decode cX10_ends 16 = .ok (.aload_n 0, 1) := by decide +kernel
theorem dX10_ends_17 : decode cX10_ends 17 = .ok (.getfield 25, 3) := by decide +kernel
theorem dX10_ends_20 : decode cX10_ends 20 = .ok (.iload_n 2, 1) := by decide +kernel
theorem dX10_ends_21 : decode cX10_ends 21 = .ok (.iaload, 1) := by decide +kernel
theorem dX10_ends_22 : decode cX10_ends 22 = .ok (.iastore, 1) := by decide +kernel
theorem dX10_ends_23 : decode cX10_ends 23 = .ok (.iinc 2 1, 3) := by decide +kernel
theorem dX10_ends_26 : decode cX10_ends 26 = .ok (.goto (-22), 3) := by decide +kernel
theorem dX10_ends_29 : decode cX10_ends 29 = .ok (.aload_n 0, 1) := by decide +kernel
theorem dX10_ends_30 : decode cX10_ends 30 = .ok (.getfield 264, 3) := by decide +kernel
theorem dX10_ends_33 : decode cX10_ends 33 = .ok (.ifCond .ne 9, 3) := by decide +kernel
theorem dX10_ends_36 : decode cX10_ends 36 = .ok (.aload_n 0, 1) := by decide +kernel
theorem dX10_ends_37 : decode cX10_ends 37 = .ok (.iload_n 1, 1) := by decide +kernel
theorem dX10_ends_38 : decode cX10_ends 38 = .ok (.invokevirtual 98, 3) := by decide +kernel
theorem dX10_ends_41 : decode cX10_ends 41 = .ok (.ireturn, 1) := by decide +kernel
theorem dX10_ends_42 : decode cX10_ends 42 = .ok (.aload_n 0, 1) := by decide +kernel
theorem dX10_ends_43 : decode cX10_ends 43 = .ok (.getfield 22, 3) := by decide +kernel
theorem dX10_ends_46 : decode cX10_ends 46 = .ok (.sipush 665, 3) := by decide +kernel
theorem dX10_ends_49 : decode cX10_ends 49 = .ok (.iconst 1, 1) := by decide +kernel
theorem dX10_ends_50 : decode cX10_ends 50 = .ok (.iastore, 1) := by decide +kernel
theorem dX10_ends_51 : decode cX10_ends 51 = .ok (.aload_n 0, 1) := by decide +kernel
theorem dX10_ends_52 : decode cX10_ends 52 = .ok (.iconst (-1), 1) := by decide +kernel
theorem dX10_ends_53 : decode cX10_ends 53 = .ok (.putfield 35, 3) := by decide +kernel
theorem dX10_ends_56 : decode cX10_ends 56 = .ok (.aload_n 0, 1) := by decide +kernel
theorem dX10_ends_57 : decode cX10_ends 57 = .ok (.iconst 0, 1) := by decide +kernel
theorem dX10_ends_58 : decode cX10_ends 58 = .ok (.putfield 91, 3) := by decide +kernel
theorem dX10_ends_61 : decode cX10_ends 61 = .ok (.aload_n 0, 1) := by decide +kernel
theorem dX10_ends_62 : decode cX10_ends 62 = .ok (.bipush (-7), 2) := by decide +kernel
theorem dX10_ends_64 : decode cX10_ends 64 = .ok (.putfield 80, 3) := by decide +kernel
theorem dX10_ends_67 : decode cX10_ends 67 = .ok (.aload_n 0, 1) := by decide +kernel
theorem dX10_ends_68 : decode cX10_ends 68 = .ok (.getfield 7, 3) := by decide +kernel
theorem dX10_ends_71 : decode cX10_ends 71 = .ok (.bipush 7, 2) := by decide +kernel
theorem dX10_ends_73 : decode cX10_ends 73 = .ok (.dup2, 1) := by decide +kernel
theorem dX10_ends_74 : decode cX10_ends 74 = .ok (.iaload, 1) := by decide +kernel
theorem dX10_ends_75 : decode cX10_ends 75 = .ok (.iconst 1, 1) := by decide +kernel
theorem dX10_ends_76 : decode cX10_ends 76 = .ok (.iadd, 1) := by decide +kernel
theorem dX10_ends_77 : decode cX10_ends 77 = .ok (.iastore, 1) := by decide +kernel
theorem dX10_ends_78 : decode cX10_ends 78 = .ok (.bipush (-7), 2) := by decide +kernel
theorem dX10_ends_80 : decode cX10_ends 80 = .ok (.ireturn, 1) := by decide +kernel
theorem dX10_directoryMany_0 : decode cX10_directoryMany 0 = .ok (.iconst 1, 1) := by decide +kernel
theorem dX10_directoryMany_1 : decode cX10_directoryMany 1 = .ok (.iconst 2, 1) := by decide +kernel
theorem dX10_directoryMany_2 : decode cX10_directoryMany 2 = .ok (.aload_n 1, 1) := by decide +kernel
theorem dX10_directoryMany_3 : decode cX10_directoryMany 3 = .ok (.invokestatic 151, 3) := by decide +kernel
theorem dX10_directoryMany_6 : decode cX10_directoryMany 6 = .ok (.imul, 1) := by decide +kernel
theorem dX10_directoryMany_7 : decode cX10_directoryMany 7 = .ok (.iadd, 1) := by decide +kernel
theorem dX10_directoryMany_8 : decode cX10_directoryMany 8 = .ok (.ireturn, 1) := by decide +kernel
theorem dX10_throughJournal_0 : decode cX10_throughJournal 0 = .ok (.iconst 0, 1) := by decide +kernel
theorem dX10_throughJournal_1 : decode cX10_throughJournal 1 = .ok (.istore_n 1, 1) := by decide +kernel
theorem dX10_throughJournal_2 : decode cX10_throughJournal 2 = .ok (.iconst 0, 1) := by decide +kernel
theorem dX10_throughJournal_3 : decode cX10_throughJournal 3 = .ok (.istore_n 2, 1) := by decide +kernel
theorem dX10_throughJournal_4 : decode cX10_throughJournal 4 = .ok (.iload_n 2, 1) := by decide +kernel
theorem dX10_throughJournal_5 : decode cX10_throughJournal 5 = .ok (.bipush 10, 2) := by decide +kernel
theorem dX10_throughJournal_7 : decode cX10_throughJournal 7 = .ok (.if_icmp .ge 20, 3) := by decide +kernel
theorem dX10_throughJournal_10 : decode cX10_throughJournal 10 = .ok (.iload_n 1, 1) := by decide +kernel
theorem dX10_throughJournal_11 : decode cX10_throughJournal 11 = .ok (.aload_n 0, 1) := by decide +kernel
theorem dX10_throughJournal_12 : decode cX10_throughJournal 12 = .ok (.getfield 221, 3) := by decide +kernel
theorem dX10_throughJournal_15 : decode cX10_throughJournal 15 = .ok (.iload_n 2, 1) := by decide +kernel
theorem dX10_throughJournal_16 : decode cX10_throughJournal 16 = .ok (.ishr, 1) := by decide +kernel
theorem dX10_throughJournal_17 : decode cX10_throughJournal 17 = .ok (.iconst 1, 1) := by decide +kernel
theorem dX10_throughJournal_18 : decode cX10_throughJournal 18 = .ok (.iand, 1) := by decide +kernel
theorem dX10_throughJournal_19 : decode cX10_throughJournal 19 = .ok (.iadd, 1) := by decide +kernel
theorem dX10_throughJournal_20 : decode cX10_throughJournal 20 = .ok (.istore_n 1, 1) := by decide +kernel
theorem dX10_throughJournal_21 : decode cX10_throughJournal 21 = .ok (.iinc 2 1, 3) := by decide +kernel
theorem dX10_throughJournal_24 : decode cX10_throughJournal 24 = .ok (.goto (-20), 3) := by decide +kernel
theorem dX10_throughJournal_27 : decode cX10_throughJournal 27 = .ok (.sipush 667, 3) := by decide +kernel
theorem dX10_throughJournal_30 : decode cX10_throughJournal 30 = .ok (.istore_n 2, 1) := by decide +kernel
theorem dX10_throughJournal_31 : decode cX10_throughJournal 31 = .ok (.aload_n 0, 1) := by decide +kernel
theorem dX10_throughJournal_32 : decode cX10_throughJournal 32 = .ok (.iload_n 2, 1) := by decide +kernel
theorem dX10_throughJournal_33 : decode cX10_throughJournal 33 = .ok (.iload_n 1, 1) := by decide +kernel
theorem dX10_throughJournal_34 : decode cX10_throughJournal 34 = .ok (.invokevirtual 271, 3) := by decide +kernel
theorem dX10_throughJournal_37 : decode cX10_throughJournal 37 = .ok (.iinc 2 1, 3) := by decide +kernel
theorem dX10_throughJournal_40 : decode cX10_throughJournal 40 = .ok (.iconst 0, 1) := by decide +kernel
theorem dX10_throughJournal_41 : decode cX10_throughJournal 41 = .ok (.istore_n 3, 1) := by decide +kernel
theorem dX10_throughJournal_42 : decode cX10_throughJournal 42 = .ok (.iload_n 3, 1) := by decide +kernel
theorem dX10_throughJournal_43 : decode cX10_throughJournal 43 = .ok (.bipush 10, 2) := by decide +kernel
theorem dX10_throughJournal_45 : decode cX10_throughJournal 45 = .ok (.if_icmp .ge 70, 3) := by decide +kernel
theorem dX10_throughJournal_48 : decode cX10_throughJournal 48 = .ok (.aload_n 0, 1) := by decide +kernel
theorem dX10_throughJournal_49 : decode cX10_throughJournal 49 = .ok (.getfield 221, 3) := by decide +kernel
theorem dX10_throughJournal_52 : decode cX10_throughJournal 52 = .ok (.iload_n 3, 1) := by decide +kernel
theorem dX10_throughJournal_53 : decode cX10_throughJournal 53 = .ok (.ishr, 1) := by decide +kernel
theorem dX10_throughJournal_54 : decode cX10_throughJournal 54 = .ok (.iconst 1, 1) := by decide +kernel
theorem dX10_throughJournal_55 : decode cX10_throughJournal 55 = .ok (.iand, 1) := by decide +kernel
theorem dX10_throughJournal_56 : decode cX10_throughJournal 56 = .ok (.ifCond .ne 6, 3) := by decide +kernel
theorem dX10_throughJournal_59 : decode cX10_throughJournal 59 = .ok (.goto 50, 3) := by decide +kernel
theorem dX10_throughJournal_62 : decode cX10_throughJournal 62 = .ok (.aload_n 0, 1) := by decide +kernel
theorem dX10_throughJournal_63 : decode cX10_throughJournal 63 = .ok (.iload_n 2, 1) := by decide +kernel
theorem dX10_throughJournal_64 : decode cX10_throughJournal 64 = .ok (.iload_n 3, 1) := by decide +kernel
theorem dX10_throughJournal_65 : decode cX10_throughJournal 65 = .ok (.invokevirtual 271, 3) := by decide +kernel
theorem dX10_throughJournal_68 : decode cX10_throughJournal 68 = .ok (.iconst 0, 1) := by decide +kernel
theorem dX10_throughJournal_69 : decode cX10_throughJournal 69 = .ok (.istore 4, 2) := by decide +kernel
theorem dX10_throughJournal_71 : decode cX10_throughJournal 71 = .ok (.iload 4, 2) := by decide +kernel
theorem dX10_throughJournal_73 : decode cX10_throughJournal 73 = .ok (.bipush 64, 2) := by decide +kernel
theorem dX10_throughJournal_75 : decode cX10_throughJournal 75 = .ok (.if_icmp .ge 31, 3) := by decide +kernel
theorem dX10_throughJournal_78 : decode cX10_throughJournal 78 = .ok (.aload_n 0, 1) := by decide +kernel
theorem dX10_throughJournal_79 : decode cX10_throughJournal 79 = .ok (.iload_n 2, 1) := by decide +kernel
theorem dX10_throughJournal_80 : decode cX10_throughJournal 80 = .ok (.iconst 1, 1) := by decide +kernel
theorem dX10_throughJournal_81 : decode cX10_throughJournal 81 = .ok (.iadd, 1) := by decide +kernel
theorem dX10_throughJournal_82 : decode cX10_throughJournal 82 = .ok (.iload 4, 2) := by decide +kernel
theorem dX10_throughJournal_84 : decode cX10_throughJournal 84 = .ok (.iadd, 1) := by decide +kernel
theorem dX10_throughJournal_85 : decode cX10_throughJournal 85 = .ok (.aload_n 0, 1) := by decide +kernel
theorem dX10_throughJournal_86 : decode cX10_throughJournal 86 = .ok (.getfield 25, 3) := by decide +kernel
theorem dX10_throughJournal_89 : decode cX10_throughJournal 89 = .ok (.bipush 64, 2) := by decide +kernel
theorem dX10_throughJournal_91 : decode cX10_throughJournal 91 = .ok (.iload_n 3, 1) := by decide +kernel
theorem dX10_throughJournal_92 : decode cX10_throughJournal 92 = .ok (.imul, 1) := by decide +kernel
theorem dX10_throughJournal_93 : decode cX10_throughJournal 93 = .ok (.iload 4, 2) := by decide +kernel
theorem dX10_throughJournal_95 : decode cX10_throughJournal 95 = .ok (.iadd, 1) := by decide +kernel
theorem dX10_throughJournal_96 : decode cX10_throughJournal 96 = .ok (.iaload, 1) := by decide +kernel
theorem dX10_throughJournal_97 : decode cX10_throughJournal 97 = .ok (.invokevirtual 271, 3) := by decide +kernel
theorem dX10_throughJournal_100 : decode cX10_throughJournal 100 = .ok (.iinc 4 1, 3) := by decide +kernel
theorem dX10_throughJournal_103 : decode cX10_throughJournal 103 = .ok (.goto (-32), 3) := by decide +kernel
theorem dX10_throughJournal_106 : decode cX10_throughJournal 106 = .ok (.iinc 2 65, 3) := by decide +kernel
theorem dX10_throughJournal_109 : decode cX10_throughJournal 109 = .ok (.iinc 3 1, 3) := by decide +kernel
theorem dX10_throughJournal_112 : decode cX10_throughJournal 112 = .ok (.goto (-70), 3) := by decide +kernel
theorem dX10_throughJournal_115 : decode cX10_throughJournal 115 = .ok (.iconst 0, 1) := by decide +kernel
theorem dX10_throughJournal_116 : decode cX10_throughJournal 116 = .ok (.istore_n 3, 1) := by decide +kernel
theorem dX10_throughJournal_117 : decode cX10_throughJournal 117 = .ok (.iload_n 3, 1) := by decide +kernel
theorem dX10_throughJournal_118 : decode cX10_throughJournal 118 = .ok (.aload_n 0, 1) := by decide +kernel
theorem dX10_throughJournal_119 : decode cX10_throughJournal 119 = .ok (.aload_n 0, 1) := by decide +kernel
theorem dX10_throughJournal_120 : decode cX10_throughJournal 120 = .ok (.getfield 25, 3) := by decide +kernel
theorem dX10_throughJournal_123 : decode cX10_throughJournal 123 = .ok (.invokevirtual 274, 3) := by decide +kernel
theorem dX10_throughJournal_126 : decode cX10_throughJournal 126 = .ok (.if_icmp .ge 26, 3) := by decide +kernel
theorem dX10_throughJournal_129 : decode cX10_throughJournal 129 = .ok (.aload_n 0, 1) := by decide +kernel
theorem dX10_throughJournal_130 : decode cX10_throughJournal 130 = .ok (.iload_n 2, 1) := by decide +kernel
theorem dX10_throughJournal_131 : decode cX10_throughJournal 131 = .ok (.iload_n 3, 1) := by decide +kernel
theorem dX10_throughJournal_132 : decode cX10_throughJournal 132 = .ok (.iadd, 1) := by decide +kernel
theorem dX10_throughJournal_133 : decode cX10_throughJournal 133 = .ok (.aload_n 0, 1) := by decide +kernel
theorem dX10_throughJournal_134 : decode cX10_throughJournal 134 = .ok (.getfield 25, 3) := by decide +kernel
theorem dX10_throughJournal_137 : decode cX10_throughJournal 137 = .ok (.sipush 640, 3) := by decide +kernel
theorem dX10_throughJournal_140 : decode cX10_throughJournal 140 = .ok (.iload_n 3, 1) := by decide +kernel
theorem dX10_throughJournal_141 : decode cX10_throughJournal 141 = .ok (.iadd, 1) := by decide +kernel
theorem dX10_throughJournal_142 : decode cX10_throughJournal 142 = .ok (.iaload, 1) := by decide +kernel
theorem dX10_throughJournal_143 : decode cX10_throughJournal 143 = .ok (.invokevirtual 271, 3) := by decide +kernel
theorem dX10_throughJournal_146 : decode cX10_throughJournal 146 = .ok (.iinc 3 1, 3) := by decide +kernel
theorem dX10_throughJournal_149 : decode cX10_throughJournal 149 = .ok (.goto (-32), 3) := by decide +kernel
theorem dX10_throughJournal_152 : decode cX10_throughJournal 152 = .ok (.aload_n 0, 1) := by decide +kernel
theorem dX10_throughJournal_153 : decode cX10_throughJournal 153 = .ok (.sipush 666, 3) := by decide +kernel
theorem dX10_throughJournal_156 : decode cX10_throughJournal 156 = .ok (.iconst 1, 1) := by decide +kernel
theorem dX10_throughJournal_157 : decode cX10_throughJournal 157 = .ok (.invokevirtual 271, 3) := by decide +kernel
theorem dX10_throughJournal_160 : decode cX10_throughJournal 160 = .ok (.iconst 0, 1) := by decide +kernel
theorem dX10_throughJournal_161 : decode cX10_throughJournal 161 = .ok (.istore_n 3, 1) := by decide +kernel
theorem dX10_throughJournal_162 : decode cX10_throughJournal 162 = .ok (.iload_n 3, 1) := by decide +kernel
theorem dX10_throughJournal_163 : decode cX10_throughJournal 163 = .ok (.bipush 10, 2) := by decide +kernel
theorem dX10_throughJournal_165 : decode cX10_throughJournal 165 = .ok (.if_icmp .ge 60, 3) := by decide +kernel
theorem dX10_throughJournal_168 : decode cX10_throughJournal 168 = .ok (.iconst 0, 1) := by decide +kernel
theorem dX10_throughJournal_169 : decode cX10_throughJournal 169 = .ok (.istore 4, 2) := by decide +kernel
theorem dX10_throughJournal_171 : decode cX10_throughJournal 171 = .ok (.iload 4, 2) := by decide +kernel
theorem dX10_throughJournal_173 : decode cX10_throughJournal 173 = .ok (.bipush 64, 2) := by decide +kernel
theorem dX10_throughJournal_175 : decode cX10_throughJournal 175 = .ok (.if_icmp .ge 44, 3) := by decide +kernel
theorem dX10_throughJournal_178 : decode cX10_throughJournal 178 = .ok (.aload_n 0, 1) := by decide +kernel
theorem dX10_throughJournal_179 : decode cX10_throughJournal 179 = .ok (.getfield 221, 3) := by decide +kernel
theorem dX10_throughJournal_182 : decode cX10_throughJournal 182 = .ok (.iload_n 3, 1) := by decide +kernel
theorem dX10_throughJournal_183 : decode cX10_throughJournal 183 = .ok (.ishr, 1) := by decide +kernel
theorem dX10_throughJournal_184 : decode cX10_throughJournal 184 = .ok (.iconst 1, 1) := by decide +kernel
theorem dX10_throughJournal_185 : decode cX10_throughJournal 185 = .ok (.iand, 1) := by decide +kernel
theorem dX10_throughJournal_186 : decode cX10_throughJournal 186 = .ok (.iconst 1, 1) := by decide +kernel
theorem dX10_throughJournal_187 : decode cX10_throughJournal 187 = .ok (.if_icmp .ne 26, 3) := by decide +kernel
theorem dX10_throughJournal_190 : decode cX10_throughJournal 190 = .ok (.aload_n 0, 1) := by decide +kernel
theorem dX10_throughJournal_191 : decode cX10_throughJournal 191 = .ok (.bipush 64, 2) := by decide +kernel
theorem dX10_throughJournal_193 : decode cX10_throughJournal 193 = .ok (.iload_n 3, 1) := by decide +kernel
theorem dX10_throughJournal_194 : decode cX10_throughJournal 194 = .ok (.imul, 1) := by decide +kernel
theorem dX10_throughJournal_195 : decode cX10_throughJournal 195 = .ok (.iload 4, 2) := by decide +kernel
theorem dX10_throughJournal_197 : decode cX10_throughJournal 197 = .ok (.iadd, 1) := by decide +kernel
theorem dX10_throughJournal_198 : decode cX10_throughJournal 198 = .ok (.aload_n 0, 1) := by decide +kernel
theorem dX10_throughJournal_199 : decode cX10_throughJournal 199 = .ok (.getfield 25, 3) := by decide +kernel
theorem dX10_throughJournal_202 : decode cX10_throughJournal 202 = .ok (.bipush 64, 2) := by decide +kernel
theorem dX10_throughJournal_204 : decode cX10_throughJournal 204 = .ok (.iload_n 3, 1) := by decide +kernel
theorem dX10_throughJournal_205 : decode cX10_throughJournal 205 = .ok (.imul, 1) := by decide +kernel
theorem dX10_throughJournal_206 : decode cX10_throughJournal 206 = .ok (.iload 4, 2) := by decide +kernel
theorem dX10_throughJournal_208 : decode cX10_throughJournal 208 = .ok (.iadd, 1) := by decide +kernel
theorem dX10_throughJournal_209 : decode cX10_throughJournal 209 = .ok (.iaload, 1) := by decide +kernel
theorem dX10_throughJournal_210 : decode cX10_throughJournal 210 = .ok (.invokevirtual 271, 3) := by decide +kernel
theorem dX10_throughJournal_213 : decode cX10_throughJournal 213 = .ok (.iinc 4 1, 3) := by decide +kernel
theorem dX10_throughJournal_216 : decode cX10_throughJournal 216 = .ok (.goto (-45), 3) := by decide +kernel
theorem dX10_throughJournal_219 : decode cX10_throughJournal 219 = .ok (.iinc 3 1, 3) := by decide +kernel
theorem dX10_throughJournal_222 : decode cX10_throughJournal 222 = .ok (.goto (-60), 3) := by decide +kernel
theorem dX10_throughJournal_225 : decode cX10_throughJournal 225 = .ok (.iconst 0, 1) := by decide +kernel
theorem dX10_throughJournal_226 : decode cX10_throughJournal 226 = .ok (.istore_n 3, 1) := by decide +kernel
theorem dX10_throughJournal_227 : decode cX10_throughJournal 227 = .ok (.iload_n 3, 1) := by decide +kernel
theorem dX10_throughJournal_228 : decode cX10_throughJournal 228 = .ok (.aload_n 0, 1) := by decide +kernel
theorem dX10_throughJournal_229 : decode cX10_throughJournal 229 = .ok (.aload_n 0, 1) := by decide +kernel
theorem dX10_throughJournal_230 : decode cX10_throughJournal 230 = .ok (.getfield 25, 3) := by decide +kernel
theorem dX10_throughJournal_233 : decode cX10_throughJournal 233 = .ok (.invokevirtual 274, 3) := by decide +kernel
theorem dX10_throughJournal_236 : decode cX10_throughJournal 236 = .ok (.if_icmp .ge 28, 3) := by decide +kernel
theorem dX10_throughJournal_239 : decode cX10_throughJournal 239 = .ok (.aload_n 0, 1) := by decide +kernel
theorem dX10_throughJournal_240 : decode cX10_throughJournal 240 = .ok (.sipush 640, 3) := by decide +kernel
theorem dX10_throughJournal_243 : decode cX10_throughJournal 243 = .ok (.iload_n 3, 1) := by decide +kernel
theorem dX10_throughJournal_244 : decode cX10_throughJournal 244 = .ok (.iadd, 1) := by decide +kernel
theorem dX10_throughJournal_245 : decode cX10_throughJournal 245 = .ok (.aload_n 0, 1) := by decide +kernel
theorem dX10_throughJournal_246 : decode cX10_throughJournal 246 = .ok (.getfield 25, 3) := by decide +kernel
theorem dX10_throughJournal_249 : decode cX10_throughJournal 249 = .ok (.sipush 640, 3) := by decide +kernel
theorem dX10_throughJournal_252 : decode cX10_throughJournal 252 = .ok (.iload_n 3, 1) := by decide +kernel
theorem dX10_throughJournal_253 : decode cX10_throughJournal 253 = .ok (.iadd, 1) := by decide +kernel
theorem dX10_throughJournal_254 : decode cX10_throughJournal 254 = .ok (.iaload, 1) := by decide +kernel
theorem dX10_throughJournal_255 : decode cX10_throughJournal 255 = .ok (.invokevirtual 271, 3) := by decide +kernel
theorem dX10_throughJournal_258 : decode cX10_throughJournal 258 = .ok (.iinc 3 1, 3) := by decide +kernel
theorem dX10_throughJournal_261 : decode cX10_throughJournal 261 = .ok (.goto (-34), 3) := by decide +kernel
theorem dX10_throughJournal_264 : decode cX10_throughJournal 264 = .ok (.aload_n 0, 1) := by decide +kernel
theorem dX10_throughJournal_265 : decode cX10_throughJournal 265 = .ok (.sipush 666, 3) := by decide +kernel
theorem dX10_throughJournal_268 : decode cX10_throughJournal 268 = .ok (.iconst 0, 1) := by decide +kernel
theorem dX10_throughJournal_269 : decode cX10_throughJournal 269 = .ok (.invokevirtual 271, 3) := by decide +kernel
theorem dX10_throughJournal_272 : decode cX10_throughJournal 272 = .ok (.return_, 1) := by decide +kernel
theorem dX10_keeps_0 : decode cX10_keeps 0 = .ok (.aload_n 0, 1) := by decide +kernel
theorem dX10_keeps_1 : decode cX10_keeps 1 = .ok (.aload_n 0, 1) := by decide +kernel
theorem dX10_keeps_2 : decode cX10_keeps 2 = .ok (.getfield 277, 3) := by decide +kernel
theorem dX10_keeps_5 : decode cX10_keeps 5 = .ok (.iconst 1, 1) := by decide +kernel
theorem dX10_keeps_6 : decode cX10_keeps 6 = .ok (.iadd, 1) := by decide +kernel
theorem dX10_keeps_7 : decode cX10_keeps 7 = .ok (.bipush 16, 2) := by decide +kernel
theorem dX10_keeps_9 : decode cX10_keeps 9 = .ok (.irem, 1) := by decide +kernel
theorem dX10_keeps_10 : decode cX10_keeps 10 = .ok (.putfield 277, 3) := by decide +kernel
theorem dX10_keeps_13 : decode cX10_keeps 13 = .ok (.iconst 0, 1) := by decide +kernel
theorem dX10_keeps_14 : decode cX10_keeps 14 = .ok (.istore_n 2, 1) := by decide +kernel
theorem dX10_keeps_15 : decode cX10_keeps 15 = .ok (.iload_n 2, 1) := by decide +kernel
theorem dX10_keeps_16 : decode cX10_keeps 16 = .ok (.sipush 1339, 3) := by decide +kernel
theorem dX10_keeps_19 : decode cX10_keeps 19 = .ok (.if_icmp .ge 30, 3) := by decide +kernel
theorem dX10_keeps_22 : decode cX10_keeps 22 = .ok (.aload_n 0, 1) := by decide +kernel
theorem dX10_keeps_23 : decode cX10_keeps 23 = .ok (.getfield 65, 3) := by decide +kernel
theorem dX10_keeps_26 : decode cX10_keeps 26 = .ok (.sipush 1339, 3) := by decide +kernel
theorem dX10_keeps_29 : decode cX10_keeps 29 = .ok (.aload_n 0, 1) := by decide +kernel
theorem dX10_keeps_30 : decode cX10_keeps 30 = .ok (.getfield 277, 3) := by decide +kernel
theorem dX10_keeps_33 : decode cX10_keeps 33 = .ok (.imul, 1) := by decide +kernel
theorem dX10_keeps_34 : decode cX10_keeps 34 = .ok (.iload_n 2, 1) := by decide +kernel
theorem dX10_keeps_35 : decode cX10_keeps 35 = .ok (.iadd, 1) := by decide +kernel
theorem dX10_keeps_36 : decode cX10_keeps 36 = .ok (.aload_n 0, 1) := by decide +kernel
theorem dX10_keeps_37 : decode cX10_keeps 37 = .ok (.getfield 22, 3) := by decide +kernel
theorem dX10_keeps_40 : decode cX10_keeps 40 = .ok (.iload_n 2, 1) := by decide +kernel
theorem dX10_keeps_41 : decode cX10_keeps 41 = .ok (.iaload, 1) := by decide +kernel
theorem dX10_keeps_42 : decode cX10_keeps 42 = .ok (.iastore, 1) := by decide +kernel
theorem dX10_keeps_43 : decode cX10_keeps 43 = .ok (.iinc 2 1, 3) := by decide +kernel
theorem dX10_keeps_46 : decode cX10_keeps 46 = .ok (.goto (-31), 3) := by decide +kernel
theorem dX10_keeps_49 : decode cX10_keeps 49 = .ok (.aload_n 0, 1) := by decide +kernel
theorem dX10_keeps_50 : decode cX10_keeps 50 = .ok (.getfield 68, 3) := by decide +kernel
theorem dX10_keeps_53 : decode cX10_keeps 53 = .ok (.aload_n 0, 1) := by decide +kernel
theorem dX10_keeps_54 : decode cX10_keeps 54 = .ok (.getfield 277, 3) := by decide +kernel
theorem dX10_keeps_57 : decode cX10_keeps 57 = .ok (.iload_n 1, 1) := by decide +kernel
theorem dX10_keeps_58 : decode cX10_keeps 58 = .ok (.iastore, 1) := by decide +kernel
theorem dX10_keeps_59 : decode cX10_keeps 59 = .ok (.aload_n 0, 1) := by decide +kernel
theorem dX10_keeps_60 : decode cX10_keeps 60 = .ok (.getfield 280, 3) := by decide +kernel
theorem dX10_keeps_63 : decode cX10_keeps 63 = .ok (.bipush 16, 2) := by decide +kernel
theorem dX10_keeps_65 : decode cX10_keeps 65 = .ok (.if_icmp .ge 13, 3) := by decide +kernel
theorem dX10_keeps_68 : decode cX10_keeps 68 = .ok (.aload_n 0, 1) := by decide +kernel
theorem dX10_keeps_69 : decode cX10_keeps 69 = .ok (.dup, 1) := by decide +kernel
theorem dX10_keeps_70 : decode cX10_keeps 70 = .ok (.getfield 280, 3) := by decide +kernel
theorem dX10_keeps_73 : decode cX10_keeps 73 = .ok (.iconst 1, 1) := by decide +kernel
theorem dX10_keeps_74 : decode cX10_keeps 74 = .ok (.iadd, 1) := by decide +kernel
theorem dX10_keeps_75 : decode cX10_keeps 75 = .ok (.putfield 280, 3) := by decide +kernel
theorem dX10_keeps_78 : decode cX10_keeps 78 = .ok (.return_, 1) := by decide +kernel
theorem dX10_undo_0 : decode cX10_undo 0 = .ok (.aload_n 0, 1) := by decide +kernel
theorem dX10_undo_1 : decode cX10_undo 1 = .ok (.iconst 0, 1) := by decide +kernel
theorem dX10_undo_2 : decode cX10_undo 2 = .ok (.putfield 77, 3) := by decide +kernel
theorem dX10_undo_5 : decode cX10_undo 5 = .ok (.aload_n 0, 1) := by decide +kernel
theorem dX10_undo_6 : decode cX10_undo 6 = .ok (.getfield 280, 3) := by decide +kernel
theorem dX10_undo_9 : decode cX10_undo 9 = .ok (.ifCond .ne 10, 3) := by decide +kernel
theorem dX10_undo_12 : decode cX10_undo 12 = .ok (.aload_n 0, 1) := by decide +kernel
theorem dX10_undo_13 : decode cX10_undo 13 = .ok (.bipush (-4), 2) := by decide +kernel
theorem dX10_undo_15 : decode cX10_undo 15 = .ok (.invokevirtual 87, 3) := by decide +kernel
theorem dX10_undo_18 : decode cX10_undo 18 = .ok (.ireturn, 1) := by decide +kernel
theorem dX10_undo_19 : decode cX10_undo 19 = .ok (.iconst 0, 1) := by decide +kernel
theorem dX10_undo_20 : decode cX10_undo 20 = .ok (.istore_n 1, 1) := by decide +kernel
theorem dX10_undo_21 : decode cX10_undo 21 = .ok (.iload_n 1, 1) := by decide +kernel
theorem dX10_undo_22 : decode cX10_undo 22 = .ok (.sipush 1339, 3) := by decide +kernel
theorem dX10_undo_25 : decode cX10_undo 25 = .ok (.if_icmp .ge 30, 3) := by decide +kernel
theorem dX10_undo_28 : decode cX10_undo 28 = .ok (.aload_n 0, 1) := by decide +kernel
theorem dX10_undo_29 : decode cX10_undo 29 = .ok (.getfield 22, 3) := by decide +kernel
theorem dX10_undo_32 : decode cX10_undo 32 = .ok (.iload_n 1, 1) := by decide +kernel
theorem dX10_undo_33 : decode cX10_undo 33 = .ok (.aload_n 0, 1) := by decide +kernel
theorem dX10_undo_34 : decode cX10_undo 34 = .ok (.getfield 65, 3) := by decide +kernel
theorem dX10_undo_37 : decode cX10_undo 37 = .ok (.sipush 1339, 3) := by decide +kernel
theorem dX10_undo_40 : decode cX10_undo 40 = .ok (.aload_n 0, 1) := by decide +kernel
theorem dX10_undo_41 : decode cX10_undo 41 = .ok (.getfield 277, 3) := by decide +kernel
theorem dX10_undo_44 : decode cX10_undo 44 = .ok (.imul, 1) := by decide +kernel
theorem dX10_undo_45 : decode cX10_undo 45 = .ok (.iload_n 1, 1) := by decide +kernel
theorem dX10_undo_46 : decode cX10_undo 46 = .ok (.iadd, 1) := by decide +kernel
theorem dX10_undo_47 : decode cX10_undo 47 = .ok (.iaload, 1) := by decide +kernel
theorem dX10_undo_48 : decode cX10_undo 48 = .ok (.iastore, 1) := by decide +kernel
theorem dX10_undo_49 : decode cX10_undo 49 = .ok (.iinc 1 1, 3) := by decide +kernel
theorem dX10_undo_52 : decode cX10_undo 52 = .ok (.goto (-31), 3) := by decide +kernel
theorem dX10_undo_55 : decode cX10_undo 55 = .ok (.aload_n 0, 1) := by decide +kernel
theorem dX10_undo_56 : decode cX10_undo 56 = .ok (.getfield 68, 3) := by decide +kernel
theorem dX10_undo_59 : decode cX10_undo 59 = .ok (.aload_n 0, 1) := by decide +kernel
theorem dX10_undo_60 : decode cX10_undo 60 = .ok (.getfield 277, 3) := by decide +kernel
theorem dX10_undo_63 : decode cX10_undo 63 = .ok (.iaload, 1) := by decide +kernel
theorem dX10_undo_64 : decode cX10_undo 64 = .ok (.istore_n 1, 1) := by decide +kernel
theorem dX10_undo_65 : decode cX10_undo 65 = .ok (.aload_n 0, 1) := by decide +kernel
theorem dX10_undo_66 : decode cX10_undo 66 = .ok (.aload_n 0, 1) := by decide +kernel
theorem dX10_undo_67 : decode cX10_undo 67 = .ok (.getfield 277, 3) := by decide +kernel
theorem dX10_undo_70 : decode cX10_undo 70 = .ok (.bipush 16, 2) := by decide +kernel
theorem dX10_undo_72 : decode cX10_undo 72 = .ok (.iadd, 1) := by decide +kernel
theorem dX10_undo_73 : decode cX10_undo 73 = .ok (.iconst 1, 1) := by decide +kernel
theorem dX10_undo_74 : decode cX10_undo 74 = .ok (.isub, 1) := by decide +kernel
theorem dX10_undo_75 : decode cX10_undo 75 = .ok (.bipush 16, 2) := by decide +kernel
theorem dX10_undo_77 : decode cX10_undo 77 = .ok (.irem, 1) := by decide +kernel
theorem dX10_undo_78 : decode cX10_undo 78 = .ok (.putfield 277, 3) := by decide +kernel
theorem dX10_undo_81 : decode cX10_undo 81 = .ok (.aload_n 0, 1) := by decide +kernel
theorem dX10_undo_82 : decode cX10_undo 82 = .ok (.dup, 1) := by decide +kernel
theorem dX10_undo_83 : decode cX10_undo 83 = .ok (.getfield 280, 3) := by decide +kernel
theorem dX10_undo_86 : decode cX10_undo 86 = .ok (.iconst 1, 1) := by decide +kernel
theorem dX10_undo_87 : decode cX10_undo 87 = .ok (.isub, 1) := by decide +kernel
theorem dX10_undo_88 : decode cX10_undo 88 = .ok (.putfield 280, 3) := by decide +kernel
theorem dX10_undo_91 : decode cX10_undo 91 = .ok (.aload_n 0, 1) := by decide +kernel
theorem dX10_undo_92 : decode cX10_undo 92 = .ok (.iconst 0, 1) := by decide +kernel
theorem dX10_undo_93 : decode cX10_undo 93 = .ok (.putfield 91, 3) := by decide +kernel
theorem dX10_undo_96 : decode cX10_undo 96 = .ok (.aload_n 0, 1) := by decide +kernel
theorem dX10_undo_97 : decode cX10_undo 97 = .ok (.iload_n 1, 1) := by decide +kernel
theorem dX10_undo_98 : decode cX10_undo 98 = .ok (.invokevirtual 98, 3) := by decide +kernel
theorem dX10_undo_101 : decode cX10_undo 101 = .ok (.ireturn, 1) := by decide +kernel
theorem dX10_lets_0 : decode cX10_lets 0 = .ok (.aload_n 0, 1) := by decide +kernel
theorem dX10_lets_1 : decode cX10_lets 1 = .ok (.dup, 1) := by decide +kernel
theorem dX10_lets_2 : decode cX10_lets 2 = .ok (.getfield 91, 3) := by decide +kernel
theorem dX10_lets_5 : decode cX10_lets 5 = .ok (.iconst 1, 1) := by decide +kernel
theorem dX10_lets_6 : decode cX10_lets 6 = .ok (.isub, 1) := by decide +kernel
theorem dX10_lets_7 : decode cX10_lets 7 = .ok (.putfield 91, 3) := by decide +kernel
theorem dX10_lets_10 : decode cX10_lets 10 = .ok (.iload_n 1, 1) := by decide +kernel
theorem dX10_lets_11 : decode cX10_lets 11 = .ok (.istore_n 2, 1) := by decide +kernel
theorem dX10_lets_12 : decode cX10_lets 12 = .ok (.iload_n 2, 1) := by decide +kernel
theorem dX10_lets_13 : decode cX10_lets 13 = .ok (.aload_n 0, 1) := by decide +kernel
theorem dX10_lets_14 : decode cX10_lets 14 = .ok (.getfield 91, 3) := by decide +kernel
theorem dX10_lets_17 : decode cX10_lets 17 = .ok (.if_icmp .ge 23, 3) := by decide +kernel
theorem dX10_lets_20 : decode cX10_lets 20 = .ok (.aload_n 0, 1) := by decide +kernel
theorem dX10_lets_21 : decode cX10_lets 21 = .ok (.getfield 71, 3) := by decide +kernel
theorem dX10_lets_24 : decode cX10_lets 24 = .ok (.iload_n 2, 1) := by decide +kernel
theorem dX10_lets_25 : decode cX10_lets 25 = .ok (.aload_n 0, 1) := by decide +kernel
theorem dX10_lets_26 : decode cX10_lets 26 = .ok (.getfield 71, 3) := by decide +kernel
theorem dX10_lets_29 : decode cX10_lets 29 = .ok (.iload_n 2, 1) := by decide +kernel
theorem dX10_lets_30 : decode cX10_lets 30 = .ok (.iconst 1, 1) := by decide +kernel
theorem dX10_lets_31 : decode cX10_lets 31 = .ok (.iadd, 1) := by decide +kernel
theorem dX10_lets_32 : decode cX10_lets 32 = .ok (.iaload, 1) := by decide +kernel
theorem dX10_lets_33 : decode cX10_lets 33 = .ok (.iastore, 1) := by decide +kernel
theorem dX10_lets_34 : decode cX10_lets 34 = .ok (.iinc 2 1, 3) := by decide +kernel
theorem dX10_lets_37 : decode cX10_lets 37 = .ok (.goto (-25), 3) := by decide +kernel
theorem dX10_lets_40 : decode cX10_lets 40 = .ok (.return_, 1) := by decide +kernel
theorem dX10_placeHeld_0 : decode cX10_placeHeld 0 = .ok (.iconst 0, 1) := by decide +kernel
theorem dX10_placeHeld_1 : decode cX10_placeHeld 1 = .ok (.istore_n 2, 1) := by decide +kernel
theorem dX10_placeHeld_2 : decode cX10_placeHeld 2 = .ok (.iload_n 2, 1) := by decide +kernel
theorem dX10_placeHeld_3 : decode cX10_placeHeld 3 = .ok (.aload_n 0, 1) := by decide +kernel
theorem dX10_placeHeld_4 : decode cX10_placeHeld 4 = .ok (.getfield 91, 3) := by decide +kernel
theorem dX10_placeHeld_7 : decode cX10_placeHeld 7 = .ok (.if_icmp .ge 21, 3) := by decide +kernel
theorem dX10_placeHeld_10 : decode cX10_placeHeld 10 = .ok (.aload_n 0, 1) := by decide +kernel
theorem dX10_placeHeld_11 : decode cX10_placeHeld 11 = .ok (.getfield 71, 3) := by decide +kernel
theorem dX10_placeHeld_14 : decode cX10_placeHeld 14 = .ok (.iload_n 2, 1) := by decide +kernel
theorem dX10_placeHeld_15 : decode cX10_placeHeld 15 = .ok (.iaload, 1) := by decide +kernel
theorem dX10_placeHeld_16 : decode cX10_placeHeld 16 = .ok (.iload_n 1, 1) := by decide +kernel
theorem dX10_placeHeld_17 : decode cX10_placeHeld 17 = .ok (.if_icmp .ne 5, 3) := by decide +kernel
theorem dX10_placeHeld_20 : decode cX10_placeHeld 20 = .ok (.iload_n 2, 1) := by decide +kernel
theorem dX10_placeHeld_21 : decode cX10_placeHeld 21 = .ok (.ireturn, 1) := by decide +kernel
theorem dX10_placeHeld_22 : decode cX10_placeHeld 22 = .ok (.iinc 2 1, 3) := by decide +kernel
theorem dX10_placeHeld_25 : decode cX10_placeHeld 25 = .ok (.goto (-23), 3) := by decide +kernel
theorem dX10_placeHeld_28 : decode cX10_placeHeld 28 = .ok (.iconst (-1), 1) := by decide +kernel
theorem dX10_placeHeld_29 : decode cX10_placeHeld 29 = .ok (.ireturn, 1) := by decide +kernel
theorem dX10_uses_0 : decode cX10_uses 0 = .ok (.aload_n 0, 1) := by decide +kernel
theorem dX10_uses_1 : decode cX10_uses 1 = .ok (.getfield 22, 3) := by decide +kernel
theorem dX10_uses_4 : decode cX10_uses 4 = .ok (.aload_n 0, 1) := by decide +kernel
theorem dX10_uses_5 : decode cX10_uses 5 = .ok (.getfield 22, 3) := by decide +kernel
theorem dX10_uses_8 : decode cX10_uses 8 = .ok (.iload_n 1, 1) := by decide +kernel
theorem dX10_uses_9 : decode cX10_uses 9 = .ok (.invokestatic 224, 3) := by decide +kernel
theorem dX10_uses_12 : decode cX10_uses 12 = .ok (.invokestatic 183, 3) := by decide +kernel
theorem dX10_uses_15 : decode cX10_uses 15 = .ok (.istore_n 2, 1) := by decide +kernel
theorem dX10_uses_16 : decode cX10_uses 16 = .ok (.aload_n 0, 1) := by decide +kernel
theorem dX10_uses_17 : decode cX10_uses 17 = .ok (.iload_n 2, 1) := by decide +kernel
theorem dX10_uses_18 : decode cX10_uses 18 = .ok (.invokevirtual 283, 3) := by decide +kernel
theorem dX10_uses_21 : decode cX10_uses 21 = .ok (.istore_n 3, 1) := by decide +kernel
theorem dX10_uses_22 : decode cX10_uses 22 = .ok (.iload_n 3, 1) := by decide +kernel
theorem dX10_uses_23 : decode cX10_uses 23 = .ok (.iconst (-1), 1) := by decide +kernel
theorem dX10_uses_24 : decode cX10_uses 24 = .ok (.if_icmp .ne 15, 3) := by decide +kernel
theorem dX10_uses_27 : decode cX10_uses 27 = .ok (.aload_n 0, 1) := by decide +kernel
theorem dX10_uses_28 : decode cX10_uses 28 = .ok (.dup, 1) := by decide +kernel
theorem dX10_uses_29 : decode cX10_uses 29 = .ok (.getfield 286, 3) := by decide +kernel
theorem dX10_uses_32 : decode cX10_uses 32 = .ok (.iconst 1, 1) := by decide +kernel
theorem dX10_uses_33 : decode cX10_uses 33 = .ok (.iadd, 1) := by decide +kernel
theorem dX10_uses_34 : decode cX10_uses 34 = .ok (.putfield 286, 3) := by decide +kernel
theorem dX10_uses_37 : decode cX10_uses 37 = .ok (.iconst 0, 1) := by decide +kernel
theorem dX10_uses_38 : decode cX10_uses 38 = .ok (.istore_n 3, 1) := by decide +kernel
theorem dX10_uses_39 : decode cX10_uses 39 = .ok (.aload_n 0, 1) := by decide +kernel
theorem dX10_uses_40 : decode cX10_uses 40 = .ok (.iload_n 2, 1) := by decide +kernel
theorem dX10_uses_41 : decode cX10_uses 41 = .ok (.invokevirtual 283, 3) := by decide +kernel
theorem dX10_uses_44 : decode cX10_uses 44 = .ok (.iconst (-1), 1) := by decide +kernel
theorem dX10_uses_45 : decode cX10_uses 45 = .ok (.if_icmp .ne 16, 3) := by decide +kernel
theorem dX10_uses_48 : decode cX10_uses 48 = .ok (.aload_n 0, 1) := by decide +kernel
theorem dX10_uses_49 : decode cX10_uses 49 = .ok (.getfield 91, 3) := by decide +kernel
theorem dX10_uses_52 : decode cX10_uses 52 = .ok (.aload_n 0, 1) := by decide +kernel
theorem dX10_uses_53 : decode cX10_uses 53 = .ok (.getfield 13, 3) := by decide +kernel
theorem dX10_uses_56 : decode cX10_uses 56 = .ok (.iconst 4, 1) := by decide +kernel
theorem dX10_uses_57 : decode cX10_uses 57 = .ok (.iaload, 1) := by decide +kernel
theorem dX10_uses_58 : decode cX10_uses 58 = .ok (.if_icmp .ne 8, 3) := by decide +kernel
theorem dX10_uses_61 : decode cX10_uses 61 = .ok (.aload_n 0, 1) := by decide +kernel
theorem dX10_uses_62 : decode cX10_uses 62 = .ok (.iload_n 3, 1) := by decide +kernel
theorem dX10_uses_63 : decode cX10_uses 63 = .ok (.invokevirtual 94, 3) := by decide +kernel
theorem dX10_uses_66 : decode cX10_uses 66 = .ok (.aload_n 0, 1) := by decide +kernel
theorem dX10_uses_67 : decode cX10_uses 67 = .ok (.getfield 71, 3) := by decide +kernel
theorem dX10_uses_70 : decode cX10_uses 70 = .ok (.aload_n 0, 1) := by decide +kernel
theorem dX10_uses_71 : decode cX10_uses 71 = .ok (.getfield 91, 3) := by decide +kernel
theorem dX10_uses_74 : decode cX10_uses 74 = .ok (.iload_n 2, 1) := by decide +kernel
theorem dX10_uses_75 : decode cX10_uses 75 = .ok (.iastore, 1) := by decide +kernel
theorem dX10_uses_76 : decode cX10_uses 76 = .ok (.aload_n 0, 1) := by decide +kernel
theorem dX10_uses_77 : decode cX10_uses 77 = .ok (.dup, 1) := by decide +kernel
theorem dX10_uses_78 : decode cX10_uses 78 = .ok (.getfield 91, 3) := by decide +kernel
theorem dX10_uses_81 : decode cX10_uses 81 = .ok (.iconst 1, 1) := by decide +kernel
theorem dX10_uses_82 : decode cX10_uses 82 = .ok (.iadd, 1) := by decide +kernel
theorem dX10_uses_83 : decode cX10_uses 83 = .ok (.putfield 91, 3) := by decide +kernel
theorem dX10_uses_86 : decode cX10_uses 86 = .ok (.return_, 1) := by decide +kernel
theorem dX10_isInUse_0 : decode cX10_isInUse 0 = .ok (.iconst 0, 1) := by decide +kernel
theorem dX10_isInUse_1 : decode cX10_isInUse 1 = .ok (.istore_n 2, 1) := by decide +kernel
theorem dX10_isInUse_2 : decode cX10_isInUse 2 = .ok (.iload_n 2, 1) := by decide +kernel
theorem dX10_isInUse_3 : decode cX10_isInUse 3 = .ok (.aload_n 0, 1) := by decide +kernel
theorem dX10_isInUse_4 : decode cX10_isInUse 4 = .ok (.getfield 22, 3) := by decide +kernel
theorem dX10_isInUse_7 : decode cX10_isInUse 7 = .ok (.invokestatic 151, 3) := by decide +kernel
theorem dX10_isInUse_10 : decode cX10_isInUse 10 = .ok (.if_icmp .ge 23, 3) := by decide +kernel
theorem dX10_isInUse_13 : decode cX10_isInUse 13 = .ok (.aload_n 0, 1) := by decide +kernel
theorem dX10_isInUse_14 : decode cX10_isInUse 14 = .ok (.getfield 22, 3) := by decide +kernel
theorem dX10_isInUse_17 : decode cX10_isInUse 17 = .ok (.iload_n 2, 1) := by decide +kernel
theorem dX10_isInUse_18 : decode cX10_isInUse 18 = .ok (.invokestatic 183, 3) := by decide +kernel
theorem dX10_isInUse_21 : decode cX10_isInUse 21 = .ok (.iload_n 1, 1) := by decide +kernel
theorem dX10_isInUse_22 : decode cX10_isInUse 22 = .ok (.if_icmp .ne 5, 3) := by decide +kernel
theorem dX10_isInUse_25 : decode cX10_isInUse 25 = .ok (.iconst 1, 1) := by decide +kernel
theorem dX10_isInUse_26 : decode cX10_isInUse 26 = .ok (.ireturn, 1) := by decide +kernel
theorem dX10_isInUse_27 : decode cX10_isInUse 27 = .ok (.iinc 2 1, 3) := by decide +kernel
theorem dX10_isInUse_30 : decode cX10_isInUse 30 = .ok (.goto (-28), 3) := by decide +kernel
theorem dX10_isInUse_33 : decode cX10_isInUse 33 = .ok (.iconst 0, 1) := by decide +kernel
theorem dX10_isInUse_34 : decode cX10_isInUse 34 = .ok (.ireturn, 1) := by decide +kernel
theorem dX10_letsFree_0 : decode cX10_letsFree 0 = .ok (.aload_n 0, 1) := by decide +kernel
theorem dX10_letsFree_1 : decode cX10_letsFree 1 = .ok (.getfield 91, 3) := by decide +kernel
theorem dX10_letsFree_4 : decode cX10_letsFree 4 = .ok (.iconst 1, 1) := by decide +kernel
theorem dX10_letsFree_5 : decode cX10_letsFree 5 = .ok (.isub, 1) := by decide +kernel
theorem dX10_letsFree_6 : decode cX10_letsFree 6 = .ok (.istore_n 1, 1) := by decide +kernel
theorem dX10_letsFree_7 : decode cX10_letsFree 7 = .ok (.iload_n 1, 1) := by decide +kernel
theorem dX10_letsFree_8 : decode cX10_letsFree 8 = .ok (.ifCond .lt 27, 3) := by decide +kernel
theorem dX10_letsFree_11 : decode cX10_letsFree 11 = .ok (.aload_n 0, 1) := by decide +kernel
theorem dX10_letsFree_12 : decode cX10_letsFree 12 = .ok (.aload_n 0, 1) := by decide +kernel
theorem dX10_letsFree_13 : decode cX10_letsFree 13 = .ok (.getfield 71, 3) := by decide +kernel
theorem dX10_letsFree_16 : decode cX10_letsFree 16 = .ok (.iload_n 1, 1) := by decide +kernel
theorem dX10_letsFree_17 : decode cX10_letsFree 17 = .ok (.iaload, 1) := by decide +kernel
theorem dX10_letsFree_18 : decode cX10_letsFree 18 = .ok (.invokevirtual 289, 3) := by decide +kernel
theorem dX10_letsFree_21 : decode cX10_letsFree 21 = .ok (.ifCond .ne 8, 3) := by decide +kernel
theorem dX10_letsFree_24 : decode cX10_letsFree 24 = .ok (.aload_n 0, 1) := by decide +kernel
theorem dX10_letsFree_25 : decode cX10_letsFree 25 = .ok (.iload_n 1, 1) := by decide +kernel
theorem dX10_letsFree_26 : decode cX10_letsFree 26 = .ok (.invokevirtual 94, 3) := by decide +kernel
theorem dX10_letsFree_29 : decode cX10_letsFree 29 = .ok (.iinc 1 (-1), 3) := by decide +kernel
theorem dX10_letsFree_32 : decode cX10_letsFree 32 = .ok (.goto (-25), 3) := by decide +kernel
theorem dX10_letsFree_35 : decode cX10_letsFree 35 = .ok (.return_, 1) := by decide +kernel
theorem dX10_alone_0 : decode cX10_alone 0 = .ok (.aload_n 0, 1) := by decide +kernel
theorem dX10_alone_1 : decode cX10_alone 1 = .ok (.invokevirtual 292, 3) := by decide +kernel
theorem dX10_alone_4 : decode cX10_alone 4 = .ok (.ifCond .eq 10, 3) := by decide +kernel
theorem dX10_alone_7 : decode cX10_alone 7 = .ok (.aload_n 0, 1) := by decide +kernel
theorem dX10_alone_8 : decode cX10_alone 8 = .ok (.bipush (-3), 2) := by decide +kernel
theorem dX10_alone_10 : decode cX10_alone 10 = .ok (.invokevirtual 87, 3) := by decide +kernel
theorem dX10_alone_13 : decode cX10_alone 13 = .ok (.ireturn, 1) := by decide +kernel
theorem dX10_alone_14 : decode cX10_alone 14 = .ok (.aload_n 0, 1) := by decide +kernel
theorem dX10_alone_15 : decode cX10_alone 15 = .ok (.aload_n 0, 1) := by decide +kernel
theorem dX10_alone_16 : decode cX10_alone 16 = .ok (.getfield 74, 3) := by decide +kernel
theorem dX10_alone_19 : decode cX10_alone 19 = .ok (.iconst 1, 1) := by decide +kernel
theorem dX10_alone_20 : decode cX10_alone 20 = .ok (.iaload, 1) := by decide +kernel
theorem dX10_alone_21 : decode cX10_alone 21 = .ok (.invokevirtual 296, 3) := by decide +kernel
theorem dX10_alone_24 : decode cX10_alone 24 = .ok (.aload_n 0, 1) := by decide +kernel
theorem dX10_alone_25 : decode cX10_alone 25 = .ok (.invokevirtual 299, 3) := by decide +kernel
theorem dX10_alone_28 : decode cX10_alone 28 = .ok (.aload_n 0, 1) := by decide +kernel
theorem dX10_alone_29 : decode cX10_alone 29 = .ok (.aload_n 0, 1) := by decide +kernel
theorem dX10_alone_30 : decode cX10_alone 30 = .ok (.getfield 74, 3) := by decide +kernel
theorem dX10_alone_33 : decode cX10_alone 33 = .ok (.iconst 0, 1) := by decide +kernel
theorem dX10_alone_34 : decode cX10_alone 34 = .ok (.invokevirtual 302, 3) := by decide +kernel
theorem dX10_alone_37 : decode cX10_alone 37 = .ok (.istore_n 2, 1) := by decide +kernel
theorem dX10_alone_38 : decode cX10_alone 38 = .ok (.iload_n 2, 1) := by decide +kernel
theorem dX10_alone_39 : decode cX10_alone 39 = .ok (.ifCond .ge 9, 3) := by decide +kernel
theorem dX10_alone_42 : decode cX10_alone 42 = .ok (.aload_n 0, 1) := by decide +kernel
theorem dX10_alone_43 : decode cX10_alone 43 = .ok (.iload_n 2, 1) := by decide +kernel
theorem dX10_alone_44 : decode cX10_alone 44 = .ok (.invokevirtual 87, 3) := by decide +kernel
theorem dX10_alone_47 : decode cX10_alone 47 = .ok (.ireturn, 1) := by decide +kernel
theorem dX10_alone_48 : decode cX10_alone 48 = .ok (.aload_n 0, 1) := by decide +kernel
theorem dX10_alone_49 : decode cX10_alone 49 = .ok (.iload_n 1, 1) := by decide +kernel
theorem dX10_alone_50 : decode cX10_alone 50 = .ok (.invokevirtual 305, 3) := by decide +kernel
theorem dX10_alone_53 : decode cX10_alone 53 = .ok (.aload_n 0, 1) := by decide +kernel
theorem dX10_alone_54 : decode cX10_alone 54 = .ok (.invokevirtual 308, 3) := by decide +kernel
theorem dX10_alone_57 : decode cX10_alone 57 = .ok (.iload_n 2, 1) := by decide +kernel
theorem dX10_alone_58 : decode cX10_alone 58 = .ok (.ifCond .ne 60, 3) := by decide +kernel
theorem dX10_alone_61 : decode cX10_alone 61 = .ok (.iconst 1, 1) := by decide +kernel
theorem dX10_alone_62 : decode cX10_alone 62 = .ok (.istore_n 3, 1) := by decide +kernel
theorem dX10_alone_63 : decode cX10_alone 63 = .ok (.iload_n 3, 1) := by decide +kernel
theorem dX10_alone_64 : decode cX10_alone 64 = .ok (.aload_n 0, 1) := by decide +kernel
theorem dX10_alone_65 : decode cX10_alone 65 = .ok (.getfield 242, 3) := by decide +kernel
theorem dX10_alone_68 : decode cX10_alone 68 = .ok (.if_icmp .ge 30, 3) := by decide +kernel
theorem dX10_alone_71 : decode cX10_alone 71 = .ok (.aload_n 0, 1) := by decide +kernel
theorem dX10_alone_72 : decode cX10_alone 72 = .ok (.aload_n 0, 1) := by decide +kernel
theorem dX10_alone_73 : decode cX10_alone 73 = .ok (.getfield 239, 3) := by decide +kernel
theorem dX10_alone_76 : decode cX10_alone 76 = .ok (.iload_n 3, 1) := by decide +kernel
theorem dX10_alone_77 : decode cX10_alone 77 = .ok (.iadd, 1) := by decide +kernel
theorem dX10_alone_78 : decode cX10_alone 78 = .ok (.aload_n 0, 1) := by decide +kernel
theorem dX10_alone_79 : decode cX10_alone 79 = .ok (.getfield 25, 3) := by decide +kernel
theorem dX10_alone_82 : decode cX10_alone 82 = .ok (.aload_n 0, 1) := by decide +kernel
theorem dX10_alone_83 : decode cX10_alone 83 = .ok (.getfield 239, 3) := by decide +kernel
theorem dX10_alone_86 : decode cX10_alone 86 = .ok (.iload_n 3, 1) := by decide +kernel
theorem dX10_alone_87 : decode cX10_alone 87 = .ok (.iadd, 1) := by decide +kernel
theorem dX10_alone_88 : decode cX10_alone 88 = .ok (.iaload, 1) := by decide +kernel
theorem dX10_alone_89 : decode cX10_alone 89 = .ok (.invokevirtual 271, 3) := by decide +kernel
theorem dX10_alone_92 : decode cX10_alone 92 = .ok (.iinc 3 1, 3) := by decide +kernel
theorem dX10_alone_95 : decode cX10_alone 95 = .ok (.goto (-32), 3) := by decide +kernel
theorem dX10_alone_98 : decode cX10_alone 98 = .ok (.aload_n 0, 1) := by decide +kernel
theorem dX10_alone_99 : decode cX10_alone 99 = .ok (.aload_n 0, 1) := by decide +kernel
theorem dX10_alone_100 : decode cX10_alone 100 = .ok (.getfield 239, 3) := by decide +kernel
theorem dX10_alone_103 : decode cX10_alone 103 = .ok (.aload_n 0, 1) := by decide +kernel
theorem dX10_alone_104 : decode cX10_alone 104 = .ok (.getfield 25, 3) := by decide +kernel
theorem dX10_alone_107 : decode cX10_alone 107 = .ok (.aload_n 0, 1) := by decide +kernel
theorem dX10_alone_108 : decode cX10_alone 108 = .ok (.getfield 239, 3) := by decide +kernel
theorem dX10_alone_111 : decode cX10_alone 111 = .ok (.iaload, 1) := by decide +kernel
theorem dX10_alone_112 : decode cX10_alone 112 = .ok (.invokevirtual 271, 3) := by decide +kernel
theorem dX10_alone_115 : decode cX10_alone 115 = .ok (.goto 7, 3) := by decide +kernel
theorem dX10_alone_118 : decode cX10_alone 118 = .ok (.aload_n 0, 1) := by decide +kernel
theorem dX10_alone_119 : decode cX10_alone 119 = .ok (.invokevirtual 311, 3) := by decide +kernel
theorem dX10_alone_122 : decode cX10_alone 122 = .ok (.aload_n 0, 1) := by decide +kernel
theorem dX10_alone_123 : decode cX10_alone 123 = .ok (.iload_n 2, 1) := by decide +kernel
theorem dX10_alone_124 : decode cX10_alone 124 = .ok (.invokevirtual 314, 3) := by decide +kernel
theorem dX10_alone_127 : decode cX10_alone 127 = .ok (.istore_n 3, 1) := by decide +kernel
theorem dX10_alone_128 : decode cX10_alone 128 = .ok (.aload_n 0, 1) := by decide +kernel
theorem dX10_alone_129 : decode cX10_alone 129 = .ok (.invokevirtual 317, 3) := by decide +kernel
theorem dX10_alone_132 : decode cX10_alone 132 = .ok (.iload_n 3, 1) := by decide +kernel
theorem dX10_alone_133 : decode cX10_alone 133 = .ok (.ireturn, 1) := by decide +kernel
theorem dX10_byTape_0 : decode cX10_byTape 0 = .ok (.aload_n 0, 1) := by decide +kernel
theorem dX10_byTape_1 : decode cX10_byTape 1 = .ok (.getfield 74, 3) := by decide +kernel
theorem dX10_byTape_4 : decode cX10_byTape 4 = .ok (.iconst 0, 1) := by decide +kernel
theorem dX10_byTape_5 : decode cX10_byTape 5 = .ok (.bipush 16, 2) := by decide +kernel
theorem dX10_byTape_7 : decode cX10_byTape 7 = .ok (.iload_n 1, 1) := by decide +kernel
theorem dX10_byTape_8 : decode cX10_byTape 8 = .ok (.imul, 1) := by decide +kernel
theorem dX10_byTape_9 : decode cX10_byTape 9 = .ok (.aload_n 0, 1) := by decide +kernel
theorem dX10_byTape_10 : decode cX10_byTape 10 = .ok (.getfield 101, 3) := by decide +kernel
theorem dX10_byTape_13 : decode cX10_byTape 13 = .ok (.iadd, 1) := by decide +kernel
theorem dX10_byTape_14 : decode cX10_byTape 14 = .ok (.iastore, 1) := by decide +kernel
theorem dX10_byTape_15 : decode cX10_byTape 15 = .ok (.aload_n 0, 1) := by decide +kernel
theorem dX10_byTape_16 : decode cX10_byTape 16 = .ok (.getfield 74, 3) := by decide +kernel
theorem dX10_byTape_19 : decode cX10_byTape 19 = .ok (.iconst 1, 1) := by decide +kernel
theorem dX10_byTape_20 : decode cX10_byTape 20 = .ok (.iload_n 2, 1) := by decide +kernel
theorem dX10_byTape_21 : decode cX10_byTape 21 = .ok (.iastore, 1) := by decide +kernel
theorem dX10_byTape_22 : decode cX10_byTape 22 = .ok (.iconst 0, 1) := by decide +kernel
theorem dX10_byTape_23 : decode cX10_byTape 23 = .ok (.istore 4, 2) := by decide +kernel
theorem dX10_byTape_25 : decode cX10_byTape 25 = .ok (.iload 4, 2) := by decide +kernel
theorem dX10_byTape_27 : decode cX10_byTape 27 = .ok (.aload_n 0, 1) := by decide +kernel
theorem dX10_byTape_28 : decode cX10_byTape 28 = .ok (.getfield 101, 3) := by decide +kernel
theorem dX10_byTape_31 : decode cX10_byTape 31 = .ok (.if_icmp .ge 25, 3) := by decide +kernel
theorem dX10_byTape_34 : decode cX10_byTape 34 = .ok (.aload_n 0, 1) := by decide +kernel
theorem dX10_byTape_35 : decode cX10_byTape 35 = .ok (.getfield 74, 3) := by decide +kernel
theorem dX10_byTape_38 : decode cX10_byTape 38 = .ok (.iconst 2, 1) := by decide +kernel
theorem dX10_byTape_39 : decode cX10_byTape 39 = .ok (.iload 4, 2) := by decide +kernel
theorem dX10_byTape_41 : decode cX10_byTape 41 = .ok (.iadd, 1) := by decide +kernel
theorem dX10_byTape_42 : decode cX10_byTape 42 = .ok (.aload_n 0, 1) := by decide +kernel
theorem dX10_byTape_43 : decode cX10_byTape 43 = .ok (.getfield 28, 3) := by decide +kernel
theorem dX10_byTape_46 : decode cX10_byTape 46 = .ok (.iload 4, 2) := by decide +kernel
theorem dX10_byTape_48 : decode cX10_byTape 48 = .ok (.iaload, 1) := by decide +kernel
theorem dX10_byTape_49 : decode cX10_byTape 49 = .ok (.iastore, 1) := by decide +kernel
theorem dX10_byTape_50 : decode cX10_byTape 50 = .ok (.iinc 4 1, 3) := by decide +kernel
theorem dX10_byTape_53 : decode cX10_byTape 53 = .ok (.goto (-28), 3) := by decide +kernel
theorem dX10_byTape_56 : decode cX10_byTape 56 = .ok (.aload_n 0, 1) := by decide +kernel
theorem dX10_byTape_57 : decode cX10_byTape 57 = .ok (.iload_n 3, 1) := by decide +kernel
theorem dX10_byTape_58 : decode cX10_byTape 58 = .ok (.invokevirtual 320, 3) := by decide +kernel
theorem dX10_byTape_61 : decode cX10_byTape 61 = .ok (.istore 4, 2) := by decide +kernel
theorem dX10_byTape_63 : decode cX10_byTape 63 = .ok (.iload 4, 2) := by decide +kernel
theorem dX10_byTape_65 : decode cX10_byTape 65 = .ok (.ifCond .ge 10, 3) := by decide +kernel
theorem dX10_byTape_68 : decode cX10_byTape 68 = .ok (.iload 4, 2) := by decide +kernel
theorem dX10_byTape_70 : decode cX10_byTape 70 = .ok (.bipush (-7), 2) := by decide +kernel
theorem dX10_byTape_72 : decode cX10_byTape 72 = .ok (.if_icmp .ne 8, 3) := by decide +kernel
theorem dX10_byTape_75 : decode cX10_byTape 75 = .ok (.aload_n 0, 1) := by decide +kernel
theorem dX10_byTape_76 : decode cX10_byTape 76 = .ok (.iconst 0, 1) := by decide +kernel
theorem dX10_byTape_77 : decode cX10_byTape 77 = .ok (.putfield 101, 3) := by decide +kernel
theorem dX10_byTape_80 : decode cX10_byTape 80 = .ok (.iload 4, 2) := by decide +kernel
theorem dX10_byTape_82 : decode cX10_byTape 82 = .ok (.ireturn, 1) := by decide +kernel
theorem dX10_isKey_0 : decode cX10_isKey 0 = .ok (.iload_n 0, 1) := by decide +kernel
theorem dX10_isKey_1 : decode cX10_isKey 1 = .ok (.iconst 0, 1) := by decide +kernel
theorem dX10_isKey_2 : decode cX10_isKey 2 = .ok (.sipush 255, 3) := by decide +kernel
theorem dX10_isKey_5 : decode cX10_isKey 5 = .ok (.invokestatic 83, 3) := by decide +kernel
theorem dX10_isKey_8 : decode cX10_isKey 8 = .ok (.ireturn, 1) := by decide +kernel
theorem dX10_put_0 : decode cX10_put 0 = .ok (.aload_n 0, 1) := by decide +kernel
theorem dX10_put_1 : decode cX10_put 1 = .ok (.iconst 0, 1) := by decide +kernel
theorem dX10_put_2 : decode cX10_put 2 = .ok (.putfield 77, 3) := by decide +kernel
theorem dX10_put_5 : decode cX10_put 5 = .ok (.iload_n 1, 1) := by decide +kernel
theorem dX10_put_6 : decode cX10_put 6 = .ok (.invokestatic 323, 3) := by decide +kernel
theorem dX10_put_9 : decode cX10_put 9 = .ok (.ifCond .eq 12, 3) := by decide +kernel
theorem dX10_put_12 : decode cX10_put 12 = .ok (.aload_n 0, 1) := by decide +kernel
theorem dX10_put_13 : decode cX10_put 13 = .ok (.getfield 101, 3) := by decide +kernel
theorem dX10_put_16 : decode cX10_put 16 = .ok (.bipush 8, 2) := by decide +kernel
theorem dX10_put_18 : decode cX10_put 18 = .ok (.if_icmp .le 11, 3) := by decide +kernel
theorem dX10_put_21 : decode cX10_put 21 = .ok (.aload_n 0, 1) := by decide +kernel
theorem dX10_put_22 : decode cX10_put 22 = .ok (.iconst (-1), 1) := by decide +kernel
theorem dX10_put_23 : decode cX10_put 23 = .ok (.invokevirtual 87, 3) := by decide +kernel
theorem dX10_put_26 : decode cX10_put 26 = .ok (.goto 10, 3) := by decide +kernel
theorem dX10_put_29 : decode cX10_put 29 = .ok (.aload_n 0, 1) := by decide +kernel
theorem dX10_put_30 : decode cX10_put 30 = .ok (.iconst 1, 1) := by decide +kernel
theorem dX10_put_31 : decode cX10_put 31 = .ok (.iload_n 1, 1) := by decide +kernel
theorem dX10_put_32 : decode cX10_put 32 = .ok (.iconst 0, 1) := by decide +kernel
theorem dX10_put_33 : decode cX10_put 33 = .ok (.invokevirtual 326, 3) := by decide +kernel
theorem dX10_put_36 : decode cX10_put 36 = .ok (.ireturn, 1) := by decide +kernel
theorem dX10_grow_0 : decode cX10_grow 0 = .ok (.aload_n 0, 1) := by decide +kernel
theorem dX10_grow_1 : decode cX10_grow 1 = .ok (.iconst 0, 1) := by decide +kernel
theorem dX10_grow_2 : decode cX10_grow 2 = .ok (.putfield 77, 3) := by decide +kernel
theorem dX10_grow_5 : decode cX10_grow 5 = .ok (.iload_n 1, 1) := by decide +kernel
theorem dX10_grow_6 : decode cX10_grow 6 = .ok (.invokestatic 323, 3) := by decide +kernel
theorem dX10_grow_9 : decode cX10_grow 9 = .ok (.ifCond .eq 16, 3) := by decide +kernel
theorem dX10_grow_12 : decode cX10_grow 12 = .ok (.aload_n 0, 1) := by decide +kernel
theorem dX10_grow_13 : decode cX10_grow 13 = .ok (.getfield 101, 3) := by decide +kernel
theorem dX10_grow_16 : decode cX10_grow 16 = .ok (.iconst 1, 1) := by decide +kernel
theorem dX10_grow_17 : decode cX10_grow 17 = .ok (.bipush 8, 2) := by decide +kernel
theorem dX10_grow_19 : decode cX10_grow 19 = .ok (.invokestatic 83, 3) := by decide +kernel
theorem dX10_grow_22 : decode cX10_grow 22 = .ok (.ifCond .ne 11, 3) := by decide +kernel
theorem dX10_grow_25 : decode cX10_grow 25 = .ok (.aload_n 0, 1) := by decide +kernel
theorem dX10_grow_26 : decode cX10_grow 26 = .ok (.iconst (-1), 1) := by decide +kernel
theorem dX10_grow_27 : decode cX10_grow 27 = .ok (.invokevirtual 87, 3) := by decide +kernel
theorem dX10_grow_30 : decode cX10_grow 30 = .ok (.goto 10, 3) := by decide +kernel
theorem dX10_grow_33 : decode cX10_grow 33 = .ok (.aload_n 0, 1) := by decide +kernel
theorem dX10_grow_34 : decode cX10_grow 34 = .ok (.iconst 4, 1) := by decide +kernel
theorem dX10_grow_35 : decode cX10_grow 35 = .ok (.iload_n 1, 1) := by decide +kernel
theorem dX10_grow_36 : decode cX10_grow 36 = .ok (.iconst 1, 1) := by decide +kernel
theorem dX10_grow_37 : decode cX10_grow 37 = .ok (.invokevirtual 326, 3) := by decide +kernel
theorem dX10_grow_40 : decode cX10_grow 40 = .ok (.ireturn, 1) := by decide +kernel
theorem dX10_alter_0 : decode cX10_alter 0 = .ok (.aload_n 0, 1) := by decide +kernel
theorem dX10_alter_1 : decode cX10_alter 1 = .ok (.iconst 0, 1) := by decide +kernel
theorem dX10_alter_2 : decode cX10_alter 2 = .ok (.putfield 77, 3) := by decide +kernel
theorem dX10_alter_5 : decode cX10_alter 5 = .ok (.iload_n 1, 1) := by decide +kernel
theorem dX10_alter_6 : decode cX10_alter 6 = .ok (.invokestatic 323, 3) := by decide +kernel
theorem dX10_alter_9 : decode cX10_alter 9 = .ok (.ifCond .eq 24, 3) := by decide +kernel
theorem dX10_alter_12 : decode cX10_alter 12 = .ok (.iload_n 2, 1) := by decide +kernel
theorem dX10_alter_13 : decode cX10_alter 13 = .ok (.iconst 0, 1) := by decide +kernel
theorem dX10_alter_14 : decode cX10_alter 14 = .ok (.bipush 7, 2) := by decide +kernel
theorem dX10_alter_16 : decode cX10_alter 16 = .ok (.invokestatic 83, 3) := by decide +kernel
theorem dX10_alter_19 : decode cX10_alter 19 = .ok (.ifCond .eq 14, 3) := by decide +kernel
theorem dX10_alter_22 : decode cX10_alter 22 = .ok (.iload_n 3, 1) := by decide +kernel
theorem dX10_alter_23 : decode cX10_alter 23 = .ok (.iconst 0, 1) := by decide +kernel
theorem dX10_alter_24 : decode cX10_alter 24 = .ok (.sipush 255, 3) := by decide +kernel
theorem dX10_alter_27 : decode cX10_alter 27 = .ok (.invokestatic 83, 3) := by decide +kernel
theorem dX10_alter_30 : decode cX10_alter 30 = .ok (.ifCond .ne 9, 3) := by decide +kernel
theorem dX10_alter_33 : decode cX10_alter 33 = .ok (.aload_n 0, 1) := by decide +kernel
theorem dX10_alter_34 : decode cX10_alter 34 = .ok (.iconst (-1), 1) := by decide +kernel
theorem dX10_alter_35 : decode cX10_alter 35 = .ok (.invokevirtual 87, 3) := by decide +kernel
theorem dX10_alter_38 : decode cX10_alter 38 = .ok (.ireturn, 1) := by decide +kernel
theorem dX10_alter_39 : decode cX10_alter 39 = .ok (.aload_n 0, 1) := by decide +kernel
theorem dX10_alter_40 : decode cX10_alter 40 = .ok (.getfield 74, 3) := by decide +kernel
theorem dX10_alter_43 : decode cX10_alter 43 = .ok (.iconst 0, 1) := by decide +kernel
theorem dX10_alter_44 : decode cX10_alter 44 = .ok (.bipush 48, 2) := by decide +kernel
theorem dX10_alter_46 : decode cX10_alter 46 = .ok (.iload_n 2, 1) := by decide +kernel
theorem dX10_alter_47 : decode cX10_alter 47 = .ok (.iadd, 1) := by decide +kernel
theorem dX10_alter_48 : decode cX10_alter 48 = .ok (.iastore, 1) := by decide +kernel
theorem dX10_alter_49 : decode cX10_alter 49 = .ok (.aload_n 0, 1) := by decide +kernel
theorem dX10_alter_50 : decode cX10_alter 50 = .ok (.getfield 74, 3) := by decide +kernel
theorem dX10_alter_53 : decode cX10_alter 53 = .ok (.iconst 1, 1) := by decide +kernel
theorem dX10_alter_54 : decode cX10_alter 54 = .ok (.iload_n 1, 1) := by decide +kernel
theorem dX10_alter_55 : decode cX10_alter 55 = .ok (.iastore, 1) := by decide +kernel
theorem dX10_alter_56 : decode cX10_alter 56 = .ok (.aload_n 0, 1) := by decide +kernel
theorem dX10_alter_57 : decode cX10_alter 57 = .ok (.getfield 74, 3) := by decide +kernel
theorem dX10_alter_60 : decode cX10_alter 60 = .ok (.iconst 2, 1) := by decide +kernel
theorem dX10_alter_61 : decode cX10_alter 61 = .ok (.iload_n 3, 1) := by decide +kernel
theorem dX10_alter_62 : decode cX10_alter 62 = .ok (.iastore, 1) := by decide +kernel
theorem dX10_alter_63 : decode cX10_alter 63 = .ok (.aload_n 0, 1) := by decide +kernel
theorem dX10_alter_64 : decode cX10_alter 64 = .ok (.iconst 2, 1) := by decide +kernel
theorem dX10_alter_65 : decode cX10_alter 65 = .ok (.invokevirtual 320, 3) := by decide +kernel
theorem dX10_alter_68 : decode cX10_alter 68 = .ok (.ireturn, 1) := by decide +kernel
theorem dX10_erase_0 : decode cX10_erase 0 = .ok (.aload_n 0, 1) := by decide +kernel
theorem dX10_erase_1 : decode cX10_erase 1 = .ok (.iconst 0, 1) := by decide +kernel
theorem dX10_erase_2 : decode cX10_erase 2 = .ok (.putfield 77, 3) := by decide +kernel
theorem dX10_erase_5 : decode cX10_erase 5 = .ok (.iload_n 1, 1) := by decide +kernel
theorem dX10_erase_6 : decode cX10_erase 6 = .ok (.invokestatic 323, 3) := by decide +kernel
theorem dX10_erase_9 : decode cX10_erase 9 = .ok (.ifCond .ne 9, 3) := by decide +kernel
theorem dX10_erase_12 : decode cX10_erase 12 = .ok (.aload_n 0, 1) := by decide +kernel
theorem dX10_erase_13 : decode cX10_erase 13 = .ok (.iconst (-1), 1) := by decide +kernel
theorem dX10_erase_14 : decode cX10_erase 14 = .ok (.invokevirtual 87, 3) := by decide +kernel
theorem dX10_erase_17 : decode cX10_erase 17 = .ok (.ireturn, 1) := by decide +kernel
theorem dX10_erase_18 : decode cX10_erase 18 = .ok (.aload_n 0, 1) := by decide +kernel
theorem dX10_erase_19 : decode cX10_erase 19 = .ok (.getfield 74, 3) := by decide +kernel
theorem dX10_erase_22 : decode cX10_erase 22 = .ok (.iconst 0, 1) := by decide +kernel
theorem dX10_erase_23 : decode cX10_erase 23 = .ok (.bipush 32, 2) := by decide +kernel
theorem dX10_erase_25 : decode cX10_erase 25 = .ok (.iastore, 1) := by decide +kernel
theorem dX10_erase_26 : decode cX10_erase 26 = .ok (.aload_n 0, 1) := by decide +kernel
theorem dX10_erase_27 : decode cX10_erase 27 = .ok (.getfield 74, 3) := by decide +kernel
theorem dX10_erase_30 : decode cX10_erase 30 = .ok (.iconst 1, 1) := by decide +kernel
theorem dX10_erase_31 : decode cX10_erase 31 = .ok (.iload_n 1, 1) := by decide +kernel
theorem dX10_erase_32 : decode cX10_erase 32 = .ok (.iastore, 1) := by decide +kernel
theorem dX10_erase_33 : decode cX10_erase 33 = .ok (.aload_n 0, 1) := by decide +kernel
theorem dX10_erase_34 : decode cX10_erase 34 = .ok (.iconst 3, 1) := by decide +kernel
theorem dX10_erase_35 : decode cX10_erase 35 = .ok (.invokevirtual 320, 3) := by decide +kernel
theorem dX10_erase_38 : decode cX10_erase 38 = .ok (.ireturn, 1) := by decide +kernel
theorem dX10_drafted_0 : decode cX10_drafted 0 = .ok (.aload_n 0, 1) := by decide +kernel
theorem dX10_drafted_1 : decode cX10_drafted 1 = .ok (.invokevirtual 299, 3) := by decide +kernel
theorem dX10_drafted_4 : decode cX10_drafted 4 = .ok (.aload_n 0, 1) := by decide +kernel
theorem dX10_drafted_5 : decode cX10_drafted 5 = .ok (.iconst 0, 1) := by decide +kernel
theorem dX10_drafted_6 : decode cX10_drafted 6 = .ok (.putfield 330, 3) := by decide +kernel
theorem dX10_drafted_9 : decode cX10_drafted 9 = .ok (.iload_n 1, 1) := by decide +kernel
theorem dX10_drafted_10 : decode cX10_drafted 10 = .ok (.ifCond .ne 6, 3) := by decide +kernel
theorem dX10_drafted_13 : decode cX10_drafted 13 = .ok (.bipush (-6), 2) := by decide +kernel
theorem dX10_drafted_15 : decode cX10_drafted 15 = .ok (.ireturn, 1) := by decide +kernel
theorem dX10_drafted_16 : decode cX10_drafted 16 = .ok (.iconst 0, 1) := by decide +kernel
theorem dX10_drafted_17 : decode cX10_drafted 17 = .ok (.istore_n 2, 1) := by decide +kernel
theorem dX10_drafted_18 : decode cX10_drafted 18 = .ok (.iload_n 2, 1) := by decide +kernel
theorem dX10_drafted_19 : decode cX10_drafted 19 = .ok (.iload_n 1, 1) := by decide +kernel
theorem dX10_drafted_20 : decode cX10_drafted 20 = .ok (.if_icmp .ge 53, 3) := by decide +kernel
theorem dX10_drafted_23 : decode cX10_drafted 23 = .ok (.aload_n 0, 1) := by decide +kernel
theorem dX10_drafted_24 : decode cX10_drafted 24 = .ok (.iload_n 2, 1) := by decide +kernel
theorem dX10_drafted_25 : decode cX10_drafted 25 = .ok (.putfield 330, 3) := by decide +kernel
theorem dX10_drafted_28 : decode cX10_drafted 28 = .ok (.aload_n 0, 1) := by decide +kernel
theorem dX10_drafted_29 : decode cX10_drafted 29 = .ok (.getfield 28, 3) := by decide +kernel
theorem dX10_drafted_32 : decode cX10_drafted 32 = .ok (.iload_n 2, 1) := by decide +kernel
theorem dX10_drafted_33 : decode cX10_drafted 33 = .ok (.iaload, 1) := by decide +kernel
theorem dX10_drafted_34 : decode cX10_drafted 34 = .ok (.invokestatic 333, 3) := by decide +kernel
theorem dX10_drafted_37 : decode cX10_drafted 37 = .ok (.ifCond .eq 18, 3) := by decide +kernel
theorem dX10_drafted_40 : decode cX10_drafted 40 = .ok (.iload_n 2, 1) := by decide +kernel
theorem dX10_drafted_41 : decode cX10_drafted 41 = .ok (.aload_n 0, 1) := by decide +kernel
theorem dX10_drafted_42 : decode cX10_drafted 42 = .ok (.getfield 28, 3) := by decide +kernel
theorem dX10_drafted_45 : decode cX10_drafted 45 = .ok (.iload_n 2, 1) := by decide +kernel
theorem dX10_drafted_46 : decode cX10_drafted 46 = .ok (.iaload, 1) := by decide +kernel
theorem dX10_drafted_47 : decode cX10_drafted 47 = .ok (.invokestatic 159, 3) := by decide +kernel
theorem dX10_drafted_50 : decode cX10_drafted 50 = .ok (.iadd, 1) := by decide +kernel
theorem dX10_drafted_51 : decode cX10_drafted 51 = .ok (.iload_n 1, 1) := by decide +kernel
theorem dX10_drafted_52 : decode cX10_drafted 52 = .ok (.if_icmp .le 6, 3) := by decide +kernel
theorem dX10_drafted_55 : decode cX10_drafted 55 = .ok (.bipush (-6), 2) := by decide +kernel
theorem dX10_drafted_57 : decode cX10_drafted 57 = .ok (.ireturn, 1) := by decide +kernel
theorem dX10_drafted_58 : decode cX10_drafted 58 = .ok (.iload_n 2, 1) := by decide +kernel
theorem dX10_drafted_59 : decode cX10_drafted 59 = .ok (.aload_n 0, 1) := by decide +kernel
theorem dX10_drafted_60 : decode cX10_drafted 60 = .ok (.getfield 28, 3) := by decide +kernel
theorem dX10_drafted_63 : decode cX10_drafted 63 = .ok (.iload_n 2, 1) := by decide +kernel
theorem dX10_drafted_64 : decode cX10_drafted 64 = .ok (.iaload, 1) := by decide +kernel
theorem dX10_drafted_65 : decode cX10_drafted 65 = .ok (.invokestatic 159, 3) := by decide +kernel
theorem dX10_drafted_68 : decode cX10_drafted 68 = .ok (.iadd, 1) := by decide +kernel
theorem dX10_drafted_69 : decode cX10_drafted 69 = .ok (.istore_n 2, 1) := by decide +kernel
theorem dX10_drafted_70 : decode cX10_drafted 70 = .ok (.goto (-52), 3) := by decide +kernel
theorem dX10_drafted_73 : decode cX10_drafted 73 = .ok (.iconst 0, 1) := by decide +kernel
theorem dX10_drafted_74 : decode cX10_drafted 74 = .ok (.istore_n 3, 1) := by decide +kernel
theorem dX10_drafted_75 : decode cX10_drafted 75 = .ok (.iconst 0, 1) := by decide +kernel
theorem dX10_drafted_76 : decode cX10_drafted 76 = .ok (.istore_n 2, 1) := by decide +kernel
theorem dX10_drafted_77 : decode cX10_drafted 77 = .ok (.iload_n 2, 1) := by decide +kernel
theorem dX10_drafted_78 : decode cX10_drafted 78 = .ok (.iload_n 1, 1) := by decide +kernel
theorem dX10_drafted_79 : decode cX10_drafted 79 = .ok (.if_icmp .ge 45, 3) := by decide +kernel
theorem dX10_drafted_82 : decode cX10_drafted 82 = .ok (.aload_n 0, 1) := by decide +kernel
theorem dX10_drafted_83 : decode cX10_drafted 83 = .ok (.iload_n 2, 1) := by decide +kernel
theorem dX10_drafted_84 : decode cX10_drafted 84 = .ok (.putfield 330, 3) := by decide +kernel
theorem dX10_drafted_87 : decode cX10_drafted 87 = .ok (.aload_n 0, 1) := by decide +kernel
theorem dX10_drafted_88 : decode cX10_drafted 88 = .ok (.aload_n 0, 1) := by decide +kernel
theorem dX10_drafted_89 : decode cX10_drafted 89 = .ok (.getfield 28, 3) := by decide +kernel
theorem dX10_drafted_92 : decode cX10_drafted 92 = .ok (.iload_n 2, 1) := by decide +kernel
theorem dX10_drafted_93 : decode cX10_drafted 93 = .ok (.invokevirtual 302, 3) := by decide +kernel
theorem dX10_drafted_96 : decode cX10_drafted 96 = .ok (.istore 4, 2) := by decide +kernel
theorem dX10_drafted_98 : decode cX10_drafted 98 = .ok (.iload 4, 2) := by decide +kernel
theorem dX10_drafted_100 : decode cX10_drafted 100 = .ok (.ifCond .ge 6, 3) := by decide +kernel
theorem dX10_drafted_103 : decode cX10_drafted 103 = .ok (.iload 4, 2) := by decide +kernel
theorem dX10_drafted_105 : decode cX10_drafted 105 = .ok (.ireturn, 1) := by decide +kernel
theorem dX10_drafted_106 : decode cX10_drafted 106 = .ok (.iload_n 2, 1) := by decide +kernel
theorem dX10_drafted_107 : decode cX10_drafted 107 = .ok (.aload_n 0, 1) := by decide +kernel
theorem dX10_drafted_108 : decode cX10_drafted 108 = .ok (.getfield 28, 3) := by decide +kernel
theorem dX10_drafted_111 : decode cX10_drafted 111 = .ok (.iload_n 2, 1) := by decide +kernel
theorem dX10_drafted_112 : decode cX10_drafted 112 = .ok (.iaload, 1) := by decide +kernel
theorem dX10_drafted_113 : decode cX10_drafted 113 = .ok (.invokestatic 159, 3) := by decide +kernel
theorem dX10_drafted_116 : decode cX10_drafted 116 = .ok (.iadd, 1) := by decide +kernel
theorem dX10_drafted_117 : decode cX10_drafted 117 = .ok (.istore_n 2, 1) := by decide +kernel
theorem dX10_drafted_118 : decode cX10_drafted 118 = .ok (.iinc 3 1, 3) := by decide +kernel
theorem dX10_drafted_121 : decode cX10_drafted 121 = .ok (.goto (-44), 3) := by decide +kernel
theorem dX10_drafted_124 : decode cX10_drafted 124 = .ok (.aload_n 0, 1) := by decide +kernel
theorem dX10_drafted_125 : decode cX10_drafted 125 = .ok (.iconst (-1), 1) := by decide +kernel
theorem dX10_drafted_126 : decode cX10_drafted 126 = .ok (.putfield 330, 3) := by decide +kernel
theorem dX10_drafted_129 : decode cX10_drafted 129 = .ok (.aload_n 0, 1) := by decide +kernel
theorem dX10_drafted_130 : decode cX10_drafted 130 = .ok (.iconst 0, 1) := by decide +kernel
theorem dX10_drafted_131 : decode cX10_drafted 131 = .ok (.putfield 221, 3) := by decide +kernel
theorem dX10_drafted_134 : decode cX10_drafted 134 = .ok (.iconst 0, 1) := by decide +kernel
theorem dX10_drafted_135 : decode cX10_drafted 135 = .ok (.istore 4, 2) := by decide +kernel
theorem dX10_drafted_137 : decode cX10_drafted 137 = .ok (.iload 4, 2) := by decide +kernel
theorem dX10_drafted_139 : decode cX10_drafted 139 = .ok (.sipush 640, 3) := by decide +kernel
theorem dX10_drafted_142 : decode cX10_drafted 142 = .ok (.if_icmp .ge 42, 3) := by decide +kernel
theorem dX10_drafted_145 : decode cX10_drafted 145 = .ok (.aload_n 0, 1) := by decide +kernel
theorem dX10_drafted_146 : decode cX10_drafted 146 = .ok (.getfield 25, 3) := by decide +kernel
theorem dX10_drafted_149 : decode cX10_drafted 149 = .ok (.iload 4, 2) := by decide +kernel
theorem dX10_drafted_151 : decode cX10_drafted 151 = .ok (.iaload, 1) := by decide +kernel
theorem dX10_drafted_152 : decode cX10_drafted 152 = .ok (.aload_n 0, 1) := by decide +kernel
theorem dX10_drafted_153 : decode cX10_drafted 153 = .ok (.getfield 22, 3) := by decide +kernel
theorem dX10_drafted_156 : decode cX10_drafted 156 = .ok (.iload 4, 2) := by decide +kernel
theorem dX10_drafted_158 : decode cX10_drafted 158 = .ok (.iaload, 1) := by decide +kernel
theorem dX10_drafted_159 : decode cX10_drafted 159 = .ok (.if_icmp .eq 19, 3) := by decide +kernel
theorem dX10_drafted_162 : decode cX10_drafted 162 = .ok (.aload_n 0, 1) := by decide +kernel
theorem dX10_drafted_163 : decode cX10_drafted 163 = .ok (.dup, 1) := by decide +kernel
theorem dX10_drafted_164 : decode cX10_drafted 164 = .ok (.getfield 221, 3) := by decide +kernel
theorem dX10_drafted_167 : decode cX10_drafted 167 = .ok (.iconst 1, 1) := by decide +kernel
theorem dX10_drafted_168 : decode cX10_drafted 168 = .ok (.iload 4, 2) := by decide +kernel
theorem dX10_drafted_170 : decode cX10_drafted 170 = .ok (.bipush 64, 2) := by decide +kernel
theorem dX10_drafted_172 : decode cX10_drafted 172 = .ok (.idiv, 1) := by decide +kernel
theorem dX10_drafted_173 : decode cX10_drafted 173 = .ok (.ishl, 1) := by decide +kernel
theorem dX10_drafted_174 : decode cX10_drafted 174 = .ok (.ior, 1) := by decide +kernel
theorem dX10_drafted_175 : decode cX10_drafted 175 = .ok (.putfield 221, 3) := by decide +kernel
theorem dX10_drafted_178 : decode cX10_drafted 178 = .ok (.iinc 4 1, 3) := by decide +kernel
theorem dX10_drafted_181 : decode cX10_drafted 181 = .ok (.goto (-44), 3) := by decide +kernel
theorem dX10_drafted_184 : decode cX10_drafted 184 = .ok (.iload_n 3, 1) := by decide +kernel
theorem dX10_drafted_185 : decode cX10_drafted 185 = .ok (.ireturn, 1) := by decide +kernel
theorem dX10_group_0 : decode cX10_group 0 = .ok (.aload_n 0, 1) := by decide +kernel
theorem dX10_group_1 : decode cX10_group 1 = .ok (.iconst 0, 1) := by decide +kernel
theorem dX10_group_2 : decode cX10_group 2 = .ok (.putfield 77, 3) := by decide +kernel
theorem dX10_group_5 : decode cX10_group 5 = .ok (.aload_n 0, 1) := by decide +kernel
theorem dX10_group_6 : decode cX10_group 6 = .ok (.invokevirtual 292, 3) := by decide +kernel
theorem dX10_group_9 : decode cX10_group 9 = .ok (.ifCond .eq 10, 3) := by decide +kernel
theorem dX10_group_12 : decode cX10_group 12 = .ok (.aload_n 0, 1) := by decide +kernel
theorem dX10_group_13 : decode cX10_group 13 = .ok (.bipush (-3), 2) := by decide +kernel
theorem dX10_group_15 : decode cX10_group 15 = .ok (.invokevirtual 87, 3) := by decide +kernel
theorem dX10_group_18 : decode cX10_group 18 = .ok (.ireturn, 1) := by decide +kernel
theorem dX10_group_19 : decode cX10_group 19 = .ok (.aload_n 0, 1) := by decide +kernel
theorem dX10_group_20 : decode cX10_group 20 = .ok (.getfield 101, 3) := by decide +kernel
theorem dX10_group_23 : decode cX10_group 23 = .ok (.istore_n 1, 1) := by decide +kernel
theorem dX10_group_24 : decode cX10_group 24 = .ok (.aload_n 0, 1) := by decide +kernel
theorem dX10_group_25 : decode cX10_group 25 = .ok (.iconst 0, 1) := by decide +kernel
theorem dX10_group_26 : decode cX10_group 26 = .ok (.putfield 101, 3) := by decide +kernel
theorem dX10_group_29 : decode cX10_group 29 = .ok (.aload_n 0, 1) := by decide +kernel
theorem dX10_group_30 : decode cX10_group 30 = .ok (.iload_n 1, 1) := by decide +kernel
theorem dX10_group_31 : decode cX10_group 31 = .ok (.invokevirtual 336, 3) := by decide +kernel
theorem dX10_group_34 : decode cX10_group 34 = .ok (.istore_n 2, 1) := by decide +kernel
theorem dX10_group_35 : decode cX10_group 35 = .ok (.aload_n 0, 1) := by decide +kernel
theorem dX10_group_36 : decode cX10_group 36 = .ok (.aload_n 0, 1) := by decide +kernel
theorem dX10_group_37 : decode cX10_group 37 = .ok (.getfield 330, 3) := by decide +kernel
theorem dX10_group_40 : decode cX10_group 40 = .ok (.putfield 31, 3) := by decide +kernel
theorem dX10_group_43 : decode cX10_group 43 = .ok (.iload_n 2, 1) := by decide +kernel
theorem dX10_group_44 : decode cX10_group 44 = .ok (.ifCond .ge 9, 3) := by decide +kernel
theorem dX10_group_47 : decode cX10_group 47 = .ok (.aload_n 0, 1) := by decide +kernel
theorem dX10_group_48 : decode cX10_group 48 = .ok (.iload_n 2, 1) := by decide +kernel
theorem dX10_group_49 : decode cX10_group 49 = .ok (.invokevirtual 87, 3) := by decide +kernel
theorem dX10_group_52 : decode cX10_group 52 = .ok (.ireturn, 1) := by decide +kernel
theorem dX10_group_53 : decode cX10_group 53 = .ok (.aload_n 0, 1) := by decide +kernel
theorem dX10_group_54 : decode cX10_group 54 = .ok (.iconst 4, 1) := by decide +kernel
theorem dX10_group_55 : decode cX10_group 55 = .ok (.invokevirtual 305, 3) := by decide +kernel
theorem dX10_group_58 : decode cX10_group 58 = .ok (.aload_n 0, 1) := by decide +kernel
theorem dX10_group_59 : decode cX10_group 59 = .ok (.invokevirtual 308, 3) := by decide +kernel
theorem dX10_group_62 : decode cX10_group 62 = .ok (.aload_n 0, 1) := by decide +kernel
theorem dX10_group_63 : decode cX10_group 63 = .ok (.invokevirtual 311, 3) := by decide +kernel
theorem dX10_group_66 : decode cX10_group 66 = .ok (.aload_n 0, 1) := by decide +kernel
theorem dX10_group_67 : decode cX10_group 67 = .ok (.iconst 0, 1) := by decide +kernel
theorem dX10_group_68 : decode cX10_group 68 = .ok (.putfield 91, 3) := by decide +kernel
theorem dX10_group_71 : decode cX10_group 71 = .ok (.aload_n 0, 1) := by decide +kernel
theorem dX10_group_72 : decode cX10_group 72 = .ok (.iload_n 2, 1) := by decide +kernel
theorem dX10_group_73 : decode cX10_group 73 = .ok (.invokevirtual 314, 3) := by decide +kernel
theorem dX10_group_76 : decode cX10_group 76 = .ok (.ireturn, 1) := by decide +kernel
theorem dX10_would_0 : decode cX10_would 0 = .ok (.aload_n 0, 1) := by decide +kernel
theorem dX10_would_1 : decode cX10_would 1 = .ok (.iconst 0, 1) := by decide +kernel
theorem dX10_would_2 : decode cX10_would 2 = .ok (.putfield 77, 3) := by decide +kernel
theorem dX10_would_5 : decode cX10_would 5 = .ok (.aload_n 0, 1) := by decide +kernel
theorem dX10_would_6 : decode cX10_would 6 = .ok (.invokevirtual 292, 3) := by decide +kernel
theorem dX10_would_9 : decode cX10_would 9 = .ok (.ifCond .ne 12, 3) := by decide +kernel
theorem dX10_would_12 : decode cX10_would 12 = .ok (.iload_n 1, 1) := by decide +kernel
theorem dX10_would_13 : decode cX10_would 13 = .ok (.iconst 0, 1) := by decide +kernel
theorem dX10_would_14 : decode cX10_would 14 = .ok (.iconst 3, 1) := by decide +kernel
theorem dX10_would_15 : decode cX10_would 15 = .ok (.invokestatic 83, 3) := by decide +kernel
theorem dX10_would_18 : decode cX10_would 18 = .ok (.ifCond .ne 5, 3) := by decide +kernel
theorem dX10_would_21 : decode cX10_would 21 = .ok (.iconst (-1), 1) := by decide +kernel
theorem dX10_would_22 : decode cX10_would 22 = .ok (.ireturn, 1) := by decide +kernel
theorem dX10_would_23 : decode cX10_would 23 = .ok (.aload_n 0, 1) := by decide +kernel
theorem dX10_would_24 : decode cX10_would 24 = .ok (.aload_n 0, 1) := by decide +kernel
theorem dX10_would_25 : decode cX10_would 25 = .ok (.getfield 101, 3) := by decide +kernel
theorem dX10_would_28 : decode cX10_would 28 = .ok (.invokevirtual 336, 3) := by decide +kernel
theorem dX10_would_31 : decode cX10_would 31 = .ok (.istore_n 2, 1) := by decide +kernel
theorem dX10_would_32 : decode cX10_would 32 = .ok (.iload_n 1, 1) := by decide +kernel
theorem dX10_would_33 : decode cX10_would 33 = .ok (.ifCond .ne 5, 3) := by decide +kernel
theorem dX10_would_36 : decode cX10_would 36 = .ok (.iload_n 2, 1) := by decide +kernel
theorem dX10_would_37 : decode cX10_would 37 = .ok (.ireturn, 1) := by decide +kernel
theorem dX10_would_38 : decode cX10_would 38 = .ok (.iload_n 1, 1) := by decide +kernel
theorem dX10_would_39 : decode cX10_would 39 = .ok (.iconst 1, 1) := by decide +kernel
theorem dX10_would_40 : decode cX10_would 40 = .ok (.if_icmp .le 57, 3) := by decide +kernel
theorem dX10_would_43 : decode cX10_would 43 = .ok (.iload_n 2, 1) := by decide +kernel
theorem dX10_would_44 : decode cX10_would 44 = .ok (.ifCond .ge 29, 3) := by decide +kernel
theorem dX10_would_47 : decode cX10_would 47 = .ok (.iload_n 1, 1) := by decide +kernel
theorem dX10_would_48 : decode cX10_would 48 = .ok (.iconst 2, 1) := by decide +kernel
theorem dX10_would_49 : decode cX10_would 49 = .ok (.if_icmp .ne 14, 3) := by decide +kernel
theorem dX10_would_52 : decode cX10_would 52 = .ok (.aload_n 0, 1) := by decide +kernel
theorem dX10_would_53 : decode cX10_would 53 = .ok (.getfield 22, 3) := by decide +kernel
theorem dX10_would_56 : decode cX10_would 56 = .ok (.sipush 661, 3) := by decide +kernel
theorem dX10_would_59 : decode cX10_would 59 = .ok (.iaload, 1) := by decide +kernel
theorem dX10_would_60 : decode cX10_would 60 = .ok (.goto 36, 3) := by decide +kernel
theorem dX10_would_63 : decode cX10_would 63 = .ok (.aload_n 0, 1) := by decide +kernel
theorem dX10_would_64 : decode cX10_would 64 = .ok (.getfield 22, 3) := by decide +kernel
theorem dX10_would_67 : decode cX10_would 67 = .ok (.invokestatic 151, 3) := by decide +kernel
theorem dX10_would_70 : decode cX10_would 70 = .ok (.goto 26, 3) := by decide +kernel
theorem dX10_would_73 : decode cX10_would 73 = .ok (.iload_n 1, 1) := by decide +kernel
theorem dX10_would_74 : decode cX10_would 74 = .ok (.iconst 2, 1) := by decide +kernel
theorem dX10_would_75 : decode cX10_would 75 = .ok (.if_icmp .ne 14, 3) := by decide +kernel
theorem dX10_would_78 : decode cX10_would 78 = .ok (.aload_n 0, 1) := by decide +kernel
theorem dX10_would_79 : decode cX10_would 79 = .ok (.getfield 25, 3) := by decide +kernel
theorem dX10_would_82 : decode cX10_would 82 = .ok (.sipush 661, 3) := by decide +kernel
theorem dX10_would_85 : decode cX10_would 85 = .ok (.iaload, 1) := by decide +kernel
theorem dX10_would_86 : decode cX10_would 86 = .ok (.goto 10, 3) := by decide +kernel
theorem dX10_would_89 : decode cX10_would 89 = .ok (.aload_n 0, 1) := by decide +kernel
theorem dX10_would_90 : decode cX10_would 90 = .ok (.getfield 25, 3) := by decide +kernel
theorem dX10_would_93 : decode cX10_would 93 = .ok (.invokestatic 151, 3) := by decide +kernel
theorem dX10_would_96 : decode cX10_would 96 = .ok (.ireturn, 1) := by decide +kernel
theorem dX10_would_97 : decode cX10_would 97 = .ok (.iconst 0, 1) := by decide +kernel
theorem dX10_would_98 : decode cX10_would 98 = .ok (.istore_n 3, 1) := by decide +kernel
theorem dX10_would_99 : decode cX10_would 99 = .ok (.iconst 0, 1) := by decide +kernel
theorem dX10_would_100 : decode cX10_would 100 = .ok (.istore 4, 2) := by decide +kernel
theorem dX10_would_102 : decode cX10_would 102 = .ok (.iload 4, 2) := by decide +kernel
theorem dX10_would_104 : decode cX10_would 104 = .ok (.bipush 10, 2) := by decide +kernel
theorem dX10_would_106 : decode cX10_would 106 = .ok (.if_icmp .ge 21, 3) := by decide +kernel
theorem dX10_would_109 : decode cX10_would 109 = .ok (.iload_n 3, 1) := by decide +kernel
theorem dX10_would_110 : decode cX10_would 110 = .ok (.aload_n 0, 1) := by decide +kernel
theorem dX10_would_111 : decode cX10_would 111 = .ok (.getfield 221, 3) := by decide +kernel
theorem dX10_would_114 : decode cX10_would 114 = .ok (.iload 4, 2) := by decide +kernel
theorem dX10_would_116 : decode cX10_would 116 = .ok (.ishr, 1) := by decide +kernel
theorem dX10_would_117 : decode cX10_would 117 = .ok (.iconst 1, 1) := by decide +kernel
theorem dX10_would_118 : decode cX10_would 118 = .ok (.iand, 1) := by decide +kernel
theorem dX10_would_119 : decode cX10_would 119 = .ok (.iadd, 1) := by decide +kernel
theorem dX10_would_120 : decode cX10_would 120 = .ok (.istore_n 3, 1) := by decide +kernel
theorem dX10_would_121 : decode cX10_would 121 = .ok (.iinc 4 1, 3) := by decide +kernel
theorem dX10_would_124 : decode cX10_would 124 = .ok (.goto (-22), 3) := by decide +kernel
theorem dX10_would_127 : decode cX10_would 127 = .ok (.iload_n 2, 1) := by decide +kernel
theorem dX10_would_128 : decode cX10_would 128 = .ok (.ifCond .ge 7, 3) := by decide +kernel
theorem dX10_would_131 : decode cX10_would 131 = .ok (.iconst 0, 1) := by decide +kernel
theorem dX10_would_132 : decode cX10_would 132 = .ok (.goto 21, 3) := by decide +kernel
theorem dX10_would_135 : decode cX10_would 135 = .ok (.iconst 3, 1) := by decide +kernel
theorem dX10_would_136 : decode cX10_would 136 = .ok (.sipush 129, 3) := by decide +kernel
theorem dX10_would_139 : decode cX10_would 139 = .ok (.iload_n 3, 1) := by decide +kernel
theorem dX10_would_140 : decode cX10_would 140 = .ok (.imul, 1) := by decide +kernel
theorem dX10_would_141 : decode cX10_would 141 = .ok (.iadd, 1) := by decide +kernel
theorem dX10_would_142 : decode cX10_would 142 = .ok (.iconst 2, 1) := by decide +kernel
theorem dX10_would_143 : decode cX10_would 143 = .ok (.aload_n 0, 1) := by decide +kernel
theorem dX10_would_144 : decode cX10_would 144 = .ok (.aload_n 0, 1) := by decide +kernel
theorem dX10_would_145 : decode cX10_would 145 = .ok (.getfield 25, 3) := by decide +kernel
theorem dX10_would_148 : decode cX10_would 148 = .ok (.invokevirtual 274, 3) := by decide +kernel
theorem dX10_would_151 : decode cX10_would 151 = .ok (.imul, 1) := by decide +kernel
theorem dX10_would_152 : decode cX10_would 152 = .ok (.iadd, 1) := by decide +kernel
theorem dX10_would_153 : decode cX10_would 153 = .ok (.ireturn, 1) := by decide +kernel
theorem dX10_lastTogether_0 : decode cX10_lastTogether 0 = .ok (.iload_n 1, 1) := by decide +kernel
theorem dX10_lastTogether_1 : decode cX10_lastTogether 1 = .ok (.istore_n 2, 1) := by decide +kernel
theorem dX10_lastTogether_2 : decode cX10_lastTogether 2 = .ok (.iload_n 1, 1) := by decide +kernel
theorem dX10_lastTogether_3 : decode cX10_lastTogether 3 = .ok (.iconst 1, 1) := by decide +kernel
theorem dX10_lastTogether_4 : decode cX10_lastTogether 4 = .ok (.iadd, 1) := by decide +kernel
theorem dX10_lastTogether_5 : decode cX10_lastTogether 5 = .ok (.istore_n 3, 1) := by decide +kernel
theorem dX10_lastTogether_6 : decode cX10_lastTogether 6 = .ok (.iload_n 3, 1) := by decide +kernel
theorem dX10_lastTogether_7 : decode cX10_lastTogether 7 = .ok (.sipush 256, 3) := by decide +kernel
theorem dX10_lastTogether_10 : decode cX10_lastTogether 10 = .ok (.if_icmp .ge 48, 3) := by decide +kernel
theorem dX10_lastTogether_13 : decode cX10_lastTogether 13 = .ok (.aload_n 0, 1) := by decide +kernel
theorem dX10_lastTogether_14 : decode cX10_lastTogether 14 = .ok (.getfield 47, 3) := by decide +kernel
theorem dX10_lastTogether_17 : decode cX10_lastTogether 17 = .ok (.iload_n 3, 1) := by decide +kernel
theorem dX10_lastTogether_18 : decode cX10_lastTogether 18 = .ok (.iaload, 1) := by decide +kernel
theorem dX10_lastTogether_19 : decode cX10_lastTogether 19 = .ok (.iconst (-1), 1) := by decide +kernel
theorem dX10_lastTogether_20 : decode cX10_lastTogether 20 = .ok (.if_icmp .ne 6, 3) := by decide +kernel
theorem dX10_lastTogether_23 : decode cX10_lastTogether 23 = .ok (.goto 29, 3) := by decide +kernel
theorem dX10_lastTogether_26 : decode cX10_lastTogether 26 = .ok (.aload_n 0, 1) := by decide +kernel
theorem dX10_lastTogether_27 : decode cX10_lastTogether 27 = .ok (.iload_n 1, 1) := by decide +kernel
theorem dX10_lastTogether_28 : decode cX10_lastTogether 28 = .ok (.iload_n 3, 1) := by decide +kernel
theorem dX10_lastTogether_29 : decode cX10_lastTogether 29 = .ok (.invokevirtual 195, 3) := by decide +kernel
theorem dX10_lastTogether_32 : decode cX10_lastTogether 32 = .ok (.aload_n 0, 1) := by decide +kernel
theorem dX10_lastTogether_33 : decode cX10_lastTogether 33 = .ok (.invokevirtual 198, 3) := by decide +kernel
theorem dX10_lastTogether_36 : decode cX10_lastTogether 36 = .ok (.if_icmp .gt 12, 3) := by decide +kernel
theorem dX10_lastTogether_39 : decode cX10_lastTogether 39 = .ok (.aload_n 0, 1) := by decide +kernel
theorem dX10_lastTogether_40 : decode cX10_lastTogether 40 = .ok (.iload_n 1, 1) := by decide +kernel
theorem dX10_lastTogether_41 : decode cX10_lastTogether 41 = .ok (.iload_n 3, 1) := by decide +kernel
theorem dX10_lastTogether_42 : decode cX10_lastTogether 42 = .ok (.invokevirtual 201, 3) := by decide +kernel
theorem dX10_lastTogether_45 : decode cX10_lastTogether 45 = .ok (.ifCond .ne 5, 3) := by decide +kernel
theorem dX10_lastTogether_48 : decode cX10_lastTogether 48 = .ok (.iload_n 2, 1) := by decide +kernel
theorem dX10_lastTogether_49 : decode cX10_lastTogether 49 = .ok (.ireturn, 1) := by decide +kernel
theorem dX10_lastTogether_50 : decode cX10_lastTogether 50 = .ok (.iload_n 3, 1) := by decide +kernel
theorem dX10_lastTogether_51 : decode cX10_lastTogether 51 = .ok (.istore_n 2, 1) := by decide +kernel
theorem dX10_lastTogether_52 : decode cX10_lastTogether 52 = .ok (.iinc 3 1, 3) := by decide +kernel
theorem dX10_lastTogether_55 : decode cX10_lastTogether 55 = .ok (.goto (-49), 3) := by decide +kernel
theorem dX10_lastTogether_58 : decode cX10_lastTogether 58 = .ok (.iload_n 2, 1) := by decide +kernel
theorem dX10_lastTogether_59 : decode cX10_lastTogether 59 = .ok (.ireturn, 1) := by decide +kernel
theorem dX10_compact_0 : decode cX10_compact 0 = .ok (.aload_n 0, 1) := by decide +kernel
theorem dX10_compact_1 : decode cX10_compact 1 = .ok (.iconst 0, 1) := by decide +kernel
theorem dX10_compact_2 : decode cX10_compact 2 = .ok (.putfield 77, 3) := by decide +kernel
theorem dX10_compact_5 : decode cX10_compact 5 = .ok (.aload_n 0, 1) := by decide +kernel
theorem dX10_compact_6 : decode cX10_compact 6 = .ok (.invokevirtual 292, 3) := by decide +kernel
theorem dX10_compact_9 : decode cX10_compact 9 = .ok (.ifCond .eq 10, 3) := by decide +kernel
theorem dX10_compact_12 : decode cX10_compact 12 = .ok (.aload_n 0, 1) := by decide +kernel
theorem dX10_compact_13 : decode cX10_compact 13 = .ok (.bipush (-3), 2) := by decide +kernel
theorem dX10_compact_15 : decode cX10_compact 15 = .ok (.invokevirtual 87, 3) := by decide +kernel
theorem dX10_compact_18 : decode cX10_compact 18 = .ok (.ireturn, 1) := by decide +kernel
theorem dX10_compact_19 : decode cX10_compact 19 = .ok (.aload_n 0, 1) := by decide +kernel
theorem dX10_compact_20 : decode cX10_compact 20 = .ok (.invokevirtual 299, 3) := by decide +kernel
theorem dX10_compact_23 : decode cX10_compact 23 = .ok (.aload_n 0, 1) := by decide +kernel
theorem dX10_compact_24 : decode cX10_compact 24 = .ok (.aload_n 0, 1) := by decide +kernel
theorem dX10_compact_25 : decode cX10_compact 25 = .ok (.getfield 25, 3) := by decide +kernel
theorem dX10_compact_28 : decode cX10_compact 28 = .ok (.invokevirtual 339, 3) := by decide +kernel
theorem dX10_compact_31 : decode cX10_compact 31 = .ok (.aload_n 0, 1) := by decide +kernel
theorem dX10_compact_32 : decode cX10_compact 32 = .ok (.iconst 0, 1) := by decide +kernel
theorem dX10_compact_33 : decode cX10_compact 33 = .ok (.putfield 215, 3) := by decide +kernel
theorem dX10_compact_36 : decode cX10_compact 36 = .ok (.aload_n 0, 1) := by decide +kernel
theorem dX10_compact_37 : decode cX10_compact 37 = .ok (.iconst 0, 1) := by decide +kernel
theorem dX10_compact_38 : decode cX10_compact 38 = .ok (.sipush 256, 3) := by decide +kernel
theorem dX10_compact_41 : decode cX10_compact 41 = .ok (.invokevirtual 258, 3) := by decide +kernel
theorem dX10_compact_44 : decode cX10_compact 44 = .ok (.istore_n 1, 1) := by decide +kernel
theorem dX10_compact_45 : decode cX10_compact 45 = .ok (.iload_n 1, 1) := by decide +kernel
theorem dX10_compact_46 : decode cX10_compact 46 = .ok (.sipush 256, 3) := by decide +kernel
theorem dX10_compact_49 : decode cX10_compact 49 = .ok (.if_icmp .ge 59, 3) := by decide +kernel
theorem dX10_compact_52 : decode cX10_compact 52 = .ok (.aload_n 0, 1) := by decide +kernel
theorem dX10_compact_53 : decode cX10_compact 53 = .ok (.getfield 53, 3) := by decide +kernel
theorem dX10_compact_56 : decode cX10_compact 56 = .ok (.aload_n 0, 1) := by decide +kernel
theorem dX10_compact_57 : decode cX10_compact 57 = .ok (.getfield 215, 3) := by decide +kernel
theorem dX10_compact_60 : decode cX10_compact 60 = .ok (.iload_n 1, 1) := by decide +kernel
theorem dX10_compact_61 : decode cX10_compact 61 = .ok (.iastore, 1) := by decide +kernel
theorem dX10_compact_62 : decode cX10_compact 62 = .ok (.aload_n 0, 1) := by decide +kernel
theorem dX10_compact_63 : decode cX10_compact 63 = .ok (.getfield 56, 3) := by decide +kernel
theorem dX10_compact_66 : decode cX10_compact 66 = .ok (.aload_n 0, 1) := by decide +kernel
theorem dX10_compact_67 : decode cX10_compact 67 = .ok (.getfield 215, 3) := by decide +kernel
theorem dX10_compact_70 : decode cX10_compact 70 = .ok (.aload_n 0, 1) := by decide +kernel
theorem dX10_compact_71 : decode cX10_compact 71 = .ok (.iload_n 1, 1) := by decide +kernel
theorem dX10_compact_72 : decode cX10_compact 72 = .ok (.invokevirtual 343, 3) := by decide +kernel
theorem dX10_compact_75 : decode cX10_compact 75 = .ok (.iastore, 1) := by decide +kernel
theorem dX10_compact_76 : decode cX10_compact 76 = .ok (.aload_n 0, 1) := by decide +kernel
theorem dX10_compact_77 : decode cX10_compact 77 = .ok (.aload_n 0, 1) := by decide +kernel
theorem dX10_compact_78 : decode cX10_compact 78 = .ok (.getfield 56, 3) := by decide +kernel
theorem dX10_compact_81 : decode cX10_compact 81 = .ok (.aload_n 0, 1) := by decide +kernel
theorem dX10_compact_82 : decode cX10_compact 82 = .ok (.getfield 215, 3) := by decide +kernel
theorem dX10_compact_85 : decode cX10_compact 85 = .ok (.iaload, 1) := by decide +kernel
theorem dX10_compact_86 : decode cX10_compact 86 = .ok (.iconst 1, 1) := by decide +kernel
theorem dX10_compact_87 : decode cX10_compact 87 = .ok (.iadd, 1) := by decide +kernel
theorem dX10_compact_88 : decode cX10_compact 88 = .ok (.sipush 256, 3) := by decide +kernel
theorem dX10_compact_91 : decode cX10_compact 91 = .ok (.invokevirtual 258, 3) := by decide +kernel
theorem dX10_compact_94 : decode cX10_compact 94 = .ok (.istore_n 1, 1) := by decide +kernel
theorem dX10_compact_95 : decode cX10_compact 95 = .ok (.aload_n 0, 1) := by decide +kernel
theorem dX10_compact_96 : decode cX10_compact 96 = .ok (.dup, 1) := by decide +kernel
theorem dX10_compact_97 : decode cX10_compact 97 = .ok (.getfield 215, 3) := by decide +kernel
theorem dX10_compact_100 : decode cX10_compact 100 = .ok (.iconst 1, 1) := by decide +kernel
theorem dX10_compact_101 : decode cX10_compact 101 = .ok (.iadd, 1) := by decide +kernel
theorem dX10_compact_102 : decode cX10_compact 102 = .ok (.putfield 215, 3) := by decide +kernel
theorem dX10_compact_105 : decode cX10_compact 105 = .ok (.goto (-60), 3) := by decide +kernel
theorem dX10_compact_108 : decode cX10_compact 108 = .ok (.aload_n 0, 1) := by decide +kernel
theorem dX10_compact_109 : decode cX10_compact 109 = .ok (.getfield 215, 3) := by decide +kernel
theorem dX10_compact_112 : decode cX10_compact 112 = .ok (.bipush 10, 2) := by decide +kernel
theorem dX10_compact_114 : decode cX10_compact 114 = .ok (.if_icmp .le 10, 3) := by decide +kernel
theorem dX10_compact_117 : decode cX10_compact 117 = .ok (.aload_n 0, 1) := by decide +kernel
theorem dX10_compact_118 : decode cX10_compact 118 = .ok (.bipush (-5), 2) := by decide +kernel
theorem dX10_compact_120 : decode cX10_compact 120 = .ok (.invokevirtual 87, 3) := by decide +kernel
theorem dX10_compact_123 : decode cX10_compact 123 = .ok (.ireturn, 1) := by decide +kernel
theorem dX10_compact_124 : decode cX10_compact 124 = .ok (.aload_n 0, 1) := by decide +kernel
theorem dX10_compact_125 : decode cX10_compact 125 = .ok (.getfield 215, 3) := by decide +kernel
theorem dX10_compact_128 : decode cX10_compact 128 = .ok (.ifCond .ne 22, 3) := by decide +kernel
theorem dX10_compact_131 : decode cX10_compact 131 = .ok (.aload_n 0, 1) := by decide +kernel
theorem dX10_compact_132 : decode cX10_compact 132 = .ok (.getfield 53, 3) := by decide +kernel
theorem dX10_compact_135 : decode cX10_compact 135 = .ok (.iconst 0, 1) := by decide +kernel
theorem dX10_compact_136 : decode cX10_compact 136 = .ok (.iconst 0, 1) := by decide +kernel
theorem dX10_compact_137 : decode cX10_compact 137 = .ok (.iastore, 1) := by decide +kernel
theorem dX10_compact_138 : decode cX10_compact 138 = .ok (.aload_n 0, 1) := by decide +kernel
theorem dX10_compact_139 : decode cX10_compact 139 = .ok (.getfield 56, 3) := by decide +kernel
theorem dX10_compact_142 : decode cX10_compact 142 = .ok (.iconst 0, 1) := by decide +kernel
theorem dX10_compact_143 : decode cX10_compact 143 = .ok (.iconst 0, 1) := by decide +kernel
theorem dX10_compact_144 : decode cX10_compact 144 = .ok (.iastore, 1) := by decide +kernel
theorem dX10_compact_145 : decode cX10_compact 145 = .ok (.aload_n 0, 1) := by decide +kernel
theorem dX10_compact_146 : decode cX10_compact 146 = .ok (.iconst 1, 1) := by decide +kernel
theorem dX10_compact_147 : decode cX10_compact 147 = .ok (.putfield 215, 3) := by decide +kernel
theorem dX10_compact_150 : decode cX10_compact 150 = .ok (.aload_n 0, 1) := by decide +kernel
theorem dX10_compact_151 : decode cX10_compact 151 = .ok (.getfield 25, 3) := by decide +kernel
theorem dX10_compact_154 : decode cX10_compact 154 = .ok (.sipush 640, 3) := by decide +kernel
theorem dX10_compact_157 : decode cX10_compact 157 = .ok (.aload_n 0, 1) := by decide +kernel
theorem dX10_compact_158 : decode cX10_compact 158 = .ok (.getfield 215, 3) := by decide +kernel
theorem dX10_compact_161 : decode cX10_compact 161 = .ok (.iastore, 1) := by decide +kernel
theorem dX10_compact_162 : decode cX10_compact 162 = .ok (.iconst 0, 1) := by decide +kernel
theorem dX10_compact_163 : decode cX10_compact 163 = .ok (.istore_n 2, 1) := by decide +kernel
theorem dX10_compact_164 : decode cX10_compact 164 = .ok (.iload_n 2, 1) := by decide +kernel
theorem dX10_compact_165 : decode cX10_compact 165 = .ok (.aload_n 0, 1) := by decide +kernel
theorem dX10_compact_166 : decode cX10_compact 166 = .ok (.getfield 215, 3) := by decide +kernel
theorem dX10_compact_169 : decode cX10_compact 169 = .ok (.if_icmp .ge 65, 3) := by decide +kernel
theorem dX10_compact_172 : decode cX10_compact 172 = .ok (.aload_n 0, 1) := by decide +kernel
theorem dX10_compact_173 : decode cX10_compact 173 = .ok (.iload_n 2, 1) := by decide +kernel
theorem dX10_compact_174 : decode cX10_compact 174 = .ok (.aload_n 0, 1) := by decide +kernel
theorem dX10_compact_175 : decode cX10_compact 175 = .ok (.getfield 53, 3) := by decide +kernel
theorem dX10_compact_178 : decode cX10_compact 178 = .ok (.iload_n 2, 1) := by decide +kernel
theorem dX10_compact_179 : decode cX10_compact 179 = .ok (.iaload, 1) := by decide +kernel
theorem dX10_compact_180 : decode cX10_compact 180 = .ok (.aload_n 0, 1) := by decide +kernel
theorem dX10_compact_181 : decode cX10_compact 181 = .ok (.getfield 56, 3) := by decide +kernel
theorem dX10_compact_184 : decode cX10_compact 184 = .ok (.iload_n 2, 1) := by decide +kernel
theorem dX10_compact_185 : decode cX10_compact 185 = .ok (.iaload, 1) := by decide +kernel
theorem dX10_compact_186 : decode cX10_compact 186 = .ok (.invokevirtual 254, 3) := by decide +kernel
theorem dX10_compact_189 : decode cX10_compact 189 = .ok (.aload_n 0, 1) := by decide +kernel
theorem dX10_compact_190 : decode cX10_compact 190 = .ok (.getfield 25, 3) := by decide +kernel
theorem dX10_compact_193 : decode cX10_compact 193 = .ok (.sipush 641, 3) := by decide +kernel
theorem dX10_compact_196 : decode cX10_compact 196 = .ok (.iconst 2, 1) := by decide +kernel
theorem dX10_compact_197 : decode cX10_compact 197 = .ok (.iload_n 2, 1) := by decide +kernel
theorem dX10_compact_198 : decode cX10_compact 198 = .ok (.imul, 1) := by decide +kernel
theorem dX10_compact_199 : decode cX10_compact 199 = .ok (.iadd, 1) := by decide +kernel
theorem dX10_compact_200 : decode cX10_compact 200 = .ok (.iload_n 2, 1) := by decide +kernel
theorem dX10_compact_201 : decode cX10_compact 201 = .ok (.iastore, 1) := by decide +kernel
theorem dX10_compact_202 : decode cX10_compact 202 = .ok (.aload_n 0, 1) := by decide +kernel
theorem dX10_compact_203 : decode cX10_compact 203 = .ok (.getfield 25, 3) := by decide +kernel
theorem dX10_compact_206 : decode cX10_compact 206 = .ok (.sipush 642, 3) := by decide +kernel
theorem dX10_compact_209 : decode cX10_compact 209 = .ok (.iconst 2, 1) := by decide +kernel
theorem dX10_compact_210 : decode cX10_compact 210 = .ok (.iload_n 2, 1) := by decide +kernel
theorem dX10_compact_211 : decode cX10_compact 211 = .ok (.imul, 1) := by decide +kernel
theorem dX10_compact_212 : decode cX10_compact 212 = .ok (.iadd, 1) := by decide +kernel
theorem dX10_compact_213 : decode cX10_compact 213 = .ok (.iload_n 2, 1) := by decide +kernel
theorem dX10_compact_214 : decode cX10_compact 214 = .ok (.ifCond .ne 7, 3) := by decide +kernel
theorem dX10_compact_217 : decode cX10_compact 217 = .ok (.iconst 0, 1) := by decide +kernel
theorem dX10_compact_218 : decode cX10_compact 218 = .ok (.goto 9, 3) := by decide +kernel
theorem dX10_compact_221 : decode cX10_compact 221 = .ok (.aload_n 0, 1) := by decide +kernel
theorem dX10_compact_222 : decode cX10_compact 222 = .ok (.getfield 53, 3) := by decide +kernel
theorem dX10_compact_225 : decode cX10_compact 225 = .ok (.iload_n 2, 1) := by decide +kernel
theorem dX10_compact_226 : decode cX10_compact 226 = .ok (.iaload, 1) := by decide +kernel
theorem dX10_compact_227 : decode cX10_compact 227 = .ok (.iastore, 1) := by decide +kernel
theorem dX10_compact_228 : decode cX10_compact 228 = .ok (.iinc 2 1, 3) := by decide +kernel
theorem dX10_compact_231 : decode cX10_compact 231 = .ok (.goto (-67), 3) := by decide +kernel
theorem dX10_compact_234 : decode cX10_compact 234 = .ok (.aload_n 0, 1) := by decide +kernel
theorem dX10_compact_235 : decode cX10_compact 235 = .ok (.iconst 1, 1) := by decide +kernel
theorem dX10_compact_236 : decode cX10_compact 236 = .ok (.aload_n 0, 1) := by decide +kernel
theorem dX10_compact_237 : decode cX10_compact 237 = .ok (.getfield 215, 3) := by decide +kernel
theorem dX10_compact_240 : decode cX10_compact 240 = .ok (.ishl, 1) := by decide +kernel
theorem dX10_compact_241 : decode cX10_compact 241 = .ok (.iconst 1, 1) := by decide +kernel
theorem dX10_compact_242 : decode cX10_compact 242 = .ok (.isub, 1) := by decide +kernel
theorem dX10_compact_243 : decode cX10_compact 243 = .ok (.putfield 221, 3) := by decide +kernel
theorem dX10_compact_246 : decode cX10_compact 246 = .ok (.aload_n 0, 1) := by decide +kernel
theorem dX10_compact_247 : decode cX10_compact 247 = .ok (.iconst 5, 1) := by decide +kernel
theorem dX10_compact_248 : decode cX10_compact 248 = .ok (.invokevirtual 305, 3) := by decide +kernel
theorem dX10_compact_251 : decode cX10_compact 251 = .ok (.aload_n 0, 1) := by decide +kernel
theorem dX10_compact_252 : decode cX10_compact 252 = .ok (.invokevirtual 308, 3) := by decide +kernel
theorem dX10_compact_255 : decode cX10_compact 255 = .ok (.aload_n 0, 1) := by decide +kernel
theorem dX10_compact_256 : decode cX10_compact 256 = .ok (.invokevirtual 311, 3) := by decide +kernel
theorem dX10_compact_259 : decode cX10_compact 259 = .ok (.aload_n 0, 1) := by decide +kernel
theorem dX10_compact_260 : decode cX10_compact 260 = .ok (.iconst 0, 1) := by decide +kernel
theorem dX10_compact_261 : decode cX10_compact 261 = .ok (.putfield 91, 3) := by decide +kernel
theorem dX10_compact_264 : decode cX10_compact 264 = .ok (.aload_n 0, 1) := by decide +kernel
theorem dX10_compact_265 : decode cX10_compact 265 = .ok (.aload_n 0, 1) := by decide +kernel
theorem dX10_compact_266 : decode cX10_compact 266 = .ok (.getfield 215, 3) := by decide +kernel
theorem dX10_compact_269 : decode cX10_compact 269 = .ok (.invokevirtual 314, 3) := by decide +kernel
theorem dX10_compact_272 : decode cX10_compact 272 = .ok (.ireturn, 1) := by decide +kernel
theorem dX10_fuse_0 : decode cX10_fuse 0 = .ok (.aload_n 0, 1) := by decide +kernel
theorem dX10_fuse_1 : decode cX10_fuse 1 = .ok (.iconst 0, 1) := by decide +kernel
theorem dX10_fuse_2 : decode cX10_fuse 2 = .ok (.putfield 77, 3) := by decide +kernel
theorem dX10_fuse_5 : decode cX10_fuse 5 = .ok (.iload_n 1, 1) := by decide +kernel
theorem dX10_fuse_6 : decode cX10_fuse 6 = .ok (.iconst (-1), 1) := by decide +kernel
theorem dX10_fuse_7 : decode cX10_fuse 7 = .ok (.if_icmp .ge 9, 3) := by decide +kernel
theorem dX10_fuse_10 : decode cX10_fuse 10 = .ok (.aload_n 0, 1) := by decide +kernel
theorem dX10_fuse_11 : decode cX10_fuse 11 = .ok (.iconst (-1), 1) := by decide +kernel
theorem dX10_fuse_12 : decode cX10_fuse 12 = .ok (.invokevirtual 87, 3) := by decide +kernel
theorem dX10_fuse_15 : decode cX10_fuse 15 = .ok (.ireturn, 1) := by decide +kernel
theorem dX10_fuse_16 : decode cX10_fuse 16 = .ok (.aload_n 0, 1) := by decide +kernel
theorem dX10_fuse_17 : decode cX10_fuse 17 = .ok (.getfield 35, 3) := by decide +kernel
theorem dX10_fuse_20 : decode cX10_fuse 20 = .ok (.istore_n 2, 1) := by decide +kernel
theorem dX10_fuse_21 : decode cX10_fuse 21 = .ok (.aload_n 0, 1) := by decide +kernel
theorem dX10_fuse_22 : decode cX10_fuse 22 = .ok (.iload_n 1, 1) := by decide +kernel
theorem dX10_fuse_23 : decode cX10_fuse 23 = .ok (.putfield 35, 3) := by decide +kernel
theorem dX10_fuse_26 : decode cX10_fuse 26 = .ok (.aload_n 0, 1) := by decide +kernel
theorem dX10_fuse_27 : decode cX10_fuse 27 = .ok (.iload_n 2, 1) := by decide +kernel
theorem dX10_fuse_28 : decode cX10_fuse 28 = .ok (.invokevirtual 98, 3) := by decide +kernel
theorem dX10_fuse_31 : decode cX10_fuse 31 = .ok (.ireturn, 1) := by decide +kernel
theorem dX10_comesBack_0 : decode cX10_comesBack 0 = .ok (.sipush 668, 3) := by decide +kernel
theorem dX10_comesBack_3 : decode cX10_comesBack 3 = .ok (.istore_n 1, 1) := by decide +kernel
theorem dX10_comesBack_4 : decode cX10_comesBack 4 = .ok (.aload_n 0, 1) := by decide +kernel
theorem dX10_comesBack_5 : decode cX10_comesBack 5 = .ok (.getfield 22, 3) := by decide +kernel
theorem dX10_comesBack_8 : decode cX10_comesBack 8 = .ok (.sipush 667, 3) := by decide +kernel
theorem dX10_comesBack_11 : decode cX10_comesBack 11 = .ok (.iaload, 1) := by decide +kernel
theorem dX10_comesBack_12 : decode cX10_comesBack 12 = .ok (.istore_n 2, 1) := by decide +kernel
theorem dX10_comesBack_13 : decode cX10_comesBack 13 = .ok (.iconst 0, 1) := by decide +kernel
theorem dX10_comesBack_14 : decode cX10_comesBack 14 = .ok (.istore_n 3, 1) := by decide +kernel
theorem dX10_comesBack_15 : decode cX10_comesBack 15 = .ok (.iload_n 3, 1) := by decide +kernel
theorem dX10_comesBack_16 : decode cX10_comesBack 16 = .ok (.iload_n 2, 1) := by decide +kernel
theorem dX10_comesBack_17 : decode cX10_comesBack 17 = .ok (.if_icmp .ge 59, 3) := by decide +kernel
theorem dX10_comesBack_20 : decode cX10_comesBack 20 = .ok (.aload_n 0, 1) := by decide +kernel
theorem dX10_comesBack_21 : decode cX10_comesBack 21 = .ok (.getfield 22, 3) := by decide +kernel
theorem dX10_comesBack_24 : decode cX10_comesBack 24 = .ok (.iload_n 1, 1) := by decide +kernel
theorem dX10_comesBack_25 : decode cX10_comesBack 25 = .ok (.iaload, 1) := by decide +kernel
theorem dX10_comesBack_26 : decode cX10_comesBack 26 = .ok (.istore 4, 2) := by decide +kernel
theorem dX10_comesBack_28 : decode cX10_comesBack 28 = .ok (.iconst 0, 1) := by decide +kernel
theorem dX10_comesBack_29 : decode cX10_comesBack 29 = .ok (.istore 5, 2) := by decide +kernel
theorem dX10_comesBack_31 : decode cX10_comesBack 31 = .ok (.iload 5, 2) := by decide +kernel
theorem dX10_comesBack_33 : decode cX10_comesBack 33 = .ok (.bipush 64, 2) := by decide +kernel
theorem dX10_comesBack_35 : decode cX10_comesBack 35 = .ok (.if_icmp .ge 32, 3) := by decide +kernel
theorem dX10_comesBack_38 : decode cX10_comesBack 38 = .ok (.aload_n 0, 1) := by decide +kernel
theorem dX10_comesBack_39 : decode cX10_comesBack 39 = .ok (.bipush 64, 2) := by decide +kernel
theorem dX10_comesBack_41 : decode cX10_comesBack 41 = .ok (.iload 4, 2) := by decide +kernel
theorem dX10_comesBack_43 : decode cX10_comesBack 43 = .ok (.imul, 1) := by decide +kernel
theorem dX10_comesBack_44 : decode cX10_comesBack 44 = .ok (.iload 5, 2) := by decide +kernel
theorem dX10_comesBack_46 : decode cX10_comesBack 46 = .ok (.iadd, 1) := by decide +kernel
theorem dX10_comesBack_47 : decode cX10_comesBack 47 = .ok (.aload_n 0, 1) := by decide +kernel
theorem dX10_comesBack_48 : decode cX10_comesBack 48 = .ok (.getfield 22, 3) := by decide +kernel
theorem dX10_comesBack_51 : decode cX10_comesBack 51 = .ok (.iload_n 1, 1) := by decide +kernel
theorem dX10_comesBack_52 : decode cX10_comesBack 52 = .ok (.iconst 1, 1) := by decide +kernel
theorem dX10_comesBack_53 : decode cX10_comesBack 53 = .ok (.iadd, 1) := by decide +kernel
theorem dX10_comesBack_54 : decode cX10_comesBack 54 = .ok (.iload 5, 2) := by decide +kernel
theorem dX10_comesBack_56 : decode cX10_comesBack 56 = .ok (.iadd, 1) := by decide +kernel
theorem dX10_comesBack_57 : decode cX10_comesBack 57 = .ok (.iaload, 1) := by decide +kernel
theorem dX10_comesBack_58 : decode cX10_comesBack 58 = .ok (.invokevirtual 271, 3) := by decide +kernel
theorem dX10_comesBack_61 : decode cX10_comesBack 61 = .ok (.iinc 5 1, 3) := by decide +kernel
theorem dX10_comesBack_64 : decode cX10_comesBack 64 = .ok (.goto (-33), 3) := by decide +kernel
theorem dX10_comesBack_67 : decode cX10_comesBack 67 = .ok (.iinc 1 65, 3) := by decide +kernel
theorem dX10_comesBack_70 : decode cX10_comesBack 70 = .ok (.iinc 3 1, 3) := by decide +kernel
theorem dX10_comesBack_73 : decode cX10_comesBack 73 = .ok (.goto (-58), 3) := by decide +kernel
theorem dX10_comesBack_76 : decode cX10_comesBack 76 = .ok (.iconst 1, 1) := by decide +kernel
theorem dX10_comesBack_77 : decode cX10_comesBack 77 = .ok (.iconst 2, 1) := by decide +kernel
theorem dX10_comesBack_78 : decode cX10_comesBack 78 = .ok (.aload_n 0, 1) := by decide +kernel
theorem dX10_comesBack_79 : decode cX10_comesBack 79 = .ok (.getfield 22, 3) := by decide +kernel
theorem dX10_comesBack_82 : decode cX10_comesBack 82 = .ok (.iload_n 1, 1) := by decide +kernel
theorem dX10_comesBack_83 : decode cX10_comesBack 83 = .ok (.iaload, 1) := by decide +kernel
theorem dX10_comesBack_84 : decode cX10_comesBack 84 = .ok (.imul, 1) := by decide +kernel
theorem dX10_comesBack_85 : decode cX10_comesBack 85 = .ok (.iadd, 1) := by decide +kernel
theorem dX10_comesBack_86 : decode cX10_comesBack 86 = .ok (.istore_n 3, 1) := by decide +kernel
theorem dX10_comesBack_87 : decode cX10_comesBack 87 = .ok (.iconst 0, 1) := by decide +kernel
theorem dX10_comesBack_88 : decode cX10_comesBack 88 = .ok (.istore 4, 2) := by decide +kernel
theorem dX10_comesBack_90 : decode cX10_comesBack 90 = .ok (.iload 4, 2) := by decide +kernel
theorem dX10_comesBack_92 : decode cX10_comesBack 92 = .ok (.iload_n 3, 1) := by decide +kernel
theorem dX10_comesBack_93 : decode cX10_comesBack 93 = .ok (.if_icmp .ge 28, 3) := by decide +kernel
theorem dX10_comesBack_96 : decode cX10_comesBack 96 = .ok (.aload_n 0, 1) := by decide +kernel
theorem dX10_comesBack_97 : decode cX10_comesBack 97 = .ok (.sipush 640, 3) := by decide +kernel
theorem dX10_comesBack_100 : decode cX10_comesBack 100 = .ok (.iload 4, 2) := by decide +kernel
theorem dX10_comesBack_102 : decode cX10_comesBack 102 = .ok (.iadd, 1) := by decide +kernel
theorem dX10_comesBack_103 : decode cX10_comesBack 103 = .ok (.aload_n 0, 1) := by decide +kernel
theorem dX10_comesBack_104 : decode cX10_comesBack 104 = .ok (.getfield 22, 3) := by decide +kernel
theorem dX10_comesBack_107 : decode cX10_comesBack 107 = .ok (.iload_n 1, 1) := by decide +kernel
theorem dX10_comesBack_108 : decode cX10_comesBack 108 = .ok (.iload 4, 2) := by decide +kernel
theorem dX10_comesBack_110 : decode cX10_comesBack 110 = .ok (.iadd, 1) := by decide +kernel
theorem dX10_comesBack_111 : decode cX10_comesBack 111 = .ok (.iaload, 1) := by decide +kernel
theorem dX10_comesBack_112 : decode cX10_comesBack 112 = .ok (.invokevirtual 271, 3) := by decide +kernel
theorem dX10_comesBack_115 : decode cX10_comesBack 115 = .ok (.iinc 4 1, 3) := by decide +kernel
theorem dX10_comesBack_118 : decode cX10_comesBack 118 = .ok (.goto (-28), 3) := by decide +kernel
theorem dX10_comesBack_121 : decode cX10_comesBack 121 = .ok (.aload_n 0, 1) := by decide +kernel
theorem dX10_comesBack_122 : decode cX10_comesBack 122 = .ok (.sipush 666, 3) := by decide +kernel
theorem dX10_comesBack_125 : decode cX10_comesBack 125 = .ok (.iconst 0, 1) := by decide +kernel
theorem dX10_comesBack_126 : decode cX10_comesBack 126 = .ok (.invokevirtual 271, 3) := by decide +kernel
theorem dX10_comesBack_129 : decode cX10_comesBack 129 = .ok (.return_, 1) := by decide +kernel
theorem dX10_wipes_0 : decode cX10_wipes 0 = .ok (.aload_n 0, 1) := by decide +kernel
theorem dX10_wipes_1 : decode cX10_wipes 1 = .ok (.getfield 22, 3) := by decide +kernel
theorem dX10_wipes_4 : decode cX10_wipes 4 = .ok (.iload_n 1, 1) := by decide +kernel
theorem dX10_wipes_5 : decode cX10_wipes 5 = .ok (.invokestatic 166, 3) := by decide +kernel
theorem dX10_wipes_8 : decode cX10_wipes 8 = .ok (.istore_n 2, 1) := by decide +kernel
theorem dX10_wipes_9 : decode cX10_wipes 9 = .ok (.iload_n 2, 1) := by decide +kernel
theorem dX10_wipes_10 : decode cX10_wipes 10 = .ok (.bipush 64, 2) := by decide +kernel
theorem dX10_wipes_12 : decode cX10_wipes 12 = .ok (.if_icmp .ge 34, 3) := by decide +kernel
theorem dX10_wipes_15 : decode cX10_wipes 15 = .ok (.aload_n 0, 1) := by decide +kernel
theorem dX10_wipes_16 : decode cX10_wipes 16 = .ok (.getfield 22, 3) := by decide +kernel
theorem dX10_wipes_19 : decode cX10_wipes 19 = .ok (.bipush 64, 2) := by decide +kernel
theorem dX10_wipes_21 : decode cX10_wipes 21 = .ok (.iload_n 1, 1) := by decide +kernel
theorem dX10_wipes_22 : decode cX10_wipes 22 = .ok (.imul, 1) := by decide +kernel
theorem dX10_wipes_23 : decode cX10_wipes 23 = .ok (.iload_n 2, 1) := by decide +kernel
theorem dX10_wipes_24 : decode cX10_wipes 24 = .ok (.iadd, 1) := by decide +kernel
theorem dX10_wipes_25 : decode cX10_wipes 25 = .ok (.iaload, 1) := by decide +kernel
theorem dX10_wipes_26 : decode cX10_wipes 26 = .ok (.ifCond .eq 14, 3) := by decide +kernel
theorem dX10_wipes_29 : decode cX10_wipes 29 = .ok (.aload_n 0, 1) := by decide +kernel
theorem dX10_wipes_30 : decode cX10_wipes 30 = .ok (.bipush 64, 2) := by decide +kernel
theorem dX10_wipes_32 : decode cX10_wipes 32 = .ok (.iload_n 1, 1) := by decide +kernel
theorem dX10_wipes_33 : decode cX10_wipes 33 = .ok (.imul, 1) := by decide +kernel
theorem dX10_wipes_34 : decode cX10_wipes 34 = .ok (.iload_n 2, 1) := by decide +kernel
theorem dX10_wipes_35 : decode cX10_wipes 35 = .ok (.iadd, 1) := by decide +kernel
theorem dX10_wipes_36 : decode cX10_wipes 36 = .ok (.iconst 0, 1) := by decide +kernel
theorem dX10_wipes_37 : decode cX10_wipes 37 = .ok (.invokevirtual 271, 3) := by decide +kernel
theorem dX10_wipes_40 : decode cX10_wipes 40 = .ok (.iinc 2 1, 3) := by decide +kernel
theorem dX10_wipes_43 : decode cX10_wipes 43 = .ok (.goto (-34), 3) := by decide +kernel
theorem dX10_wipes_46 : decode cX10_wipes 46 = .ok (.return_, 1) := by decide +kernel
theorem dX10_recover_0 : decode cX10_recover 0 = .ok (.aload_n 0, 1) := by decide +kernel
theorem dX10_recover_1 : decode cX10_recover 1 = .ok (.iconst 0, 1) := by decide +kernel
theorem dX10_recover_2 : decode cX10_recover 2 = .ok (.putfield 77, 3) := by decide +kernel
theorem dX10_recover_5 : decode cX10_recover 5 = .ok (.aload_n 0, 1) := by decide +kernel
theorem dX10_recover_6 : decode cX10_recover 6 = .ok (.invokevirtual 292, 3) := by decide +kernel
theorem dX10_recover_9 : decode cX10_recover 9 = .ok (.ifCond .ne 10, 3) := by decide +kernel
theorem dX10_recover_12 : decode cX10_recover 12 = .ok (.aload_n 0, 1) := by decide +kernel
theorem dX10_recover_13 : decode cX10_recover 13 = .ok (.bipush (-3), 2) := by decide +kernel
theorem dX10_recover_15 : decode cX10_recover 15 = .ok (.invokevirtual 87, 3) := by decide +kernel
theorem dX10_recover_18 : decode cX10_recover 18 = .ok (.ireturn, 1) := by decide +kernel
theorem dX10_recover_19 : decode cX10_recover 19 = .ok (.aload_n 0, 1) := by decide +kernel
theorem dX10_recover_20 : decode cX10_recover 20 = .ok (.bipush 6, 2) := by decide +kernel
theorem dX10_recover_22 : decode cX10_recover 22 = .ok (.invokevirtual 305, 3) := by decide +kernel
theorem dX10_recover_25 : decode cX10_recover 25 = .ok (.aload_n 0, 1) := by decide +kernel
theorem dX10_recover_26 : decode cX10_recover 26 = .ok (.invokevirtual 299, 3) := by decide +kernel
theorem dX10_recover_29 : decode cX10_recover 29 = .ok (.aload_n 0, 1) := by decide +kernel
theorem dX10_recover_30 : decode cX10_recover 30 = .ok (.invokevirtual 308, 3) := by decide +kernel
theorem dX10_recover_33 : decode cX10_recover 33 = .ok (.aload_n 0, 1) := by decide +kernel
theorem dX10_recover_34 : decode cX10_recover 34 = .ok (.getfield 22, 3) := by decide +kernel
theorem dX10_recover_37 : decode cX10_recover 37 = .ok (.sipush 666, 3) := by decide +kernel
theorem dX10_recover_40 : decode cX10_recover 40 = .ok (.iaload, 1) := by decide +kernel
theorem dX10_recover_41 : decode cX10_recover 41 = .ok (.iconst 1, 1) := by decide +kernel
theorem dX10_recover_42 : decode cX10_recover 42 = .ok (.if_icmp .ne 7, 3) := by decide +kernel
theorem dX10_recover_45 : decode cX10_recover 45 = .ok (.aload_n 0, 1) := by decide +kernel
theorem dX10_recover_46 : decode cX10_recover 46 = .ok (.invokevirtual 346, 3) := by decide +kernel
theorem dX10_recover_49 : decode cX10_recover 49 = .ok (.iconst 0, 1) := by decide +kernel
theorem dX10_recover_50 : decode cX10_recover 50 = .ok (.istore_n 1, 1) := by decide +kernel
theorem dX10_recover_51 : decode cX10_recover 51 = .ok (.iload_n 1, 1) := by decide +kernel
theorem dX10_recover_52 : decode cX10_recover 52 = .ok (.aload_n 0, 1) := by decide +kernel
theorem dX10_recover_53 : decode cX10_recover 53 = .ok (.getfield 22, 3) := by decide +kernel
theorem dX10_recover_56 : decode cX10_recover 56 = .ok (.invokestatic 151, 3) := by decide +kernel
theorem dX10_recover_59 : decode cX10_recover 59 = .ok (.if_icmp .ge 28, 3) := by decide +kernel
theorem dX10_recover_62 : decode cX10_recover 62 = .ok (.aload_n 0, 1) := by decide +kernel
theorem dX10_recover_63 : decode cX10_recover 63 = .ok (.getfield 264, 3) := by decide +kernel
theorem dX10_recover_66 : decode cX10_recover 66 = .ok (.ifCond .ne 21, 3) := by decide +kernel
theorem dX10_recover_69 : decode cX10_recover 69 = .ok (.aload_n 0, 1) := by decide +kernel
theorem dX10_recover_70 : decode cX10_recover 70 = .ok (.aload_n 0, 1) := by decide +kernel
theorem dX10_recover_71 : decode cX10_recover 71 = .ok (.getfield 22, 3) := by decide +kernel
theorem dX10_recover_74 : decode cX10_recover 74 = .ok (.iload_n 1, 1) := by decide +kernel
theorem dX10_recover_75 : decode cX10_recover 75 = .ok (.invokestatic 183, 3) := by decide +kernel
theorem dX10_recover_78 : decode cX10_recover 78 = .ok (.invokevirtual 349, 3) := by decide +kernel
theorem dX10_recover_81 : decode cX10_recover 81 = .ok (.iinc 1 1, 3) := by decide +kernel
theorem dX10_recover_84 : decode cX10_recover 84 = .ok (.goto (-33), 3) := by decide +kernel
theorem dX10_recover_87 : decode cX10_recover 87 = .ok (.aload_n 0, 1) := by decide +kernel
theorem dX10_recover_88 : decode cX10_recover 88 = .ok (.iconst 0, 1) := by decide +kernel
theorem dX10_recover_89 : decode cX10_recover 89 = .ok (.putfield 91, 3) := by decide +kernel
theorem dX10_recover_92 : decode cX10_recover 92 = .ok (.aload_n 0, 1) := by decide +kernel
theorem dX10_recover_93 : decode cX10_recover 93 = .ok (.getfield 264, 3) := by decide +kernel
theorem dX10_recover_96 : decode cX10_recover 96 = .ok (.ifCond .ne 12, 3) := by decide +kernel
theorem dX10_recover_99 : decode cX10_recover 99 = .ok (.aload_n 0, 1) := by decide +kernel
theorem dX10_recover_100 : decode cX10_recover 100 = .ok (.getfield 22, 3) := by decide +kernel
theorem dX10_recover_103 : decode cX10_recover 103 = .ok (.sipush 665, 3) := by decide +kernel
theorem dX10_recover_106 : decode cX10_recover 106 = .ok (.iconst 0, 1) := by decide +kernel
theorem dX10_recover_107 : decode cX10_recover 107 = .ok (.iastore, 1) := by decide +kernel
theorem dX10_recover_108 : decode cX10_recover 108 = .ok (.aload_n 0, 1) := by decide +kernel
theorem dX10_recover_109 : decode cX10_recover 109 = .ok (.aload_n 0, 1) := by decide +kernel
theorem dX10_recover_110 : decode cX10_recover 110 = .ok (.getfield 268, 3) := by decide +kernel
theorem dX10_recover_113 : decode cX10_recover 113 = .ok (.invokevirtual 314, 3) := by decide +kernel
theorem dX10_recover_116 : decode cX10_recover 116 = .ok (.ireturn, 1) := by decide +kernel
theorem dX10_written_0 : decode cX10_written 0 = .ok (.aload_n 0, 1) := by decide +kernel
theorem dX10_written_1 : decode cX10_written 1 = .ok (.iconst 0, 1) := by decide +kernel
theorem dX10_written_2 : decode cX10_written 2 = .ok (.putfield 77, 3) := by decide +kernel
theorem dX10_written_5 : decode cX10_written 5 = .ok (.aload_n 0, 1) := by decide +kernel
theorem dX10_written_6 : decode cX10_written 6 = .ok (.getfield 268, 3) := by decide +kernel
theorem dX10_written_9 : decode cX10_written 9 = .ok (.ireturn, 1) := by decide +kernel
theorem dX10_fetch_0 : decode cX10_fetch 0 = .ok (.aload_n 0, 1) := by decide +kernel
theorem dX10_fetch_1 : decode cX10_fetch 1 = .ok (.iconst 0, 1) := by decide +kernel
theorem dX10_fetch_2 : decode cX10_fetch 2 = .ok (.putfield 77, 3) := by decide +kernel
theorem dX10_fetch_5 : decode cX10_fetch 5 = .ok (.iload_n 1, 1) := by decide +kernel
theorem dX10_fetch_6 : decode cX10_fetch 6 = .ok (.invokestatic 323, 3) := by decide +kernel
theorem dX10_fetch_9 : decode cX10_fetch 9 = .ok (.ifCond .ne 9, 3) := by decide +kernel
theorem dX10_fetch_12 : decode cX10_fetch 12 = .ok (.aload_n 0, 1) := by decide +kernel
theorem dX10_fetch_13 : decode cX10_fetch 13 = .ok (.iconst (-1), 1) := by decide +kernel
theorem dX10_fetch_14 : decode cX10_fetch 14 = .ok (.invokevirtual 87, 3) := by decide +kernel
theorem dX10_fetch_17 : decode cX10_fetch 17 = .ok (.ireturn, 1) := by decide +kernel
theorem dX10_fetch_18 : decode cX10_fetch 18 = .ok (.aload_n 0, 1) := by decide +kernel
theorem dX10_fetch_19 : decode cX10_fetch 19 = .ok (.invokevirtual 292, 3) := by decide +kernel
theorem dX10_fetch_22 : decode cX10_fetch 22 = .ok (.ifCond .eq 10, 3) := by decide +kernel
theorem dX10_fetch_25 : decode cX10_fetch 25 = .ok (.aload_n 0, 1) := by decide +kernel
theorem dX10_fetch_26 : decode cX10_fetch 26 = .ok (.bipush (-3), 2) := by decide +kernel
theorem dX10_fetch_28 : decode cX10_fetch 28 = .ok (.invokevirtual 87, 3) := by decide +kernel
theorem dX10_fetch_31 : decode cX10_fetch 31 = .ok (.ireturn, 1) := by decide +kernel
theorem dX10_fetch_32 : decode cX10_fetch 32 = .ok (.aload_n 0, 1) := by decide +kernel
theorem dX10_fetch_33 : decode cX10_fetch 33 = .ok (.iload_n 1, 1) := by decide +kernel
theorem dX10_fetch_34 : decode cX10_fetch 34 = .ok (.invokevirtual 296, 3) := by decide +kernel
theorem dX10_fetch_37 : decode cX10_fetch 37 = .ok (.aload_n 0, 1) := by decide +kernel
theorem dX10_fetch_38 : decode cX10_fetch 38 = .ok (.aload_n 0, 1) := by decide +kernel
theorem dX10_fetch_39 : decode cX10_fetch 39 = .ok (.getfield 22, 3) := by decide +kernel
theorem dX10_fetch_42 : decode cX10_fetch 42 = .ok (.aload_n 0, 1) := by decide +kernel
theorem dX10_fetch_43 : decode cX10_fetch 43 = .ok (.getfield 22, 3) := by decide +kernel
theorem dX10_fetch_46 : decode cX10_fetch 46 = .ok (.aload_n 0, 1) := by decide +kernel
theorem dX10_fetch_47 : decode cX10_fetch 47 = .ok (.getfield 22, 3) := by decide +kernel
theorem dX10_fetch_50 : decode cX10_fetch 50 = .ok (.iload_n 1, 1) := by decide +kernel
theorem dX10_fetch_51 : decode cX10_fetch 51 = .ok (.invokestatic 224, 3) := by decide +kernel
theorem dX10_fetch_54 : decode cX10_fetch 54 = .ok (.invokestatic 183, 3) := by decide +kernel
theorem dX10_fetch_57 : decode cX10_fetch 57 = .ok (.invokevirtual 227, 3) := by decide +kernel
theorem dX10_fetch_60 : decode cX10_fetch 60 = .ok (.aload_n 0, 1) := by decide +kernel
theorem dX10_fetch_61 : decode cX10_fetch 61 = .ok (.getfield 47, 3) := by decide +kernel
theorem dX10_fetch_64 : decode cX10_fetch 64 = .ok (.iload_n 1, 1) := by decide +kernel
theorem dX10_fetch_65 : decode cX10_fetch 65 = .ok (.iaload, 1) := by decide +kernel
theorem dX10_fetch_66 : decode cX10_fetch 66 = .ok (.iconst (-1), 1) := by decide +kernel
theorem dX10_fetch_67 : decode cX10_fetch 67 = .ok (.if_icmp .ne 10, 3) := by decide +kernel
theorem dX10_fetch_70 : decode cX10_fetch 70 = .ok (.aload_n 0, 1) := by decide +kernel
theorem dX10_fetch_71 : decode cX10_fetch 71 = .ok (.bipush (-2), 2) := by decide +kernel
theorem dX10_fetch_73 : decode cX10_fetch 73 = .ok (.invokevirtual 87, 3) := by decide +kernel
theorem dX10_fetch_76 : decode cX10_fetch 76 = .ok (.ireturn, 1) := by decide +kernel
theorem dX10_fetch_77 : decode cX10_fetch 77 = .ok (.aload_n 0, 1) := by decide +kernel
theorem dX10_fetch_78 : decode cX10_fetch 78 = .ok (.aload_n 0, 1) := by decide +kernel
theorem dX10_fetch_79 : decode cX10_fetch 79 = .ok (.getfield 47, 3) := by decide +kernel
theorem dX10_fetch_82 : decode cX10_fetch 82 = .ok (.iload_n 1, 1) := by decide +kernel
theorem dX10_fetch_83 : decode cX10_fetch 83 = .ok (.iaload, 1) := by decide +kernel
theorem dX10_fetch_84 : decode cX10_fetch 84 = .ok (.putfield 101, 3) := by decide +kernel
theorem dX10_fetch_87 : decode cX10_fetch 87 = .ok (.iconst 0, 1) := by decide +kernel
theorem dX10_fetch_88 : decode cX10_fetch 88 = .ok (.istore_n 2, 1) := by decide +kernel
theorem dX10_fetch_89 : decode cX10_fetch 89 = .ok (.iload_n 2, 1) := by decide +kernel
theorem dX10_fetch_90 : decode cX10_fetch 90 = .ok (.aload_n 0, 1) := by decide +kernel
theorem dX10_fetch_91 : decode cX10_fetch 91 = .ok (.getfield 101, 3) := by decide +kernel
theorem dX10_fetch_94 : decode cX10_fetch 94 = .ok (.if_icmp .ge 26, 3) := by decide +kernel
theorem dX10_fetch_97 : decode cX10_fetch 97 = .ok (.aload_n 0, 1) := by decide +kernel
theorem dX10_fetch_98 : decode cX10_fetch 98 = .ok (.getfield 28, 3) := by decide +kernel
theorem dX10_fetch_101 : decode cX10_fetch 101 = .ok (.iload_n 2, 1) := by decide +kernel
theorem dX10_fetch_102 : decode cX10_fetch 102 = .ok (.aload_n 0, 1) := by decide +kernel
theorem dX10_fetch_103 : decode cX10_fetch 103 = .ok (.getfield 50, 3) := by decide +kernel
theorem dX10_fetch_106 : decode cX10_fetch 106 = .ok (.bipush 8, 2) := by decide +kernel
theorem dX10_fetch_108 : decode cX10_fetch 108 = .ok (.iload_n 1, 1) := by decide +kernel
theorem dX10_fetch_109 : decode cX10_fetch 109 = .ok (.imul, 1) := by decide +kernel
theorem dX10_fetch_110 : decode cX10_fetch 110 = .ok (.iload_n 2, 1) := by decide +kernel
theorem dX10_fetch_111 : decode cX10_fetch 111 = .ok (.iadd, 1) := by decide +kernel
theorem dX10_fetch_112 : decode cX10_fetch 112 = .ok (.iaload, 1) := by decide +kernel
theorem dX10_fetch_113 : decode cX10_fetch 113 = .ok (.iastore, 1) := by decide +kernel
theorem dX10_fetch_114 : decode cX10_fetch 114 = .ok (.iinc 2 1, 3) := by decide +kernel
theorem dX10_fetch_117 : decode cX10_fetch 117 = .ok (.goto (-28), 3) := by decide +kernel
theorem dX10_fetch_120 : decode cX10_fetch 120 = .ok (.aload_n 0, 1) := by decide +kernel
theorem dX10_fetch_121 : decode cX10_fetch 121 = .ok (.aload_n 0, 1) := by decide +kernel
theorem dX10_fetch_122 : decode cX10_fetch 122 = .ok (.getfield 101, 3) := by decide +kernel
theorem dX10_fetch_125 : decode cX10_fetch 125 = .ok (.invokevirtual 98, 3) := by decide +kernel
theorem dX10_fetch_128 : decode cX10_fetch 128 = .ok (.ireturn, 1) := by decide +kernel
theorem dX10_value_0 : decode cX10_value 0 = .ok (.aload_n 0, 1) := by decide +kernel
theorem dX10_value_1 : decode cX10_value 1 = .ok (.iconst 0, 1) := by decide +kernel
theorem dX10_value_2 : decode cX10_value 2 = .ok (.putfield 77, 3) := by decide +kernel
theorem dX10_value_5 : decode cX10_value 5 = .ok (.aload_n 0, 1) := by decide +kernel
theorem dX10_value_6 : decode cX10_value 6 = .ok (.invokevirtual 292, 3) := by decide +kernel
theorem dX10_value_9 : decode cX10_value 9 = .ok (.ifCond .ne 10, 3) := by decide +kernel
theorem dX10_value_12 : decode cX10_value 12 = .ok (.iload_n 1, 1) := by decide +kernel
theorem dX10_value_13 : decode cX10_value 13 = .ok (.invokestatic 323, 3) := by decide +kernel
theorem dX10_value_16 : decode cX10_value 16 = .ok (.ifCond .ne 5, 3) := by decide +kernel
theorem dX10_value_19 : decode cX10_value 19 = .ok (.iconst (-1), 1) := by decide +kernel
theorem dX10_value_20 : decode cX10_value 20 = .ok (.ireturn, 1) := by decide +kernel
theorem dX10_value_21 : decode cX10_value 21 = .ok (.aload_n 0, 1) := by decide +kernel
theorem dX10_value_22 : decode cX10_value 22 = .ok (.getfield 22, 3) := by decide +kernel
theorem dX10_value_25 : decode cX10_value 25 = .ok (.aload_n 0, 1) := by decide +kernel
theorem dX10_value_26 : decode cX10_value 26 = .ok (.getfield 22, 3) := by decide +kernel
theorem dX10_value_29 : decode cX10_value 29 = .ok (.iload_n 1, 1) := by decide +kernel
theorem dX10_value_30 : decode cX10_value 30 = .ok (.invokestatic 224, 3) := by decide +kernel
theorem dX10_value_33 : decode cX10_value 33 = .ok (.invokestatic 183, 3) := by decide +kernel
theorem dX10_value_36 : decode cX10_value 36 = .ok (.istore_n 3, 1) := by decide +kernel
theorem dX10_value_37 : decode cX10_value 37 = .ok (.iload_n 2, 1) := by decide +kernel
theorem dX10_value_38 : decode cX10_value 38 = .ok (.iconst 1, 1) := by decide +kernel
theorem dX10_value_39 : decode cX10_value 39 = .ok (.if_icmp .ne 5, 3) := by decide +kernel
theorem dX10_value_42 : decode cX10_value 42 = .ok (.iload_n 3, 1) := by decide +kernel
theorem dX10_value_43 : decode cX10_value 43 = .ok (.ireturn, 1) := by decide +kernel
theorem dX10_value_44 : decode cX10_value 44 = .ok (.aload_n 0, 1) := by decide +kernel
theorem dX10_value_45 : decode cX10_value 45 = .ok (.aload_n 0, 1) := by decide +kernel
theorem dX10_value_46 : decode cX10_value 46 = .ok (.getfield 22, 3) := by decide +kernel
theorem dX10_value_49 : decode cX10_value 49 = .ok (.iload_n 3, 1) := by decide +kernel
theorem dX10_value_50 : decode cX10_value 50 = .ok (.invokevirtual 227, 3) := by decide +kernel
theorem dX10_value_53 : decode cX10_value 53 = .ok (.iload_n 2, 1) := by decide +kernel
theorem dX10_value_54 : decode cX10_value 54 = .ok (.ifCond .ne 10, 3) := by decide +kernel
theorem dX10_value_57 : decode cX10_value 57 = .ok (.aload_n 0, 1) := by decide +kernel
theorem dX10_value_58 : decode cX10_value 58 = .ok (.getfield 47, 3) := by decide +kernel
theorem dX10_value_61 : decode cX10_value 61 = .ok (.iload_n 1, 1) := by decide +kernel
theorem dX10_value_62 : decode cX10_value 62 = .ok (.iaload, 1) := by decide +kernel
theorem dX10_value_63 : decode cX10_value 63 = .ok (.ireturn, 1) := by decide +kernel
theorem dX10_value_64 : decode cX10_value 64 = .ok (.iload_n 2, 1) := by decide +kernel
theorem dX10_value_65 : decode cX10_value 65 = .ok (.iconst 2, 1) := by decide +kernel
theorem dX10_value_66 : decode cX10_value 66 = .ok (.iconst 1, 1) := by decide +kernel
theorem dX10_value_67 : decode cX10_value 67 = .ok (.aload_n 0, 1) := by decide +kernel
theorem dX10_value_68 : decode cX10_value 68 = .ok (.getfield 47, 3) := by decide +kernel
theorem dX10_value_71 : decode cX10_value 71 = .ok (.iload_n 1, 1) := by decide +kernel
theorem dX10_value_72 : decode cX10_value 72 = .ok (.iaload, 1) := by decide +kernel
theorem dX10_value_73 : decode cX10_value 73 = .ok (.iadd, 1) := by decide +kernel
theorem dX10_value_74 : decode cX10_value 74 = .ok (.invokestatic 83, 3) := by decide +kernel
theorem dX10_value_77 : decode cX10_value 77 = .ok (.ifCond .eq 19, 3) := by decide +kernel
theorem dX10_value_80 : decode cX10_value 80 = .ok (.aload_n 0, 1) := by decide +kernel
theorem dX10_value_81 : decode cX10_value 81 = .ok (.getfield 50, 3) := by decide +kernel
theorem dX10_value_84 : decode cX10_value 84 = .ok (.bipush 8, 2) := by decide +kernel
theorem dX10_value_86 : decode cX10_value 86 = .ok (.iload_n 1, 1) := by decide +kernel
theorem dX10_value_87 : decode cX10_value 87 = .ok (.imul, 1) := by decide +kernel
theorem dX10_value_88 : decode cX10_value 88 = .ok (.iload_n 2, 1) := by decide +kernel
theorem dX10_value_89 : decode cX10_value 89 = .ok (.iadd, 1) := by decide +kernel
theorem dX10_value_90 : decode cX10_value 90 = .ok (.iconst 2, 1) := by decide +kernel
theorem dX10_value_91 : decode cX10_value 91 = .ok (.isub, 1) := by decide +kernel
theorem dX10_value_92 : decode cX10_value 92 = .ok (.iaload, 1) := by decide +kernel
theorem dX10_value_93 : decode cX10_value 93 = .ok (.goto 4, 3) := by decide +kernel
theorem dX10_value_96 : decode cX10_value 96 = .ok (.iconst (-1), 1) := by decide +kernel
theorem dX10_value_97 : decode cX10_value 97 = .ok (.ireturn, 1) := by decide +kernel
theorem dX10_next_0 : decode cX10_next 0 = .ok (.aload_n 0, 1) := by decide +kernel
theorem dX10_next_1 : decode cX10_next 1 = .ok (.iconst 0, 1) := by decide +kernel
theorem dX10_next_2 : decode cX10_next 2 = .ok (.putfield 77, 3) := by decide +kernel
theorem dX10_next_5 : decode cX10_next 5 = .ok (.aload_n 0, 1) := by decide +kernel
theorem dX10_next_6 : decode cX10_next 6 = .ok (.invokevirtual 292, 3) := by decide +kernel
theorem dX10_next_9 : decode cX10_next 9 = .ok (.ifCond .ne 10, 3) := by decide +kernel
theorem dX10_next_12 : decode cX10_next 12 = .ok (.iload_n 1, 1) := by decide +kernel
theorem dX10_next_13 : decode cX10_next 13 = .ok (.invokestatic 323, 3) := by decide +kernel
theorem dX10_next_16 : decode cX10_next 16 = .ok (.ifCond .ne 5, 3) := by decide +kernel
theorem dX10_next_19 : decode cX10_next 19 = .ok (.iconst (-1), 1) := by decide +kernel
theorem dX10_next_20 : decode cX10_next 20 = .ok (.ireturn, 1) := by decide +kernel
theorem dX10_next_21 : decode cX10_next 21 = .ok (.aload_n 0, 1) := by decide +kernel
theorem dX10_next_22 : decode cX10_next 22 = .ok (.aload_n 0, 1) := by decide +kernel
theorem dX10_next_23 : decode cX10_next 23 = .ok (.getfield 22, 3) := by decide +kernel
theorem dX10_next_26 : decode cX10_next 26 = .ok (.invokevirtual 339, 3) := by decide +kernel
theorem dX10_next_29 : decode cX10_next 29 = .ok (.aload_n 0, 1) := by decide +kernel
theorem dX10_next_30 : decode cX10_next 30 = .ok (.iload_n 1, 1) := by decide +kernel
theorem dX10_next_31 : decode cX10_next 31 = .ok (.sipush 256, 3) := by decide +kernel
theorem dX10_next_34 : decode cX10_next 34 = .ok (.invokevirtual 258, 3) := by decide +kernel
theorem dX10_next_37 : decode cX10_next 37 = .ok (.istore_n 2, 1) := by decide +kernel
theorem dX10_next_38 : decode cX10_next 38 = .ok (.iload_n 2, 1) := by decide +kernel
theorem dX10_next_39 : decode cX10_next 39 = .ok (.sipush 256, 3) := by decide +kernel
theorem dX10_next_42 : decode cX10_next 42 = .ok (.if_icmp .ge 7, 3) := by decide +kernel
theorem dX10_next_45 : decode cX10_next 45 = .ok (.iload_n 2, 1) := by decide +kernel
theorem dX10_next_46 : decode cX10_next 46 = .ok (.goto 4, 3) := by decide +kernel
theorem dX10_next_49 : decode cX10_next 49 = .ok (.iconst (-1), 1) := by decide +kernel
theorem dX10_next_50 : decode cX10_next 50 = .ok (.ireturn, 1) := by decide +kernel
theorem dX10_isPlace_0 : decode cX10_isPlace 0 = .ok (.aload_n 0, 1) := by decide +kernel
theorem dX10_isPlace_1 : decode cX10_isPlace 1 = .ok (.invokevirtual 292, 3) := by decide +kernel
theorem dX10_isPlace_4 : decode cX10_isPlace 4 = .ok (.ifCond .ne 24, 3) := by decide +kernel
theorem dX10_isPlace_7 : decode cX10_isPlace 7 = .ok (.iload_n 1, 1) := by decide +kernel
theorem dX10_isPlace_8 : decode cX10_isPlace 8 = .ok (.iconst 0, 1) := by decide +kernel
theorem dX10_isPlace_9 : decode cX10_isPlace 9 = .ok (.aload_n 0, 1) := by decide +kernel
theorem dX10_isPlace_10 : decode cX10_isPlace 10 = .ok (.getfield 22, 3) := by decide +kernel
theorem dX10_isPlace_13 : decode cX10_isPlace 13 = .ok (.invokestatic 151, 3) := by decide +kernel
theorem dX10_isPlace_16 : decode cX10_isPlace 16 = .ok (.iconst 1, 1) := by decide +kernel
theorem dX10_isPlace_17 : decode cX10_isPlace 17 = .ok (.isub, 1) := by decide +kernel
theorem dX10_isPlace_18 : decode cX10_isPlace 18 = .ok (.invokestatic 83, 3) := by decide +kernel
theorem dX10_isPlace_21 : decode cX10_isPlace 21 = .ok (.ifCond .eq 7, 3) := by decide +kernel
theorem dX10_isPlace_24 : decode cX10_isPlace 24 = .ok (.iconst 1, 1) := by decide +kernel
theorem dX10_isPlace_25 : decode cX10_isPlace 25 = .ok (.goto 4, 3) := by decide +kernel
theorem dX10_isPlace_28 : decode cX10_isPlace 28 = .ok (.iconst 0, 1) := by decide +kernel
theorem dX10_isPlace_29 : decode cX10_isPlace 29 = .ok (.ireturn, 1) := by decide +kernel
theorem dX10_page_0 : decode cX10_page 0 = .ok (.aload_n 0, 1) := by decide +kernel
theorem dX10_page_1 : decode cX10_page 1 = .ok (.iconst 0, 1) := by decide +kernel
theorem dX10_page_2 : decode cX10_page 2 = .ok (.putfield 77, 3) := by decide +kernel
theorem dX10_page_5 : decode cX10_page 5 = .ok (.aload_n 0, 1) := by decide +kernel
theorem dX10_page_6 : decode cX10_page 6 = .ok (.iload_n 1, 1) := by decide +kernel
theorem dX10_page_7 : decode cX10_page 7 = .ok (.invokevirtual 352, 3) := by decide +kernel
theorem dX10_page_10 : decode cX10_page 10 = .ok (.ifCond .eq 13, 3) := by decide +kernel
theorem dX10_page_13 : decode cX10_page 13 = .ok (.iload_n 2, 1) := by decide +kernel
theorem dX10_page_14 : decode cX10_page 14 = .ok (.iconst 0, 1) := by decide +kernel
theorem dX10_page_15 : decode cX10_page 15 = .ok (.bipush 9, 2) := by decide +kernel
theorem dX10_page_17 : decode cX10_page 17 = .ok (.invokestatic 83, 3) := by decide +kernel
theorem dX10_page_20 : decode cX10_page 20 = .ok (.ifCond .ne 5, 3) := by decide +kernel
theorem dX10_page_23 : decode cX10_page 23 = .ok (.iconst (-1), 1) := by decide +kernel
theorem dX10_page_24 : decode cX10_page 24 = .ok (.ireturn, 1) := by decide +kernel
theorem dX10_page_25 : decode cX10_page 25 = .ok (.aload_n 0, 1) := by decide +kernel
theorem dX10_page_26 : decode cX10_page 26 = .ok (.getfield 22, 3) := by decide +kernel
theorem dX10_page_29 : decode cX10_page 29 = .ok (.iload_n 1, 1) := by decide +kernel
theorem dX10_page_30 : decode cX10_page 30 = .ok (.invokestatic 183, 3) := by decide +kernel
theorem dX10_page_33 : decode cX10_page 33 = .ok (.istore_n 3, 1) := by decide +kernel
theorem dX10_page_34 : decode cX10_page 34 = .ok (.aload_n 0, 1) := by decide +kernel
theorem dX10_page_35 : decode cX10_page 35 = .ok (.getfield 22, 3) := by decide +kernel
theorem dX10_page_38 : decode cX10_page 38 = .ok (.iload_n 3, 1) := by decide +kernel
theorem dX10_page_39 : decode cX10_page 39 = .ok (.invokestatic 166, 3) := by decide +kernel
theorem dX10_page_42 : decode cX10_page 42 = .ok (.istore 4, 2) := by decide +kernel
theorem dX10_page_44 : decode cX10_page 44 = .ok (.aload_n 0, 1) := by decide +kernel
theorem dX10_page_45 : decode cX10_page 45 = .ok (.aload_n 0, 1) := by decide +kernel
theorem dX10_page_46 : decode cX10_page 46 = .ok (.getfield 22, 3) := by decide +kernel
theorem dX10_page_49 : decode cX10_page 49 = .ok (.iload_n 3, 1) := by decide +kernel
theorem dX10_page_50 : decode cX10_page 50 = .ok (.invokevirtual 227, 3) := by decide +kernel
theorem dX10_page_53 : decode cX10_page 53 = .ok (.iload_n 2, 1) := by decide +kernel
theorem dX10_page_54 : decode cX10_page 54 = .ok (.tableswitch 129 0 8 #[50, 52, 61, 66, 75, 85, 97, 106, 123], 50) := by decide +kernel
theorem dX10_page_104 : decode cX10_page 104 = .ok (.iload_n 3, 1) := by decide +kernel
theorem dX10_page_105 : decode cX10_page 105 = .ok (.ireturn, 1) := by decide +kernel
theorem dX10_page_106 : decode cX10_page 106 = .ok (.aload_n 0, 1) := by decide +kernel
theorem dX10_page_107 : decode cX10_page 107 = .ok (.getfield 22, 3) := by decide +kernel
theorem dX10_page_110 : decode cX10_page 110 = .ok (.iload_n 1, 1) := by decide +kernel
theorem dX10_page_111 : decode cX10_page 111 = .ok (.invokestatic 155, 3) := by decide +kernel
theorem dX10_page_114 : decode cX10_page 114 = .ok (.ireturn, 1) := by decide +kernel
theorem dX10_page_115 : decode cX10_page 115 = .ok (.aload_n 0, 1) := by decide +kernel
theorem dX10_page_116 : decode cX10_page 116 = .ok (.invokevirtual 233, 3) := by decide +kernel
theorem dX10_page_119 : decode cX10_page 119 = .ok (.ireturn, 1) := by decide +kernel
theorem dX10_page_120 : decode cX10_page 120 = .ok (.aload_n 0, 1) := by decide +kernel
theorem dX10_page_121 : decode cX10_page 121 = .ok (.iconst 0, 1) := by decide +kernel
theorem dX10_page_122 : decode cX10_page 122 = .ok (.sipush 255, 3) := by decide +kernel
theorem dX10_page_125 : decode cX10_page 125 = .ok (.invokevirtual 195, 3) := by decide +kernel
theorem dX10_page_128 : decode cX10_page 128 = .ok (.ireturn, 1) := by decide +kernel
theorem dX10_page_129 : decode cX10_page 129 = .ok (.aload_n 0, 1) := by decide +kernel
theorem dX10_page_130 : decode cX10_page 130 = .ok (.getfield 22, 3) := by decide +kernel
theorem dX10_page_133 : decode cX10_page 133 = .ok (.bipush 64, 2) := by decide +kernel
theorem dX10_page_135 : decode cX10_page 135 = .ok (.iload_n 3, 1) := by decide +kernel
theorem dX10_page_136 : decode cX10_page 136 = .ok (.imul, 1) := by decide +kernel
theorem dX10_page_137 : decode cX10_page 137 = .ok (.iaload, 1) := by decide +kernel
theorem dX10_page_138 : decode cX10_page 138 = .ok (.ireturn, 1) := by decide +kernel
theorem dX10_page_139 : decode cX10_page 139 = .ok (.aload_n 0, 1) := by decide +kernel
theorem dX10_page_140 : decode cX10_page 140 = .ok (.getfield 22, 3) := by decide +kernel
theorem dX10_page_143 : decode cX10_page 143 = .ok (.bipush 64, 2) := by decide +kernel
theorem dX10_page_145 : decode cX10_page 145 = .ok (.iload_n 3, 1) := by decide +kernel
theorem dX10_page_146 : decode cX10_page 146 = .ok (.imul, 1) := by decide +kernel
theorem dX10_page_147 : decode cX10_page 147 = .ok (.iconst 1, 1) := by decide +kernel
theorem dX10_page_148 : decode cX10_page 148 = .ok (.iadd, 1) := by decide +kernel
theorem dX10_page_149 : decode cX10_page 149 = .ok (.iaload, 1) := by decide +kernel
theorem dX10_page_150 : decode cX10_page 150 = .ok (.ireturn, 1) := by decide +kernel
theorem dX10_page_151 : decode cX10_page 151 = .ok (.aload_n 0, 1) := by decide +kernel
theorem dX10_page_152 : decode cX10_page 152 = .ok (.getfield 22, 3) := by decide +kernel
theorem dX10_page_155 : decode cX10_page 155 = .ok (.iload_n 3, 1) := by decide +kernel
theorem dX10_page_156 : decode cX10_page 156 = .ok (.invokestatic 355, 3) := by decide +kernel
theorem dX10_page_159 : decode cX10_page 159 = .ok (.ireturn, 1) := by decide +kernel
theorem dX10_page_160 : decode cX10_page 160 = .ok (.iload 4, 2) := by decide +kernel
theorem dX10_page_162 : decode cX10_page 162 = .ok (.iconst 2, 1) := by decide +kernel
theorem dX10_page_163 : decode cX10_page 163 = .ok (.isub, 1) := by decide +kernel
theorem dX10_page_164 : decode cX10_page 164 = .ok (.aload_n 0, 1) := by decide +kernel
theorem dX10_page_165 : decode cX10_page 165 = .ok (.getfield 22, 3) := by decide +kernel
theorem dX10_page_168 : decode cX10_page 168 = .ok (.bipush 64, 2) := by decide +kernel
theorem dX10_page_170 : decode cX10_page 170 = .ok (.iload_n 3, 1) := by decide +kernel
theorem dX10_page_171 : decode cX10_page 171 = .ok (.imul, 1) := by decide +kernel
theorem dX10_page_172 : decode cX10_page 172 = .ok (.iconst 1, 1) := by decide +kernel
theorem dX10_page_173 : decode cX10_page 173 = .ok (.iadd, 1) := by decide +kernel
theorem dX10_page_174 : decode cX10_page 174 = .ok (.iaload, 1) := by decide +kernel
theorem dX10_page_175 : decode cX10_page 175 = .ok (.isub, 1) := by decide +kernel
theorem dX10_page_176 : decode cX10_page 176 = .ok (.ireturn, 1) := by decide +kernel
theorem dX10_page_177 : decode cX10_page 177 = .ok (.bipush 64, 2) := by decide +kernel
theorem dX10_page_179 : decode cX10_page 179 = .ok (.iload 4, 2) := by decide +kernel
theorem dX10_page_181 : decode cX10_page 181 = .ok (.isub, 1) := by decide +kernel
theorem dX10_page_182 : decode cX10_page 182 = .ok (.ireturn, 1) := by decide +kernel
theorem dX10_page_183 : decode cX10_page 183 = .ok (.aload_n 0, 1) := by decide +kernel
theorem dX10_page_184 : decode cX10_page 184 = .ok (.iload_n 3, 1) := by decide +kernel
theorem dX10_page_185 : decode cX10_page 185 = .ok (.invokevirtual 283, 3) := by decide +kernel
theorem dX10_page_188 : decode cX10_page 188 = .ok (.iconst (-1), 1) := by decide +kernel
theorem dX10_page_189 : decode cX10_page 189 = .ok (.if_icmp .ne 7, 3) := by decide +kernel
theorem dX10_page_192 : decode cX10_page 192 = .ok (.iconst 0, 1) := by decide +kernel
theorem dX10_page_193 : decode cX10_page 193 = .ok (.goto 4, 3) := by decide +kernel
theorem dX10_page_196 : decode cX10_page 196 = .ok (.iconst 1, 1) := by decide +kernel
theorem dX10_page_197 : decode cX10_page 197 = .ok (.ireturn, 1) := by decide +kernel
theorem dX10_packing_0 : decode cX10_packing 0 = .ok (.aload_n 0, 1) := by decide +kernel
theorem dX10_packing_1 : decode cX10_packing 1 = .ok (.iconst 0, 1) := by decide +kernel
theorem dX10_packing_2 : decode cX10_packing 2 = .ok (.putfield 77, 3) := by decide +kernel
theorem dX10_packing_5 : decode cX10_packing 5 = .ok (.aload_n 0, 1) := by decide +kernel
theorem dX10_packing_6 : decode cX10_packing 6 = .ok (.iload_n 1, 1) := by decide +kernel
theorem dX10_packing_7 : decode cX10_packing 7 = .ok (.invokevirtual 352, 3) := by decide +kernel
theorem dX10_packing_10 : decode cX10_packing 10 = .ok (.ifCond .eq 12, 3) := by decide +kernel
theorem dX10_packing_13 : decode cX10_packing 13 = .ok (.iload_n 2, 1) := by decide +kernel
theorem dX10_packing_14 : decode cX10_packing 14 = .ok (.iconst 0, 1) := by decide +kernel
theorem dX10_packing_15 : decode cX10_packing 15 = .ok (.iconst 3, 1) := by decide +kernel
theorem dX10_packing_16 : decode cX10_packing 16 = .ok (.invokestatic 83, 3) := by decide +kernel
theorem dX10_packing_19 : decode cX10_packing 19 = .ok (.ifCond .ne 5, 3) := by decide +kernel
theorem dX10_packing_22 : decode cX10_packing 22 = .ok (.iconst (-1), 1) := by decide +kernel
theorem dX10_packing_23 : decode cX10_packing 23 = .ok (.ireturn, 1) := by decide +kernel
theorem dX10_packing_24 : decode cX10_packing 24 = .ok (.aload_n 0, 1) := by decide +kernel
theorem dX10_packing_25 : decode cX10_packing 25 = .ok (.aload_n 0, 1) := by decide +kernel
theorem dX10_packing_26 : decode cX10_packing 26 = .ok (.getfield 22, 3) := by decide +kernel
theorem dX10_packing_29 : decode cX10_packing 29 = .ok (.aload_n 0, 1) := by decide +kernel
theorem dX10_packing_30 : decode cX10_packing 30 = .ok (.getfield 22, 3) := by decide +kernel
theorem dX10_packing_33 : decode cX10_packing 33 = .ok (.iload_n 1, 1) := by decide +kernel
theorem dX10_packing_34 : decode cX10_packing 34 = .ok (.invokestatic 183, 3) := by decide +kernel
theorem dX10_packing_37 : decode cX10_packing 37 = .ok (.invokevirtual 227, 3) := by decide +kernel
theorem dX10_packing_40 : decode cX10_packing 40 = .ok (.aload_n 0, 1) := by decide +kernel
theorem dX10_packing_41 : decode cX10_packing 41 = .ok (.iconst 0, 1) := by decide +kernel
theorem dX10_packing_42 : decode cX10_packing 42 = .ok (.sipush 255, 3) := by decide +kernel
theorem dX10_packing_45 : decode cX10_packing 45 = .ok (.invokevirtual 189, 3) := by decide +kernel
theorem dX10_packing_48 : decode cX10_packing 48 = .ok (.aload_n 0, 1) := by decide +kernel
theorem dX10_packing_49 : decode cX10_packing 49 = .ok (.iload_n 2, 1) := by decide +kernel
theorem dX10_packing_50 : decode cX10_packing 50 = .ok (.invokevirtual 127, 3) := by decide +kernel
theorem dX10_packing_53 : decode cX10_packing 53 = .ok (.ireturn, 1) := by decide +kernel
theorem dX10_entry_0 : decode cX10_entry 0 = .ok (.aload_n 0, 1) := by decide +kernel
theorem dX10_entry_1 : decode cX10_entry 1 = .ok (.iconst 0, 1) := by decide +kernel
theorem dX10_entry_2 : decode cX10_entry 2 = .ok (.putfield 77, 3) := by decide +kernel
theorem dX10_entry_5 : decode cX10_entry 5 = .ok (.aload_n 0, 1) := by decide +kernel
theorem dX10_entry_6 : decode cX10_entry 6 = .ok (.iload_n 1, 1) := by decide +kernel
theorem dX10_entry_7 : decode cX10_entry 7 = .ok (.invokevirtual 352, 3) := by decide +kernel
theorem dX10_entry_10 : decode cX10_entry 10 = .ok (.ifCond .ne 5, 3) := by decide +kernel
theorem dX10_entry_13 : decode cX10_entry 13 = .ok (.iconst (-1), 1) := by decide +kernel
theorem dX10_entry_14 : decode cX10_entry 14 = .ok (.ireturn, 1) := by decide +kernel
theorem dX10_entry_15 : decode cX10_entry 15 = .ok (.aload_n 0, 1) := by decide +kernel
theorem dX10_entry_16 : decode cX10_entry 16 = .ok (.getfield 22, 3) := by decide +kernel
theorem dX10_entry_19 : decode cX10_entry 19 = .ok (.iload_n 1, 1) := by decide +kernel
theorem dX10_entry_20 : decode cX10_entry 20 = .ok (.invokestatic 183, 3) := by decide +kernel
theorem dX10_entry_23 : decode cX10_entry 23 = .ok (.istore 4, 2) := by decide +kernel
theorem dX10_entry_25 : decode cX10_entry 25 = .ok (.iload_n 2, 1) := by decide +kernel
theorem dX10_entry_26 : decode cX10_entry 26 = .ok (.iconst 0, 1) := by decide +kernel
theorem dX10_entry_27 : decode cX10_entry 27 = .ok (.aload_n 0, 1) := by decide +kernel
theorem dX10_entry_28 : decode cX10_entry 28 = .ok (.getfield 22, 3) := by decide +kernel
theorem dX10_entry_31 : decode cX10_entry 31 = .ok (.iload 4, 2) := by decide +kernel
theorem dX10_entry_33 : decode cX10_entry 33 = .ok (.invokestatic 355, 3) := by decide +kernel
theorem dX10_entry_36 : decode cX10_entry 36 = .ok (.iconst 1, 1) := by decide +kernel
theorem dX10_entry_37 : decode cX10_entry 37 = .ok (.isub, 1) := by decide +kernel
theorem dX10_entry_38 : decode cX10_entry 38 = .ok (.invokestatic 83, 3) := by decide +kernel
theorem dX10_entry_41 : decode cX10_entry 41 = .ok (.ifCond .ne 5, 3) := by decide +kernel
theorem dX10_entry_44 : decode cX10_entry 44 = .ok (.iconst (-1), 1) := by decide +kernel
theorem dX10_entry_45 : decode cX10_entry 45 = .ok (.ireturn, 1) := by decide +kernel
theorem dX10_entry_46 : decode cX10_entry 46 = .ok (.bipush 64, 2) := by decide +kernel
theorem dX10_entry_48 : decode cX10_entry 48 = .ok (.iload 4, 2) := by decide +kernel
theorem dX10_entry_50 : decode cX10_entry 50 = .ok (.imul, 1) := by decide +kernel
theorem dX10_entry_51 : decode cX10_entry 51 = .ok (.aload_n 0, 1) := by decide +kernel
theorem dX10_entry_52 : decode cX10_entry 52 = .ok (.getfield 22, 3) := by decide +kernel
theorem dX10_entry_55 : decode cX10_entry 55 = .ok (.iload 4, 2) := by decide +kernel
theorem dX10_entry_57 : decode cX10_entry 57 = .ok (.iload_n 2, 1) := by decide +kernel
theorem dX10_entry_58 : decode cX10_entry 58 = .ok (.invokestatic 162, 3) := by decide +kernel
theorem dX10_entry_61 : decode cX10_entry 61 = .ok (.iadd, 1) := by decide +kernel
theorem dX10_entry_62 : decode cX10_entry 62 = .ok (.istore 5, 2) := by decide +kernel
theorem dX10_entry_64 : decode cX10_entry 64 = .ok (.iload_n 3, 1) := by decide +kernel
theorem dX10_entry_65 : decode cX10_entry 65 = .ok (.ifCond .ne 14, 3) := by decide +kernel
theorem dX10_entry_68 : decode cX10_entry 68 = .ok (.aload_n 0, 1) := by decide +kernel
theorem dX10_entry_69 : decode cX10_entry 69 = .ok (.getfield 22, 3) := by decide +kernel
theorem dX10_entry_72 : decode cX10_entry 72 = .ok (.iload 5, 2) := by decide +kernel
theorem dX10_entry_74 : decode cX10_entry 74 = .ok (.iaload, 1) := by decide +kernel
theorem dX10_entry_75 : decode cX10_entry 75 = .ok (.invokestatic 148, 3) := by decide +kernel
theorem dX10_entry_78 : decode cX10_entry 78 = .ok (.ireturn, 1) := by decide +kernel
theorem dX10_entry_79 : decode cX10_entry 79 = .ok (.iload_n 3, 1) := by decide +kernel
theorem dX10_entry_80 : decode cX10_entry 80 = .ok (.iconst 1, 1) := by decide +kernel
theorem dX10_entry_81 : decode cX10_entry 81 = .ok (.if_icmp .ne 14, 3) := by decide +kernel
theorem dX10_entry_84 : decode cX10_entry 84 = .ok (.aload_n 0, 1) := by decide +kernel
theorem dX10_entry_85 : decode cX10_entry 85 = .ok (.getfield 22, 3) := by decide +kernel
theorem dX10_entry_88 : decode cX10_entry 88 = .ok (.iload 5, 2) := by decide +kernel
theorem dX10_entry_90 : decode cX10_entry 90 = .ok (.iaload, 1) := by decide +kernel
theorem dX10_entry_91 : decode cX10_entry 91 = .ok (.bipush 16, 2) := by decide +kernel
theorem dX10_entry_93 : decode cX10_entry 93 = .ok (.irem, 1) := by decide +kernel
theorem dX10_entry_94 : decode cX10_entry 94 = .ok (.ireturn, 1) := by decide +kernel
theorem dX10_entry_95 : decode cX10_entry 95 = .ok (.iload_n 3, 1) := by decide +kernel
theorem dX10_entry_96 : decode cX10_entry 96 = .ok (.iconst 2, 1) := by decide +kernel
theorem dX10_entry_97 : decode cX10_entry 97 = .ok (.if_icmp .ne 13, 3) := by decide +kernel
theorem dX10_entry_100 : decode cX10_entry 100 = .ok (.aload_n 0, 1) := by decide +kernel
theorem dX10_entry_101 : decode cX10_entry 101 = .ok (.getfield 22, 3) := by decide +kernel
theorem dX10_entry_104 : decode cX10_entry 104 = .ok (.iload 5, 2) := by decide +kernel
theorem dX10_entry_106 : decode cX10_entry 106 = .ok (.iconst 1, 1) := by decide +kernel
theorem dX10_entry_107 : decode cX10_entry 107 = .ok (.iadd, 1) := by decide +kernel
theorem dX10_entry_108 : decode cX10_entry 108 = .ok (.iaload, 1) := by decide +kernel
theorem dX10_entry_109 : decode cX10_entry 109 = .ok (.ireturn, 1) := by decide +kernel
theorem dX10_entry_110 : decode cX10_entry 110 = .ok (.iload_n 3, 1) := by decide +kernel
theorem dX10_entry_111 : decode cX10_entry 111 = .ok (.iconst 3, 1) := by decide +kernel
theorem dX10_entry_112 : decode cX10_entry 112 = .ok (.aload_n 0, 1) := by decide +kernel
theorem dX10_entry_113 : decode cX10_entry 113 = .ok (.getfield 22, 3) := by decide +kernel
theorem dX10_entry_116 : decode cX10_entry 116 = .ok (.iload 5, 2) := by decide +kernel
theorem dX10_entry_118 : decode cX10_entry 118 = .ok (.iaload, 1) := by decide +kernel
theorem dX10_entry_119 : decode cX10_entry 119 = .ok (.invokestatic 159, 3) := by decide +kernel
theorem dX10_entry_122 : decode cX10_entry 122 = .ok (.invokestatic 83, 3) := by decide +kernel
theorem dX10_entry_125 : decode cX10_entry 125 = .ok (.ifCond .eq 17, 3) := by decide +kernel
theorem dX10_entry_128 : decode cX10_entry 128 = .ok (.aload_n 0, 1) := by decide +kernel
theorem dX10_entry_129 : decode cX10_entry 129 = .ok (.getfield 22, 3) := by decide +kernel
theorem dX10_entry_132 : decode cX10_entry 132 = .ok (.iload 5, 2) := by decide +kernel
theorem dX10_entry_134 : decode cX10_entry 134 = .ok (.iload_n 3, 1) := by decide +kernel
theorem dX10_entry_135 : decode cX10_entry 135 = .ok (.iadd, 1) := by decide +kernel
theorem dX10_entry_136 : decode cX10_entry 136 = .ok (.iconst 1, 1) := by decide +kernel
theorem dX10_entry_137 : decode cX10_entry 137 = .ok (.isub, 1) := by decide +kernel
theorem dX10_entry_138 : decode cX10_entry 138 = .ok (.iaload, 1) := by decide +kernel
theorem dX10_entry_139 : decode cX10_entry 139 = .ok (.goto 4, 3) := by decide +kernel
theorem dX10_entry_142 : decode cX10_entry 142 = .ok (.iconst (-1), 1) := by decide +kernel
theorem dX10_entry_143 : decode cX10_entry 143 = .ok (.ireturn, 1) := by decide +kernel
theorem dX10_behind_0 : decode cX10_behind 0 = .ok (.aload_n 0, 1) := by decide +kernel
theorem dX10_behind_1 : decode cX10_behind 1 = .ok (.iconst 0, 1) := by decide +kernel
theorem dX10_behind_2 : decode cX10_behind 2 = .ok (.putfield 77, 3) := by decide +kernel
theorem dX10_behind_5 : decode cX10_behind 5 = .ok (.aload_n 0, 1) := by decide +kernel
theorem dX10_behind_6 : decode cX10_behind 6 = .ok (.iload_n 1, 1) := by decide +kernel
theorem dX10_behind_7 : decode cX10_behind 7 = .ok (.invokevirtual 352, 3) := by decide +kernel
theorem dX10_behind_10 : decode cX10_behind 10 = .ok (.ifCond .eq 15, 3) := by decide +kernel
theorem dX10_behind_13 : decode cX10_behind 13 = .ok (.iload_n 3, 1) := by decide +kernel
theorem dX10_behind_14 : decode cX10_behind 14 = .ok (.iconst (-1), 1) := by decide +kernel
theorem dX10_behind_15 : decode cX10_behind 15 = .ok (.if_icmp .eq 12, 3) := by decide +kernel
theorem dX10_behind_18 : decode cX10_behind 18 = .ok (.iload_n 3, 1) := by decide +kernel
theorem dX10_behind_19 : decode cX10_behind 19 = .ok (.invokestatic 323, 3) := by decide +kernel
theorem dX10_behind_22 : decode cX10_behind 22 = .ok (.ifCond .ne 5, 3) := by decide +kernel
theorem dX10_behind_25 : decode cX10_behind 25 = .ok (.iconst (-1), 1) := by decide +kernel
theorem dX10_behind_26 : decode cX10_behind 26 = .ok (.ireturn, 1) := by decide +kernel
theorem dX10_behind_27 : decode cX10_behind 27 = .ok (.aload_n 0, 1) := by decide +kernel
theorem dX10_behind_28 : decode cX10_behind 28 = .ok (.getfield 22, 3) := by decide +kernel
theorem dX10_behind_31 : decode cX10_behind 31 = .ok (.iload_n 1, 1) := by decide +kernel
theorem dX10_behind_32 : decode cX10_behind 32 = .ok (.invokestatic 183, 3) := by decide +kernel
theorem dX10_behind_35 : decode cX10_behind 35 = .ok (.istore 4, 2) := by decide +kernel
theorem dX10_behind_37 : decode cX10_behind 37 = .ok (.iload_n 2, 1) := by decide +kernel
theorem dX10_behind_38 : decode cX10_behind 38 = .ok (.iconst 0, 1) := by decide +kernel
theorem dX10_behind_39 : decode cX10_behind 39 = .ok (.aload_n 0, 1) := by decide +kernel
theorem dX10_behind_40 : decode cX10_behind 40 = .ok (.getfield 22, 3) := by decide +kernel
theorem dX10_behind_43 : decode cX10_behind 43 = .ok (.iload 4, 2) := by decide +kernel
theorem dX10_behind_45 : decode cX10_behind 45 = .ok (.invokestatic 355, 3) := by decide +kernel
theorem dX10_behind_48 : decode cX10_behind 48 = .ok (.invokestatic 83, 3) := by decide +kernel
theorem dX10_behind_51 : decode cX10_behind 51 = .ok (.ifCond .ne 5, 3) := by decide +kernel
theorem dX10_behind_54 : decode cX10_behind 54 = .ok (.iconst (-1), 1) := by decide +kernel
theorem dX10_behind_55 : decode cX10_behind 55 = .ok (.ireturn, 1) := by decide +kernel
theorem dX10_behind_56 : decode cX10_behind 56 = .ok (.aload_n 0, 1) := by decide +kernel
theorem dX10_behind_57 : decode cX10_behind 57 = .ok (.invokevirtual 176, 3) := by decide +kernel
theorem dX10_behind_60 : decode cX10_behind 60 = .ok (.aload_n 0, 1) := by decide +kernel
theorem dX10_behind_61 : decode cX10_behind 61 = .ok (.aload_n 0, 1) := by decide +kernel
theorem dX10_behind_62 : decode cX10_behind 62 = .ok (.getfield 22, 3) := by decide +kernel
theorem dX10_behind_65 : decode cX10_behind 65 = .ok (.iload 4, 2) := by decide +kernel
theorem dX10_behind_67 : decode cX10_behind 67 = .ok (.iload_n 2, 1) := by decide +kernel
theorem dX10_behind_68 : decode cX10_behind 68 = .ok (.invokevirtual 179, 3) := by decide +kernel
theorem dX10_behind_71 : decode cX10_behind 71 = .ok (.iload_n 3, 1) := by decide +kernel
theorem dX10_behind_72 : decode cX10_behind 72 = .ok (.iconst (-1), 1) := by decide +kernel
theorem dX10_behind_73 : decode cX10_behind 73 = .ok (.if_icmp .ne 10, 3) := by decide +kernel
theorem dX10_behind_76 : decode cX10_behind 76 = .ok (.aload_n 0, 1) := by decide +kernel
theorem dX10_behind_77 : decode cX10_behind 77 = .ok (.invokevirtual 233, 3) := by decide +kernel
theorem dX10_behind_80 : decode cX10_behind 80 = .ok (.goto 9, 3) := by decide +kernel
theorem dX10_behind_83 : decode cX10_behind 83 = .ok (.aload_n 0, 1) := by decide +kernel
theorem dX10_behind_84 : decode cX10_behind 84 = .ok (.getfield 47, 3) := by decide +kernel
theorem dX10_behind_87 : decode cX10_behind 87 = .ok (.iload_n 3, 1) := by decide +kernel
theorem dX10_behind_88 : decode cX10_behind 88 = .ok (.iaload, 1) := by decide +kernel
theorem dX10_behind_89 : decode cX10_behind 89 = .ok (.ireturn, 1) := by decide +kernel
theorem dX10_block_0 : decode cX10_block 0 = .ok (.aload_n 0, 1) := by decide +kernel
theorem dX10_block_1 : decode cX10_block 1 = .ok (.iconst 0, 1) := by decide +kernel
theorem dX10_block_2 : decode cX10_block 2 = .ok (.putfield 77, 3) := by decide +kernel
theorem dX10_block_5 : decode cX10_block 5 = .ok (.iload_n 1, 1) := by decide +kernel
theorem dX10_block_6 : decode cX10_block 6 = .ok (.iconst 0, 1) := by decide +kernel
theorem dX10_block_7 : decode cX10_block 7 = .ok (.bipush 9, 2) := by decide +kernel
theorem dX10_block_9 : decode cX10_block 9 = .ok (.invokestatic 83, 3) := by decide +kernel
theorem dX10_block_12 : decode cX10_block 12 = .ok (.ifCond .eq 27, 3) := by decide +kernel
theorem dX10_block_15 : decode cX10_block 15 = .ok (.iload_n 2, 1) := by decide +kernel
theorem dX10_block_16 : decode cX10_block 16 = .ok (.iconst 0, 1) := by decide +kernel
theorem dX10_block_17 : decode cX10_block 17 = .ok (.bipush 63, 2) := by decide +kernel
theorem dX10_block_19 : decode cX10_block 19 = .ok (.invokestatic 83, 3) := by decide +kernel
theorem dX10_block_22 : decode cX10_block 22 = .ok (.ifCond .eq 17, 3) := by decide +kernel
theorem dX10_block_25 : decode cX10_block 25 = .ok (.aload_n 0, 1) := by decide +kernel
theorem dX10_block_26 : decode cX10_block 26 = .ok (.getfield 22, 3) := by decide +kernel
theorem dX10_block_29 : decode cX10_block 29 = .ok (.bipush 64, 2) := by decide +kernel
theorem dX10_block_31 : decode cX10_block 31 = .ok (.iload_n 1, 1) := by decide +kernel
theorem dX10_block_32 : decode cX10_block 32 = .ok (.imul, 1) := by decide +kernel
theorem dX10_block_33 : decode cX10_block 33 = .ok (.iload_n 2, 1) := by decide +kernel
theorem dX10_block_34 : decode cX10_block 34 = .ok (.iadd, 1) := by decide +kernel
theorem dX10_block_35 : decode cX10_block 35 = .ok (.iaload, 1) := by decide +kernel
theorem dX10_block_36 : decode cX10_block 36 = .ok (.goto 4, 3) := by decide +kernel
theorem dX10_block_39 : decode cX10_block 39 = .ok (.iconst (-1), 1) := by decide +kernel
theorem dX10_block_40 : decode cX10_block 40 = .ok (.ireturn, 1) := by decide +kernel
theorem dX10_directory_0 : decode cX10_directory 0 = .ok (.aload_n 0, 1) := by decide +kernel
theorem dX10_directory_1 : decode cX10_directory 1 = .ok (.iconst 0, 1) := by decide +kernel
theorem dX10_directory_2 : decode cX10_directory 2 = .ok (.putfield 77, 3) := by decide +kernel
theorem dX10_directory_5 : decode cX10_directory 5 = .ok (.iload_n 1, 1) := by decide +kernel
theorem dX10_directory_6 : decode cX10_directory 6 = .ok (.iconst 0, 1) := by decide +kernel
theorem dX10_directory_7 : decode cX10_directory 7 = .ok (.bipush 20, 2) := by decide +kernel
theorem dX10_directory_9 : decode cX10_directory 9 = .ok (.invokestatic 83, 3) := by decide +kernel
theorem dX10_directory_12 : decode cX10_directory 12 = .ok (.ifCond .eq 16, 3) := by decide +kernel
theorem dX10_directory_15 : decode cX10_directory 15 = .ok (.aload_n 0, 1) := by decide +kernel
theorem dX10_directory_16 : decode cX10_directory 16 = .ok (.getfield 22, 3) := by decide +kernel
theorem dX10_directory_19 : decode cX10_directory 19 = .ok (.sipush 640, 3) := by decide +kernel
theorem dX10_directory_22 : decode cX10_directory 22 = .ok (.iload_n 1, 1) := by decide +kernel
theorem dX10_directory_23 : decode cX10_directory 23 = .ok (.iadd, 1) := by decide +kernel
theorem dX10_directory_24 : decode cX10_directory 24 = .ok (.iaload, 1) := by decide +kernel
theorem dX10_directory_25 : decode cX10_directory 25 = .ok (.goto 4, 3) := by decide +kernel
theorem dX10_directory_28 : decode cX10_directory 28 = .ok (.iconst (-1), 1) := by decide +kernel
theorem dX10_directory_29 : decode cX10_directory 29 = .ok (.ireturn, 1) := by decide +kernel
theorem dX10_journal_0 : decode cX10_journal 0 = .ok (.aload_n 0, 1) := by decide +kernel
theorem dX10_journal_1 : decode cX10_journal 1 = .ok (.iconst 0, 1) := by decide +kernel
theorem dX10_journal_2 : decode cX10_journal 2 = .ok (.putfield 77, 3) := by decide +kernel
theorem dX10_journal_5 : decode cX10_journal 5 = .ok (.iload_n 1, 1) := by decide +kernel
theorem dX10_journal_6 : decode cX10_journal 6 = .ok (.iconst 0, 1) := by decide +kernel
theorem dX10_journal_7 : decode cX10_journal 7 = .ok (.sipush 672, 3) := by decide +kernel
theorem dX10_journal_10 : decode cX10_journal 10 = .ok (.invokestatic 83, 3) := by decide +kernel
theorem dX10_journal_13 : decode cX10_journal 13 = .ok (.ifCond .eq 16, 3) := by decide +kernel
theorem dX10_journal_16 : decode cX10_journal 16 = .ok (.aload_n 0, 1) := by decide +kernel
theorem dX10_journal_17 : decode cX10_journal 17 = .ok (.getfield 22, 3) := by decide +kernel
theorem dX10_journal_20 : decode cX10_journal 20 = .ok (.sipush 666, 3) := by decide +kernel
theorem dX10_journal_23 : decode cX10_journal 23 = .ok (.iload_n 1, 1) := by decide +kernel
theorem dX10_journal_24 : decode cX10_journal 24 = .ok (.iadd, 1) := by decide +kernel
theorem dX10_journal_25 : decode cX10_journal 25 = .ok (.iaload, 1) := by decide +kernel
theorem dX10_journal_26 : decode cX10_journal 26 = .ok (.goto 4, 3) := by decide +kernel
theorem dX10_journal_29 : decode cX10_journal 29 = .ok (.iconst (-1), 1) := by decide +kernel
theorem dX10_journal_30 : decode cX10_journal 30 = .ok (.ireturn, 1) := by decide +kernel
theorem dX10_ofAll_0 : decode cX10_ofAll 0 = .ok (.aload_n 0, 1) := by decide +kernel
theorem dX10_ofAll_1 : decode cX10_ofAll 1 = .ok (.invokevirtual 292, 3) := by decide +kernel
theorem dX10_ofAll_4 : decode cX10_ofAll 4 = .ok (.ifCond .eq 5, 3) := by decide +kernel
theorem dX10_ofAll_7 : decode cX10_ofAll 7 = .ok (.iconst (-1), 1) := by decide +kernel
theorem dX10_ofAll_8 : decode cX10_ofAll 8 = .ok (.ireturn, 1) := by decide +kernel
theorem dX10_ofAll_9 : decode cX10_ofAll 9 = .ok (.iload_n 1, 1) := by decide +kernel
theorem dX10_ofAll_10 : decode cX10_ofAll 10 = .ok (.iconst 1, 1) := by decide +kernel
theorem dX10_ofAll_11 : decode cX10_ofAll 11 = .ok (.if_icmp .ne 11, 3) := by decide +kernel
theorem dX10_ofAll_14 : decode cX10_ofAll 14 = .ok (.aload_n 0, 1) := by decide +kernel
theorem dX10_ofAll_15 : decode cX10_ofAll 15 = .ok (.getfield 22, 3) := by decide +kernel
theorem dX10_ofAll_18 : decode cX10_ofAll 18 = .ok (.invokestatic 151, 3) := by decide +kernel
theorem dX10_ofAll_21 : decode cX10_ofAll 21 = .ok (.ireturn, 1) := by decide +kernel
theorem dX10_ofAll_22 : decode cX10_ofAll 22 = .ok (.iconst 0, 1) := by decide +kernel
theorem dX10_ofAll_23 : decode cX10_ofAll 23 = .ok (.istore_n 2, 1) := by decide +kernel
theorem dX10_ofAll_24 : decode cX10_ofAll 24 = .ok (.iconst 0, 1) := by decide +kernel
theorem dX10_ofAll_25 : decode cX10_ofAll 25 = .ok (.istore_n 3, 1) := by decide +kernel
theorem dX10_ofAll_26 : decode cX10_ofAll 26 = .ok (.iload_n 3, 1) := by decide +kernel
theorem dX10_ofAll_27 : decode cX10_ofAll 27 = .ok (.aload_n 0, 1) := by decide +kernel
theorem dX10_ofAll_28 : decode cX10_ofAll 28 = .ok (.getfield 22, 3) := by decide +kernel
theorem dX10_ofAll_31 : decode cX10_ofAll 31 = .ok (.invokestatic 151, 3) := by decide +kernel
theorem dX10_ofAll_34 : decode cX10_ofAll 34 = .ok (.if_icmp .ge 54, 3) := by decide +kernel
theorem dX10_ofAll_37 : decode cX10_ofAll 37 = .ok (.aload_n 0, 1) := by decide +kernel
theorem dX10_ofAll_38 : decode cX10_ofAll 38 = .ok (.aload_n 0, 1) := by decide +kernel
theorem dX10_ofAll_39 : decode cX10_ofAll 39 = .ok (.getfield 22, 3) := by decide +kernel
theorem dX10_ofAll_42 : decode cX10_ofAll 42 = .ok (.aload_n 0, 1) := by decide +kernel
theorem dX10_ofAll_43 : decode cX10_ofAll 43 = .ok (.getfield 22, 3) := by decide +kernel
theorem dX10_ofAll_46 : decode cX10_ofAll 46 = .ok (.iload_n 3, 1) := by decide +kernel
theorem dX10_ofAll_47 : decode cX10_ofAll 47 = .ok (.invokestatic 183, 3) := by decide +kernel
theorem dX10_ofAll_50 : decode cX10_ofAll 50 = .ok (.invokevirtual 227, 3) := by decide +kernel
theorem dX10_ofAll_53 : decode cX10_ofAll 53 = .ok (.iload_n 2, 1) := by decide +kernel
theorem dX10_ofAll_54 : decode cX10_ofAll 54 = .ok (.iload_n 1, 1) := by decide +kernel
theorem dX10_ofAll_55 : decode cX10_ofAll 55 = .ok (.ifCond .ne 10, 3) := by decide +kernel
theorem dX10_ofAll_58 : decode cX10_ofAll 58 = .ok (.aload_n 0, 1) := by decide +kernel
theorem dX10_ofAll_59 : decode cX10_ofAll 59 = .ok (.invokevirtual 233, 3) := by decide +kernel
theorem dX10_ofAll_62 : decode cX10_ofAll 62 = .ok (.goto 18, 3) := by decide +kernel
theorem dX10_ofAll_65 : decode cX10_ofAll 65 = .ok (.aload_n 0, 1) := by decide +kernel
theorem dX10_ofAll_66 : decode cX10_ofAll 66 = .ok (.getfield 22, 3) := by decide +kernel
theorem dX10_ofAll_69 : decode cX10_ofAll 69 = .ok (.aload_n 0, 1) := by decide +kernel
theorem dX10_ofAll_70 : decode cX10_ofAll 70 = .ok (.getfield 22, 3) := by decide +kernel
theorem dX10_ofAll_73 : decode cX10_ofAll 73 = .ok (.iload_n 3, 1) := by decide +kernel
theorem dX10_ofAll_74 : decode cX10_ofAll 74 = .ok (.invokestatic 183, 3) := by decide +kernel
theorem dX10_ofAll_77 : decode cX10_ofAll 77 = .ok (.invokestatic 355, 3) := by decide +kernel
theorem dX10_ofAll_80 : decode cX10_ofAll 80 = .ok (.iadd, 1) := by decide +kernel
theorem dX10_ofAll_81 : decode cX10_ofAll 81 = .ok (.istore_n 2, 1) := by decide +kernel
theorem dX10_ofAll_82 : decode cX10_ofAll 82 = .ok (.iinc 3 1, 3) := by decide +kernel
theorem dX10_ofAll_85 : decode cX10_ofAll 85 = .ok (.goto (-59), 3) := by decide +kernel
theorem dX10_ofAll_88 : decode cX10_ofAll 88 = .ok (.iload_n 2, 1) := by decide +kernel
theorem dX10_ofAll_89 : decode cX10_ofAll 89 = .ok (.ireturn, 1) := by decide +kernel
theorem dX10_count_0 : decode cX10_count 0 = .ok (.aload_n 0, 1) := by decide +kernel
theorem dX10_count_1 : decode cX10_count 1 = .ok (.iconst 0, 1) := by decide +kernel
theorem dX10_count_2 : decode cX10_count 2 = .ok (.putfield 77, 3) := by decide +kernel
theorem dX10_count_5 : decode cX10_count 5 = .ok (.iload_n 1, 1) := by decide +kernel
theorem dX10_count_6 : decode cX10_count 6 = .ok (.iconst 0, 1) := by decide +kernel
theorem dX10_count_7 : decode cX10_count 7 = .ok (.iconst 2, 1) := by decide +kernel
theorem dX10_count_8 : decode cX10_count 8 = .ok (.invokestatic 83, 3) := by decide +kernel
theorem dX10_count_11 : decode cX10_count 11 = .ok (.ifCond .eq 9, 3) := by decide +kernel
theorem dX10_count_14 : decode cX10_count 14 = .ok (.aload_n 0, 1) := by decide +kernel
theorem dX10_count_15 : decode cX10_count 15 = .ok (.iload_n 1, 1) := by decide +kernel
theorem dX10_count_16 : decode cX10_count 16 = .ok (.invokevirtual 358, 3) := by decide +kernel
theorem dX10_count_19 : decode cX10_count 19 = .ok (.ireturn, 1) := by decide +kernel
theorem dX10_count_20 : decode cX10_count 20 = .ok (.iload_n 1, 1) := by decide +kernel
theorem dX10_count_21 : decode cX10_count 21 = .ok (.iconst 3, 1) := by decide +kernel
theorem dX10_count_22 : decode cX10_count 22 = .ok (.bipush 6, 2) := by decide +kernel
theorem dX10_count_24 : decode cX10_count 24 = .ok (.invokestatic 83, 3) := by decide +kernel
theorem dX10_count_27 : decode cX10_count 27 = .ok (.ifCond .eq 16, 3) := by decide +kernel
theorem dX10_count_30 : decode cX10_count 30 = .ok (.aload_n 0, 1) := by decide +kernel
theorem dX10_count_31 : decode cX10_count 31 = .ok (.getfield 22, 3) := by decide +kernel
theorem dX10_count_34 : decode cX10_count 34 = .ok (.sipush 661, 3) := by decide +kernel
theorem dX10_count_37 : decode cX10_count 37 = .ok (.iload_n 1, 1) := by decide +kernel
theorem dX10_count_38 : decode cX10_count 38 = .ok (.iadd, 1) := by decide +kernel
theorem dX10_count_39 : decode cX10_count 39 = .ok (.iconst 3, 1) := by decide +kernel
theorem dX10_count_40 : decode cX10_count 40 = .ok (.isub, 1) := by decide +kernel
theorem dX10_count_41 : decode cX10_count 41 = .ok (.iaload, 1) := by decide +kernel
theorem dX10_count_42 : decode cX10_count 42 = .ok (.ireturn, 1) := by decide +kernel
theorem dX10_count_43 : decode cX10_count 43 = .ok (.iload_n 1, 1) := by decide +kernel
theorem dX10_count_44 : decode cX10_count 44 = .ok (.bipush 13, 2) := by decide +kernel
theorem dX10_count_46 : decode cX10_count 46 = .ok (.bipush 19, 2) := by decide +kernel
theorem dX10_count_48 : decode cX10_count 48 = .ok (.invokestatic 83, 3) := by decide +kernel
theorem dX10_count_51 : decode cX10_count 51 = .ok (.ifCond .eq 13, 3) := by decide +kernel
theorem dX10_count_54 : decode cX10_count 54 = .ok (.aload_n 0, 1) := by decide +kernel
theorem dX10_count_55 : decode cX10_count 55 = .ok (.getfield 7, 3) := by decide +kernel
theorem dX10_count_58 : decode cX10_count 58 = .ok (.iload_n 1, 1) := by decide +kernel
theorem dX10_count_59 : decode cX10_count 59 = .ok (.bipush 12, 2) := by decide +kernel
theorem dX10_count_61 : decode cX10_count 61 = .ok (.isub, 1) := by decide +kernel
theorem dX10_count_62 : decode cX10_count 62 = .ok (.iaload, 1) := by decide +kernel
theorem dX10_count_63 : decode cX10_count 63 = .ok (.ireturn, 1) := by decide +kernel
theorem dX10_count_64 : decode cX10_count 64 = .ok (.iload_n 1, 1) := by decide +kernel
theorem dX10_count_65 : decode cX10_count 65 = .ok (.bipush 20, 2) := by decide +kernel
theorem dX10_count_67 : decode cX10_count 67 = .ok (.bipush 24, 2) := by decide +kernel
theorem dX10_count_69 : decode cX10_count 69 = .ok (.invokestatic 83, 3) := by decide +kernel
theorem dX10_count_72 : decode cX10_count 72 = .ok (.ifCond .eq 13, 3) := by decide +kernel
theorem dX10_count_75 : decode cX10_count 75 = .ok (.aload_n 0, 1) := by decide +kernel
theorem dX10_count_76 : decode cX10_count 76 = .ok (.getfield 13, 3) := by decide +kernel
theorem dX10_count_79 : decode cX10_count 79 = .ok (.iload_n 1, 1) := by decide +kernel
theorem dX10_count_80 : decode cX10_count 80 = .ok (.bipush 20, 2) := by decide +kernel
theorem dX10_count_82 : decode cX10_count 82 = .ok (.isub, 1) := by decide +kernel
theorem dX10_count_83 : decode cX10_count 83 = .ok (.iaload, 1) := by decide +kernel
theorem dX10_count_84 : decode cX10_count 84 = .ok (.ireturn, 1) := by decide +kernel
theorem dX10_count_85 : decode cX10_count 85 = .ok (.iload_n 1, 1) := by decide +kernel
theorem dX10_count_86 : decode cX10_count 86 = .ok (.tableswitch 72 7 12 #[38, 43, 48, 53, 62, 67], 38) := by decide +kernel
theorem dX10_count_124 : decode cX10_count 124 = .ok (.aload_n 0, 1) := by decide +kernel
theorem dX10_count_125 : decode cX10_count 125 = .ok (.getfield 91, 3) := by decide +kernel
theorem dX10_count_128 : decode cX10_count 128 = .ok (.ireturn, 1) := by decide +kernel
theorem dX10_count_129 : decode cX10_count 129 = .ok (.aload_n 0, 1) := by decide +kernel
theorem dX10_count_130 : decode cX10_count 130 = .ok (.getfield 286, 3) := by decide +kernel
theorem dX10_count_133 : decode cX10_count 133 = .ok (.ireturn, 1) := by decide +kernel
theorem dX10_count_134 : decode cX10_count 134 = .ok (.aload_n 0, 1) := by decide +kernel
theorem dX10_count_135 : decode cX10_count 135 = .ok (.getfield 35, 3) := by decide +kernel
theorem dX10_count_138 : decode cX10_count 138 = .ok (.ireturn, 1) := by decide +kernel
theorem dX10_count_139 : decode cX10_count 139 = .ok (.aload_n 0, 1) := by decide +kernel
theorem dX10_count_140 : decode cX10_count 140 = .ok (.getfield 22, 3) := by decide +kernel
theorem dX10_count_143 : decode cX10_count 143 = .ok (.sipush 665, 3) := by decide +kernel
theorem dX10_count_146 : decode cX10_count 146 = .ok (.iaload, 1) := by decide +kernel
theorem dX10_count_147 : decode cX10_count 147 = .ok (.ireturn, 1) := by decide +kernel
theorem dX10_count_148 : decode cX10_count 148 = .ok (.aload_n 0, 1) := by decide +kernel
theorem dX10_count_149 : decode cX10_count 149 = .ok (.getfield 280, 3) := by decide +kernel
theorem dX10_count_152 : decode cX10_count 152 = .ok (.ireturn, 1) := by decide +kernel
theorem dX10_count_153 : decode cX10_count 153 = .ok (.aload_n 0, 1) := by decide +kernel
theorem dX10_count_154 : decode cX10_count 154 = .ok (.getfield 101, 3) := by decide +kernel
theorem dX10_count_157 : decode cX10_count 157 = .ok (.ireturn, 1) := by decide +kernel
theorem dX10_count_158 : decode cX10_count 158 = .ok (.iconst (-1), 1) := by decide +kernel
theorem dX10_count_159 : decode cX10_count 159 = .ok (.ireturn, 1) := by decide +kernel
theorem dX10_status_0 : decode cX10_status 0 = .ok (.aload_n 0, 1) := by decide +kernel
theorem dX10_status_1 : decode cX10_status 1 = .ok (.iconst 0, 1) := by decide +kernel
theorem dX10_status_2 : decode cX10_status 2 = .ok (.putfield 77, 3) := by decide +kernel
theorem dX10_status_5 : decode cX10_status 5 = .ok (.aload_n 0, 1) := by decide +kernel
theorem dX10_status_6 : decode cX10_status 6 = .ok (.getfield 80, 3) := by decide +kernel
theorem dX10_status_9 : decode cX10_status 9 = .ok (.ireturn, 1) := by decide +kernel
theorem dL_law_0 : decode cL_law 0 = .ok (.new 7, 3) := by decide +kernel
theorem dL_law_3 : decode cL_law 3 = .ok (.dup, 1) := by decide +kernel
theorem dL_law_4 : decode cL_law 4 = .ok (.invokespecial 9, 3) := by decide +kernel
theorem dL_law_7 : decode cL_law 7 = .ok (.astore_n 1, 1) := by decide +kernel
theorem dL_law_8 : decode cL_law 8 = .ok (.new 10, 3) := by decide +kernel
theorem dL_law_11 : decode cL_law 11 = .ok (.dup, 1) := by decide +kernel
theorem dL_law_12 : decode cL_law 12 = .ok (.invokespecial 12, 3) := by decide +kernel
theorem dL_law_15 : decode cL_law 15 = .ok (.astore_n 2, 1) := by decide +kernel
theorem dL_law_16 : decode cL_law 16 = .ok (.iconst 0, 1) := by decide +kernel
theorem dL_law_17 : decode cL_law 17 = .ok (.istore_n 3, 1) := by decide +kernel
theorem dL_law_18 : decode cL_law 18 = .ok (.iload_n 3, 1) := by decide +kernel
theorem dL_law_19 : decode cL_law 19 = .ok (.aload_n 0, 1) := by decide +kernel
theorem dL_law_20 : decode cL_law 20 = .ok (.arraylength, 1) := by decide +kernel
theorem dL_law_21 : decode cL_law 21 = .ok (.bipush 6, 2) := by decide +kernel
theorem dL_law_23 : decode cL_law 23 = .ok (.isub, 1) := by decide +kernel
theorem dL_law_24 : decode cL_law 24 = .ok (.if_icmp .gt 920, 3) := by decide +kernel
theorem dL_law_27 : decode cL_law 27 = .ok (.aload_n 0, 1) := by decide +kernel
theorem dL_law_28 : decode cL_law 28 = .ok (.iload_n 3, 1) := by decide +kernel
theorem dL_law_29 : decode cL_law 29 = .ok (.iaload, 1) := by decide +kernel
theorem dL_law_30 : decode cL_law 30 = .ok (.bipush 31, 2) := by decide +kernel
theorem dL_law_32 : decode cL_law 32 = .ok (.iand, 1) := by decide +kernel
theorem dL_law_33 : decode cL_law 33 = .ok (.tableswitch 905 0 29 #[135, 168, 231, 254, 277, 300, 323, 336, 359, 382, 425, 448, 461, 474, 497, 510, 523, 546, 559, 592, 615, 648, 681, 724, 767, 790, 823, 846, 869, 892], 135) := by decide +kernel
theorem dL_law_168 : decode cL_law 168 = .ok (.aload_n 1, 1) := by decide +kernel
theorem dL_law_169 : decode cL_law 169 = .ok (.aload_n 0, 1) := by decide +kernel
theorem dL_law_170 : decode cL_law 170 = .ok (.iload_n 3, 1) := by decide +kernel
theorem dL_law_171 : decode cL_law 171 = .ok (.iconst 1, 1) := by decide +kernel
theorem dL_law_172 : decode cL_law 172 = .ok (.iadd, 1) := by decide +kernel
theorem dL_law_173 : decode cL_law 173 = .ok (.iaload, 1) := by decide +kernel
theorem dL_law_174 : decode cL_law 174 = .ok (.aload_n 0, 1) := by decide +kernel
theorem dL_law_175 : decode cL_law 175 = .ok (.iload_n 3, 1) := by decide +kernel
theorem dL_law_176 : decode cL_law 176 = .ok (.iconst 2, 1) := by decide +kernel
theorem dL_law_177 : decode cL_law 177 = .ok (.iadd, 1) := by decide +kernel
theorem dL_law_178 : decode cL_law 178 = .ok (.iaload, 1) := by decide +kernel
theorem dL_law_179 : decode cL_law 179 = .ok (.invokevirtual 13, 3) := by decide +kernel
theorem dL_law_182 : decode cL_law 182 = .ok (.aload_n 2, 1) := by decide +kernel
theorem dL_law_183 : decode cL_law 183 = .ok (.aload_n 0, 1) := by decide +kernel
theorem dL_law_184 : decode cL_law 184 = .ok (.iload_n 3, 1) := by decide +kernel
theorem dL_law_185 : decode cL_law 185 = .ok (.iconst 1, 1) := by decide +kernel
theorem dL_law_186 : decode cL_law 186 = .ok (.iadd, 1) := by decide +kernel
theorem dL_law_187 : decode cL_law 187 = .ok (.iaload, 1) := by decide +kernel
theorem dL_law_188 : decode cL_law 188 = .ok (.aload_n 0, 1) := by decide +kernel
theorem dL_law_189 : decode cL_law 189 = .ok (.iload_n 3, 1) := by decide +kernel
theorem dL_law_190 : decode cL_law 190 = .ok (.iconst 2, 1) := by decide +kernel
theorem dL_law_191 : decode cL_law 191 = .ok (.iadd, 1) := by decide +kernel
theorem dL_law_192 : decode cL_law 192 = .ok (.iaload, 1) := by decide +kernel
theorem dL_law_193 : decode cL_law 193 = .ok (.invokevirtual 17, 3) := by decide +kernel
theorem dL_law_196 : decode cL_law 196 = .ok (.if_icmp .eq 742, 3) := by decide +kernel
theorem dL_law_199 : decode cL_law 199 = .ok (.iconst 0, 1) := by decide +kernel
theorem dL_law_200 : decode cL_law 200 = .ok (.ireturn, 1) := by decide +kernel
theorem dL_law_201 : decode cL_law 201 = .ok (.aload_n 1, 1) := by decide +kernel
theorem dL_law_202 : decode cL_law 202 = .ok (.aload_n 0, 1) := by decide +kernel
theorem dL_law_203 : decode cL_law 203 = .ok (.iload_n 3, 1) := by decide +kernel
theorem dL_law_204 : decode cL_law 204 = .ok (.iconst 1, 1) := by decide +kernel
theorem dL_law_205 : decode cL_law 205 = .ok (.iadd, 1) := by decide +kernel
theorem dL_law_206 : decode cL_law 206 = .ok (.iaload, 1) := by decide +kernel
theorem dL_law_207 : decode cL_law 207 = .ok (.aload_n 0, 1) := by decide +kernel
theorem dL_law_208 : decode cL_law 208 = .ok (.iload_n 3, 1) := by decide +kernel
theorem dL_law_209 : decode cL_law 209 = .ok (.iconst 2, 1) := by decide +kernel
theorem dL_law_210 : decode cL_law 210 = .ok (.iadd, 1) := by decide +kernel
theorem dL_law_211 : decode cL_law 211 = .ok (.iaload, 1) := by decide +kernel
theorem dL_law_212 : decode cL_law 212 = .ok (.aload_n 0, 1) := by decide +kernel
theorem dL_law_213 : decode cL_law 213 = .ok (.iload_n 3, 1) := by decide +kernel
theorem dL_law_214 : decode cL_law 214 = .ok (.iconst 3, 1) := by decide +kernel
theorem dL_law_215 : decode cL_law 215 = .ok (.iadd, 1) := by decide +kernel
theorem dL_law_216 : decode cL_law 216 = .ok (.iaload, 1) := by decide +kernel
theorem dL_law_217 : decode cL_law 217 = .ok (.aload_n 0, 1) := by decide +kernel
theorem dL_law_218 : decode cL_law 218 = .ok (.iload_n 3, 1) := by decide +kernel
theorem dL_law_219 : decode cL_law 219 = .ok (.iconst 4, 1) := by decide +kernel
theorem dL_law_220 : decode cL_law 220 = .ok (.iadd, 1) := by decide +kernel
theorem dL_law_221 : decode cL_law 221 = .ok (.iaload, 1) := by decide +kernel
theorem dL_law_222 : decode cL_law 222 = .ok (.aload_n 0, 1) := by decide +kernel
theorem dL_law_223 : decode cL_law 223 = .ok (.iload_n 3, 1) := by decide +kernel
theorem dL_law_224 : decode cL_law 224 = .ok (.iconst 5, 1) := by decide +kernel
theorem dL_law_225 : decode cL_law 225 = .ok (.iadd, 1) := by decide +kernel
theorem dL_law_226 : decode cL_law 226 = .ok (.iaload, 1) := by decide +kernel
theorem dL_law_227 : decode cL_law 227 = .ok (.invokevirtual 18, 3) := by decide +kernel
theorem dL_law_230 : decode cL_law 230 = .ok (.aload_n 2, 1) := by decide +kernel
theorem dL_law_231 : decode cL_law 231 = .ok (.aload_n 0, 1) := by decide +kernel
theorem dL_law_232 : decode cL_law 232 = .ok (.iload_n 3, 1) := by decide +kernel
theorem dL_law_233 : decode cL_law 233 = .ok (.iconst 1, 1) := by decide +kernel
theorem dL_law_234 : decode cL_law 234 = .ok (.iadd, 1) := by decide +kernel
theorem dL_law_235 : decode cL_law 235 = .ok (.iaload, 1) := by decide +kernel
theorem dL_law_236 : decode cL_law 236 = .ok (.aload_n 0, 1) := by decide +kernel
theorem dL_law_237 : decode cL_law 237 = .ok (.iload_n 3, 1) := by decide +kernel
theorem dL_law_238 : decode cL_law 238 = .ok (.iconst 2, 1) := by decide +kernel
theorem dL_law_239 : decode cL_law 239 = .ok (.iadd, 1) := by decide +kernel
theorem dL_law_240 : decode cL_law 240 = .ok (.iaload, 1) := by decide +kernel
theorem dL_law_241 : decode cL_law 241 = .ok (.aload_n 0, 1) := by decide +kernel
theorem dL_law_242 : decode cL_law 242 = .ok (.iload_n 3, 1) := by decide +kernel
theorem dL_law_243 : decode cL_law 243 = .ok (.iconst 3, 1) := by decide +kernel
theorem dL_law_244 : decode cL_law 244 = .ok (.iadd, 1) := by decide +kernel
theorem dL_law_245 : decode cL_law 245 = .ok (.iaload, 1) := by decide +kernel
theorem dL_law_246 : decode cL_law 246 = .ok (.aload_n 0, 1) := by decide +kernel
theorem dL_law_247 : decode cL_law 247 = .ok (.iload_n 3, 1) := by decide +kernel
theorem dL_law_248 : decode cL_law 248 = .ok (.iconst 4, 1) := by decide +kernel
theorem dL_law_249 : decode cL_law 249 = .ok (.iadd, 1) := by decide +kernel
theorem dL_law_250 : decode cL_law 250 = .ok (.iaload, 1) := by decide +kernel
theorem dL_law_251 : decode cL_law 251 = .ok (.aload_n 0, 1) := by decide +kernel
theorem dL_law_252 : decode cL_law 252 = .ok (.iload_n 3, 1) := by decide +kernel
theorem dL_law_253 : decode cL_law 253 = .ok (.iconst 5, 1) := by decide +kernel
theorem dL_law_254 : decode cL_law 254 = .ok (.iadd, 1) := by decide +kernel
theorem dL_law_255 : decode cL_law 255 = .ok (.iaload, 1) := by decide +kernel
theorem dL_law_256 : decode cL_law 256 = .ok (.invokevirtual 22, 3) := by decide +kernel
theorem dL_law_259 : decode cL_law 259 = .ok (.if_icmp .eq 679, 3) := by decide +kernel
theorem dL_law_262 : decode cL_law 262 = .ok (.iconst 0, 1) := by decide +kernel
theorem dL_law_263 : decode cL_law 263 = .ok (.ireturn, 1) := by decide +kernel
theorem dL_law_264 : decode cL_law 264 = .ok (.aload_n 1, 1) := by decide +kernel
theorem dL_law_265 : decode cL_law 265 = .ok (.aload_n 0, 1) := by decide +kernel
theorem dL_law_266 : decode cL_law 266 = .ok (.iload_n 3, 1) := by decide +kernel
theorem dL_law_267 : decode cL_law 267 = .ok (.iconst 1, 1) := by decide +kernel
theorem dL_law_268 : decode cL_law 268 = .ok (.iadd, 1) := by decide +kernel
theorem dL_law_269 : decode cL_law 269 = .ok (.iaload, 1) := by decide +kernel
theorem dL_law_270 : decode cL_law 270 = .ok (.invokevirtual 23, 3) := by decide +kernel
theorem dL_law_273 : decode cL_law 273 = .ok (.aload_n 2, 1) := by decide +kernel
theorem dL_law_274 : decode cL_law 274 = .ok (.aload_n 0, 1) := by decide +kernel
theorem dL_law_275 : decode cL_law 275 = .ok (.iload_n 3, 1) := by decide +kernel
theorem dL_law_276 : decode cL_law 276 = .ok (.iconst 1, 1) := by decide +kernel
theorem dL_law_277 : decode cL_law 277 = .ok (.iadd, 1) := by decide +kernel
theorem dL_law_278 : decode cL_law 278 = .ok (.iaload, 1) := by decide +kernel
theorem dL_law_279 : decode cL_law 279 = .ok (.invokevirtual 27, 3) := by decide +kernel
theorem dL_law_282 : decode cL_law 282 = .ok (.if_icmp .eq 656, 3) := by decide +kernel
theorem dL_law_285 : decode cL_law 285 = .ok (.iconst 0, 1) := by decide +kernel
theorem dL_law_286 : decode cL_law 286 = .ok (.ireturn, 1) := by decide +kernel
theorem dL_law_287 : decode cL_law 287 = .ok (.aload_n 1, 1) := by decide +kernel
theorem dL_law_288 : decode cL_law 288 = .ok (.aload_n 0, 1) := by decide +kernel
theorem dL_law_289 : decode cL_law 289 = .ok (.iload_n 3, 1) := by decide +kernel
theorem dL_law_290 : decode cL_law 290 = .ok (.iconst 1, 1) := by decide +kernel
theorem dL_law_291 : decode cL_law 291 = .ok (.iadd, 1) := by decide +kernel
theorem dL_law_292 : decode cL_law 292 = .ok (.iaload, 1) := by decide +kernel
theorem dL_law_293 : decode cL_law 293 = .ok (.invokevirtual 28, 3) := by decide +kernel
theorem dL_law_296 : decode cL_law 296 = .ok (.aload_n 2, 1) := by decide +kernel
theorem dL_law_297 : decode cL_law 297 = .ok (.aload_n 0, 1) := by decide +kernel
theorem dL_law_298 : decode cL_law 298 = .ok (.iload_n 3, 1) := by decide +kernel
theorem dL_law_299 : decode cL_law 299 = .ok (.iconst 1, 1) := by decide +kernel
theorem dL_law_300 : decode cL_law 300 = .ok (.iadd, 1) := by decide +kernel
theorem dL_law_301 : decode cL_law 301 = .ok (.iaload, 1) := by decide +kernel
theorem dL_law_302 : decode cL_law 302 = .ok (.invokevirtual 31, 3) := by decide +kernel
theorem dL_law_305 : decode cL_law 305 = .ok (.if_icmp .eq 633, 3) := by decide +kernel
theorem dL_law_308 : decode cL_law 308 = .ok (.iconst 0, 1) := by decide +kernel
theorem dL_law_309 : decode cL_law 309 = .ok (.ireturn, 1) := by decide +kernel
theorem dL_law_310 : decode cL_law 310 = .ok (.aload_n 1, 1) := by decide +kernel
theorem dL_law_311 : decode cL_law 311 = .ok (.aload_n 0, 1) := by decide +kernel
theorem dL_law_312 : decode cL_law 312 = .ok (.iload_n 3, 1) := by decide +kernel
theorem dL_law_313 : decode cL_law 313 = .ok (.iconst 1, 1) := by decide +kernel
theorem dL_law_314 : decode cL_law 314 = .ok (.iadd, 1) := by decide +kernel
theorem dL_law_315 : decode cL_law 315 = .ok (.iaload, 1) := by decide +kernel
theorem dL_law_316 : decode cL_law 316 = .ok (.invokevirtual 32, 3) := by decide +kernel
theorem dL_law_319 : decode cL_law 319 = .ok (.aload_n 2, 1) := by decide +kernel
theorem dL_law_320 : decode cL_law 320 = .ok (.aload_n 0, 1) := by decide +kernel
theorem dL_law_321 : decode cL_law 321 = .ok (.iload_n 3, 1) := by decide +kernel
theorem dL_law_322 : decode cL_law 322 = .ok (.iconst 1, 1) := by decide +kernel
theorem dL_law_323 : decode cL_law 323 = .ok (.iadd, 1) := by decide +kernel
theorem dL_law_324 : decode cL_law 324 = .ok (.iaload, 1) := by decide +kernel
theorem dL_law_325 : decode cL_law 325 = .ok (.invokevirtual 35, 3) := by decide +kernel
theorem dL_law_328 : decode cL_law 328 = .ok (.if_icmp .eq 610, 3) := by decide +kernel
theorem dL_law_331 : decode cL_law 331 = .ok (.iconst 0, 1) := by decide +kernel
theorem dL_law_332 : decode cL_law 332 = .ok (.ireturn, 1) := by decide +kernel
theorem dL_law_333 : decode cL_law 333 = .ok (.aload_n 1, 1) := by decide +kernel
theorem dL_law_334 : decode cL_law 334 = .ok (.aload_n 0, 1) := by decide +kernel
theorem dL_law_335 : decode cL_law 335 = .ok (.iload_n 3, 1) := by decide +kernel
theorem dL_law_336 : decode cL_law 336 = .ok (.iconst 1, 1) := by decide +kernel
theorem dL_law_337 : decode cL_law 337 = .ok (.iadd, 1) := by decide +kernel
theorem dL_law_338 : decode cL_law 338 = .ok (.iaload, 1) := by decide +kernel
theorem dL_law_339 : decode cL_law 339 = .ok (.invokevirtual 36, 3) := by decide +kernel
theorem dL_law_342 : decode cL_law 342 = .ok (.aload_n 2, 1) := by decide +kernel
theorem dL_law_343 : decode cL_law 343 = .ok (.aload_n 0, 1) := by decide +kernel
theorem dL_law_344 : decode cL_law 344 = .ok (.iload_n 3, 1) := by decide +kernel
theorem dL_law_345 : decode cL_law 345 = .ok (.iconst 1, 1) := by decide +kernel
theorem dL_law_346 : decode cL_law 346 = .ok (.iadd, 1) := by decide +kernel
theorem dL_law_347 : decode cL_law 347 = .ok (.iaload, 1) := by decide +kernel
theorem dL_law_348 : decode cL_law 348 = .ok (.invokevirtual 39, 3) := by decide +kernel
theorem dL_law_351 : decode cL_law 351 = .ok (.if_icmp .eq 587, 3) := by decide +kernel
theorem dL_law_354 : decode cL_law 354 = .ok (.iconst 0, 1) := by decide +kernel
theorem dL_law_355 : decode cL_law 355 = .ok (.ireturn, 1) := by decide +kernel
theorem dL_law_356 : decode cL_law 356 = .ok (.aload_n 1, 1) := by decide +kernel
theorem dL_law_357 : decode cL_law 357 = .ok (.invokevirtual 40, 3) := by decide +kernel
theorem dL_law_360 : decode cL_law 360 = .ok (.aload_n 2, 1) := by decide +kernel
theorem dL_law_361 : decode cL_law 361 = .ok (.invokevirtual 44, 3) := by decide +kernel
theorem dL_law_364 : decode cL_law 364 = .ok (.if_icmp .eq 574, 3) := by decide +kernel
theorem dL_law_367 : decode cL_law 367 = .ok (.iconst 0, 1) := by decide +kernel
theorem dL_law_368 : decode cL_law 368 = .ok (.ireturn, 1) := by decide +kernel
theorem dL_law_369 : decode cL_law 369 = .ok (.aload_n 1, 1) := by decide +kernel
theorem dL_law_370 : decode cL_law 370 = .ok (.aload_n 0, 1) := by decide +kernel
theorem dL_law_371 : decode cL_law 371 = .ok (.iload_n 3, 1) := by decide +kernel
theorem dL_law_372 : decode cL_law 372 = .ok (.iconst 1, 1) := by decide +kernel
theorem dL_law_373 : decode cL_law 373 = .ok (.iadd, 1) := by decide +kernel
theorem dL_law_374 : decode cL_law 374 = .ok (.iaload, 1) := by decide +kernel
theorem dL_law_375 : decode cL_law 375 = .ok (.invokevirtual 45, 3) := by decide +kernel
theorem dL_law_378 : decode cL_law 378 = .ok (.aload_n 2, 1) := by decide +kernel
theorem dL_law_379 : decode cL_law 379 = .ok (.aload_n 0, 1) := by decide +kernel
theorem dL_law_380 : decode cL_law 380 = .ok (.iload_n 3, 1) := by decide +kernel
theorem dL_law_381 : decode cL_law 381 = .ok (.iconst 1, 1) := by decide +kernel
theorem dL_law_382 : decode cL_law 382 = .ok (.iadd, 1) := by decide +kernel
theorem dL_law_383 : decode cL_law 383 = .ok (.iaload, 1) := by decide +kernel
theorem dL_law_384 : decode cL_law 384 = .ok (.invokevirtual 48, 3) := by decide +kernel
theorem dL_law_387 : decode cL_law 387 = .ok (.if_icmp .eq 551, 3) := by decide +kernel
theorem dL_law_390 : decode cL_law 390 = .ok (.iconst 0, 1) := by decide +kernel
theorem dL_law_391 : decode cL_law 391 = .ok (.ireturn, 1) := by decide +kernel
theorem dL_law_392 : decode cL_law 392 = .ok (.aload_n 1, 1) := by decide +kernel
theorem dL_law_393 : decode cL_law 393 = .ok (.aload_n 0, 1) := by decide +kernel
theorem dL_law_394 : decode cL_law 394 = .ok (.iload_n 3, 1) := by decide +kernel
theorem dL_law_395 : decode cL_law 395 = .ok (.iconst 1, 1) := by decide +kernel
theorem dL_law_396 : decode cL_law 396 = .ok (.iadd, 1) := by decide +kernel
theorem dL_law_397 : decode cL_law 397 = .ok (.iaload, 1) := by decide +kernel
theorem dL_law_398 : decode cL_law 398 = .ok (.invokevirtual 49, 3) := by decide +kernel
theorem dL_law_401 : decode cL_law 401 = .ok (.aload_n 2, 1) := by decide +kernel
theorem dL_law_402 : decode cL_law 402 = .ok (.aload_n 0, 1) := by decide +kernel
theorem dL_law_403 : decode cL_law 403 = .ok (.iload_n 3, 1) := by decide +kernel
theorem dL_law_404 : decode cL_law 404 = .ok (.iconst 1, 1) := by decide +kernel
theorem dL_law_405 : decode cL_law 405 = .ok (.iadd, 1) := by decide +kernel
theorem dL_law_406 : decode cL_law 406 = .ok (.iaload, 1) := by decide +kernel
theorem dL_law_407 : decode cL_law 407 = .ok (.invokevirtual 52, 3) := by decide +kernel
theorem dL_law_410 : decode cL_law 410 = .ok (.if_icmp .eq 528, 3) := by decide +kernel
theorem dL_law_413 : decode cL_law 413 = .ok (.iconst 0, 1) := by decide +kernel
theorem dL_law_414 : decode cL_law 414 = .ok (.ireturn, 1) := by decide +kernel
theorem dL_law_415 : decode cL_law 415 = .ok (.aload_n 1, 1) := by decide +kernel
theorem dL_law_416 : decode cL_law 416 = .ok (.aload_n 0, 1) := by decide +kernel
theorem dL_law_417 : decode cL_law 417 = .ok (.iload_n 3, 1) := by decide +kernel
theorem dL_law_418 : decode cL_law 418 = .ok (.iconst 1, 1) := by decide +kernel
theorem dL_law_419 : decode cL_law 419 = .ok (.iadd, 1) := by decide +kernel
theorem dL_law_420 : decode cL_law 420 = .ok (.iaload, 1) := by decide +kernel
theorem dL_law_421 : decode cL_law 421 = .ok (.aload_n 0, 1) := by decide +kernel
theorem dL_law_422 : decode cL_law 422 = .ok (.iload_n 3, 1) := by decide +kernel
theorem dL_law_423 : decode cL_law 423 = .ok (.iconst 2, 1) := by decide +kernel
theorem dL_law_424 : decode cL_law 424 = .ok (.iadd, 1) := by decide +kernel
theorem dL_law_425 : decode cL_law 425 = .ok (.iaload, 1) := by decide +kernel
theorem dL_law_426 : decode cL_law 426 = .ok (.aload_n 0, 1) := by decide +kernel
theorem dL_law_427 : decode cL_law 427 = .ok (.iload_n 3, 1) := by decide +kernel
theorem dL_law_428 : decode cL_law 428 = .ok (.iconst 3, 1) := by decide +kernel
theorem dL_law_429 : decode cL_law 429 = .ok (.iadd, 1) := by decide +kernel
theorem dL_law_430 : decode cL_law 430 = .ok (.iaload, 1) := by decide +kernel
theorem dL_law_431 : decode cL_law 431 = .ok (.invokevirtual 53, 3) := by decide +kernel
theorem dL_law_434 : decode cL_law 434 = .ok (.aload_n 2, 1) := by decide +kernel
theorem dL_law_435 : decode cL_law 435 = .ok (.aload_n 0, 1) := by decide +kernel
theorem dL_law_436 : decode cL_law 436 = .ok (.iload_n 3, 1) := by decide +kernel
theorem dL_law_437 : decode cL_law 437 = .ok (.iconst 1, 1) := by decide +kernel
theorem dL_law_438 : decode cL_law 438 = .ok (.iadd, 1) := by decide +kernel
theorem dL_law_439 : decode cL_law 439 = .ok (.iaload, 1) := by decide +kernel
theorem dL_law_440 : decode cL_law 440 = .ok (.aload_n 0, 1) := by decide +kernel
theorem dL_law_441 : decode cL_law 441 = .ok (.iload_n 3, 1) := by decide +kernel
theorem dL_law_442 : decode cL_law 442 = .ok (.iconst 2, 1) := by decide +kernel
theorem dL_law_443 : decode cL_law 443 = .ok (.iadd, 1) := by decide +kernel
theorem dL_law_444 : decode cL_law 444 = .ok (.iaload, 1) := by decide +kernel
theorem dL_law_445 : decode cL_law 445 = .ok (.aload_n 0, 1) := by decide +kernel
theorem dL_law_446 : decode cL_law 446 = .ok (.iload_n 3, 1) := by decide +kernel
theorem dL_law_447 : decode cL_law 447 = .ok (.iconst 3, 1) := by decide +kernel
theorem dL_law_448 : decode cL_law 448 = .ok (.iadd, 1) := by decide +kernel
theorem dL_law_449 : decode cL_law 449 = .ok (.iaload, 1) := by decide +kernel
theorem dL_law_450 : decode cL_law 450 = .ok (.invokevirtual 57, 3) := by decide +kernel
theorem dL_law_453 : decode cL_law 453 = .ok (.if_icmp .eq 485, 3) := by decide +kernel
theorem dL_law_456 : decode cL_law 456 = .ok (.iconst 0, 1) := by decide +kernel
theorem dL_law_457 : decode cL_law 457 = .ok (.ireturn, 1) := by decide +kernel
theorem dL_law_458 : decode cL_law 458 = .ok (.aload_n 1, 1) := by decide +kernel
theorem dL_law_459 : decode cL_law 459 = .ok (.aload_n 0, 1) := by decide +kernel
theorem dL_law_460 : decode cL_law 460 = .ok (.iload_n 3, 1) := by decide +kernel
theorem dL_law_461 : decode cL_law 461 = .ok (.iconst 1, 1) := by decide +kernel
theorem dL_law_462 : decode cL_law 462 = .ok (.iadd, 1) := by decide +kernel
theorem dL_law_463 : decode cL_law 463 = .ok (.iaload, 1) := by decide +kernel
theorem dL_law_464 : decode cL_law 464 = .ok (.invokevirtual 58, 3) := by decide +kernel
theorem dL_law_467 : decode cL_law 467 = .ok (.aload_n 2, 1) := by decide +kernel
theorem dL_law_468 : decode cL_law 468 = .ok (.aload_n 0, 1) := by decide +kernel
theorem dL_law_469 : decode cL_law 469 = .ok (.iload_n 3, 1) := by decide +kernel
theorem dL_law_470 : decode cL_law 470 = .ok (.iconst 1, 1) := by decide +kernel
theorem dL_law_471 : decode cL_law 471 = .ok (.iadd, 1) := by decide +kernel
theorem dL_law_472 : decode cL_law 472 = .ok (.iaload, 1) := by decide +kernel
theorem dL_law_473 : decode cL_law 473 = .ok (.invokevirtual 61, 3) := by decide +kernel
theorem dL_law_476 : decode cL_law 476 = .ok (.if_icmp .eq 462, 3) := by decide +kernel
theorem dL_law_479 : decode cL_law 479 = .ok (.iconst 0, 1) := by decide +kernel
theorem dL_law_480 : decode cL_law 480 = .ok (.ireturn, 1) := by decide +kernel
theorem dL_law_481 : decode cL_law 481 = .ok (.aload_n 1, 1) := by decide +kernel
theorem dL_law_482 : decode cL_law 482 = .ok (.invokevirtual 62, 3) := by decide +kernel
theorem dL_law_485 : decode cL_law 485 = .ok (.aload_n 2, 1) := by decide +kernel
theorem dL_law_486 : decode cL_law 486 = .ok (.invokevirtual 65, 3) := by decide +kernel
theorem dL_law_489 : decode cL_law 489 = .ok (.if_icmp .eq 449, 3) := by decide +kernel
theorem dL_law_492 : decode cL_law 492 = .ok (.iconst 0, 1) := by decide +kernel
theorem dL_law_493 : decode cL_law 493 = .ok (.ireturn, 1) := by decide +kernel
theorem dL_law_494 : decode cL_law 494 = .ok (.aload_n 1, 1) := by decide +kernel
theorem dL_law_495 : decode cL_law 495 = .ok (.invokevirtual 66, 3) := by decide +kernel
theorem dL_law_498 : decode cL_law 498 = .ok (.aload_n 2, 1) := by decide +kernel
theorem dL_law_499 : decode cL_law 499 = .ok (.invokevirtual 69, 3) := by decide +kernel
theorem dL_law_502 : decode cL_law 502 = .ok (.if_icmp .eq 436, 3) := by decide +kernel
theorem dL_law_505 : decode cL_law 505 = .ok (.iconst 0, 1) := by decide +kernel
theorem dL_law_506 : decode cL_law 506 = .ok (.ireturn, 1) := by decide +kernel
theorem dL_law_507 : decode cL_law 507 = .ok (.aload_n 1, 1) := by decide +kernel
theorem dL_law_508 : decode cL_law 508 = .ok (.aload_n 0, 1) := by decide +kernel
theorem dL_law_509 : decode cL_law 509 = .ok (.iload_n 3, 1) := by decide +kernel
theorem dL_law_510 : decode cL_law 510 = .ok (.iconst 1, 1) := by decide +kernel
theorem dL_law_511 : decode cL_law 511 = .ok (.iadd, 1) := by decide +kernel
theorem dL_law_512 : decode cL_law 512 = .ok (.iaload, 1) := by decide +kernel
theorem dL_law_513 : decode cL_law 513 = .ok (.invokevirtual 70, 3) := by decide +kernel
theorem dL_law_516 : decode cL_law 516 = .ok (.aload_n 2, 1) := by decide +kernel
theorem dL_law_517 : decode cL_law 517 = .ok (.aload_n 0, 1) := by decide +kernel
theorem dL_law_518 : decode cL_law 518 = .ok (.iload_n 3, 1) := by decide +kernel
theorem dL_law_519 : decode cL_law 519 = .ok (.iconst 1, 1) := by decide +kernel
theorem dL_law_520 : decode cL_law 520 = .ok (.iadd, 1) := by decide +kernel
theorem dL_law_521 : decode cL_law 521 = .ok (.iaload, 1) := by decide +kernel
theorem dL_law_522 : decode cL_law 522 = .ok (.invokevirtual 73, 3) := by decide +kernel
theorem dL_law_525 : decode cL_law 525 = .ok (.if_icmp .eq 413, 3) := by decide +kernel
theorem dL_law_528 : decode cL_law 528 = .ok (.iconst 0, 1) := by decide +kernel
theorem dL_law_529 : decode cL_law 529 = .ok (.ireturn, 1) := by decide +kernel
theorem dL_law_530 : decode cL_law 530 = .ok (.aload_n 1, 1) := by decide +kernel
theorem dL_law_531 : decode cL_law 531 = .ok (.invokevirtual 74, 3) := by decide +kernel
theorem dL_law_534 : decode cL_law 534 = .ok (.aload_n 2, 1) := by decide +kernel
theorem dL_law_535 : decode cL_law 535 = .ok (.invokevirtual 77, 3) := by decide +kernel
theorem dL_law_538 : decode cL_law 538 = .ok (.if_icmp .eq 400, 3) := by decide +kernel
theorem dL_law_541 : decode cL_law 541 = .ok (.iconst 0, 1) := by decide +kernel
theorem dL_law_542 : decode cL_law 542 = .ok (.ireturn, 1) := by decide +kernel
theorem dL_law_543 : decode cL_law 543 = .ok (.aload_n 1, 1) := by decide +kernel
theorem dL_law_544 : decode cL_law 544 = .ok (.invokevirtual 78, 3) := by decide +kernel
theorem dL_law_547 : decode cL_law 547 = .ok (.aload_n 2, 1) := by decide +kernel
theorem dL_law_548 : decode cL_law 548 = .ok (.invokevirtual 81, 3) := by decide +kernel
theorem dL_law_551 : decode cL_law 551 = .ok (.if_icmp .eq 387, 3) := by decide +kernel
theorem dL_law_554 : decode cL_law 554 = .ok (.iconst 0, 1) := by decide +kernel
theorem dL_law_555 : decode cL_law 555 = .ok (.ireturn, 1) := by decide +kernel
theorem dL_law_556 : decode cL_law 556 = .ok (.aload_n 1, 1) := by decide +kernel
theorem dL_law_557 : decode cL_law 557 = .ok (.aload_n 0, 1) := by decide +kernel
theorem dL_law_558 : decode cL_law 558 = .ok (.iload_n 3, 1) := by decide +kernel
theorem dL_law_559 : decode cL_law 559 = .ok (.iconst 1, 1) := by decide +kernel
theorem dL_law_560 : decode cL_law 560 = .ok (.iadd, 1) := by decide +kernel
theorem dL_law_561 : decode cL_law 561 = .ok (.iaload, 1) := by decide +kernel
theorem dL_law_562 : decode cL_law 562 = .ok (.invokevirtual 82, 3) := by decide +kernel
theorem dL_law_565 : decode cL_law 565 = .ok (.aload_n 2, 1) := by decide +kernel
theorem dL_law_566 : decode cL_law 566 = .ok (.aload_n 0, 1) := by decide +kernel
theorem dL_law_567 : decode cL_law 567 = .ok (.iload_n 3, 1) := by decide +kernel
theorem dL_law_568 : decode cL_law 568 = .ok (.iconst 1, 1) := by decide +kernel
theorem dL_law_569 : decode cL_law 569 = .ok (.iadd, 1) := by decide +kernel
theorem dL_law_570 : decode cL_law 570 = .ok (.iaload, 1) := by decide +kernel
theorem dL_law_571 : decode cL_law 571 = .ok (.invokevirtual 85, 3) := by decide +kernel
theorem dL_law_574 : decode cL_law 574 = .ok (.if_icmp .eq 364, 3) := by decide +kernel
theorem dL_law_577 : decode cL_law 577 = .ok (.iconst 0, 1) := by decide +kernel
theorem dL_law_578 : decode cL_law 578 = .ok (.ireturn, 1) := by decide +kernel
theorem dL_law_579 : decode cL_law 579 = .ok (.aload_n 1, 1) := by decide +kernel
theorem dL_law_580 : decode cL_law 580 = .ok (.invokevirtual 86, 3) := by decide +kernel
theorem dL_law_583 : decode cL_law 583 = .ok (.aload_n 2, 1) := by decide +kernel
theorem dL_law_584 : decode cL_law 584 = .ok (.invokevirtual 89, 3) := by decide +kernel
theorem dL_law_587 : decode cL_law 587 = .ok (.if_icmp .eq 351, 3) := by decide +kernel
theorem dL_law_590 : decode cL_law 590 = .ok (.iconst 0, 1) := by decide +kernel
theorem dL_law_591 : decode cL_law 591 = .ok (.ireturn, 1) := by decide +kernel
theorem dL_law_592 : decode cL_law 592 = .ok (.aload_n 1, 1) := by decide +kernel
theorem dL_law_593 : decode cL_law 593 = .ok (.aload_n 0, 1) := by decide +kernel
theorem dL_law_594 : decode cL_law 594 = .ok (.iload_n 3, 1) := by decide +kernel
theorem dL_law_595 : decode cL_law 595 = .ok (.iconst 1, 1) := by decide +kernel
theorem dL_law_596 : decode cL_law 596 = .ok (.iadd, 1) := by decide +kernel
theorem dL_law_597 : decode cL_law 597 = .ok (.iaload, 1) := by decide +kernel
theorem dL_law_598 : decode cL_law 598 = .ok (.aload_n 0, 1) := by decide +kernel
theorem dL_law_599 : decode cL_law 599 = .ok (.iload_n 3, 1) := by decide +kernel
theorem dL_law_600 : decode cL_law 600 = .ok (.iconst 2, 1) := by decide +kernel
theorem dL_law_601 : decode cL_law 601 = .ok (.iadd, 1) := by decide +kernel
theorem dL_law_602 : decode cL_law 602 = .ok (.iaload, 1) := by decide +kernel
theorem dL_law_603 : decode cL_law 603 = .ok (.invokevirtual 90, 3) := by decide +kernel
theorem dL_law_606 : decode cL_law 606 = .ok (.aload_n 2, 1) := by decide +kernel
theorem dL_law_607 : decode cL_law 607 = .ok (.aload_n 0, 1) := by decide +kernel
theorem dL_law_608 : decode cL_law 608 = .ok (.iload_n 3, 1) := by decide +kernel
theorem dL_law_609 : decode cL_law 609 = .ok (.iconst 1, 1) := by decide +kernel
theorem dL_law_610 : decode cL_law 610 = .ok (.iadd, 1) := by decide +kernel
theorem dL_law_611 : decode cL_law 611 = .ok (.iaload, 1) := by decide +kernel
theorem dL_law_612 : decode cL_law 612 = .ok (.aload_n 0, 1) := by decide +kernel
theorem dL_law_613 : decode cL_law 613 = .ok (.iload_n 3, 1) := by decide +kernel
theorem dL_law_614 : decode cL_law 614 = .ok (.iconst 2, 1) := by decide +kernel
theorem dL_law_615 : decode cL_law 615 = .ok (.iadd, 1) := by decide +kernel
theorem dL_law_616 : decode cL_law 616 = .ok (.iaload, 1) := by decide +kernel
theorem dL_law_617 : decode cL_law 617 = .ok (.invokevirtual 93, 3) := by decide +kernel
theorem dL_law_620 : decode cL_law 620 = .ok (.if_icmp .eq 318, 3) := by decide +kernel
theorem dL_law_623 : decode cL_law 623 = .ok (.iconst 0, 1) := by decide +kernel
theorem dL_law_624 : decode cL_law 624 = .ok (.ireturn, 1) := by decide +kernel
theorem dL_law_625 : decode cL_law 625 = .ok (.aload_n 1, 1) := by decide +kernel
theorem dL_law_626 : decode cL_law 626 = .ok (.aload_n 0, 1) := by decide +kernel
theorem dL_law_627 : decode cL_law 627 = .ok (.iload_n 3, 1) := by decide +kernel
theorem dL_law_628 : decode cL_law 628 = .ok (.iconst 1, 1) := by decide +kernel
theorem dL_law_629 : decode cL_law 629 = .ok (.iadd, 1) := by decide +kernel
theorem dL_law_630 : decode cL_law 630 = .ok (.iaload, 1) := by decide +kernel
theorem dL_law_631 : decode cL_law 631 = .ok (.invokevirtual 94, 3) := by decide +kernel
theorem dL_law_634 : decode cL_law 634 = .ok (.aload_n 2, 1) := by decide +kernel
theorem dL_law_635 : decode cL_law 635 = .ok (.aload_n 0, 1) := by decide +kernel
theorem dL_law_636 : decode cL_law 636 = .ok (.iload_n 3, 1) := by decide +kernel
theorem dL_law_637 : decode cL_law 637 = .ok (.iconst 1, 1) := by decide +kernel
theorem dL_law_638 : decode cL_law 638 = .ok (.iadd, 1) := by decide +kernel
theorem dL_law_639 : decode cL_law 639 = .ok (.iaload, 1) := by decide +kernel
theorem dL_law_640 : decode cL_law 640 = .ok (.invokevirtual 97, 3) := by decide +kernel
theorem dL_law_643 : decode cL_law 643 = .ok (.if_icmp .eq 295, 3) := by decide +kernel
theorem dL_law_646 : decode cL_law 646 = .ok (.iconst 0, 1) := by decide +kernel
theorem dL_law_647 : decode cL_law 647 = .ok (.ireturn, 1) := by decide +kernel
theorem dL_law_648 : decode cL_law 648 = .ok (.aload_n 1, 1) := by decide +kernel
theorem dL_law_649 : decode cL_law 649 = .ok (.aload_n 0, 1) := by decide +kernel
theorem dL_law_650 : decode cL_law 650 = .ok (.iload_n 3, 1) := by decide +kernel
theorem dL_law_651 : decode cL_law 651 = .ok (.iconst 1, 1) := by decide +kernel
theorem dL_law_652 : decode cL_law 652 = .ok (.iadd, 1) := by decide +kernel
theorem dL_law_653 : decode cL_law 653 = .ok (.iaload, 1) := by decide +kernel
theorem dL_law_654 : decode cL_law 654 = .ok (.aload_n 0, 1) := by decide +kernel
theorem dL_law_655 : decode cL_law 655 = .ok (.iload_n 3, 1) := by decide +kernel
theorem dL_law_656 : decode cL_law 656 = .ok (.iconst 2, 1) := by decide +kernel
theorem dL_law_657 : decode cL_law 657 = .ok (.iadd, 1) := by decide +kernel
theorem dL_law_658 : decode cL_law 658 = .ok (.iaload, 1) := by decide +kernel
theorem dL_law_659 : decode cL_law 659 = .ok (.invokevirtual 98, 3) := by decide +kernel
theorem dL_law_662 : decode cL_law 662 = .ok (.aload_n 2, 1) := by decide +kernel
theorem dL_law_663 : decode cL_law 663 = .ok (.aload_n 0, 1) := by decide +kernel
theorem dL_law_664 : decode cL_law 664 = .ok (.iload_n 3, 1) := by decide +kernel
theorem dL_law_665 : decode cL_law 665 = .ok (.iconst 1, 1) := by decide +kernel
theorem dL_law_666 : decode cL_law 666 = .ok (.iadd, 1) := by decide +kernel
theorem dL_law_667 : decode cL_law 667 = .ok (.iaload, 1) := by decide +kernel
theorem dL_law_668 : decode cL_law 668 = .ok (.aload_n 0, 1) := by decide +kernel
theorem dL_law_669 : decode cL_law 669 = .ok (.iload_n 3, 1) := by decide +kernel
theorem dL_law_670 : decode cL_law 670 = .ok (.iconst 2, 1) := by decide +kernel
theorem dL_law_671 : decode cL_law 671 = .ok (.iadd, 1) := by decide +kernel
theorem dL_law_672 : decode cL_law 672 = .ok (.iaload, 1) := by decide +kernel
theorem dL_law_673 : decode cL_law 673 = .ok (.invokevirtual 101, 3) := by decide +kernel
theorem dL_law_676 : decode cL_law 676 = .ok (.if_icmp .eq 262, 3) := by decide +kernel
theorem dL_law_679 : decode cL_law 679 = .ok (.iconst 0, 1) := by decide +kernel
theorem dL_law_680 : decode cL_law 680 = .ok (.ireturn, 1) := by decide +kernel
theorem dL_law_681 : decode cL_law 681 = .ok (.aload_n 1, 1) := by decide +kernel
theorem dL_law_682 : decode cL_law 682 = .ok (.aload_n 0, 1) := by decide +kernel
theorem dL_law_683 : decode cL_law 683 = .ok (.iload_n 3, 1) := by decide +kernel
theorem dL_law_684 : decode cL_law 684 = .ok (.iconst 1, 1) := by decide +kernel
theorem dL_law_685 : decode cL_law 685 = .ok (.iadd, 1) := by decide +kernel
theorem dL_law_686 : decode cL_law 686 = .ok (.iaload, 1) := by decide +kernel
theorem dL_law_687 : decode cL_law 687 = .ok (.aload_n 0, 1) := by decide +kernel
theorem dL_law_688 : decode cL_law 688 = .ok (.iload_n 3, 1) := by decide +kernel
theorem dL_law_689 : decode cL_law 689 = .ok (.iconst 2, 1) := by decide +kernel
theorem dL_law_690 : decode cL_law 690 = .ok (.iadd, 1) := by decide +kernel
theorem dL_law_691 : decode cL_law 691 = .ok (.iaload, 1) := by decide +kernel
theorem dL_law_692 : decode cL_law 692 = .ok (.invokevirtual 102, 3) := by decide +kernel
theorem dL_law_695 : decode cL_law 695 = .ok (.aload_n 2, 1) := by decide +kernel
theorem dL_law_696 : decode cL_law 696 = .ok (.aload_n 0, 1) := by decide +kernel
theorem dL_law_697 : decode cL_law 697 = .ok (.iload_n 3, 1) := by decide +kernel
theorem dL_law_698 : decode cL_law 698 = .ok (.iconst 1, 1) := by decide +kernel
theorem dL_law_699 : decode cL_law 699 = .ok (.iadd, 1) := by decide +kernel
theorem dL_law_700 : decode cL_law 700 = .ok (.iaload, 1) := by decide +kernel
theorem dL_law_701 : decode cL_law 701 = .ok (.aload_n 0, 1) := by decide +kernel
theorem dL_law_702 : decode cL_law 702 = .ok (.iload_n 3, 1) := by decide +kernel
theorem dL_law_703 : decode cL_law 703 = .ok (.iconst 2, 1) := by decide +kernel
theorem dL_law_704 : decode cL_law 704 = .ok (.iadd, 1) := by decide +kernel
theorem dL_law_705 : decode cL_law 705 = .ok (.iaload, 1) := by decide +kernel
theorem dL_law_706 : decode cL_law 706 = .ok (.invokevirtual 105, 3) := by decide +kernel
theorem dL_law_709 : decode cL_law 709 = .ok (.if_icmp .eq 229, 3) := by decide +kernel
theorem dL_law_712 : decode cL_law 712 = .ok (.iconst 0, 1) := by decide +kernel
theorem dL_law_713 : decode cL_law 713 = .ok (.ireturn, 1) := by decide +kernel
theorem dL_law_714 : decode cL_law 714 = .ok (.aload_n 1, 1) := by decide +kernel
theorem dL_law_715 : decode cL_law 715 = .ok (.aload_n 0, 1) := by decide +kernel
theorem dL_law_716 : decode cL_law 716 = .ok (.iload_n 3, 1) := by decide +kernel
theorem dL_law_717 : decode cL_law 717 = .ok (.iconst 1, 1) := by decide +kernel
theorem dL_law_718 : decode cL_law 718 = .ok (.iadd, 1) := by decide +kernel
theorem dL_law_719 : decode cL_law 719 = .ok (.iaload, 1) := by decide +kernel
theorem dL_law_720 : decode cL_law 720 = .ok (.aload_n 0, 1) := by decide +kernel
theorem dL_law_721 : decode cL_law 721 = .ok (.iload_n 3, 1) := by decide +kernel
theorem dL_law_722 : decode cL_law 722 = .ok (.iconst 2, 1) := by decide +kernel
theorem dL_law_723 : decode cL_law 723 = .ok (.iadd, 1) := by decide +kernel
theorem dL_law_724 : decode cL_law 724 = .ok (.iaload, 1) := by decide +kernel
theorem dL_law_725 : decode cL_law 725 = .ok (.aload_n 0, 1) := by decide +kernel
theorem dL_law_726 : decode cL_law 726 = .ok (.iload_n 3, 1) := by decide +kernel
theorem dL_law_727 : decode cL_law 727 = .ok (.iconst 3, 1) := by decide +kernel
theorem dL_law_728 : decode cL_law 728 = .ok (.iadd, 1) := by decide +kernel
theorem dL_law_729 : decode cL_law 729 = .ok (.iaload, 1) := by decide +kernel
theorem dL_law_730 : decode cL_law 730 = .ok (.invokevirtual 106, 3) := by decide +kernel
theorem dL_law_733 : decode cL_law 733 = .ok (.aload_n 2, 1) := by decide +kernel
theorem dL_law_734 : decode cL_law 734 = .ok (.aload_n 0, 1) := by decide +kernel
theorem dL_law_735 : decode cL_law 735 = .ok (.iload_n 3, 1) := by decide +kernel
theorem dL_law_736 : decode cL_law 736 = .ok (.iconst 1, 1) := by decide +kernel
theorem dL_law_737 : decode cL_law 737 = .ok (.iadd, 1) := by decide +kernel
theorem dL_law_738 : decode cL_law 738 = .ok (.iaload, 1) := by decide +kernel
theorem dL_law_739 : decode cL_law 739 = .ok (.aload_n 0, 1) := by decide +kernel
theorem dL_law_740 : decode cL_law 740 = .ok (.iload_n 3, 1) := by decide +kernel
theorem dL_law_741 : decode cL_law 741 = .ok (.iconst 2, 1) := by decide +kernel
theorem dL_law_742 : decode cL_law 742 = .ok (.iadd, 1) := by decide +kernel
theorem dL_law_743 : decode cL_law 743 = .ok (.iaload, 1) := by decide +kernel
theorem dL_law_744 : decode cL_law 744 = .ok (.aload_n 0, 1) := by decide +kernel
theorem dL_law_745 : decode cL_law 745 = .ok (.iload_n 3, 1) := by decide +kernel
theorem dL_law_746 : decode cL_law 746 = .ok (.iconst 3, 1) := by decide +kernel
theorem dL_law_747 : decode cL_law 747 = .ok (.iadd, 1) := by decide +kernel
theorem dL_law_748 : decode cL_law 748 = .ok (.iaload, 1) := by decide +kernel
theorem dL_law_749 : decode cL_law 749 = .ok (.invokevirtual 109, 3) := by decide +kernel
theorem dL_law_752 : decode cL_law 752 = .ok (.if_icmp .eq 186, 3) := by decide +kernel
theorem dL_law_755 : decode cL_law 755 = .ok (.iconst 0, 1) := by decide +kernel
theorem dL_law_756 : decode cL_law 756 = .ok (.ireturn, 1) := by decide +kernel
theorem dL_law_757 : decode cL_law 757 = .ok (.aload_n 1, 1) := by decide +kernel
theorem dL_law_758 : decode cL_law 758 = .ok (.aload_n 0, 1) := by decide +kernel
theorem dL_law_759 : decode cL_law 759 = .ok (.iload_n 3, 1) := by decide +kernel
theorem dL_law_760 : decode cL_law 760 = .ok (.iconst 1, 1) := by decide +kernel
theorem dL_law_761 : decode cL_law 761 = .ok (.iadd, 1) := by decide +kernel
theorem dL_law_762 : decode cL_law 762 = .ok (.iaload, 1) := by decide +kernel
theorem dL_law_763 : decode cL_law 763 = .ok (.aload_n 0, 1) := by decide +kernel
theorem dL_law_764 : decode cL_law 764 = .ok (.iload_n 3, 1) := by decide +kernel
theorem dL_law_765 : decode cL_law 765 = .ok (.iconst 2, 1) := by decide +kernel
theorem dL_law_766 : decode cL_law 766 = .ok (.iadd, 1) := by decide +kernel
theorem dL_law_767 : decode cL_law 767 = .ok (.iaload, 1) := by decide +kernel
theorem dL_law_768 : decode cL_law 768 = .ok (.aload_n 0, 1) := by decide +kernel
theorem dL_law_769 : decode cL_law 769 = .ok (.iload_n 3, 1) := by decide +kernel
theorem dL_law_770 : decode cL_law 770 = .ok (.iconst 3, 1) := by decide +kernel
theorem dL_law_771 : decode cL_law 771 = .ok (.iadd, 1) := by decide +kernel
theorem dL_law_772 : decode cL_law 772 = .ok (.iaload, 1) := by decide +kernel
theorem dL_law_773 : decode cL_law 773 = .ok (.invokevirtual 110, 3) := by decide +kernel
theorem dL_law_776 : decode cL_law 776 = .ok (.aload_n 2, 1) := by decide +kernel
theorem dL_law_777 : decode cL_law 777 = .ok (.aload_n 0, 1) := by decide +kernel
theorem dL_law_778 : decode cL_law 778 = .ok (.iload_n 3, 1) := by decide +kernel
theorem dL_law_779 : decode cL_law 779 = .ok (.iconst 1, 1) := by decide +kernel
theorem dL_law_780 : decode cL_law 780 = .ok (.iadd, 1) := by decide +kernel
theorem dL_law_781 : decode cL_law 781 = .ok (.iaload, 1) := by decide +kernel
theorem dL_law_782 : decode cL_law 782 = .ok (.aload_n 0, 1) := by decide +kernel
theorem dL_law_783 : decode cL_law 783 = .ok (.iload_n 3, 1) := by decide +kernel
theorem dL_law_784 : decode cL_law 784 = .ok (.iconst 2, 1) := by decide +kernel
theorem dL_law_785 : decode cL_law 785 = .ok (.iadd, 1) := by decide +kernel
theorem dL_law_786 : decode cL_law 786 = .ok (.iaload, 1) := by decide +kernel
theorem dL_law_787 : decode cL_law 787 = .ok (.aload_n 0, 1) := by decide +kernel
theorem dL_law_788 : decode cL_law 788 = .ok (.iload_n 3, 1) := by decide +kernel
theorem dL_law_789 : decode cL_law 789 = .ok (.iconst 3, 1) := by decide +kernel
theorem dL_law_790 : decode cL_law 790 = .ok (.iadd, 1) := by decide +kernel
theorem dL_law_791 : decode cL_law 791 = .ok (.iaload, 1) := by decide +kernel
theorem dL_law_792 : decode cL_law 792 = .ok (.invokevirtual 113, 3) := by decide +kernel
theorem dL_law_795 : decode cL_law 795 = .ok (.if_icmp .eq 143, 3) := by decide +kernel
theorem dL_law_798 : decode cL_law 798 = .ok (.iconst 0, 1) := by decide +kernel
theorem dL_law_799 : decode cL_law 799 = .ok (.ireturn, 1) := by decide +kernel
theorem dL_law_800 : decode cL_law 800 = .ok (.aload_n 1, 1) := by decide +kernel
theorem dL_law_801 : decode cL_law 801 = .ok (.aload_n 0, 1) := by decide +kernel
theorem dL_law_802 : decode cL_law 802 = .ok (.iload_n 3, 1) := by decide +kernel
theorem dL_law_803 : decode cL_law 803 = .ok (.iconst 1, 1) := by decide +kernel
theorem dL_law_804 : decode cL_law 804 = .ok (.iadd, 1) := by decide +kernel
theorem dL_law_805 : decode cL_law 805 = .ok (.iaload, 1) := by decide +kernel
theorem dL_law_806 : decode cL_law 806 = .ok (.invokevirtual 114, 3) := by decide +kernel
theorem dL_law_809 : decode cL_law 809 = .ok (.aload_n 2, 1) := by decide +kernel
theorem dL_law_810 : decode cL_law 810 = .ok (.aload_n 0, 1) := by decide +kernel
theorem dL_law_811 : decode cL_law 811 = .ok (.iload_n 3, 1) := by decide +kernel
theorem dL_law_812 : decode cL_law 812 = .ok (.iconst 1, 1) := by decide +kernel
theorem dL_law_813 : decode cL_law 813 = .ok (.iadd, 1) := by decide +kernel
theorem dL_law_814 : decode cL_law 814 = .ok (.iaload, 1) := by decide +kernel
theorem dL_law_815 : decode cL_law 815 = .ok (.invokevirtual 117, 3) := by decide +kernel
theorem dL_law_818 : decode cL_law 818 = .ok (.if_icmp .eq 120, 3) := by decide +kernel
theorem dL_law_821 : decode cL_law 821 = .ok (.iconst 0, 1) := by decide +kernel
theorem dL_law_822 : decode cL_law 822 = .ok (.ireturn, 1) := by decide +kernel
theorem dL_law_823 : decode cL_law 823 = .ok (.aload_n 1, 1) := by decide +kernel
theorem dL_law_824 : decode cL_law 824 = .ok (.aload_n 0, 1) := by decide +kernel
theorem dL_law_825 : decode cL_law 825 = .ok (.iload_n 3, 1) := by decide +kernel
theorem dL_law_826 : decode cL_law 826 = .ok (.iconst 1, 1) := by decide +kernel
theorem dL_law_827 : decode cL_law 827 = .ok (.iadd, 1) := by decide +kernel
theorem dL_law_828 : decode cL_law 828 = .ok (.iaload, 1) := by decide +kernel
theorem dL_law_829 : decode cL_law 829 = .ok (.aload_n 0, 1) := by decide +kernel
theorem dL_law_830 : decode cL_law 830 = .ok (.iload_n 3, 1) := by decide +kernel
theorem dL_law_831 : decode cL_law 831 = .ok (.iconst 2, 1) := by decide +kernel
theorem dL_law_832 : decode cL_law 832 = .ok (.iadd, 1) := by decide +kernel
theorem dL_law_833 : decode cL_law 833 = .ok (.iaload, 1) := by decide +kernel
theorem dL_law_834 : decode cL_law 834 = .ok (.invokevirtual 118, 3) := by decide +kernel
theorem dL_law_837 : decode cL_law 837 = .ok (.aload_n 2, 1) := by decide +kernel
theorem dL_law_838 : decode cL_law 838 = .ok (.aload_n 0, 1) := by decide +kernel
theorem dL_law_839 : decode cL_law 839 = .ok (.iload_n 3, 1) := by decide +kernel
theorem dL_law_840 : decode cL_law 840 = .ok (.iconst 1, 1) := by decide +kernel
theorem dL_law_841 : decode cL_law 841 = .ok (.iadd, 1) := by decide +kernel
theorem dL_law_842 : decode cL_law 842 = .ok (.iaload, 1) := by decide +kernel
theorem dL_law_843 : decode cL_law 843 = .ok (.aload_n 0, 1) := by decide +kernel
theorem dL_law_844 : decode cL_law 844 = .ok (.iload_n 3, 1) := by decide +kernel
theorem dL_law_845 : decode cL_law 845 = .ok (.iconst 2, 1) := by decide +kernel
theorem dL_law_846 : decode cL_law 846 = .ok (.iadd, 1) := by decide +kernel
theorem dL_law_847 : decode cL_law 847 = .ok (.iaload, 1) := by decide +kernel
theorem dL_law_848 : decode cL_law 848 = .ok (.invokevirtual 121, 3) := by decide +kernel
theorem dL_law_851 : decode cL_law 851 = .ok (.if_icmp .eq 87, 3) := by decide +kernel
theorem dL_law_854 : decode cL_law 854 = .ok (.iconst 0, 1) := by decide +kernel
theorem dL_law_855 : decode cL_law 855 = .ok (.ireturn, 1) := by decide +kernel
theorem dL_law_856 : decode cL_law 856 = .ok (.aload_n 1, 1) := by decide +kernel
theorem dL_law_857 : decode cL_law 857 = .ok (.aload_n 0, 1) := by decide +kernel
theorem dL_law_858 : decode cL_law 858 = .ok (.iload_n 3, 1) := by decide +kernel
theorem dL_law_859 : decode cL_law 859 = .ok (.iconst 1, 1) := by decide +kernel
theorem dL_law_860 : decode cL_law 860 = .ok (.iadd, 1) := by decide +kernel
theorem dL_law_861 : decode cL_law 861 = .ok (.iaload, 1) := by decide +kernel
theorem dL_law_862 : decode cL_law 862 = .ok (.invokevirtual 122, 3) := by decide +kernel
theorem dL_law_865 : decode cL_law 865 = .ok (.aload_n 2, 1) := by decide +kernel
theorem dL_law_866 : decode cL_law 866 = .ok (.aload_n 0, 1) := by decide +kernel
theorem dL_law_867 : decode cL_law 867 = .ok (.iload_n 3, 1) := by decide +kernel
theorem dL_law_868 : decode cL_law 868 = .ok (.iconst 1, 1) := by decide +kernel
theorem dL_law_869 : decode cL_law 869 = .ok (.iadd, 1) := by decide +kernel
theorem dL_law_870 : decode cL_law 870 = .ok (.iaload, 1) := by decide +kernel
theorem dL_law_871 : decode cL_law 871 = .ok (.invokevirtual 125, 3) := by decide +kernel
theorem dL_law_874 : decode cL_law 874 = .ok (.if_icmp .eq 64, 3) := by decide +kernel
theorem dL_law_877 : decode cL_law 877 = .ok (.iconst 0, 1) := by decide +kernel
theorem dL_law_878 : decode cL_law 878 = .ok (.ireturn, 1) := by decide +kernel
theorem dL_law_879 : decode cL_law 879 = .ok (.aload_n 1, 1) := by decide +kernel
theorem dL_law_880 : decode cL_law 880 = .ok (.aload_n 0, 1) := by decide +kernel
theorem dL_law_881 : decode cL_law 881 = .ok (.iload_n 3, 1) := by decide +kernel
theorem dL_law_882 : decode cL_law 882 = .ok (.iconst 1, 1) := by decide +kernel
theorem dL_law_883 : decode cL_law 883 = .ok (.iadd, 1) := by decide +kernel
theorem dL_law_884 : decode cL_law 884 = .ok (.iaload, 1) := by decide +kernel
theorem dL_law_885 : decode cL_law 885 = .ok (.invokevirtual 126, 3) := by decide +kernel
theorem dL_law_888 : decode cL_law 888 = .ok (.aload_n 2, 1) := by decide +kernel
theorem dL_law_889 : decode cL_law 889 = .ok (.aload_n 0, 1) := by decide +kernel
theorem dL_law_890 : decode cL_law 890 = .ok (.iload_n 3, 1) := by decide +kernel
theorem dL_law_891 : decode cL_law 891 = .ok (.iconst 1, 1) := by decide +kernel
theorem dL_law_892 : decode cL_law 892 = .ok (.iadd, 1) := by decide +kernel
theorem dL_law_893 : decode cL_law 893 = .ok (.iaload, 1) := by decide +kernel
theorem dL_law_894 : decode cL_law 894 = .ok (.invokevirtual 129, 3) := by decide +kernel
theorem dL_law_897 : decode cL_law 897 = .ok (.if_icmp .eq 41, 3) := by decide +kernel
theorem dL_law_900 : decode cL_law 900 = .ok (.iconst 0, 1) := by decide +kernel
theorem dL_law_901 : decode cL_law 901 = .ok (.ireturn, 1) := by decide +kernel
theorem dL_law_902 : decode cL_law 902 = .ok (.aload_n 1, 1) := by decide +kernel
theorem dL_law_903 : decode cL_law 903 = .ok (.aload_n 0, 1) := by decide +kernel
theorem dL_law_904 : decode cL_law 904 = .ok (.iload_n 3, 1) := by decide +kernel
theorem dL_law_905 : decode cL_law 905 = .ok (.iconst 1, 1) := by decide +kernel
theorem dL_law_906 : decode cL_law 906 = .ok (.iadd, 1) := by decide +kernel
theorem dL_law_907 : decode cL_law 907 = .ok (.iaload, 1) := by decide +kernel
theorem dL_law_908 : decode cL_law 908 = .ok (.invokevirtual 130, 3) := by decide +kernel
theorem dL_law_911 : decode cL_law 911 = .ok (.aload_n 2, 1) := by decide +kernel
theorem dL_law_912 : decode cL_law 912 = .ok (.aload_n 0, 1) := by decide +kernel
theorem dL_law_913 : decode cL_law 913 = .ok (.iload_n 3, 1) := by decide +kernel
theorem dL_law_914 : decode cL_law 914 = .ok (.iconst 1, 1) := by decide +kernel
theorem dL_law_915 : decode cL_law 915 = .ok (.iadd, 1) := by decide +kernel
theorem dL_law_916 : decode cL_law 916 = .ok (.iaload, 1) := by decide +kernel
theorem dL_law_917 : decode cL_law 917 = .ok (.invokevirtual 133, 3) := by decide +kernel
theorem dL_law_920 : decode cL_law 920 = .ok (.if_icmp .eq 18, 3) := by decide +kernel
theorem dL_law_923 : decode cL_law 923 = .ok (.iconst 0, 1) := by decide +kernel
theorem dL_law_924 : decode cL_law 924 = .ok (.ireturn, 1) := by decide +kernel
theorem dL_law_925 : decode cL_law 925 = .ok (.aload_n 1, 1) := by decide +kernel
theorem dL_law_926 : decode cL_law 926 = .ok (.invokevirtual 134, 3) := by decide +kernel
theorem dL_law_929 : decode cL_law 929 = .ok (.aload_n 2, 1) := by decide +kernel
theorem dL_law_930 : decode cL_law 930 = .ok (.invokevirtual 137, 3) := by decide +kernel
theorem dL_law_933 : decode cL_law 933 = .ok (.if_icmp .eq 5, 3) := by decide +kernel
theorem dL_law_936 : decode cL_law 936 = .ok (.iconst 0, 1) := by decide +kernel
theorem dL_law_937 : decode cL_law 937 = .ok (.ireturn, 1) := by decide +kernel
theorem dL_law_938 : decode cL_law 938 = .ok (.iinc 3 6, 3) := by decide +kernel
theorem dL_law_941 : decode cL_law 941 = .ok (.goto (-923), 3) := by decide +kernel
theorem dL_law_944 : decode cL_law 944 = .ok (.iconst 1, 1) := by decide +kernel
theorem dL_law_945 : decode cL_law 945 = .ok (.ireturn, 1) := by decide +kernel
