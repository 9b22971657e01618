theorem dX9_isSlot_0 : decode cX9_isSlot 0 = .ok (.iload_n 0, 1) := by decide +kernel
theorem dX9_isSlot_1 : decode cX9_isSlot 1 = .ok (.ifCond .lt 13, 3) := by decide +kernel
theorem dX9_isSlot_4 : decode cX9_isSlot 4 = .ok (.iload_n 0, 1) := by decide +kernel
theorem dX9_isSlot_5 : decode cX9_isSlot 5 = .ok (.bipush 8, 2) := by decide +kernel
theorem dX9_isSlot_7 : decode cX9_isSlot 7 = .ok (.if_icmp .ge 7, 3) := by decide +kernel
theorem dX9_isSlot_10 : decode cX9_isSlot 10 = .ok (.iconst 1, 1) := by decide +kernel
theorem dX9_isSlot_11 : decode cX9_isSlot 11 = .ok (.goto 4, 3) := by decide +kernel
theorem dX9_isSlot_14 : decode cX9_isSlot 14 = .ok (.iconst 0, 1) := by decide +kernel
theorem dX9_isSlot_15 : decode cX9_isSlot 15 = .ok (.ireturn, 1) := by decide +kernel
theorem dX9_isErrand_0 : decode cX9_isErrand 0 = .ok (.iload_n 0, 1) := by decide +kernel
theorem dX9_isErrand_1 : decode cX9_isErrand 1 = .ok (.ifCond .lt 13, 3) := by decide +kernel
theorem dX9_isErrand_4 : decode cX9_isErrand 4 = .ok (.iload_n 0, 1) := by decide +kernel
theorem dX9_isErrand_5 : decode cX9_isErrand 5 = .ok (.bipush 8, 2) := by decide +kernel
theorem dX9_isErrand_7 : decode cX9_isErrand 7 = .ok (.if_icmp .ge 7, 3) := by decide +kernel
theorem dX9_isErrand_10 : decode cX9_isErrand 10 = .ok (.iconst 1, 1) := by decide +kernel
theorem dX9_isErrand_11 : decode cX9_isErrand 11 = .ok (.goto 4, 3) := by decide +kernel
theorem dX9_isErrand_14 : decode cX9_isErrand 14 = .ok (.iconst 0, 1) := by decide +kernel
theorem dX9_isErrand_15 : decode cX9_isErrand 15 = .ok (.ireturn, 1) := by decide +kernel
theorem dX9_fits_0 : decode cX9_fits 0 = .ok (.iload_n 0, 1) := by decide +kernel
theorem dX9_fits_1 : decode cX9_fits 1 = .ok (.tableswitch 161 0 12 #[67, 67, 67, 67, 72, 94, 159, 159, 117, 132, 159, 159, 159], 67) := by decide +kernel
theorem dX9_fits_68 : decode cX9_fits 68 = .ok (.iload_n 1, 1) := by decide +kernel
theorem dX9_fits_69 : decode cX9_fits 69 = .ok (.invokestatic 62, 3) := by decide +kernel
theorem dX9_fits_72 : decode cX9_fits 72 = .ok (.ireturn, 1) := by decide +kernel
theorem dX9_fits_73 : decode cX9_fits 73 = .ok (.iload_n 1, 1) := by decide +kernel
theorem dX9_fits_74 : decode cX9_fits 74 = .ok (.invokestatic 111, 3) := by decide +kernel
theorem dX9_fits_77 : decode cX9_fits 77 = .ok (.ifCond .eq 16, 3) := by decide +kernel
theorem dX9_fits_80 : decode cX9_fits 80 = .ok (.iload_n 2, 1) := by decide +kernel
theorem dX9_fits_81 : decode cX9_fits 81 = .ok (.ifCond .eq 8, 3) := by decide +kernel
theorem dX9_fits_84 : decode cX9_fits 84 = .ok (.iload_n 2, 1) := by decide +kernel
theorem dX9_fits_85 : decode cX9_fits 85 = .ok (.iconst 1, 1) := by decide +kernel
theorem dX9_fits_86 : decode cX9_fits 86 = .ok (.if_icmp .ne 7, 3) := by decide +kernel
theorem dX9_fits_89 : decode cX9_fits 89 = .ok (.iconst 1, 1) := by decide +kernel
theorem dX9_fits_90 : decode cX9_fits 90 = .ok (.goto 4, 3) := by decide +kernel
theorem dX9_fits_93 : decode cX9_fits 93 = .ok (.iconst 0, 1) := by decide +kernel
theorem dX9_fits_94 : decode cX9_fits 94 = .ok (.ireturn, 1) := by decide +kernel
theorem dX9_fits_95 : decode cX9_fits 95 = .ok (.iload_n 1, 1) := by decide +kernel
theorem dX9_fits_96 : decode cX9_fits 96 = .ok (.invokestatic 111, 3) := by decide +kernel
theorem dX9_fits_99 : decode cX9_fits 99 = .ok (.ifCond .eq 17, 3) := by decide +kernel
theorem dX9_fits_102 : decode cX9_fits 102 = .ok (.iload_n 2, 1) := by decide +kernel
theorem dX9_fits_103 : decode cX9_fits 103 = .ok (.iconst 2, 1) := by decide +kernel
theorem dX9_fits_104 : decode cX9_fits 104 = .ok (.if_icmp .lt 12, 3) := by decide +kernel
theorem dX9_fits_107 : decode cX9_fits 107 = .ok (.iload_n 2, 1) := by decide +kernel
theorem dX9_fits_108 : decode cX9_fits 108 = .ok (.iconst 4, 1) := by decide +kernel
theorem dX9_fits_109 : decode cX9_fits 109 = .ok (.if_icmp .gt 7, 3) := by decide +kernel
theorem dX9_fits_112 : decode cX9_fits 112 = .ok (.iconst 1, 1) := by decide +kernel
theorem dX9_fits_113 : decode cX9_fits 113 = .ok (.goto 4, 3) := by decide +kernel
theorem dX9_fits_116 : decode cX9_fits 116 = .ok (.iconst 0, 1) := by decide +kernel
theorem dX9_fits_117 : decode cX9_fits 117 = .ok (.ireturn, 1) := by decide +kernel
theorem dX9_fits_118 : decode cX9_fits 118 = .ok (.iload_n 1, 1) := by decide +kernel
theorem dX9_fits_119 : decode cX9_fits 119 = .ok (.ifCond .lt 12, 3) := by decide +kernel
theorem dX9_fits_122 : decode cX9_fits 122 = .ok (.iload_n 1, 1) := by decide +kernel
theorem dX9_fits_123 : decode cX9_fits 123 = .ok (.iconst 4, 1) := by decide +kernel
theorem dX9_fits_124 : decode cX9_fits 124 = .ok (.if_icmp .ge 7, 3) := by decide +kernel
theorem dX9_fits_127 : decode cX9_fits 127 = .ok (.iconst 1, 1) := by decide +kernel
theorem dX9_fits_128 : decode cX9_fits 128 = .ok (.goto 4, 3) := by decide +kernel
theorem dX9_fits_131 : decode cX9_fits 131 = .ok (.iconst 0, 1) := by decide +kernel
theorem dX9_fits_132 : decode cX9_fits 132 = .ok (.ireturn, 1) := by decide +kernel
theorem dX9_fits_133 : decode cX9_fits 133 = .ok (.iload_n 1, 1) := by decide +kernel
theorem dX9_fits_134 : decode cX9_fits 134 = .ok (.ifCond .lt 24, 3) := by decide +kernel
theorem dX9_fits_137 : decode cX9_fits 137 = .ok (.iload_n 1, 1) := by decide +kernel
theorem dX9_fits_138 : decode cX9_fits 138 = .ok (.bipush 8, 2) := by decide +kernel
theorem dX9_fits_140 : decode cX9_fits 140 = .ok (.if_icmp .gt 18, 3) := by decide +kernel
theorem dX9_fits_143 : decode cX9_fits 143 = .ok (.iload_n 2, 1) := by decide +kernel
theorem dX9_fits_144 : decode cX9_fits 144 = .ok (.iload_n 3, 1) := by decide +kernel
theorem dX9_fits_145 : decode cX9_fits 145 = .ok (.if_icmp .le 13, 3) := by decide +kernel
theorem dX9_fits_148 : decode cX9_fits 148 = .ok (.iload_n 2, 1) := by decide +kernel
theorem dX9_fits_149 : decode cX9_fits 149 = .ok (.bipush 24, 2) := by decide +kernel
theorem dX9_fits_151 : decode cX9_fits 151 = .ok (.if_icmp .gt 7, 3) := by decide +kernel
theorem dX9_fits_154 : decode cX9_fits 154 = .ok (.iconst 1, 1) := by decide +kernel
theorem dX9_fits_155 : decode cX9_fits 155 = .ok (.goto 4, 3) := by decide +kernel
theorem dX9_fits_158 : decode cX9_fits 158 = .ok (.iconst 0, 1) := by decide +kernel
theorem dX9_fits_159 : decode cX9_fits 159 = .ok (.ireturn, 1) := by decide +kernel
theorem dX9_fits_160 : decode cX9_fits 160 = .ok (.iconst 1, 1) := by decide +kernel
theorem dX9_fits_161 : decode cX9_fits 161 = .ok (.ireturn, 1) := by decide +kernel
theorem dX9_fits_162 : decode cX9_fits 162 = .ok (.iconst 0, 1) := by decide +kernel
theorem dX9_fits_163 : decode cX9_fits 163 = .ok (.ireturn, 1) := by decide +kernel
theorem dX10_init_0 : decode cX10_init 0 = .ok (.aload_n 0, 1) := by decide +kernel
theorem dX10_init_1 : decode cX10_init 1 = .ok (.invokespecial 1, 3) := by decide +kernel
theorem dX10_init_4 : decode cX10_init 4 = .ok (.aload_n 0, 1) := by decide +kernel
theorem dX10_init_5 : decode cX10_init 5 = .ok (.bipush 8, 2) := by decide +kernel
theorem dX10_init_7 : decode cX10_init 7 = .ok (.newarray .int, 2) := by decide +kernel
theorem dX10_init_9 : decode cX10_init 9 = .ok (.putfield 7, 3) := by decide +kernel
theorem dX10_init_12 : decode cX10_init 12 = .ok (.aload_n 0, 1) := by decide +kernel
theorem dX10_init_13 : decode cX10_init 13 = .ok (.bipush 8, 2) := by decide +kernel
theorem dX10_init_15 : decode cX10_init 15 = .ok (.newarray .int, 2) := by decide +kernel
theorem dX10_init_17 : decode cX10_init 17 = .ok (.putfield 13, 3) := by decide +kernel
theorem dX10_init_20 : decode cX10_init 20 = .ok (.aload_n 0, 1) := by decide +kernel
theorem dX10_init_21 : decode cX10_init 21 = .ok (.bipush 8, 2) := by decide +kernel
theorem dX10_init_23 : decode cX10_init 23 = .ok (.newarray .int, 2) := by decide +kernel
theorem dX10_init_25 : decode cX10_init 25 = .ok (.putfield 16, 3) := by decide +kernel
theorem dX10_init_28 : decode cX10_init 28 = .ok (.aload_n 0, 1) := by decide +kernel
theorem dX10_init_29 : decode cX10_init 29 = .ok (.sipush 192, 3) := by decide +kernel
theorem dX10_init_32 : decode cX10_init 32 = .ok (.newarray .int, 2) := by decide +kernel
theorem dX10_init_34 : decode cX10_init 34 = .ok (.putfield 19, 3) := by decide +kernel
theorem dX10_init_37 : decode cX10_init 37 = .ok (.aload_n 0, 1) := by decide +kernel
theorem dX10_init_38 : decode cX10_init 38 = .ok (.sipush 192, 3) := by decide +kernel
theorem dX10_init_41 : decode cX10_init 41 = .ok (.newarray .int, 2) := by decide +kernel
theorem dX10_init_43 : decode cX10_init 43 = .ok (.putfield 22, 3) := by decide +kernel
theorem dX10_init_46 : decode cX10_init 46 = .ok (.aload_n 0, 1) := by decide +kernel
theorem dX10_init_47 : decode cX10_init 47 = .ok (.sipush 192, 3) := by decide +kernel
theorem dX10_init_50 : decode cX10_init 50 = .ok (.newarray .int, 2) := by decide +kernel
theorem dX10_init_52 : decode cX10_init 52 = .ok (.putfield 25, 3) := by decide +kernel
theorem dX10_init_55 : decode cX10_init 55 = .ok (.aload_n 0, 1) := by decide +kernel
theorem dX10_init_56 : decode cX10_init 56 = .ok (.bipush 17, 2) := by decide +kernel
theorem dX10_init_58 : decode cX10_init 58 = .ok (.newarray .boolean, 2) := by decide +kernel
theorem dX10_init_60 : decode cX10_init 60 = .ok (.putfield 28, 3) := by decide +kernel
theorem dX10_init_63 : decode cX10_init 63 = .ok (.aload_n 0, 1) := by decide +kernel
theorem dX10_init_64 : decode cX10_init 64 = .ok (.bipush 17, 2) := by decide +kernel
theorem dX10_init_66 : decode cX10_init 66 = .ok (.newarray .boolean, 2) := by decide +kernel
theorem dX10_init_68 : decode cX10_init 68 = .ok (.putfield 32, 3) := by decide +kernel
theorem dX10_init_71 : decode cX10_init 71 = .ok (.aload_n 0, 1) := by decide +kernel
theorem dX10_init_72 : decode cX10_init 72 = .ok (.bipush 17, 2) := by decide +kernel
theorem dX10_init_74 : decode cX10_init 74 = .ok (.newarray .int, 2) := by decide +kernel
theorem dX10_init_76 : decode cX10_init 76 = .ok (.putfield 35, 3) := by decide +kernel
theorem dX10_init_79 : decode cX10_init 79 = .ok (.aload_n 0, 1) := by decide +kernel
theorem dX10_init_80 : decode cX10_init 80 = .ok (.iconst 2, 1) := by decide +kernel
theorem dX10_init_81 : decode cX10_init 81 = .ok (.putfield 38, 3) := by decide +kernel
theorem dX10_init_84 : decode cX10_init 84 = .ok (.aload_n 0, 1) := by decide +kernel
theorem dX10_init_85 : decode cX10_init 85 = .ok (.bipush 6, 2) := by decide +kernel
theorem dX10_init_87 : decode cX10_init 87 = .ok (.newarray .int, 2) := by decide +kernel
theorem dX10_init_89 : decode cX10_init 89 = .ok (.putfield 42, 3) := by decide +kernel
theorem dX10_init_92 : decode cX10_init 92 = .ok (.aload_n 0, 1) := by decide +kernel
theorem dX10_init_93 : decode cX10_init 93 = .ok (.sipush 200, 3) := by decide +kernel
theorem dX10_init_96 : decode cX10_init 96 = .ok (.newarray .int, 2) := by decide +kernel
theorem dX10_init_98 : decode cX10_init 98 = .ok (.putfield 45, 3) := by decide +kernel
theorem dX10_init_101 : decode cX10_init 101 = .ok (.aload_n 0, 1) := by decide +kernel
theorem dX10_init_102 : decode cX10_init 102 = .ok (.sipush 200, 3) := by decide +kernel
theorem dX10_init_105 : decode cX10_init 105 = .ok (.newarray .int, 2) := by decide +kernel
theorem dX10_init_107 : decode cX10_init 107 = .ok (.putfield 48, 3) := by decide +kernel
theorem dX10_init_110 : decode cX10_init 110 = .ok (.aload_n 0, 1) := by decide +kernel
theorem dX10_init_111 : decode cX10_init 111 = .ok (.sipush 200, 3) := by decide +kernel
theorem dX10_init_114 : decode cX10_init 114 = .ok (.newarray .int, 2) := by decide +kernel
theorem dX10_init_116 : decode cX10_init 116 = .ok (.putfield 51, 3) := by decide +kernel
theorem dX10_init_119 : decode cX10_init 119 = .ok (.aload_n 0, 1) := by decide +kernel
theorem dX10_init_120 : decode cX10_init 120 = .ok (.sipush 200, 3) := by decide +kernel
theorem dX10_init_123 : decode cX10_init 123 = .ok (.newarray .int, 2) := by decide +kernel
theorem dX10_init_125 : decode cX10_init 125 = .ok (.putfield 54, 3) := by decide +kernel
theorem dX10_init_128 : decode cX10_init 128 = .ok (.aload_n 0, 1) := by decide +kernel
theorem dX10_init_129 : decode cX10_init 129 = .ok (.sipush 200, 3) := by decide +kernel
theorem dX10_init_132 : decode cX10_init 132 = .ok (.newarray .int, 2) := by decide +kernel
theorem dX10_init_134 : decode cX10_init 134 = .ok (.putfield 57, 3) := by decide +kernel
theorem dX10_init_137 : decode cX10_init 137 = .ok (.aload_n 0, 1) := by decide +kernel
theorem dX10_init_138 : decode cX10_init 138 = .ok (.sipush 200, 3) := by decide +kernel
theorem dX10_init_141 : decode cX10_init 141 = .ok (.newarray .int, 2) := by decide +kernel
theorem dX10_init_143 : decode cX10_init 143 = .ok (.putfield 60, 3) := by decide +kernel
theorem dX10_init_146 : decode cX10_init 146 = .ok (.aload_n 0, 1) := by decide +kernel
theorem dX10_init_147 : decode cX10_init 147 = .ok (.sipush 200, 3) := by decide +kernel
theorem dX10_init_150 : decode cX10_init 150 = .ok (.newarray .int, 2) := by decide +kernel
theorem dX10_init_152 : decode cX10_init 152 = .ok (.putfield 63, 3) := by decide +kernel
theorem dX10_init_155 : decode cX10_init 155 = .ok (.aload_n 0, 1) := by decide +kernel
theorem dX10_init_156 : decode cX10_init 156 = .ok (.sipush 200, 3) := by decide +kernel
theorem dX10_init_159 : decode cX10_init 159 = .ok (.newarray .int, 2) := by decide +kernel
theorem dX10_init_161 : decode cX10_init 161 = .ok (.putfield 66, 3) := by decide +kernel
theorem dX10_init_164 : decode cX10_init 164 = .ok (.aload_n 0, 1) := by decide +kernel
theorem dX10_init_165 : decode cX10_init 165 = .ok (.sipush 200, 3) := by decide +kernel
theorem dX10_init_168 : decode cX10_init 168 = .ok (.newarray .int, 2) := by decide +kernel
theorem dX10_init_170 : decode cX10_init 170 = .ok (.putfield 69, 3) := by decide +kernel
theorem dX10_init_173 : decode cX10_init 173 = .ok (.aload_n 0, 1) := by decide +kernel
theorem dX10_init_174 : decode cX10_init 174 = .ok (.sipush 200, 3) := by decide +kernel
theorem dX10_init_177 : decode cX10_init 177 = .ok (.newarray .int, 2) := by decide +kernel
theorem dX10_init_179 : decode cX10_init 179 = .ok (.putfield 72, 3) := by decide +kernel
theorem dX10_init_182 : decode cX10_init 182 = .ok (.aload_n 0, 1) := by decide +kernel
theorem dX10_init_183 : decode cX10_init 183 = .ok (.sipush 200, 3) := by decide +kernel
theorem dX10_init_186 : decode cX10_init 186 = .ok (.newarray .int, 2) := by decide +kernel
theorem dX10_init_188 : decode cX10_init 188 = .ok (.putfield 75, 3) := by decide +kernel
theorem dX10_init_191 : decode cX10_init 191 = .ok (.aload_n 0, 1) := by decide +kernel
theorem dX10_init_192 : decode cX10_init 192 = .ok (.sipush 200, 3) := by decide +kernel
theorem dX10_init_195 : decode cX10_init 195 = .ok (.newarray .boolean, 2) := by decide +kernel
theorem dX10_init_197 : decode cX10_init 197 = .ok (.putfield 78, 3) := by decide +kernel
theorem dX10_init_200 : decode cX10_init 200 = .ok (.aload_n 0, 1) := by decide +kernel
theorem dX10_init_201 : decode cX10_init 201 = .ok (.sipush 200, 3) := by decide +kernel
theorem dX10_init_204 : decode cX10_init 204 = .ok (.newarray .boolean, 2) := by decide +kernel
theorem dX10_init_206 : decode cX10_init 206 = .ok (.putfield 81, 3) := by decide +kernel
theorem dX10_init_209 : decode cX10_init 209 = .ok (.aload_n 0, 1) := by decide +kernel
theorem dX10_init_210 : decode cX10_init 210 = .ok (.sipush 200, 3) := by decide +kernel
theorem dX10_init_213 : decode cX10_init 213 = .ok (.newarray .boolean, 2) := by decide +kernel
theorem dX10_init_215 : decode cX10_init 215 = .ok (.putfield 84, 3) := by decide +kernel
theorem dX10_init_218 : decode cX10_init 218 = .ok (.aload_n 0, 1) := by decide +kernel
theorem dX10_init_219 : decode cX10_init 219 = .ok (.sipush 200, 3) := by decide +kernel
theorem dX10_init_222 : decode cX10_init 222 = .ok (.newarray .boolean, 2) := by decide +kernel
theorem dX10_init_224 : decode cX10_init 224 = .ok (.putfield 87, 3) := by decide +kernel
theorem dX10_init_227 : decode cX10_init 227 = .ok (.aload_n 0, 1) := by decide +kernel
theorem dX10_init_228 : decode cX10_init 228 = .ok (.sipush 200, 3) := by decide +kernel
theorem dX10_init_231 : decode cX10_init 231 = .ok (.newarray .int, 2) := by decide +kernel
theorem dX10_init_233 : decode cX10_init 233 = .ok (.putfield 90, 3) := by decide +kernel
theorem dX10_init_236 : decode cX10_init 236 = .ok (.aload_n 0, 1) := by decide +kernel
theorem dX10_init_237 : decode cX10_init 237 = .ok (.sipush 200, 3) := by decide +kernel
theorem dX10_init_240 : decode cX10_init 240 = .ok (.newarray .int, 2) := by decide +kernel
theorem dX10_init_242 : decode cX10_init 242 = .ok (.putfield 93, 3) := by decide +kernel
theorem dX10_init_245 : decode cX10_init 245 = .ok (.aload_n 0, 1) := by decide +kernel
theorem dX10_init_246 : decode cX10_init 246 = .ok (.sipush 200, 3) := by decide +kernel
theorem dX10_init_249 : decode cX10_init 249 = .ok (.newarray .int, 2) := by decide +kernel
theorem dX10_init_251 : decode cX10_init 251 = .ok (.putfield 96, 3) := by decide +kernel
theorem dX10_init_254 : decode cX10_init 254 = .ok (.aload_n 0, 1) := by decide +kernel
theorem dX10_init_255 : decode cX10_init 255 = .ok (.sipush 200, 3) := by decide +kernel
theorem dX10_init_258 : decode cX10_init 258 = .ok (.newarray .int, 2) := by decide +kernel
theorem dX10_init_260 : decode cX10_init 260 = .ok (.putfield 99, 3) := by decide +kernel
theorem dX10_init_263 : decode cX10_init 263 = .ok (.aload_n 0, 1) := by decide +kernel
theorem dX10_init_264 : decode cX10_init 264 = .ok (.sipush 200, 3) := by decide +kernel
theorem dX10_init_267 : decode cX10_init 267 = .ok (.newarray .boolean, 2) := by decide +kernel
theorem dX10_init_269 : decode cX10_init 269 = .ok (.putfield 102, 3) := by decide +kernel
theorem dX10_init_272 : decode cX10_init 272 = .ok (.aload_n 0, 1) := by decide +kernel
theorem dX10_init_273 : decode cX10_init 273 = .ok (.sipush 1600, 3) := by decide +kernel
theorem dX10_init_276 : decode cX10_init 276 = .ok (.newarray .int, 2) := by decide +kernel
theorem dX10_init_278 : decode cX10_init 278 = .ok (.putfield 105, 3) := by decide +kernel
theorem dX10_init_281 : decode cX10_init 281 = .ok (.aload_n 0, 1) := by decide +kernel
theorem dX10_init_282 : decode cX10_init 282 = .ok (.sipush 1600, 3) := by decide +kernel
theorem dX10_init_285 : decode cX10_init 285 = .ok (.newarray .int, 2) := by decide +kernel
theorem dX10_init_287 : decode cX10_init 287 = .ok (.putfield 108, 3) := by decide +kernel
theorem dX10_init_290 : decode cX10_init 290 = .ok (.aload_n 0, 1) := by decide +kernel
theorem dX10_init_291 : decode cX10_init 291 = .ok (.sipush 1600, 3) := by decide +kernel
theorem dX10_init_294 : decode cX10_init 294 = .ok (.newarray .boolean, 2) := by decide +kernel
theorem dX10_init_296 : decode cX10_init 296 = .ok (.putfield 111, 3) := by decide +kernel
theorem dX10_init_299 : decode cX10_init 299 = .ok (.aload_n 0, 1) := by decide +kernel
theorem dX10_init_300 : decode cX10_init 300 = .ok (.sipush 200, 3) := by decide +kernel
theorem dX10_init_303 : decode cX10_init 303 = .ok (.newarray .int, 2) := by decide +kernel
theorem dX10_init_305 : decode cX10_init 305 = .ok (.putfield 114, 3) := by decide +kernel
theorem dX10_init_308 : decode cX10_init 308 = .ok (.aload_n 0, 1) := by decide +kernel
theorem dX10_init_309 : decode cX10_init 309 = .ok (.sipush 4800, 3) := by decide +kernel
theorem dX10_init_312 : decode cX10_init 312 = .ok (.newarray .int, 2) := by decide +kernel
theorem dX10_init_314 : decode cX10_init 314 = .ok (.putfield 117, 3) := by decide +kernel
theorem dX10_init_317 : decode cX10_init 317 = .ok (.aload_n 0, 1) := by decide +kernel
theorem dX10_init_318 : decode cX10_init 318 = .ok (.sipush 4800, 3) := by decide +kernel
theorem dX10_init_321 : decode cX10_init 321 = .ok (.newarray .int, 2) := by decide +kernel
theorem dX10_init_323 : decode cX10_init 323 = .ok (.putfield 120, 3) := by decide +kernel
theorem dX10_init_326 : decode cX10_init 326 = .ok (.aload_n 0, 1) := by decide +kernel
theorem dX10_init_327 : decode cX10_init 327 = .ok (.sipush 200, 3) := by decide +kernel
theorem dX10_init_330 : decode cX10_init 330 = .ok (.newarray .int, 2) := by decide +kernel
theorem dX10_init_332 : decode cX10_init 332 = .ok (.putfield 123, 3) := by decide +kernel
theorem dX10_init_335 : decode cX10_init 335 = .ok (.aload_n 0, 1) := by decide +kernel
theorem dX10_init_336 : decode cX10_init 336 = .ok (.sipush 4800, 3) := by decide +kernel
theorem dX10_init_339 : decode cX10_init 339 = .ok (.newarray .int, 2) := by decide +kernel
theorem dX10_init_341 : decode cX10_init 341 = .ok (.putfield 126, 3) := by decide +kernel
theorem dX10_init_344 : decode cX10_init 344 = .ok (.aload_n 0, 1) := by decide +kernel
theorem dX10_init_345 : decode cX10_init 345 = .ok (.sipush 4800, 3) := by decide +kernel
theorem dX10_init_348 : decode cX10_init 348 = .ok (.newarray .int, 2) := by decide +kernel
theorem dX10_init_350 : decode cX10_init 350 = .ok (.putfield 129, 3) := by decide +kernel
theorem dX10_init_353 : decode cX10_init 353 = .ok (.aload_n 0, 1) := by decide +kernel
theorem dX10_init_354 : decode cX10_init 354 = .ok (.sipush 4800, 3) := by decide +kernel
theorem dX10_init_357 : decode cX10_init 357 = .ok (.newarray .int, 2) := by decide +kernel
theorem dX10_init_359 : decode cX10_init 359 = .ok (.putfield 132, 3) := by decide +kernel
theorem dX10_init_362 : decode cX10_init 362 = .ok (.aload_n 0, 1) := by decide +kernel
theorem dX10_init_363 : decode cX10_init 363 = .ok (.sipush 4800, 3) := by decide +kernel
theorem dX10_init_366 : decode cX10_init 366 = .ok (.newarray .int, 2) := by decide +kernel
theorem dX10_init_368 : decode cX10_init 368 = .ok (.putfield 135, 3) := by decide +kernel
theorem dX10_init_371 : decode cX10_init 371 = .ok (.aload_n 0, 1) := by decide +kernel
theorem dX10_init_372 : decode cX10_init 372 = .ok (.sipush 1000, 3) := by decide +kernel
theorem dX10_init_375 : decode cX10_init 375 = .ok (.newarray .int, 2) := by decide +kernel
theorem dX10_init_377 : decode cX10_init 377 = .ok (.putfield 138, 3) := by decide +kernel
theorem dX10_init_380 : decode cX10_init 380 = .ok (.aload_n 0, 1) := by decide +kernel
theorem dX10_init_381 : decode cX10_init 381 = .ok (.sipush 1000, 3) := by decide +kernel
theorem dX10_init_384 : decode cX10_init 384 = .ok (.newarray .int, 2) := by decide +kernel
theorem dX10_init_386 : decode cX10_init 386 = .ok (.putfield 141, 3) := by decide +kernel
theorem dX10_init_389 : decode cX10_init 389 = .ok (.aload_n 0, 1) := by decide +kernel
theorem dX10_init_390 : decode cX10_init 390 = .ok (.sipush 1000, 3) := by decide +kernel
theorem dX10_init_393 : decode cX10_init 393 = .ok (.newarray .int, 2) := by decide +kernel
theorem dX10_init_395 : decode cX10_init 395 = .ok (.putfield 144, 3) := by decide +kernel
theorem dX10_init_398 : decode cX10_init 398 = .ok (.aload_n 0, 1) := by decide +kernel
theorem dX10_init_399 : decode cX10_init 399 = .ok (.sipush 1000, 3) := by decide +kernel
theorem dX10_init_402 : decode cX10_init 402 = .ok (.newarray .int, 2) := by decide +kernel
theorem dX10_init_404 : decode cX10_init 404 = .ok (.putfield 147, 3) := by decide +kernel
theorem dX10_init_407 : decode cX10_init 407 = .ok (.aload_n 0, 1) := by decide +kernel
theorem dX10_init_408 : decode cX10_init 408 = .ok (.ldc 150, 2) := by decide +kernel
theorem dX10_init_410 : decode cX10_init 410 = .ok (.newarray .int, 2) := by decide +kernel
theorem dX10_init_412 : decode cX10_init 412 = .ok (.putfield 151, 3) := by decide +kernel
theorem dX10_init_415 : decode cX10_init 415 = .ok (.aload_n 0, 1) := by decide +kernel
theorem dX10_init_416 : decode cX10_init 416 = .ok (.ldc 150, 2) := by decide +kernel
theorem dX10_init_418 : decode cX10_init 418 = .ok (.newarray .int, 2) := by decide +kernel
theorem dX10_init_420 : decode cX10_init 420 = .ok (.putfield 154, 3) := by decide +kernel
theorem dX10_init_423 : decode cX10_init 423 = .ok (.aload_n 0, 1) := by decide +kernel
theorem dX10_init_424 : decode cX10_init 424 = .ok (.sipush 600, 3) := by decide +kernel
theorem dX10_init_427 : decode cX10_init 427 = .ok (.newarray .int, 2) := by decide +kernel
theorem dX10_init_429 : decode cX10_init 429 = .ok (.putfield 157, 3) := by decide +kernel
theorem dX10_init_432 : decode cX10_init 432 = .ok (.aload_n 0, 1) := by decide +kernel
theorem dX10_init_433 : decode cX10_init 433 = .ok (.sipush 600, 3) := by decide +kernel
theorem dX10_init_436 : decode cX10_init 436 = .ok (.newarray .int, 2) := by decide +kernel
theorem dX10_init_438 : decode cX10_init 438 = .ok (.putfield 160, 3) := by decide +kernel
theorem dX10_init_441 : decode cX10_init 441 = .ok (.aload_n 0, 1) := by decide +kernel
theorem dX10_init_442 : decode cX10_init 442 = .ok (.sipush 600, 3) := by decide +kernel
theorem dX10_init_445 : decode cX10_init 445 = .ok (.newarray .int, 2) := by decide +kernel
theorem dX10_init_447 : decode cX10_init 447 = .ok (.putfield 163, 3) := by decide +kernel
theorem dX10_init_450 : decode cX10_init 450 = .ok (.aload_n 0, 1) := by decide +kernel
theorem dX10_init_451 : decode cX10_init 451 = .ok (.sipush 600, 3) := by decide +kernel
theorem dX10_init_454 : decode cX10_init 454 = .ok (.newarray .int, 2) := by decide +kernel
theorem dX10_init_456 : decode cX10_init 456 = .ok (.putfield 166, 3) := by decide +kernel
theorem dX10_init_459 : decode cX10_init 459 = .ok (.aload_n 0, 1) := by decide +kernel
theorem dX10_init_460 : decode cX10_init 460 = .ok (.sipush 2000, 3) := by decide +kernel
theorem dX10_init_463 : decode cX10_init 463 = .ok (.newarray .int, 2) := by decide +kernel
theorem dX10_init_465 : decode cX10_init 465 = .ok (.putfield 169, 3) := by decide +kernel
theorem dX10_init_468 : decode cX10_init 468 = .ok (.iconst 0, 1) := by decide +kernel
theorem dX10_init_469 : decode cX10_init 469 = .ok (.istore_n 1, 1) := by decide +kernel
theorem dX10_init_470 : decode cX10_init 470 = .ok (.iload_n 1, 1) := by decide +kernel
theorem dX10_init_471 : decode cX10_init 471 = .ok (.bipush 17, 2) := by decide +kernel
theorem dX10_init_473 : decode cX10_init 473 = .ok (.if_icmp .ge 16, 3) := by decide +kernel
theorem dX10_init_476 : decode cX10_init 476 = .ok (.aload_n 0, 1) := by decide +kernel
theorem dX10_init_477 : decode cX10_init 477 = .ok (.getfield 28, 3) := by decide +kernel
theorem dX10_init_480 : decode cX10_init 480 = .ok (.iload_n 1, 1) := by decide +kernel
theorem dX10_init_481 : decode cX10_init 481 = .ok (.iconst 0, 1) := by decide +kernel
theorem dX10_init_482 : decode cX10_init 482 = .ok (.bastore, 1) := by decide +kernel
theorem dX10_init_483 : decode cX10_init 483 = .ok (.iinc 1 1, 3) := by decide +kernel
theorem dX10_init_486 : decode cX10_init 486 = .ok (.goto (-16), 3) := by decide +kernel
theorem dX10_init_489 : decode cX10_init 489 = .ok (.iconst 0, 1) := by decide +kernel
theorem dX10_init_490 : decode cX10_init 490 = .ok (.istore_n 1, 1) := by decide +kernel
theorem dX10_init_491 : decode cX10_init 491 = .ok (.iload_n 1, 1) := by decide +kernel
theorem dX10_init_492 : decode cX10_init 492 = .ok (.bipush 6, 2) := by decide +kernel
theorem dX10_init_494 : decode cX10_init 494 = .ok (.if_icmp .ge 16, 3) := by decide +kernel
theorem dX10_init_497 : decode cX10_init 497 = .ok (.aload_n 0, 1) := by decide +kernel
theorem dX10_init_498 : decode cX10_init 498 = .ok (.getfield 42, 3) := by decide +kernel
theorem dX10_init_501 : decode cX10_init 501 = .ok (.iload_n 1, 1) := by decide +kernel
theorem dX10_init_502 : decode cX10_init 502 = .ok (.iconst (-1), 1) := by decide +kernel
theorem dX10_init_503 : decode cX10_init 503 = .ok (.iastore, 1) := by decide +kernel
theorem dX10_init_504 : decode cX10_init 504 = .ok (.iinc 1 1, 3) := by decide +kernel
theorem dX10_init_507 : decode cX10_init 507 = .ok (.goto (-16), 3) := by decide +kernel
theorem dX10_init_510 : decode cX10_init 510 = .ok (.return_, 1) := by decide +kernel
theorem dX10_isSlot_0 : decode cX10_isSlot 0 = .ok (.iload_n 0, 1) := by decide +kernel
theorem dX10_isSlot_1 : decode cX10_isSlot 1 = .ok (.ifCond .lt 13, 3) := by decide +kernel
theorem dX10_isSlot_4 : decode cX10_isSlot 4 = .ok (.iload_n 0, 1) := by decide +kernel
theorem dX10_isSlot_5 : decode cX10_isSlot 5 = .ok (.bipush 8, 2) := by decide +kernel
theorem dX10_isSlot_7 : decode cX10_isSlot 7 = .ok (.if_icmp .ge 7, 3) := by decide +kernel
theorem dX10_isSlot_10 : decode cX10_isSlot 10 = .ok (.iconst 1, 1) := by decide +kernel
theorem dX10_isSlot_11 : decode cX10_isSlot 11 = .ok (.goto 4, 3) := by decide +kernel
theorem dX10_isSlot_14 : decode cX10_isSlot 14 = .ok (.iconst 0, 1) := by decide +kernel
theorem dX10_isSlot_15 : decode cX10_isSlot 15 = .ok (.ireturn, 1) := by decide +kernel
theorem dX10_isErrand_0 : decode cX10_isErrand 0 = .ok (.iload_n 0, 1) := by decide +kernel
theorem dX10_isErrand_1 : decode cX10_isErrand 1 = .ok (.ifCond .lt 13, 3) := by decide +kernel
theorem dX10_isErrand_4 : decode cX10_isErrand 4 = .ok (.iload_n 0, 1) := by decide +kernel
theorem dX10_isErrand_5 : decode cX10_isErrand 5 = .ok (.bipush 8, 2) := by decide +kernel
theorem dX10_isErrand_7 : decode cX10_isErrand 7 = .ok (.if_icmp .ge 7, 3) := by decide +kernel
theorem dX10_isErrand_10 : decode cX10_isErrand 10 = .ok (.iconst 1, 1) := by decide +kernel
theorem dX10_isErrand_11 : decode cX10_isErrand 11 = .ok (.goto 4, 3) := by decide +kernel
theorem dX10_isErrand_14 : decode cX10_isErrand 14 = .ok (.iconst 0, 1) := by decide +kernel
theorem dX10_isErrand_15 : decode cX10_isErrand 15 = .ok (.ireturn, 1) := by decide +kernel
theorem dX10_slot_0 : decode cX10_slot 0 = .ok (.iload_n 1, 1) := by decide +kernel
theorem dX10_slot_1 : decode cX10_slot 1 = .ok (.invokestatic 172, 3) := by decide +kernel
theorem dX10_slot_4 : decode cX10_slot 4 = .ok (.ifCond .eq 19, 3) := by decide +kernel
theorem dX10_slot_7 : decode cX10_slot 7 = .ok (.iload_n 2, 1) := by decide +kernel
theorem dX10_slot_8 : decode cX10_slot 8 = .ok (.ifCond .lt 15, 3) := by decide +kernel
theorem dX10_slot_11 : decode cX10_slot 11 = .ok (.iload_n 2, 1) := by decide +kernel
theorem dX10_slot_12 : decode cX10_slot 12 = .ok (.iconst 4, 1) := by decide +kernel
theorem dX10_slot_13 : decode cX10_slot 13 = .ok (.if_icmp .gt 10, 3) := by decide +kernel
theorem dX10_slot_16 : decode cX10_slot 16 = .ok (.aload_n 0, 1) := by decide +kernel
theorem dX10_slot_17 : decode cX10_slot 17 = .ok (.getfield 176, 3) := by decide +kernel
theorem dX10_slot_20 : decode cX10_slot 20 = .ok (.ifCond .le 5, 3) := by decide +kernel
theorem dX10_slot_23 : decode cX10_slot 23 = .ok (.iconst 0, 1) := by decide +kernel
theorem dX10_slot_24 : decode cX10_slot 24 = .ok (.ireturn, 1) := by decide +kernel
theorem dX10_slot_25 : decode cX10_slot 25 = .ok (.aload_n 0, 1) := by decide +kernel
theorem dX10_slot_26 : decode cX10_slot 26 = .ok (.getfield 7, 3) := by decide +kernel
theorem dX10_slot_29 : decode cX10_slot 29 = .ok (.iload_n 1, 1) := by decide +kernel
theorem dX10_slot_30 : decode cX10_slot 30 = .ok (.iload_n 2, 1) := by decide +kernel
theorem dX10_slot_31 : decode cX10_slot 31 = .ok (.iastore, 1) := by decide +kernel
theorem dX10_slot_32 : decode cX10_slot 32 = .ok (.aload_n 0, 1) := by decide +kernel
theorem dX10_slot_33 : decode cX10_slot 33 = .ok (.getfield 13, 3) := by decide +kernel
theorem dX10_slot_36 : decode cX10_slot 36 = .ok (.iload_n 1, 1) := by decide +kernel
theorem dX10_slot_37 : decode cX10_slot 37 = .ok (.iload_n 3, 1) := by decide +kernel
theorem dX10_slot_38 : decode cX10_slot 38 = .ok (.iastore, 1) := by decide +kernel
theorem dX10_slot_39 : decode cX10_slot 39 = .ok (.iconst 1, 1) := by decide +kernel
theorem dX10_slot_40 : decode cX10_slot 40 = .ok (.ireturn, 1) := by decide +kernel
theorem dX10_first_0 : decode cX10_first 0 = .ok (.iload_n 1, 1) := by decide +kernel
theorem dX10_first_1 : decode cX10_first 1 = .ok (.invokestatic 172, 3) := by decide +kernel
theorem dX10_first_4 : decode cX10_first 4 = .ok (.ifCond .ne 5, 3) := by decide +kernel
theorem dX10_first_7 : decode cX10_first 7 = .ok (.iconst 0, 1) := by decide +kernel
theorem dX10_first_8 : decode cX10_first 8 = .ok (.ireturn, 1) := by decide +kernel
theorem dX10_first_9 : decode cX10_first 9 = .ok (.aload_n 0, 1) := by decide +kernel
theorem dX10_first_10 : decode cX10_first 10 = .ok (.getfield 13, 3) := by decide +kernel
theorem dX10_first_13 : decode cX10_first 13 = .ok (.iload_n 1, 1) := by decide +kernel
theorem dX10_first_14 : decode cX10_first 14 = .ok (.iload_n 2, 1) := by decide +kernel
theorem dX10_first_15 : decode cX10_first 15 = .ok (.iastore, 1) := by decide +kernel
theorem dX10_first_16 : decode cX10_first 16 = .ok (.iconst 1, 1) := by decide +kernel
theorem dX10_first_17 : decode cX10_first 17 = .ok (.ireturn, 1) := by decide +kernel
theorem dX10_areGood_0 : decode cX10_areGood 0 = .ok (.iload_n 0, 1) := by decide +kernel
theorem dX10_areGood_1 : decode cX10_areGood 1 = .ok (.ifCond .lt 9, 3) := by decide +kernel
theorem dX10_areGood_4 : decode cX10_areGood 4 = .ok (.iload_n 0, 1) := by decide +kernel
theorem dX10_areGood_5 : decode cX10_areGood 5 = .ok (.bipush 12, 2) := by decide +kernel
theorem dX10_areGood_7 : decode cX10_areGood 7 = .ok (.if_icmp .le 5, 3) := by decide +kernel
theorem dX10_areGood_10 : decode cX10_areGood 10 = .ok (.iconst 0, 1) := by decide +kernel
theorem dX10_areGood_11 : decode cX10_areGood 11 = .ok (.ireturn, 1) := by decide +kernel
theorem dX10_areGood_12 : decode cX10_areGood 12 = .ok (.iload_n 0, 1) := by decide +kernel
theorem dX10_areGood_13 : decode cX10_areGood 13 = .ok (.iconst 4, 1) := by decide +kernel
theorem dX10_areGood_14 : decode cX10_areGood 14 = .ok (.if_icmp .ge 8, 3) := by decide +kernel
theorem dX10_areGood_17 : decode cX10_areGood 17 = .ok (.iload_n 1, 1) := by decide +kernel
theorem dX10_areGood_18 : decode cX10_areGood 18 = .ok (.invokestatic 172, 3) := by decide +kernel
theorem dX10_areGood_21 : decode cX10_areGood 21 = .ok (.ireturn, 1) := by decide +kernel
theorem dX10_areGood_22 : decode cX10_areGood 22 = .ok (.iload_n 0, 1) := by decide +kernel
theorem dX10_areGood_23 : decode cX10_areGood 23 = .ok (.iconst 4, 1) := by decide +kernel
theorem dX10_areGood_24 : decode cX10_areGood 24 = .ok (.if_icmp .ne 25, 3) := by decide +kernel
theorem dX10_areGood_27 : decode cX10_areGood 27 = .ok (.iload_n 1, 1) := by decide +kernel
theorem dX10_areGood_28 : decode cX10_areGood 28 = .ok (.invokestatic 179, 3) := by decide +kernel
theorem dX10_areGood_31 : decode cX10_areGood 31 = .ok (.ifCond .eq 16, 3) := by decide +kernel
theorem dX10_areGood_34 : decode cX10_areGood 34 = .ok (.iload_n 2, 1) := by decide +kernel
theorem dX10_areGood_35 : decode cX10_areGood 35 = .ok (.ifCond .eq 8, 3) := by decide +kernel
theorem dX10_areGood_38 : decode cX10_areGood 38 = .ok (.iload_n 2, 1) := by decide +kernel
theorem dX10_areGood_39 : decode cX10_areGood 39 = .ok (.iconst 1, 1) := by decide +kernel
theorem dX10_areGood_40 : decode cX10_areGood 40 = .ok (.if_icmp .ne 7, 3) := by decide +kernel
theorem dX10_areGood_43 : decode cX10_areGood 43 = .ok (.iconst 1, 1) := by decide +kernel
theorem dX10_areGood_44 : decode cX10_areGood 44 = .ok (.goto 4, 3) := by decide +kernel
theorem dX10_areGood_47 : decode cX10_areGood 47 = .ok (.iconst 0, 1) := by decide +kernel
theorem dX10_areGood_48 : decode cX10_areGood 48 = .ok (.ireturn, 1) := by decide +kernel
theorem dX10_areGood_49 : decode cX10_areGood 49 = .ok (.iload_n 0, 1) := by decide +kernel
theorem dX10_areGood_50 : decode cX10_areGood 50 = .ok (.iconst 5, 1) := by decide +kernel
theorem dX10_areGood_51 : decode cX10_areGood 51 = .ok (.if_icmp .ne 26, 3) := by decide +kernel
theorem dX10_areGood_54 : decode cX10_areGood 54 = .ok (.iload_n 1, 1) := by decide +kernel
theorem dX10_areGood_55 : decode cX10_areGood 55 = .ok (.invokestatic 179, 3) := by decide +kernel
theorem dX10_areGood_58 : decode cX10_areGood 58 = .ok (.ifCond .eq 17, 3) := by decide +kernel
theorem dX10_areGood_61 : decode cX10_areGood 61 = .ok (.iload_n 2, 1) := by decide +kernel
theorem dX10_areGood_62 : decode cX10_areGood 62 = .ok (.iconst 2, 1) := by decide +kernel
theorem dX10_areGood_63 : decode cX10_areGood 63 = .ok (.if_icmp .lt 12, 3) := by decide +kernel
theorem dX10_areGood_66 : decode cX10_areGood 66 = .ok (.iload_n 2, 1) := by decide +kernel
theorem dX10_areGood_67 : decode cX10_areGood 67 = .ok (.iconst 4, 1) := by decide +kernel
theorem dX10_areGood_68 : decode cX10_areGood 68 = .ok (.if_icmp .gt 7, 3) := by decide +kernel
theorem dX10_areGood_71 : decode cX10_areGood 71 = .ok (.iconst 1, 1) := by decide +kernel
theorem dX10_areGood_72 : decode cX10_areGood 72 = .ok (.goto 4, 3) := by decide +kernel
theorem dX10_areGood_75 : decode cX10_areGood 75 = .ok (.iconst 0, 1) := by decide +kernel
theorem dX10_areGood_76 : decode cX10_areGood 76 = .ok (.ireturn, 1) := by decide +kernel
theorem dX10_areGood_77 : decode cX10_areGood 77 = .ok (.iload_n 0, 1) := by decide +kernel
theorem dX10_areGood_78 : decode cX10_areGood 78 = .ok (.bipush 8, 2) := by decide +kernel
theorem dX10_areGood_80 : decode cX10_areGood 80 = .ok (.if_icmp .ne 18, 3) := by decide +kernel
theorem dX10_areGood_83 : decode cX10_areGood 83 = .ok (.iload_n 1, 1) := by decide +kernel
theorem dX10_areGood_84 : decode cX10_areGood 84 = .ok (.ifCond .lt 12, 3) := by decide +kernel
theorem dX10_areGood_87 : decode cX10_areGood 87 = .ok (.iload_n 1, 1) := by decide +kernel
theorem dX10_areGood_88 : decode cX10_areGood 88 = .ok (.iconst 3, 1) := by decide +kernel
theorem dX10_areGood_89 : decode cX10_areGood 89 = .ok (.if_icmp .gt 7, 3) := by decide +kernel
theorem dX10_areGood_92 : decode cX10_areGood 92 = .ok (.iconst 1, 1) := by decide +kernel
theorem dX10_areGood_93 : decode cX10_areGood 93 = .ok (.goto 4, 3) := by decide +kernel
theorem dX10_areGood_96 : decode cX10_areGood 96 = .ok (.iconst 0, 1) := by decide +kernel
theorem dX10_areGood_97 : decode cX10_areGood 97 = .ok (.ireturn, 1) := by decide +kernel
theorem dX10_areGood_98 : decode cX10_areGood 98 = .ok (.iload_n 0, 1) := by decide +kernel
theorem dX10_areGood_99 : decode cX10_areGood 99 = .ok (.bipush 9, 2) := by decide +kernel
theorem dX10_areGood_101 : decode cX10_areGood 101 = .ok (.if_icmp .ne 24, 3) := by decide +kernel
theorem dX10_areGood_104 : decode cX10_areGood 104 = .ok (.iload_n 1, 1) := by decide +kernel
theorem dX10_areGood_105 : decode cX10_areGood 105 = .ok (.ifCond .lt 24, 3) := by decide +kernel
theorem dX10_areGood_108 : decode cX10_areGood 108 = .ok (.iload_n 1, 1) := by decide +kernel
theorem dX10_areGood_109 : decode cX10_areGood 109 = .ok (.bipush 8, 2) := by decide +kernel
theorem dX10_areGood_111 : decode cX10_areGood 111 = .ok (.if_icmp .gt 18, 3) := by decide +kernel
theorem dX10_areGood_114 : decode cX10_areGood 114 = .ok (.iload_n 2, 1) := by decide +kernel
theorem dX10_areGood_115 : decode cX10_areGood 115 = .ok (.iload_n 3, 1) := by decide +kernel
theorem dX10_areGood_116 : decode cX10_areGood 116 = .ok (.if_icmp .le 13, 3) := by decide +kernel
theorem dX10_areGood_119 : decode cX10_areGood 119 = .ok (.iload_n 2, 1) := by decide +kernel
theorem dX10_areGood_120 : decode cX10_areGood 120 = .ok (.bipush 24, 2) := by decide +kernel
theorem dX10_areGood_122 : decode cX10_areGood 122 = .ok (.if_icmp .gt 7, 3) := by decide +kernel
theorem dX10_areGood_125 : decode cX10_areGood 125 = .ok (.iconst 1, 1) := by decide +kernel
theorem dX10_areGood_126 : decode cX10_areGood 126 = .ok (.goto 4, 3) := by decide +kernel
theorem dX10_areGood_129 : decode cX10_areGood 129 = .ok (.iconst 0, 1) := by decide +kernel
theorem dX10_areGood_130 : decode cX10_areGood 130 = .ok (.ireturn, 1) := by decide +kernel
theorem dX10_step_0 : decode cX10_step 0 = .ok (.aload_n 0, 1) := by decide +kernel
theorem dX10_step_1 : decode cX10_step 1 = .ok (.getfield 176, 3) := by decide +kernel
theorem dX10_step_4 : decode cX10_step 4 = .ok (.ifCond .gt 37, 3) := by decide +kernel
theorem dX10_step_7 : decode cX10_step 7 = .ok (.iload_n 1, 1) := by decide +kernel
theorem dX10_step_8 : decode cX10_step 8 = .ok (.invokestatic 179, 3) := by decide +kernel
theorem dX10_step_11 : decode cX10_step 11 = .ok (.ifCond .eq 30, 3) := by decide +kernel
theorem dX10_step_14 : decode cX10_step 14 = .ok (.aload_n 0, 1) := by decide +kernel
theorem dX10_step_15 : decode cX10_step 15 = .ok (.getfield 16, 3) := by decide +kernel
theorem dX10_step_18 : decode cX10_step 18 = .ok (.iload_n 1, 1) := by decide +kernel
theorem dX10_step_19 : decode cX10_step 19 = .ok (.iaload, 1) := by decide +kernel
theorem dX10_step_20 : decode cX10_step 20 = .ok (.bipush 24, 2) := by decide +kernel
theorem dX10_step_22 : decode cX10_step 22 = .ok (.if_icmp .eq 19, 3) := by decide +kernel
theorem dX10_step_25 : decode cX10_step 25 = .ok (.iload_n 2, 1) := by decide +kernel
theorem dX10_step_26 : decode cX10_step 26 = .ok (.iload_n 3, 1) := by decide +kernel
theorem dX10_step_27 : decode cX10_step 27 = .ok (.iload 4, 2) := by decide +kernel
theorem dX10_step_29 : decode cX10_step 29 = .ok (.aload_n 0, 1) := by decide +kernel
theorem dX10_step_30 : decode cX10_step 30 = .ok (.getfield 16, 3) := by decide +kernel
theorem dX10_step_33 : decode cX10_step 33 = .ok (.iload_n 1, 1) := by decide +kernel
theorem dX10_step_34 : decode cX10_step 34 = .ok (.iaload, 1) := by decide +kernel
theorem dX10_step_35 : decode cX10_step 35 = .ok (.invokestatic 182, 3) := by decide +kernel
theorem dX10_step_38 : decode cX10_step 38 = .ok (.ifCond .ne 5, 3) := by decide +kernel
theorem dX10_step_41 : decode cX10_step 41 = .ok (.iconst (-1), 1) := by decide +kernel
theorem dX10_step_42 : decode cX10_step 42 = .ok (.ireturn, 1) := by decide +kernel
theorem dX10_step_43 : decode cX10_step 43 = .ok (.bipush 24, 2) := by decide +kernel
theorem dX10_step_45 : decode cX10_step 45 = .ok (.iload_n 1, 1) := by decide +kernel
theorem dX10_step_46 : decode cX10_step 46 = .ok (.imul, 1) := by decide +kernel
theorem dX10_step_47 : decode cX10_step 47 = .ok (.aload_n 0, 1) := by decide +kernel
theorem dX10_step_48 : decode cX10_step 48 = .ok (.getfield 16, 3) := by decide +kernel
theorem dX10_step_51 : decode cX10_step 51 = .ok (.iload_n 1, 1) := by decide +kernel
theorem dX10_step_52 : decode cX10_step 52 = .ok (.iaload, 1) := by decide +kernel
theorem dX10_step_53 : decode cX10_step 53 = .ok (.iadd, 1) := by decide +kernel
theorem dX10_step_54 : decode cX10_step 54 = .ok (.istore 5, 2) := by decide +kernel
theorem dX10_step_56 : decode cX10_step 56 = .ok (.aload_n 0, 1) := by decide +kernel
theorem dX10_step_57 : decode cX10_step 57 = .ok (.getfield 19, 3) := by decide +kernel
theorem dX10_step_60 : decode cX10_step 60 = .ok (.iload 5, 2) := by decide +kernel
theorem dX10_step_62 : decode cX10_step 62 = .ok (.iload_n 2, 1) := by decide +kernel
theorem dX10_step_63 : decode cX10_step 63 = .ok (.iastore, 1) := by decide +kernel
theorem dX10_step_64 : decode cX10_step 64 = .ok (.aload_n 0, 1) := by decide +kernel
theorem dX10_step_65 : decode cX10_step 65 = .ok (.getfield 22, 3) := by decide +kernel
theorem dX10_step_68 : decode cX10_step 68 = .ok (.iload 5, 2) := by decide +kernel
theorem dX10_step_70 : decode cX10_step 70 = .ok (.iload_n 3, 1) := by decide +kernel
theorem dX10_step_71 : decode cX10_step 71 = .ok (.iastore, 1) := by decide +kernel
theorem dX10_step_72 : decode cX10_step 72 = .ok (.aload_n 0, 1) := by decide +kernel
theorem dX10_step_73 : decode cX10_step 73 = .ok (.getfield 25, 3) := by decide +kernel
theorem dX10_step_76 : decode cX10_step 76 = .ok (.iload 5, 2) := by decide +kernel
theorem dX10_step_78 : decode cX10_step 78 = .ok (.iload 4, 2) := by decide +kernel
theorem dX10_step_80 : decode cX10_step 80 = .ok (.iastore, 1) := by decide +kernel
theorem dX10_step_81 : decode cX10_step 81 = .ok (.aload_n 0, 1) := by decide +kernel
theorem dX10_step_82 : decode cX10_step 82 = .ok (.getfield 16, 3) := by decide +kernel
theorem dX10_step_85 : decode cX10_step 85 = .ok (.iload_n 1, 1) := by decide +kernel
theorem dX10_step_86 : decode cX10_step 86 = .ok (.aload_n 0, 1) := by decide +kernel
theorem dX10_step_87 : decode cX10_step 87 = .ok (.getfield 16, 3) := by decide +kernel
theorem dX10_step_90 : decode cX10_step 90 = .ok (.iload_n 1, 1) := by decide +kernel
theorem dX10_step_91 : decode cX10_step 91 = .ok (.iaload, 1) := by decide +kernel
theorem dX10_step_92 : decode cX10_step 92 = .ok (.iconst 1, 1) := by decide +kernel
theorem dX10_step_93 : decode cX10_step 93 = .ok (.iadd, 1) := by decide +kernel
theorem dX10_step_94 : decode cX10_step 94 = .ok (.iastore, 1) := by decide +kernel
theorem dX10_step_95 : decode cX10_step 95 = .ok (.aload_n 0, 1) := by decide +kernel
theorem dX10_step_96 : decode cX10_step 96 = .ok (.getfield 16, 3) := by decide +kernel
theorem dX10_step_99 : decode cX10_step 99 = .ok (.iload_n 1, 1) := by decide +kernel
theorem dX10_step_100 : decode cX10_step 100 = .ok (.iaload, 1) := by decide +kernel
theorem dX10_step_101 : decode cX10_step 101 = .ok (.ireturn, 1) := by decide +kernel
theorem dX10_handler_0 : decode cX10_handler 0 = .ok (.iload_n 1, 1) := by decide +kernel
theorem dX10_handler_1 : decode cX10_handler 1 = .ok (.ifCond .lt 23, 3) := by decide +kernel
theorem dX10_handler_4 : decode cX10_handler 4 = .ok (.iload_n 1, 1) := by decide +kernel
theorem dX10_handler_5 : decode cX10_handler 5 = .ok (.iconst 2, 1) := by decide +kernel
theorem dX10_handler_6 : decode cX10_handler 6 = .ok (.if_icmp .gt 18, 3) := by decide +kernel
theorem dX10_handler_9 : decode cX10_handler 9 = .ok (.iload_n 1, 1) := by decide +kernel
theorem dX10_handler_10 : decode cX10_handler 10 = .ok (.iconst 2, 1) := by decide +kernel
theorem dX10_handler_11 : decode cX10_handler 11 = .ok (.if_icmp .ge 15, 3) := by decide +kernel
theorem dX10_handler_14 : decode cX10_handler 14 = .ok (.iload_n 2, 1) := by decide +kernel
theorem dX10_handler_15 : decode cX10_handler 15 = .ok (.ifCond .lt 9, 3) := by decide +kernel
theorem dX10_handler_18 : decode cX10_handler 18 = .ok (.iload_n 2, 1) := by decide +kernel
theorem dX10_handler_19 : decode cX10_handler 19 = .ok (.bipush 7, 2) := by decide +kernel
theorem dX10_handler_21 : decode cX10_handler 21 = .ok (.if_icmp .le 5, 3) := by decide +kernel
theorem dX10_handler_24 : decode cX10_handler 24 = .ok (.iconst 0, 1) := by decide +kernel
theorem dX10_handler_25 : decode cX10_handler 25 = .ok (.ireturn, 1) := by decide +kernel
theorem dX10_handler_26 : decode cX10_handler 26 = .ok (.iload_n 1, 1) := by decide +kernel
theorem dX10_handler_27 : decode cX10_handler 27 = .ok (.iconst 2, 1) := by decide +kernel
theorem dX10_handler_28 : decode cX10_handler 28 = .ok (.if_icmp .ne 8, 3) := by decide +kernel
theorem dX10_handler_31 : decode cX10_handler 31 = .ok (.bipush 16, 2) := by decide +kernel
theorem dX10_handler_33 : decode cX10_handler 33 = .ok (.goto 9, 3) := by decide +kernel
theorem dX10_handler_36 : decode cX10_handler 36 = .ok (.bipush 8, 2) := by decide +kernel
theorem dX10_handler_38 : decode cX10_handler 38 = .ok (.iload_n 1, 1) := by decide +kernel
theorem dX10_handler_39 : decode cX10_handler 39 = .ok (.imul, 1) := by decide +kernel
theorem dX10_handler_40 : decode cX10_handler 40 = .ok (.iload_n 2, 1) := by decide +kernel
theorem dX10_handler_41 : decode cX10_handler 41 = .ok (.iadd, 1) := by decide +kernel
theorem dX10_handler_42 : decode cX10_handler 42 = .ok (.istore 5, 2) := by decide +kernel
theorem dX10_handler_44 : decode cX10_handler 44 = .ok (.aload_n 0, 1) := by decide +kernel
theorem dX10_handler_45 : decode cX10_handler 45 = .ok (.getfield 28, 3) := by decide +kernel
theorem dX10_handler_48 : decode cX10_handler 48 = .ok (.iload 5, 2) := by decide +kernel
theorem dX10_handler_50 : decode cX10_handler 50 = .ok (.iconst 1, 1) := by decide +kernel
theorem dX10_handler_51 : decode cX10_handler 51 = .ok (.bastore, 1) := by decide +kernel
theorem dX10_handler_52 : decode cX10_handler 52 = .ok (.aload_n 0, 1) := by decide +kernel
theorem dX10_handler_53 : decode cX10_handler 53 = .ok (.getfield 35, 3) := by decide +kernel
theorem dX10_handler_56 : decode cX10_handler 56 = .ok (.iload 5, 2) := by decide +kernel
theorem dX10_handler_58 : decode cX10_handler 58 = .ok (.iload_n 3, 1) := by decide +kernel
theorem dX10_handler_59 : decode cX10_handler 59 = .ok (.iastore, 1) := by decide +kernel
theorem dX10_handler_60 : decode cX10_handler 60 = .ok (.aload_n 0, 1) := by decide +kernel
theorem dX10_handler_61 : decode cX10_handler 61 = .ok (.getfield 32, 3) := by decide +kernel
theorem dX10_handler_64 : decode cX10_handler 64 = .ok (.iload 5, 2) := by decide +kernel
theorem dX10_handler_66 : decode cX10_handler 66 = .ok (.iload 4, 2) := by decide +kernel
theorem dX10_handler_68 : decode cX10_handler 68 = .ok (.bastore, 1) := by decide +kernel
theorem dX10_handler_69 : decode cX10_handler 69 = .ok (.iconst 1, 1) := by decide +kernel
theorem dX10_handler_70 : decode cX10_handler 70 = .ok (.ireturn, 1) := by decide +kernel
theorem dX10_threads_0 : decode cX10_threads 0 = .ok (.iload_n 1, 1) := by decide +kernel
theorem dX10_threads_1 : decode cX10_threads 1 = .ok (.iconst 1, 1) := by decide +kernel
theorem dX10_threads_2 : decode cX10_threads 2 = .ok (.if_icmp .lt 16, 3) := by decide +kernel
theorem dX10_threads_5 : decode cX10_threads 5 = .ok (.iload_n 1, 1) := by decide +kernel
theorem dX10_threads_6 : decode cX10_threads 6 = .ok (.bipush 6, 2) := by decide +kernel
theorem dX10_threads_8 : decode cX10_threads 8 = .ok (.if_icmp .gt 10, 3) := by decide +kernel
theorem dX10_threads_11 : decode cX10_threads 11 = .ok (.aload_n 0, 1) := by decide +kernel
theorem dX10_threads_12 : decode cX10_threads 12 = .ok (.getfield 176, 3) := by decide +kernel
theorem dX10_threads_15 : decode cX10_threads 15 = .ok (.ifCond .le 5, 3) := by decide +kernel
theorem dX10_threads_18 : decode cX10_threads 18 = .ok (.iconst 0, 1) := by decide +kernel
theorem dX10_threads_19 : decode cX10_threads 19 = .ok (.ireturn, 1) := by decide +kernel
theorem dX10_threads_20 : decode cX10_threads 20 = .ok (.aload_n 0, 1) := by decide +kernel
theorem dX10_threads_21 : decode cX10_threads 21 = .ok (.iload_n 1, 1) := by decide +kernel
theorem dX10_threads_22 : decode cX10_threads 22 = .ok (.putfield 38, 3) := by decide +kernel
theorem dX10_threads_25 : decode cX10_threads 25 = .ok (.iconst 1, 1) := by decide +kernel
theorem dX10_threads_26 : decode cX10_threads 26 = .ok (.ireturn, 1) := by decide +kernel
theorem dX10_anew_0 : decode cX10_anew 0 = .ok (.iconst 0, 1) := by decide +kernel
theorem dX10_anew_1 : decode cX10_anew 1 = .ok (.istore_n 2, 1) := by decide +kernel
theorem dX10_anew_2 : decode cX10_anew 2 = .ok (.iload_n 2, 1) := by decide +kernel
theorem dX10_anew_3 : decode cX10_anew 3 = .ok (.bipush 8, 2) := by decide +kernel
theorem dX10_anew_5 : decode cX10_anew 5 = .ok (.if_icmp .ge 20, 3) := by decide +kernel
theorem dX10_anew_8 : decode cX10_anew 8 = .ok (.iload_n 1, 1) := by decide +kernel
theorem dX10_anew_9 : decode cX10_anew 9 = .ok (.ifCond .eq 16, 3) := by decide +kernel
theorem dX10_anew_12 : decode cX10_anew 12 = .ok (.aload_n 0, 1) := by decide +kernel
theorem dX10_anew_13 : decode cX10_anew 13 = .ok (.getfield 16, 3) := by decide +kernel
theorem dX10_anew_16 : decode cX10_anew 16 = .ok (.iload_n 2, 1) := by decide +kernel
theorem dX10_anew_17 : decode cX10_anew 17 = .ok (.iconst 0, 1) := by decide +kernel
theorem dX10_anew_18 : decode cX10_anew 18 = .ok (.iastore, 1) := by decide +kernel
theorem dX10_anew_19 : decode cX10_anew 19 = .ok (.iinc 2 1, 3) := by decide +kernel
theorem dX10_anew_22 : decode cX10_anew 22 = .ok (.goto (-20), 3) := by decide +kernel
theorem dX10_anew_25 : decode cX10_anew 25 = .ok (.aload_n 0, 1) := by decide +kernel
theorem dX10_anew_26 : decode cX10_anew 26 = .ok (.iconst 0, 1) := by decide +kernel
theorem dX10_anew_27 : decode cX10_anew 27 = .ok (.putfield 176, 3) := by decide +kernel
theorem dX10_anew_30 : decode cX10_anew 30 = .ok (.aload_n 0, 1) := by decide +kernel
theorem dX10_anew_31 : decode cX10_anew 31 = .ok (.iconst 0, 1) := by decide +kernel
theorem dX10_anew_32 : decode cX10_anew 32 = .ok (.putfield 186, 3) := by decide +kernel
theorem dX10_anew_35 : decode cX10_anew 35 = .ok (.aload_n 0, 1) := by decide +kernel
theorem dX10_anew_36 : decode cX10_anew 36 = .ok (.iconst 0, 1) := by decide +kernel
theorem dX10_anew_37 : decode cX10_anew 37 = .ok (.putfield 189, 3) := by decide +kernel
theorem dX10_anew_40 : decode cX10_anew 40 = .ok (.aload_n 0, 1) := by decide +kernel
theorem dX10_anew_41 : decode cX10_anew 41 = .ok (.iconst 0, 1) := by decide +kernel
theorem dX10_anew_42 : decode cX10_anew 42 = .ok (.putfield 192, 3) := by decide +kernel
theorem dX10_anew_45 : decode cX10_anew 45 = .ok (.aload_n 0, 1) := by decide +kernel
theorem dX10_anew_46 : decode cX10_anew 46 = .ok (.iconst 0, 1) := by decide +kernel
theorem dX10_anew_47 : decode cX10_anew 47 = .ok (.putfield 195, 3) := by decide +kernel
theorem dX10_anew_50 : decode cX10_anew 50 = .ok (.aload_n 0, 1) := by decide +kernel
theorem dX10_anew_51 : decode cX10_anew 51 = .ok (.iconst 0, 1) := by decide +kernel
theorem dX10_anew_52 : decode cX10_anew 52 = .ok (.putfield 198, 3) := by decide +kernel
theorem dX10_anew_55 : decode cX10_anew 55 = .ok (.iconst 0, 1) := by decide +kernel
theorem dX10_anew_56 : decode cX10_anew 56 = .ok (.istore_n 2, 1) := by decide +kernel
theorem dX10_anew_57 : decode cX10_anew 57 = .ok (.iload_n 2, 1) := by decide +kernel
theorem dX10_anew_58 : decode cX10_anew 58 = .ok (.bipush 6, 2) := by decide +kernel
theorem dX10_anew_60 : decode cX10_anew 60 = .ok (.if_icmp .ge 16, 3) := by decide +kernel
theorem dX10_anew_63 : decode cX10_anew 63 = .ok (.aload_n 0, 1) := by decide +kernel
theorem dX10_anew_64 : decode cX10_anew 64 = .ok (.getfield 42, 3) := by decide +kernel
theorem dX10_anew_67 : decode cX10_anew 67 = .ok (.iload_n 2, 1) := by decide +kernel
theorem dX10_anew_68 : decode cX10_anew 68 = .ok (.iconst (-1), 1) := by decide +kernel
theorem dX10_anew_69 : decode cX10_anew 69 = .ok (.iastore, 1) := by decide +kernel
theorem dX10_anew_70 : decode cX10_anew 70 = .ok (.iinc 2 1, 3) := by decide +kernel
theorem dX10_anew_73 : decode cX10_anew 73 = .ok (.goto (-16), 3) := by decide +kernel
theorem dX10_anew_76 : decode cX10_anew 76 = .ok (.return_, 1) := by decide +kernel
theorem dX10_isRun_0 : decode cX10_isRun 0 = .ok (.iload_n 1, 1) := by decide +kernel
theorem dX10_isRun_1 : decode cX10_isRun 1 = .ok (.ifCond .lt 15, 3) := by decide +kernel
theorem dX10_isRun_4 : decode cX10_isRun 4 = .ok (.iload_n 1, 1) := by decide +kernel
theorem dX10_isRun_5 : decode cX10_isRun 5 = .ok (.aload_n 0, 1) := by decide +kernel
theorem dX10_isRun_6 : decode cX10_isRun 6 = .ok (.getfield 176, 3) := by decide +kernel
theorem dX10_isRun_9 : decode cX10_isRun 9 = .ok (.if_icmp .ge 7, 3) := by decide +kernel
theorem dX10_isRun_12 : decode cX10_isRun 12 = .ok (.iconst 1, 1) := by decide +kernel
theorem dX10_isRun_13 : decode cX10_isRun 13 = .ok (.goto 4, 3) := by decide +kernel
theorem dX10_isRun_16 : decode cX10_isRun 16 = .ok (.iconst 0, 1) := by decide +kernel
theorem dX10_isRun_17 : decode cX10_isRun 17 = .ok (.ireturn, 1) := by decide +kernel
theorem dX10_isOver_0 : decode cX10_isOver 0 = .ok (.aload_n 0, 1) := by decide +kernel
theorem dX10_isOver_1 : decode cX10_isOver 1 = .ok (.getfield 45, 3) := by decide +kernel
theorem dX10_isOver_4 : decode cX10_isOver 4 = .ok (.iload_n 1, 1) := by decide +kernel
theorem dX10_isOver_5 : decode cX10_isOver 5 = .ok (.iaload, 1) := by decide +kernel
theorem dX10_isOver_6 : decode cX10_isOver 6 = .ok (.iconst 3, 1) := by decide +kernel
theorem dX10_isOver_7 : decode cX10_isOver 7 = .ok (.if_icmp .eq 13, 3) := by decide +kernel
theorem dX10_isOver_10 : decode cX10_isOver 10 = .ok (.aload_n 0, 1) := by decide +kernel
theorem dX10_isOver_11 : decode cX10_isOver 11 = .ok (.getfield 45, 3) := by decide +kernel
theorem dX10_isOver_14 : decode cX10_isOver 14 = .ok (.iload_n 1, 1) := by decide +kernel
theorem dX10_isOver_15 : decode cX10_isOver 15 = .ok (.iaload, 1) := by decide +kernel
theorem dX10_isOver_16 : decode cX10_isOver 16 = .ok (.iconst 4, 1) := by decide +kernel
theorem dX10_isOver_17 : decode cX10_isOver 17 = .ok (.if_icmp .ne 7, 3) := by decide +kernel
theorem dX10_isOver_20 : decode cX10_isOver 20 = .ok (.iconst 1, 1) := by decide +kernel
theorem dX10_isOver_21 : decode cX10_isOver 21 = .ok (.goto 4, 3) := by decide +kernel
theorem dX10_isOver_24 : decode cX10_isOver 24 = .ok (.iconst 0, 1) := by decide +kernel
theorem dX10_isOver_25 : decode cX10_isOver 25 = .ok (.ireturn, 1) := by decide +kernel
theorem dX10_comes_0 : decode cX10_comes 0 = .ok (.aload_n 0, 1) := by decide +kernel
theorem dX10_comes_1 : decode cX10_comes 1 = .ok (.getfield 176, 3) := by decide +kernel
theorem dX10_comes_4 : decode cX10_comes 4 = .ok (.istore_n 3, 1) := by decide +kernel
theorem dX10_comes_5 : decode cX10_comes 5 = .ok (.aload_n 0, 1) := by decide +kernel
theorem dX10_comes_6 : decode cX10_comes 6 = .ok (.iload_n 3, 1) := by decide +kernel
theorem dX10_comes_7 : decode cX10_comes 7 = .ok (.iconst 1, 1) := by decide +kernel
theorem dX10_comes_8 : decode cX10_comes 8 = .ok (.iadd, 1) := by decide +kernel
theorem dX10_comes_9 : decode cX10_comes 9 = .ok (.putfield 176, 3) := by decide +kernel
theorem dX10_comes_12 : decode cX10_comes 12 = .ok (.aload_n 0, 1) := by decide +kernel
theorem dX10_comes_13 : decode cX10_comes 13 = .ok (.getfield 45, 3) := by decide +kernel
theorem dX10_comes_16 : decode cX10_comes 16 = .ok (.iload_n 3, 1) := by decide +kernel
theorem dX10_comes_17 : decode cX10_comes 17 = .ok (.iconst 0, 1) := by decide +kernel
theorem dX10_comes_18 : decode cX10_comes 18 = .ok (.iastore, 1) := by decide +kernel
theorem dX10_comes_19 : decode cX10_comes 19 = .ok (.aload_n 0, 1) := by decide +kernel
theorem dX10_comes_20 : decode cX10_comes 20 = .ok (.getfield 48, 3) := by decide +kernel
theorem dX10_comes_23 : decode cX10_comes 23 = .ok (.iload_n 3, 1) := by decide +kernel
theorem dX10_comes_24 : decode cX10_comes 24 = .ok (.iload_n 1, 1) := by decide +kernel
theorem dX10_comes_25 : decode cX10_comes 25 = .ok (.iastore, 1) := by decide +kernel
theorem dX10_comes_26 : decode cX10_comes 26 = .ok (.aload_n 0, 1) := by decide +kernel
theorem dX10_comes_27 : decode cX10_comes 27 = .ok (.getfield 51, 3) := by decide +kernel
theorem dX10_comes_30 : decode cX10_comes 30 = .ok (.iload_n 3, 1) := by decide +kernel
theorem dX10_comes_31 : decode cX10_comes 31 = .ok (.iload_n 2, 1) := by decide +kernel
theorem dX10_comes_32 : decode cX10_comes 32 = .ok (.iastore, 1) := by decide +kernel
theorem dX10_comes_33 : decode cX10_comes 33 = .ok (.aload_n 0, 1) := by decide +kernel
theorem dX10_comes_34 : decode cX10_comes 34 = .ok (.getfield 54, 3) := by decide +kernel
theorem dX10_comes_37 : decode cX10_comes 37 = .ok (.iload_n 3, 1) := by decide +kernel
theorem dX10_comes_38 : decode cX10_comes 38 = .ok (.iload_n 2, 1) := by decide +kernel
theorem dX10_comes_39 : decode cX10_comes 39 = .ok (.iconst (-1), 1) := by decide +kernel
theorem dX10_comes_40 : decode cX10_comes 40 = .ok (.if_icmp .ne 7, 3) := by decide +kernel
theorem dX10_comes_43 : decode cX10_comes 43 = .ok (.iload_n 3, 1) := by decide +kernel
theorem dX10_comes_44 : decode cX10_comes 44 = .ok (.goto 9, 3) := by decide +kernel
theorem dX10_comes_47 : decode cX10_comes 47 = .ok (.aload_n 0, 1) := by decide +kernel
theorem dX10_comes_48 : decode cX10_comes 48 = .ok (.getfield 54, 3) := by decide +kernel
theorem dX10_comes_51 : decode cX10_comes 51 = .ok (.iload_n 2, 1) := by decide +kernel
theorem dX10_comes_52 : decode cX10_comes 52 = .ok (.iaload, 1) := by decide +kernel
theorem dX10_comes_53 : decode cX10_comes 53 = .ok (.iastore, 1) := by decide +kernel
theorem dX10_comes_54 : decode cX10_comes 54 = .ok (.aload_n 0, 1) := by decide +kernel
theorem dX10_comes_55 : decode cX10_comes 55 = .ok (.getfield 57, 3) := by decide +kernel
theorem dX10_comes_58 : decode cX10_comes 58 = .ok (.iload_n 3, 1) := by decide +kernel
theorem dX10_comes_59 : decode cX10_comes 59 = .ok (.iload_n 2, 1) := by decide +kernel
theorem dX10_comes_60 : decode cX10_comes 60 = .ok (.iconst (-1), 1) := by decide +kernel
theorem dX10_comes_61 : decode cX10_comes 61 = .ok (.if_icmp .ne 7, 3) := by decide +kernel
theorem dX10_comes_64 : decode cX10_comes 64 = .ok (.iconst 0, 1) := by decide +kernel
theorem dX10_comes_65 : decode cX10_comes 65 = .ok (.goto 11, 3) := by decide +kernel
theorem dX10_comes_68 : decode cX10_comes 68 = .ok (.aload_n 0, 1) := by decide +kernel
theorem dX10_comes_69 : decode cX10_comes 69 = .ok (.getfield 57, 3) := by decide +kernel
theorem dX10_comes_72 : decode cX10_comes 72 = .ok (.iload_n 2, 1) := by decide +kernel
theorem dX10_comes_73 : decode cX10_comes 73 = .ok (.iaload, 1) := by decide +kernel
theorem dX10_comes_74 : decode cX10_comes 74 = .ok (.iconst 1, 1) := by decide +kernel
theorem dX10_comes_75 : decode cX10_comes 75 = .ok (.iadd, 1) := by decide +kernel
theorem dX10_comes_76 : decode cX10_comes 76 = .ok (.iastore, 1) := by decide +kernel
theorem dX10_comes_77 : decode cX10_comes 77 = .ok (.aload_n 0, 1) := by decide +kernel
theorem dX10_comes_78 : decode cX10_comes 78 = .ok (.getfield 60, 3) := by decide +kernel
theorem dX10_comes_81 : decode cX10_comes 81 = .ok (.iload_n 3, 1) := by decide +kernel
theorem dX10_comes_82 : decode cX10_comes 82 = .ok (.iconst (-1), 1) := by decide +kernel
theorem dX10_comes_83 : decode cX10_comes 83 = .ok (.iastore, 1) := by decide +kernel
theorem dX10_comes_84 : decode cX10_comes 84 = .ok (.aload_n 0, 1) := by decide +kernel
theorem dX10_comes_85 : decode cX10_comes 85 = .ok (.getfield 63, 3) := by decide +kernel
theorem dX10_comes_88 : decode cX10_comes 88 = .ok (.iload_n 3, 1) := by decide +kernel
theorem dX10_comes_89 : decode cX10_comes 89 = .ok (.iconst 0, 1) := by decide +kernel
theorem dX10_comes_90 : decode cX10_comes 90 = .ok (.iastore, 1) := by decide +kernel
theorem dX10_comes_91 : decode cX10_comes 91 = .ok (.aload_n 0, 1) := by decide +kernel
theorem dX10_comes_92 : decode cX10_comes 92 = .ok (.getfield 66, 3) := by decide +kernel
theorem dX10_comes_95 : decode cX10_comes 95 = .ok (.iload_n 3, 1) := by decide +kernel
theorem dX10_comes_96 : decode cX10_comes 96 = .ok (.iconst 0, 1) := by decide +kernel
theorem dX10_comes_97 : decode cX10_comes 97 = .ok (.iastore, 1) := by decide +kernel
theorem dX10_comes_98 : decode cX10_comes 98 = .ok (.aload_n 0, 1) := by decide +kernel
theorem dX10_comes_99 : decode cX10_comes 99 = .ok (.getfield 69, 3) := by decide +kernel
theorem dX10_comes_102 : decode cX10_comes 102 = .ok (.iload_n 3, 1) := by decide +kernel
theorem dX10_comes_103 : decode cX10_comes 103 = .ok (.iload_n 2, 1) := by decide +kernel
theorem dX10_comes_104 : decode cX10_comes 104 = .ok (.iconst (-1), 1) := by decide +kernel
theorem dX10_comes_105 : decode cX10_comes 105 = .ok (.if_icmp .ne 7, 3) := by decide +kernel
theorem dX10_comes_108 : decode cX10_comes 108 = .ok (.iconst (-1), 1) := by decide +kernel
theorem dX10_comes_109 : decode cX10_comes 109 = .ok (.goto 9, 3) := by decide +kernel
theorem dX10_comes_112 : decode cX10_comes 112 = .ok (.aload_n 0, 1) := by decide +kernel
theorem dX10_comes_113 : decode cX10_comes 113 = .ok (.getfield 66, 3) := by decide +kernel
theorem dX10_comes_116 : decode cX10_comes 116 = .ok (.iload_n 2, 1) := by decide +kernel
theorem dX10_comes_117 : decode cX10_comes 117 = .ok (.iaload, 1) := by decide +kernel
theorem dX10_comes_118 : decode cX10_comes 118 = .ok (.iastore, 1) := by decide +kernel
theorem dX10_comes_119 : decode cX10_comes 119 = .ok (.aload_n 0, 1) := by decide +kernel
theorem dX10_comes_120 : decode cX10_comes 120 = .ok (.getfield 72, 3) := by decide +kernel
theorem dX10_comes_123 : decode cX10_comes 123 = .ok (.iload_n 3, 1) := by decide +kernel
theorem dX10_comes_124 : decode cX10_comes 124 = .ok (.iconst (-1), 1) := by decide +kernel
theorem dX10_comes_125 : decode cX10_comes 125 = .ok (.iastore, 1) := by decide +kernel
theorem dX10_comes_126 : decode cX10_comes 126 = .ok (.aload_n 0, 1) := by decide +kernel
theorem dX10_comes_127 : decode cX10_comes 127 = .ok (.getfield 75, 3) := by decide +kernel
theorem dX10_comes_130 : decode cX10_comes 130 = .ok (.iload_n 3, 1) := by decide +kernel
theorem dX10_comes_131 : decode cX10_comes 131 = .ok (.iconst 0, 1) := by decide +kernel
theorem dX10_comes_132 : decode cX10_comes 132 = .ok (.iastore, 1) := by decide +kernel
theorem dX10_comes_133 : decode cX10_comes 133 = .ok (.aload_n 0, 1) := by decide +kernel
theorem dX10_comes_134 : decode cX10_comes 134 = .ok (.getfield 78, 3) := by decide +kernel
theorem dX10_comes_137 : decode cX10_comes 137 = .ok (.iload_n 3, 1) := by decide +kernel
theorem dX10_comes_138 : decode cX10_comes 138 = .ok (.iconst 0, 1) := by decide +kernel
theorem dX10_comes_139 : decode cX10_comes 139 = .ok (.bastore, 1) := by decide +kernel
theorem dX10_comes_140 : decode cX10_comes 140 = .ok (.aload_n 0, 1) := by decide +kernel
theorem dX10_comes_141 : decode cX10_comes 141 = .ok (.getfield 81, 3) := by decide +kernel
theorem dX10_comes_144 : decode cX10_comes 144 = .ok (.iload_n 3, 1) := by decide +kernel
theorem dX10_comes_145 : decode cX10_comes 145 = .ok (.iconst 0, 1) := by decide +kernel
theorem dX10_comes_146 : decode cX10_comes 146 = .ok (.bastore, 1) := by decide +kernel
theorem dX10_comes_147 : decode cX10_comes 147 = .ok (.aload_n 0, 1) := by decide +kernel
theorem dX10_comes_148 : decode cX10_comes 148 = .ok (.getfield 84, 3) := by decide +kernel
theorem dX10_comes_151 : decode cX10_comes 151 = .ok (.iload_n 3, 1) := by decide +kernel
theorem dX10_comes_152 : decode cX10_comes 152 = .ok (.iconst 0, 1) := by decide +kernel
theorem dX10_comes_153 : decode cX10_comes 153 = .ok (.bastore, 1) := by decide +kernel
theorem dX10_comes_154 : decode cX10_comes 154 = .ok (.aload_n 0, 1) := by decide +kernel
theorem dX10_comes_155 : decode cX10_comes 155 = .ok (.getfield 87, 3) := by decide +kernel
theorem dX10_comes_158 : decode cX10_comes 158 = .ok (.iload_n 3, 1) := by decide +kernel
theorem dX10_comes_159 : decode cX10_comes 159 = .ok (.iconst 0, 1) := by decide +kernel
theorem dX10_comes_160 : decode cX10_comes 160 = .ok (.bastore, 1) := by decide +kernel
theorem dX10_comes_161 : decode cX10_comes 161 = .ok (.aload_n 0, 1) := by decide +kernel
theorem dX10_comes_162 : decode cX10_comes 162 = .ok (.getfield 102, 3) := by decide +kernel
theorem dX10_comes_165 : decode cX10_comes 165 = .ok (.iload_n 3, 1) := by decide +kernel
theorem dX10_comes_166 : decode cX10_comes 166 = .ok (.iconst 0, 1) := by decide +kernel
theorem dX10_comes_167 : decode cX10_comes 167 = .ok (.bastore, 1) := by decide +kernel
theorem dX10_comes_168 : decode cX10_comes 168 = .ok (.aload_n 0, 1) := by decide +kernel
theorem dX10_comes_169 : decode cX10_comes 169 = .ok (.getfield 114, 3) := by decide +kernel
theorem dX10_comes_172 : decode cX10_comes 172 = .ok (.iload_n 3, 1) := by decide +kernel
theorem dX10_comes_173 : decode cX10_comes 173 = .ok (.iconst 0, 1) := by decide +kernel
theorem dX10_comes_174 : decode cX10_comes 174 = .ok (.iastore, 1) := by decide +kernel
theorem dX10_comes_175 : decode cX10_comes 175 = .ok (.aload_n 0, 1) := by decide +kernel
theorem dX10_comes_176 : decode cX10_comes 176 = .ok (.getfield 123, 3) := by decide +kernel
theorem dX10_comes_179 : decode cX10_comes 179 = .ok (.iload_n 3, 1) := by decide +kernel
theorem dX10_comes_180 : decode cX10_comes 180 = .ok (.iconst 0, 1) := by decide +kernel
theorem dX10_comes_181 : decode cX10_comes 181 = .ok (.iastore, 1) := by decide +kernel
theorem dX10_comes_182 : decode cX10_comes 182 = .ok (.iconst 0, 1) := by decide +kernel
theorem dX10_comes_183 : decode cX10_comes 183 = .ok (.istore 4, 2) := by decide +kernel
theorem dX10_comes_185 : decode cX10_comes 185 = .ok (.iload 4, 2) := by decide +kernel
theorem dX10_comes_187 : decode cX10_comes 187 = .ok (.bipush 8, 2) := by decide +kernel
theorem dX10_comes_189 : decode cX10_comes 189 = .ok (.if_icmp .ge 56, 3) := by decide +kernel
theorem dX10_comes_192 : decode cX10_comes 192 = .ok (.aload_n 0, 1) := by decide +kernel
theorem dX10_comes_193 : decode cX10_comes 193 = .ok (.getfield 111, 3) := by decide +kernel
theorem dX10_comes_196 : decode cX10_comes 196 = .ok (.bipush 8, 2) := by decide +kernel
theorem dX10_comes_198 : decode cX10_comes 198 = .ok (.iload_n 3, 1) := by decide +kernel
theorem dX10_comes_199 : decode cX10_comes 199 = .ok (.imul, 1) := by decide +kernel
theorem dX10_comes_200 : decode cX10_comes 200 = .ok (.iload 4, 2) := by decide +kernel
theorem dX10_comes_202 : decode cX10_comes 202 = .ok (.iadd, 1) := by decide +kernel
theorem dX10_comes_203 : decode cX10_comes 203 = .ok (.iconst 0, 1) := by decide +kernel
theorem dX10_comes_204 : decode cX10_comes 204 = .ok (.bastore, 1) := by decide +kernel
theorem dX10_comes_205 : decode cX10_comes 205 = .ok (.aload_n 0, 1) := by decide +kernel
theorem dX10_comes_206 : decode cX10_comes 206 = .ok (.getfield 105, 3) := by decide +kernel
theorem dX10_comes_209 : decode cX10_comes 209 = .ok (.bipush 8, 2) := by decide +kernel
theorem dX10_comes_211 : decode cX10_comes 211 = .ok (.iload_n 3, 1) := by decide +kernel
theorem dX10_comes_212 : decode cX10_comes 212 = .ok (.imul, 1) := by decide +kernel
theorem dX10_comes_213 : decode cX10_comes 213 = .ok (.iload 4, 2) := by decide +kernel
theorem dX10_comes_215 : decode cX10_comes 215 = .ok (.iadd, 1) := by decide +kernel
theorem dX10_comes_216 : decode cX10_comes 216 = .ok (.iload_n 2, 1) := by decide +kernel
theorem dX10_comes_217 : decode cX10_comes 217 = .ok (.iconst (-1), 1) := by decide +kernel
theorem dX10_comes_218 : decode cX10_comes 218 = .ok (.if_icmp .ne 13, 3) := by decide +kernel
theorem dX10_comes_221 : decode cX10_comes 221 = .ok (.aload_n 0, 1) := by decide +kernel
theorem dX10_comes_222 : decode cX10_comes 222 = .ok (.getfield 13, 3) := by decide +kernel
theorem dX10_comes_225 : decode cX10_comes 225 = .ok (.iload 4, 2) := by decide +kernel
theorem dX10_comes_227 : decode cX10_comes 227 = .ok (.iaload, 1) := by decide +kernel
theorem dX10_comes_228 : decode cX10_comes 228 = .ok (.goto 10, 3) := by decide +kernel
theorem dX10_comes_231 : decode cX10_comes 231 = .ok (.aload_n 0, 1) := by decide +kernel
theorem dX10_comes_232 : decode cX10_comes 232 = .ok (.iload_n 2, 1) := by decide +kernel
theorem dX10_comes_233 : decode cX10_comes 233 = .ok (.iload 4, 2) := by decide +kernel
theorem dX10_comes_235 : decode cX10_comes 235 = .ok (.invokevirtual 201, 3) := by decide +kernel
theorem dX10_comes_238 : decode cX10_comes 238 = .ok (.iastore, 1) := by decide +kernel
theorem dX10_comes_239 : decode cX10_comes 239 = .ok (.iinc 4 1, 3) := by decide +kernel
theorem dX10_comes_242 : decode cX10_comes 242 = .ok (.goto (-57), 3) := by decide +kernel
theorem dX10_comes_245 : decode cX10_comes 245 = .ok (.iload_n 3, 1) := by decide +kernel
theorem dX10_comes_246 : decode cX10_comes 246 = .ok (.ireturn, 1) := by decide +kernel
theorem dX10_submit_0 : decode cX10_submit 0 = .ok (.iload_n 1, 1) := by decide +kernel
theorem dX10_submit_1 : decode cX10_submit 1 = .ok (.invokestatic 179, 3) := by decide +kernel
theorem dX10_submit_4 : decode cX10_submit 4 = .ok (.ifCond .eq 13, 3) := by decide +kernel
theorem dX10_submit_7 : decode cX10_submit 7 = .ok (.aload_n 0, 1) := by decide +kernel
theorem dX10_submit_8 : decode cX10_submit 8 = .ok (.getfield 176, 3) := by decide +kernel
theorem dX10_submit_11 : decode cX10_submit 11 = .ok (.sipush 200, 3) := by decide +kernel
theorem dX10_submit_14 : decode cX10_submit 14 = .ok (.if_icmp .ne 5, 3) := by decide +kernel
theorem dX10_submit_17 : decode cX10_submit 17 = .ok (.iconst (-1), 1) := by decide +kernel
theorem dX10_submit_18 : decode cX10_submit 18 = .ok (.ireturn, 1) := by decide +kernel
theorem dX10_submit_19 : decode cX10_submit 19 = .ok (.aload_n 0, 1) := by decide +kernel
theorem dX10_submit_20 : decode cX10_submit 20 = .ok (.iload_n 1, 1) := by decide +kernel
theorem dX10_submit_21 : decode cX10_submit 21 = .ok (.iconst (-1), 1) := by decide +kernel
theorem dX10_submit_22 : decode cX10_submit 22 = .ok (.invokevirtual 205, 3) := by decide +kernel
theorem dX10_submit_25 : decode cX10_submit 25 = .ok (.ireturn, 1) := by decide +kernel
theorem dX10_binding_0 : decode cX10_binding 0 = .ok (.aload_n 0, 1) := by decide +kernel
theorem dX10_binding_1 : decode cX10_binding 1 = .ok (.getfield 114, 3) := by decide +kernel
theorem dX10_binding_4 : decode cX10_binding 4 = .ok (.iload_n 1, 1) := by decide +kernel
theorem dX10_binding_5 : decode cX10_binding 5 = .ok (.iaload, 1) := by decide +kernel
theorem dX10_binding_6 : decode cX10_binding 6 = .ok (.iconst 1, 1) := by decide +kernel
theorem dX10_binding_7 : decode cX10_binding 7 = .ok (.isub, 1) := by decide +kernel
theorem dX10_binding_8 : decode cX10_binding 8 = .ok (.istore_n 3, 1) := by decide +kernel
theorem dX10_binding_9 : decode cX10_binding 9 = .ok (.iload_n 3, 1) := by decide +kernel
theorem dX10_binding_10 : decode cX10_binding 10 = .ok (.ifCond .lt 31, 3) := by decide +kernel
theorem dX10_binding_13 : decode cX10_binding 13 = .ok (.aload_n 0, 1) := by decide +kernel
theorem dX10_binding_14 : decode cX10_binding 14 = .ok (.getfield 117, 3) := by decide +kernel
theorem dX10_binding_17 : decode cX10_binding 17 = .ok (.bipush 24, 2) := by decide +kernel
theorem dX10_binding_19 : decode cX10_binding 19 = .ok (.iload_n 1, 1) := by decide +kernel
theorem dX10_binding_20 : decode cX10_binding 20 = .ok (.imul, 1) := by decide +kernel
theorem dX10_binding_21 : decode cX10_binding 21 = .ok (.iload_n 3, 1) := by decide +kernel
theorem dX10_binding_22 : decode cX10_binding 22 = .ok (.iadd, 1) := by decide +kernel
theorem dX10_binding_23 : decode cX10_binding 23 = .ok (.iaload, 1) := by decide +kernel
theorem dX10_binding_24 : decode cX10_binding 24 = .ok (.iload_n 2, 1) := by decide +kernel
theorem dX10_binding_25 : decode cX10_binding 25 = .ok (.if_icmp .ne 10, 3) := by decide +kernel
theorem dX10_binding_28 : decode cX10_binding 28 = .ok (.bipush 24, 2) := by decide +kernel
theorem dX10_binding_30 : decode cX10_binding 30 = .ok (.iload_n 1, 1) := by decide +kernel
theorem dX10_binding_31 : decode cX10_binding 31 = .ok (.imul, 1) := by decide +kernel
theorem dX10_binding_32 : decode cX10_binding 32 = .ok (.iload_n 3, 1) := by decide +kernel
theorem dX10_binding_33 : decode cX10_binding 33 = .ok (.iadd, 1) := by decide +kernel
theorem dX10_binding_34 : decode cX10_binding 34 = .ok (.ireturn, 1) := by decide +kernel
theorem dX10_binding_35 : decode cX10_binding 35 = .ok (.iinc 3 (-1), 3) := by decide +kernel
theorem dX10_binding_38 : decode cX10_binding 38 = .ok (.goto (-29), 3) := by decide +kernel
theorem dX10_binding_41 : decode cX10_binding 41 = .ok (.iconst (-1), 1) := by decide +kernel
theorem dX10_binding_42 : decode cX10_binding 42 = .ok (.ireturn, 1) := by decide +kernel
theorem dX10_reads_0 : decode cX10_reads 0 = .ok (.bipush 8, 2) := by decide +kernel
theorem dX10_reads_2 : decode cX10_reads 2 = .ok (.iload_n 1, 1) := by decide +kernel
theorem dX10_reads_3 : decode cX10_reads 3 = .ok (.imul, 1) := by decide +kernel
theorem dX10_reads_4 : decode cX10_reads 4 = .ok (.iload_n 2, 1) := by decide +kernel
theorem dX10_reads_5 : decode cX10_reads 5 = .ok (.iadd, 1) := by decide +kernel
theorem dX10_reads_6 : decode cX10_reads 6 = .ok (.istore_n 3, 1) := by decide +kernel
theorem dX10_reads_7 : decode cX10_reads 7 = .ok (.aload_n 0, 1) := by decide +kernel
theorem dX10_reads_8 : decode cX10_reads 8 = .ok (.getfield 7, 3) := by decide +kernel
theorem dX10_reads_11 : decode cX10_reads 11 = .ok (.iload_n 2, 1) := by decide +kernel
theorem dX10_reads_12 : decode cX10_reads 12 = .ok (.iaload, 1) := by decide +kernel
theorem dX10_reads_13 : decode cX10_reads 13 = .ok (.tableswitch 162 0 3 #[31, 66, 91, 131], 31) := by decide +kernel
theorem dX10_reads_44 : decode cX10_reads 44 = .ok (.aload_n 0, 1) := by decide +kernel
theorem dX10_reads_45 : decode cX10_reads 45 = .ok (.getfield 111, 3) := by decide +kernel
theorem dX10_reads_48 : decode cX10_reads 48 = .ok (.iload_n 3, 1) := by decide +kernel
theorem dX10_reads_49 : decode cX10_reads 49 = .ok (.baload, 1) := by decide +kernel
theorem dX10_reads_50 : decode cX10_reads 50 = .ok (.ifCond .eq 22, 3) := by decide +kernel
theorem dX10_reads_53 : decode cX10_reads 53 = .ok (.aload_n 0, 1) := by decide +kernel
theorem dX10_reads_54 : decode cX10_reads 54 = .ok (.getfield 60, 3) := by decide +kernel
theorem dX10_reads_57 : decode cX10_reads 57 = .ok (.iload_n 1, 1) := by decide +kernel
theorem dX10_reads_58 : decode cX10_reads 58 = .ok (.iaload, 1) := by decide +kernel
theorem dX10_reads_59 : decode cX10_reads 59 = .ok (.iconst (-1), 1) := by decide +kernel
theorem dX10_reads_60 : decode cX10_reads 60 = .ok (.if_icmp .eq 12, 3) := by decide +kernel
theorem dX10_reads_63 : decode cX10_reads 63 = .ok (.aload_n 0, 1) := by decide +kernel
theorem dX10_reads_64 : decode cX10_reads 64 = .ok (.getfield 108, 3) := by decide +kernel
theorem dX10_reads_67 : decode cX10_reads 67 = .ok (.iload_n 3, 1) := by decide +kernel
theorem dX10_reads_68 : decode cX10_reads 68 = .ok (.iaload, 1) := by decide +kernel
theorem dX10_reads_69 : decode cX10_reads 69 = .ok (.goto 9, 3) := by decide +kernel
theorem dX10_reads_72 : decode cX10_reads 72 = .ok (.aload_n 0, 1) := by decide +kernel
theorem dX10_reads_73 : decode cX10_reads 73 = .ok (.getfield 13, 3) := by decide +kernel
theorem dX10_reads_76 : decode cX10_reads 76 = .ok (.iload_n 2, 1) := by decide +kernel
theorem dX10_reads_77 : decode cX10_reads 77 = .ok (.iaload, 1) := by decide +kernel
theorem dX10_reads_78 : decode cX10_reads 78 = .ok (.ireturn, 1) := by decide +kernel
theorem dX10_reads_79 : decode cX10_reads 79 = .ok (.aload_n 0, 1) := by decide +kernel
theorem dX10_reads_80 : decode cX10_reads 80 = .ok (.getfield 111, 3) := by decide +kernel
theorem dX10_reads_83 : decode cX10_reads 83 = .ok (.iload_n 3, 1) := by decide +kernel
theorem dX10_reads_84 : decode cX10_reads 84 = .ok (.baload, 1) := by decide +kernel
theorem dX10_reads_85 : decode cX10_reads 85 = .ok (.ifCond .eq 12, 3) := by decide +kernel
theorem dX10_reads_88 : decode cX10_reads 88 = .ok (.aload_n 0, 1) := by decide +kernel
theorem dX10_reads_89 : decode cX10_reads 89 = .ok (.getfield 108, 3) := by decide +kernel
theorem dX10_reads_92 : decode cX10_reads 92 = .ok (.iload_n 3, 1) := by decide +kernel
theorem dX10_reads_93 : decode cX10_reads 93 = .ok (.iaload, 1) := by decide +kernel
theorem dX10_reads_94 : decode cX10_reads 94 = .ok (.goto 9, 3) := by decide +kernel
theorem dX10_reads_97 : decode cX10_reads 97 = .ok (.aload_n 0, 1) := by decide +kernel
theorem dX10_reads_98 : decode cX10_reads 98 = .ok (.getfield 105, 3) := by decide +kernel
theorem dX10_reads_101 : decode cX10_reads 101 = .ok (.iload_n 3, 1) := by decide +kernel
theorem dX10_reads_102 : decode cX10_reads 102 = .ok (.iaload, 1) := by decide +kernel
theorem dX10_reads_103 : decode cX10_reads 103 = .ok (.ireturn, 1) := by decide +kernel
theorem dX10_reads_104 : decode cX10_reads 104 = .ok (.bipush 8, 2) := by decide +kernel
theorem dX10_reads_106 : decode cX10_reads 106 = .ok (.aload_n 0, 1) := by decide +kernel
theorem dX10_reads_107 : decode cX10_reads 107 = .ok (.getfield 54, 3) := by decide +kernel
theorem dX10_reads_110 : decode cX10_reads 110 = .ok (.iload_n 1, 1) := by decide +kernel
theorem dX10_reads_111 : decode cX10_reads 111 = .ok (.iaload, 1) := by decide +kernel
theorem dX10_reads_112 : decode cX10_reads 112 = .ok (.imul, 1) := by decide +kernel
theorem dX10_reads_113 : decode cX10_reads 113 = .ok (.iload_n 2, 1) := by decide +kernel
theorem dX10_reads_114 : decode cX10_reads 114 = .ok (.iadd, 1) := by decide +kernel
theorem dX10_reads_115 : decode cX10_reads 115 = .ok (.istore 4, 2) := by decide +kernel
theorem dX10_reads_117 : decode cX10_reads 117 = .ok (.aload_n 0, 1) := by decide +kernel
theorem dX10_reads_118 : decode cX10_reads 118 = .ok (.getfield 111, 3) := by decide +kernel
theorem dX10_reads_121 : decode cX10_reads 121 = .ok (.iload 4, 2) := by decide +kernel
theorem dX10_reads_123 : decode cX10_reads 123 = .ok (.baload, 1) := by decide +kernel
theorem dX10_reads_124 : decode cX10_reads 124 = .ok (.ifCond .eq 13, 3) := by decide +kernel
theorem dX10_reads_127 : decode cX10_reads 127 = .ok (.aload_n 0, 1) := by decide +kernel
theorem dX10_reads_128 : decode cX10_reads 128 = .ok (.getfield 108, 3) := by decide +kernel
theorem dX10_reads_131 : decode cX10_reads 131 = .ok (.iload 4, 2) := by decide +kernel
theorem dX10_reads_133 : decode cX10_reads 133 = .ok (.iaload, 1) := by decide +kernel
theorem dX10_reads_134 : decode cX10_reads 134 = .ok (.goto 9, 3) := by decide +kernel
theorem dX10_reads_137 : decode cX10_reads 137 = .ok (.aload_n 0, 1) := by decide +kernel
theorem dX10_reads_138 : decode cX10_reads 138 = .ok (.getfield 13, 3) := by decide +kernel
theorem dX10_reads_141 : decode cX10_reads 141 = .ok (.iload_n 2, 1) := by decide +kernel
theorem dX10_reads_142 : decode cX10_reads 142 = .ok (.iaload, 1) := by decide +kernel
theorem dX10_reads_143 : decode cX10_reads 143 = .ok (.ireturn, 1) := by decide +kernel
theorem dX10_reads_144 : decode cX10_reads 144 = .ok (.aload_n 0, 1) := by decide +kernel
theorem dX10_reads_145 : decode cX10_reads 145 = .ok (.iload_n 1, 1) := by decide +kernel
theorem dX10_reads_146 : decode cX10_reads 146 = .ok (.iload_n 2, 1) := by decide +kernel
theorem dX10_reads_147 : decode cX10_reads 147 = .ok (.invokevirtual 208, 3) := by decide +kernel
theorem dX10_reads_150 : decode cX10_reads 150 = .ok (.istore 4, 2) := by decide +kernel
theorem dX10_reads_152 : decode cX10_reads 152 = .ok (.iload 4, 2) := by decide +kernel
theorem dX10_reads_154 : decode cX10_reads 154 = .ok (.iconst (-1), 1) := by decide +kernel
theorem dX10_reads_155 : decode cX10_reads 155 = .ok (.if_icmp .ne 12, 3) := by decide +kernel
theorem dX10_reads_158 : decode cX10_reads 158 = .ok (.aload_n 0, 1) := by decide +kernel
theorem dX10_reads_159 : decode cX10_reads 159 = .ok (.getfield 105, 3) := by decide +kernel
theorem dX10_reads_162 : decode cX10_reads 162 = .ok (.iload_n 3, 1) := by decide +kernel
theorem dX10_reads_163 : decode cX10_reads 163 = .ok (.iaload, 1) := by decide +kernel
theorem dX10_reads_164 : decode cX10_reads 164 = .ok (.goto 10, 3) := by decide +kernel
theorem dX10_reads_167 : decode cX10_reads 167 = .ok (.aload_n 0, 1) := by decide +kernel
theorem dX10_reads_168 : decode cX10_reads 168 = .ok (.getfield 120, 3) := by decide +kernel
theorem dX10_reads_171 : decode cX10_reads 171 = .ok (.iload 4, 2) := by decide +kernel
theorem dX10_reads_173 : decode cX10_reads 173 = .ok (.iaload, 1) := by decide +kernel
theorem dX10_reads_174 : decode cX10_reads 174 = .ok (.ireturn, 1) := by decide +kernel
theorem dX10_reads_175 : decode cX10_reads 175 = .ok (.aload_n 0, 1) := by decide +kernel
theorem dX10_reads_176 : decode cX10_reads 176 = .ok (.getfield 111, 3) := by decide +kernel
theorem dX10_reads_179 : decode cX10_reads 179 = .ok (.iload_n 3, 1) := by decide +kernel
theorem dX10_reads_180 : decode cX10_reads 180 = .ok (.baload, 1) := by decide +kernel
theorem dX10_reads_181 : decode cX10_reads 181 = .ok (.ifCond .eq 12, 3) := by decide +kernel
theorem dX10_reads_184 : decode cX10_reads 184 = .ok (.aload_n 0, 1) := by decide +kernel
theorem dX10_reads_185 : decode cX10_reads 185 = .ok (.getfield 108, 3) := by decide +kernel
theorem dX10_reads_188 : decode cX10_reads 188 = .ok (.iload_n 3, 1) := by decide +kernel
theorem dX10_reads_189 : decode cX10_reads 189 = .ok (.iaload, 1) := by decide +kernel
theorem dX10_reads_190 : decode cX10_reads 190 = .ok (.goto 9, 3) := by decide +kernel
theorem dX10_reads_193 : decode cX10_reads 193 = .ok (.aload_n 0, 1) := by decide +kernel
theorem dX10_reads_194 : decode cX10_reads 194 = .ok (.getfield 13, 3) := by decide +kernel
theorem dX10_reads_197 : decode cX10_reads 197 = .ok (.iload_n 2, 1) := by decide +kernel
theorem dX10_reads_198 : decode cX10_reads 198 = .ok (.iaload, 1) := by decide +kernel
theorem dX10_reads_199 : decode cX10_reads 199 = .ok (.ireturn, 1) := by decide +kernel
theorem dX10_leaves_0 : decode cX10_leaves 0 = .ok (.aload_n 0, 1) := by decide +kernel
theorem dX10_leaves_1 : decode cX10_leaves 1 = .ok (.getfield 42, 3) := by decide +kernel
theorem dX10_leaves_4 : decode cX10_leaves 4 = .ok (.aload_n 0, 1) := by decide +kernel
theorem dX10_leaves_5 : decode cX10_leaves 5 = .ok (.getfield 60, 3) := by decide +kernel
theorem dX10_leaves_8 : decode cX10_leaves 8 = .ok (.iload_n 1, 1) := by decide +kernel
theorem dX10_leaves_9 : decode cX10_leaves 9 = .ok (.iaload, 1) := by decide +kernel
theorem dX10_leaves_10 : decode cX10_leaves 10 = .ok (.iconst (-1), 1) := by decide +kernel
theorem dX10_leaves_11 : decode cX10_leaves 11 = .ok (.iastore, 1) := by decide +kernel
theorem dX10_leaves_12 : decode cX10_leaves 12 = .ok (.aload_n 0, 1) := by decide +kernel
theorem dX10_leaves_13 : decode cX10_leaves 13 = .ok (.getfield 60, 3) := by decide +kernel
theorem dX10_leaves_16 : decode cX10_leaves 16 = .ok (.iload_n 1, 1) := by decide +kernel
theorem dX10_leaves_17 : decode cX10_leaves 17 = .ok (.iconst (-1), 1) := by decide +kernel
theorem dX10_leaves_18 : decode cX10_leaves 18 = .ok (.iastore, 1) := by decide +kernel
theorem dX10_leaves_19 : decode cX10_leaves 19 = .ok (.return_, 1) := by decide +kernel
theorem dX10_asks_0 : decode cX10_asks 0 = .ok (.aload_n 0, 1) := by decide +kernel
theorem dX10_asks_1 : decode cX10_asks 1 = .ok (.getfield 102, 3) := by decide +kernel
theorem dX10_asks_4 : decode cX10_asks 4 = .ok (.iload_n 1, 1) := by decide +kernel
theorem dX10_asks_5 : decode cX10_asks 5 = .ok (.iconst 1, 1) := by decide +kernel
theorem dX10_asks_6 : decode cX10_asks 6 = .ok (.bastore, 1) := by decide +kernel
theorem dX10_asks_7 : decode cX10_asks 7 = .ok (.iconst 1, 1) := by decide +kernel
theorem dX10_asks_8 : decode cX10_asks 8 = .ok (.istore_n 2, 1) := by decide +kernel
theorem dX10_asks_9 : decode cX10_asks 9 = .ok (.iconst 0, 1) := by decide +kernel
theorem dX10_asks_10 : decode cX10_asks 10 = .ok (.istore_n 3, 1) := by decide +kernel
theorem dX10_asks_11 : decode cX10_asks 11 = .ok (.iload_n 3, 1) := by decide +kernel
theorem dX10_asks_12 : decode cX10_asks 12 = .ok (.iconst 3, 1) := by decide +kernel
theorem dX10_asks_13 : decode cX10_asks 13 = .ok (.if_icmp .ge 148, 3) := by decide +kernel
theorem dX10_asks_16 : decode cX10_asks 16 = .ok (.iload_n 2, 1) := by decide +kernel
theorem dX10_asks_17 : decode cX10_asks 17 = .ok (.ifCond .eq 144, 3) := by decide +kernel
theorem dX10_asks_20 : decode cX10_asks 20 = .ok (.iload_n 3, 1) := by decide +kernel
theorem dX10_asks_21 : decode cX10_asks 21 = .ok (.ifCond .ne 12, 3) := by decide +kernel
theorem dX10_asks_24 : decode cX10_asks 24 = .ok (.aload_n 0, 1) := by decide +kernel
theorem dX10_asks_25 : decode cX10_asks 25 = .ok (.getfield 48, 3) := by decide +kernel
theorem dX10_asks_28 : decode cX10_asks 28 = .ok (.iload_n 1, 1) := by decide +kernel
theorem dX10_asks_29 : decode cX10_asks 29 = .ok (.iaload, 1) := by decide +kernel
theorem dX10_asks_30 : decode cX10_asks 30 = .ok (.goto 22, 3) := by decide +kernel
theorem dX10_asks_33 : decode cX10_asks 33 = .ok (.iload_n 3, 1) := by decide +kernel
theorem dX10_asks_34 : decode cX10_asks 34 = .ok (.iconst 1, 1) := by decide +kernel
theorem dX10_asks_35 : decode cX10_asks 35 = .ok (.if_icmp .ne 15, 3) := by decide +kernel
theorem dX10_asks_38 : decode cX10_asks 38 = .ok (.bipush 8, 2) := by decide +kernel
theorem dX10_asks_40 : decode cX10_asks 40 = .ok (.aload_n 0, 1) := by decide +kernel
theorem dX10_asks_41 : decode cX10_asks 41 = .ok (.getfield 90, 3) := by decide +kernel
theorem dX10_asks_44 : decode cX10_asks 44 = .ok (.iload_n 1, 1) := by decide +kernel
theorem dX10_asks_45 : decode cX10_asks 45 = .ok (.iaload, 1) := by decide +kernel
theorem dX10_asks_46 : decode cX10_asks 46 = .ok (.iadd, 1) := by decide +kernel
theorem dX10_asks_47 : decode cX10_asks 47 = .ok (.goto 5, 3) := by decide +kernel
theorem dX10_asks_50 : decode cX10_asks 50 = .ok (.bipush 16, 2) := by decide +kernel
theorem dX10_asks_52 : decode cX10_asks 52 = .ok (.istore 4, 2) := by decide +kernel
theorem dX10_asks_54 : decode cX10_asks 54 = .ok (.aload_n 0, 1) := by decide +kernel
theorem dX10_asks_55 : decode cX10_asks 55 = .ok (.getfield 28, 3) := by decide +kernel
theorem dX10_asks_58 : decode cX10_asks 58 = .ok (.iload 4, 2) := by decide +kernel
theorem dX10_asks_60 : decode cX10_asks 60 = .ok (.baload, 1) := by decide +kernel
theorem dX10_asks_61 : decode cX10_asks 61 = .ok (.ifCond .ne 6, 3) := by decide +kernel
theorem dX10_asks_64 : decode cX10_asks 64 = .ok (.goto 91, 3) := by decide +kernel
theorem dX10_asks_67 : decode cX10_asks 67 = .ok (.aload_n 0, 1) := by decide +kernel
theorem dX10_asks_68 : decode cX10_asks 68 = .ok (.getfield 195, 3) := by decide +kernel
theorem dX10_asks_71 : decode cX10_asks 71 = .ok (.sipush 600, 3) := by decide +kernel
theorem dX10_asks_74 : decode cX10_asks 74 = .ok (.if_icmp .ge 63, 3) := by decide +kernel
theorem dX10_asks_77 : decode cX10_asks 77 = .ok (.aload_n 0, 1) := by decide +kernel
theorem dX10_asks_78 : decode cX10_asks 78 = .ok (.getfield 157, 3) := by decide +kernel
theorem dX10_asks_81 : decode cX10_asks 81 = .ok (.aload_n 0, 1) := by decide +kernel
theorem dX10_asks_82 : decode cX10_asks 82 = .ok (.getfield 195, 3) := by decide +kernel
theorem dX10_asks_85 : decode cX10_asks 85 = .ok (.iload_n 1, 1) := by decide +kernel
theorem dX10_asks_86 : decode cX10_asks 86 = .ok (.iastore, 1) := by decide +kernel
theorem dX10_asks_87 : decode cX10_asks 87 = .ok (.aload_n 0, 1) := by decide +kernel
theorem dX10_asks_88 : decode cX10_asks 88 = .ok (.getfield 160, 3) := by decide +kernel
theorem dX10_asks_91 : decode cX10_asks 91 = .ok (.aload_n 0, 1) := by decide +kernel
theorem dX10_asks_92 : decode cX10_asks 92 = .ok (.getfield 195, 3) := by decide +kernel
theorem dX10_asks_95 : decode cX10_asks 95 = .ok (.iload_n 3, 1) := by decide +kernel
theorem dX10_asks_96 : decode cX10_asks 96 = .ok (.iastore, 1) := by decide +kernel
theorem dX10_asks_97 : decode cX10_asks 97 = .ok (.aload_n 0, 1) := by decide +kernel
theorem dX10_asks_98 : decode cX10_asks 98 = .ok (.getfield 163, 3) := by decide +kernel
theorem dX10_asks_101 : decode cX10_asks 101 = .ok (.aload_n 0, 1) := by decide +kernel
theorem dX10_asks_102 : decode cX10_asks 102 = .ok (.getfield 195, 3) := by decide +kernel
theorem dX10_asks_105 : decode cX10_asks 105 = .ok (.aload_n 0, 1) := by decide +kernel
theorem dX10_asks_106 : decode cX10_asks 106 = .ok (.getfield 35, 3) := by decide +kernel
theorem dX10_asks_109 : decode cX10_asks 109 = .ok (.iload 4, 2) := by decide +kernel
theorem dX10_asks_111 : decode cX10_asks 111 = .ok (.iaload, 1) := by decide +kernel
theorem dX10_asks_112 : decode cX10_asks 112 = .ok (.iastore, 1) := by decide +kernel
theorem dX10_asks_113 : decode cX10_asks 113 = .ok (.aload_n 0, 1) := by decide +kernel
theorem dX10_asks_114 : decode cX10_asks 114 = .ok (.getfield 166, 3) := by decide +kernel
theorem dX10_asks_117 : decode cX10_asks 117 = .ok (.aload_n 0, 1) := by decide +kernel
theorem dX10_asks_118 : decode cX10_asks 118 = .ok (.getfield 195, 3) := by decide +kernel
theorem dX10_asks_121 : decode cX10_asks 121 = .ok (.aload_n 0, 1) := by decide +kernel
theorem dX10_asks_122 : decode cX10_asks 122 = .ok (.getfield 32, 3) := by decide +kernel
theorem dX10_asks_125 : decode cX10_asks 125 = .ok (.iload 4, 2) := by decide +kernel
theorem dX10_asks_127 : decode cX10_asks 127 = .ok (.baload, 1) := by decide +kernel
theorem dX10_asks_128 : decode cX10_asks 128 = .ok (.ifCond .eq 7, 3) := by decide +kernel
theorem dX10_asks_131 : decode cX10_asks 131 = .ok (.iconst 1, 1) := by decide +kernel
theorem dX10_asks_132 : decode cX10_asks 132 = .ok (.goto 4, 3) := by decide +kernel
theorem dX10_asks_135 : decode cX10_asks 135 = .ok (.iconst 0, 1) := by decide +kernel
theorem dX10_asks_136 : decode cX10_asks 136 = .ok (.iastore, 1) := by decide +kernel
theorem dX10_asks_137 : decode cX10_asks 137 = .ok (.aload_n 0, 1) := by decide +kernel
theorem dX10_asks_138 : decode cX10_asks 138 = .ok (.aload_n 0, 1) := by decide +kernel
theorem dX10_asks_139 : decode cX10_asks 139 = .ok (.getfield 195, 3) := by decide +kernel
theorem dX10_asks_142 : decode cX10_asks 142 = .ok (.iconst 1, 1) := by decide +kernel
theorem dX10_asks_143 : decode cX10_asks 143 = .ok (.iadd, 1) := by decide +kernel
theorem dX10_asks_144 : decode cX10_asks 144 = .ok (.putfield 195, 3) := by decide +kernel
theorem dX10_asks_147 : decode cX10_asks 147 = .ok (.aload_n 0, 1) := by decide +kernel
theorem dX10_asks_148 : decode cX10_asks 148 = .ok (.getfield 32, 3) := by decide +kernel
theorem dX10_asks_151 : decode cX10_asks 151 = .ok (.iload 4, 2) := by decide +kernel
theorem dX10_asks_153 : decode cX10_asks 153 = .ok (.baload, 1) := by decide +kernel
theorem dX10_asks_154 : decode cX10_asks 154 = .ok (.istore_n 2, 1) := by decide +kernel
theorem dX10_asks_155 : decode cX10_asks 155 = .ok (.iinc 3 1, 3) := by decide +kernel
theorem dX10_asks_158 : decode cX10_asks 158 = .ok (.goto (-147), 3) := by decide +kernel
theorem dX10_asks_161 : decode cX10_asks 161 = .ok (.return_, 1) := by decide +kernel
theorem dX10_goes_0 : decode cX10_goes 0 = .ok (.aload_n 0, 1) := by decide +kernel
theorem dX10_goes_1 : decode cX10_goes 1 = .ok (.getfield 45, 3) := by decide +kernel
theorem dX10_goes_4 : decode cX10_goes 4 = .ok (.iload_n 1, 1) := by decide +kernel
theorem dX10_goes_5 : decode cX10_goes 5 = .ok (.iload_n 2, 1) := by decide +kernel
theorem dX10_goes_6 : decode cX10_goes 6 = .ok (.iastore, 1) := by decide +kernel
theorem dX10_goes_7 : decode cX10_goes 7 = .ok (.aload_n 0, 1) := by decide +kernel
theorem dX10_goes_8 : decode cX10_goes 8 = .ok (.getfield 72, 3) := by decide +kernel
theorem dX10_goes_11 : decode cX10_goes 11 = .ok (.iload_n 1, 1) := by decide +kernel
theorem dX10_goes_12 : decode cX10_goes 12 = .ok (.aload_n 0, 1) := by decide +kernel
theorem dX10_goes_13 : decode cX10_goes 13 = .ok (.getfield 186, 3) := by decide +kernel
theorem dX10_goes_16 : decode cX10_goes 16 = .ok (.iastore, 1) := by decide +kernel
theorem dX10_goes_17 : decode cX10_goes 17 = .ok (.aload_n 0, 1) := by decide +kernel
theorem dX10_goes_18 : decode cX10_goes 18 = .ok (.getfield 114, 3) := by decide +kernel
theorem dX10_goes_21 : decode cX10_goes 21 = .ok (.iload_n 1, 1) := by decide +kernel
theorem dX10_goes_22 : decode cX10_goes 22 = .ok (.iconst 0, 1) := by decide +kernel
theorem dX10_goes_23 : decode cX10_goes 23 = .ok (.iastore, 1) := by decide +kernel
theorem dX10_goes_24 : decode cX10_goes 24 = .ok (.aload_n 0, 1) := by decide +kernel
theorem dX10_goes_25 : decode cX10_goes 25 = .ok (.getfield 123, 3) := by decide +kernel
theorem dX10_goes_28 : decode cX10_goes 28 = .ok (.iload_n 1, 1) := by decide +kernel
theorem dX10_goes_29 : decode cX10_goes 29 = .ok (.iconst 0, 1) := by decide +kernel
theorem dX10_goes_30 : decode cX10_goes 30 = .ok (.iastore, 1) := by decide +kernel
theorem dX10_goes_31 : decode cX10_goes 31 = .ok (.aload_n 0, 1) := by decide +kernel
theorem dX10_goes_32 : decode cX10_goes 32 = .ok (.iload_n 1, 1) := by decide +kernel
theorem dX10_goes_33 : decode cX10_goes 33 = .ok (.invokevirtual 211, 3) := by decide +kernel
theorem dX10_goes_36 : decode cX10_goes 36 = .ok (.iload_n 2, 1) := by decide +kernel
theorem dX10_goes_37 : decode cX10_goes 37 = .ok (.iconst 4, 1) := by decide +kernel
theorem dX10_goes_38 : decode cX10_goes 38 = .ok (.if_icmp .ne 40, 3) := by decide +kernel
theorem dX10_goes_41 : decode cX10_goes 41 = .ok (.aload_n 0, 1) := by decide +kernel
theorem dX10_goes_42 : decode cX10_goes 42 = .ok (.getfield 51, 3) := by decide +kernel
theorem dX10_goes_45 : decode cX10_goes 45 = .ok (.iload_n 1, 1) := by decide +kernel
theorem dX10_goes_46 : decode cX10_goes 46 = .ok (.iaload, 1) := by decide +kernel
theorem dX10_goes_47 : decode cX10_goes 47 = .ok (.iconst (-1), 1) := by decide +kernel
theorem dX10_goes_48 : decode cX10_goes 48 = .ok (.if_icmp .eq 25, 3) := by decide +kernel
theorem dX10_goes_51 : decode cX10_goes 51 = .ok (.aload_n 0, 1) := by decide +kernel
theorem dX10_goes_52 : decode cX10_goes 52 = .ok (.aload_n 0, 1) := by decide +kernel
theorem dX10_goes_53 : decode cX10_goes 53 = .ok (.getfield 51, 3) := by decide +kernel
theorem dX10_goes_56 : decode cX10_goes 56 = .ok (.iload_n 1, 1) := by decide +kernel
theorem dX10_goes_57 : decode cX10_goes 57 = .ok (.iaload, 1) := by decide +kernel
theorem dX10_goes_58 : decode cX10_goes 58 = .ok (.invokevirtual 215, 3) := by decide +kernel
theorem dX10_goes_61 : decode cX10_goes 61 = .ok (.ifCond .eq 17, 3) := by decide +kernel
theorem dX10_goes_64 : decode cX10_goes 64 = .ok (.aload_n 0, 1) := by decide +kernel
theorem dX10_goes_65 : decode cX10_goes 65 = .ok (.getfield 84, 3) := by decide +kernel
theorem dX10_goes_68 : decode cX10_goes 68 = .ok (.iload_n 1, 1) := by decide +kernel
theorem dX10_goes_69 : decode cX10_goes 69 = .ok (.baload, 1) := by decide +kernel
theorem dX10_goes_70 : decode cX10_goes 70 = .ok (.ifCond .ne 8, 3) := by decide +kernel
theorem dX10_goes_73 : decode cX10_goes 73 = .ok (.aload_n 0, 1) := by decide +kernel
theorem dX10_goes_74 : decode cX10_goes 74 = .ok (.iload_n 1, 1) := by decide +kernel
theorem dX10_goes_75 : decode cX10_goes 75 = .ok (.invokevirtual 218, 3) := by decide +kernel
theorem dX10_goes_78 : decode cX10_goes 78 = .ok (.iload_n 1, 1) := by decide +kernel
theorem dX10_goes_79 : decode cX10_goes 79 = .ok (.iconst 1, 1) := by decide +kernel
theorem dX10_goes_80 : decode cX10_goes 80 = .ok (.iadd, 1) := by decide +kernel
theorem dX10_goes_81 : decode cX10_goes 81 = .ok (.istore_n 3, 1) := by decide +kernel
theorem dX10_goes_82 : decode cX10_goes 82 = .ok (.iload_n 3, 1) := by decide +kernel
theorem dX10_goes_83 : decode cX10_goes 83 = .ok (.aload_n 0, 1) := by decide +kernel
theorem dX10_goes_84 : decode cX10_goes 84 = .ok (.getfield 176, 3) := by decide +kernel
theorem dX10_goes_87 : decode cX10_goes 87 = .ok (.if_icmp .ge 52, 3) := by decide +kernel
theorem dX10_goes_90 : decode cX10_goes 90 = .ok (.aload_n 0, 1) := by decide +kernel
theorem dX10_goes_91 : decode cX10_goes 91 = .ok (.getfield 51, 3) := by decide +kernel
theorem dX10_goes_94 : decode cX10_goes 94 = .ok (.iload_n 3, 1) := by decide +kernel
theorem dX10_goes_95 : decode cX10_goes 95 = .ok (.iaload, 1) := by decide +kernel
theorem dX10_goes_96 : decode cX10_goes 96 = .ok (.iload_n 1, 1) := by decide +kernel
theorem dX10_goes_97 : decode cX10_goes 97 = .ok (.if_icmp .ne 36, 3) := by decide +kernel
theorem dX10_goes_100 : decode cX10_goes 100 = .ok (.aload_n 0, 1) := by decide +kernel
theorem dX10_goes_101 : decode cX10_goes 101 = .ok (.getfield 45, 3) := by decide +kernel
theorem dX10_goes_104 : decode cX10_goes 104 = .ok (.iload_n 3, 1) := by decide +kernel
theorem dX10_goes_105 : decode cX10_goes 105 = .ok (.iaload, 1) := by decide +kernel
theorem dX10_goes_106 : decode cX10_goes 106 = .ok (.iconst 4, 1) := by decide +kernel
theorem dX10_goes_107 : decode cX10_goes 107 = .ok (.if_icmp .ne 26, 3) := by decide +kernel
theorem dX10_goes_110 : decode cX10_goes 110 = .ok (.aload_n 0, 1) := by decide +kernel
theorem dX10_goes_111 : decode cX10_goes 111 = .ok (.getfield 84, 3) := by decide +kernel
theorem dX10_goes_114 : decode cX10_goes 114 = .ok (.iload_n 3, 1) := by decide +kernel
theorem dX10_goes_115 : decode cX10_goes 115 = .ok (.baload, 1) := by decide +kernel
theorem dX10_goes_116 : decode cX10_goes 116 = .ok (.ifCond .ne 17, 3) := by decide +kernel
theorem dX10_goes_119 : decode cX10_goes 119 = .ok (.aload_n 0, 1) := by decide +kernel
theorem dX10_goes_120 : decode cX10_goes 120 = .ok (.getfield 102, 3) := by decide +kernel
theorem dX10_goes_123 : decode cX10_goes 123 = .ok (.iload_n 3, 1) := by decide +kernel
theorem dX10_goes_124 : decode cX10_goes 124 = .ok (.baload, 1) := by decide +kernel
theorem dX10_goes_125 : decode cX10_goes 125 = .ok (.ifCond .ne 8, 3) := by decide +kernel
theorem dX10_goes_128 : decode cX10_goes 128 = .ok (.aload_n 0, 1) := by decide +kernel
theorem dX10_goes_129 : decode cX10_goes 129 = .ok (.iload_n 3, 1) := by decide +kernel
theorem dX10_goes_130 : decode cX10_goes 130 = .ok (.invokevirtual 218, 3) := by decide +kernel
theorem dX10_goes_133 : decode cX10_goes 133 = .ok (.iinc 3 1, 3) := by decide +kernel
theorem dX10_goes_136 : decode cX10_goes 136 = .ok (.goto (-54), 3) := by decide +kernel
theorem dX10_goes_139 : decode cX10_goes 139 = .ok (.return_, 1) := by decide +kernel
theorem dX10_fails_0 : decode cX10_fails 0 = .ok (.aload_n 0, 1) := by decide +kernel
theorem dX10_fails_1 : decode cX10_fails 1 = .ok (.getfield 123, 3) := by decide +kernel
theorem dX10_fails_4 : decode cX10_fails 4 = .ok (.iload_n 1, 1) := by decide +kernel
theorem dX10_fails_5 : decode cX10_fails 5 = .ok (.iaload, 1) := by decide +kernel
theorem dX10_fails_6 : decode cX10_fails 6 = .ok (.iconst 1, 1) := by decide +kernel
theorem dX10_fails_7 : decode cX10_fails 7 = .ok (.isub, 1) := by decide +kernel
theorem dX10_fails_8 : decode cX10_fails 8 = .ok (.istore 5, 2) := by decide +kernel
theorem dX10_fails_10 : decode cX10_fails 10 = .ok (.iload 5, 2) := by decide +kernel
theorem dX10_fails_12 : decode cX10_fails 12 = .ok (.ifCond .lt 45, 3) := by decide +kernel
theorem dX10_fails_15 : decode cX10_fails 15 = .ok (.aload_n 0, 1) := by decide +kernel
theorem dX10_fails_16 : decode cX10_fails 16 = .ok (.getfield 126, 3) := by decide +kernel
theorem dX10_fails_19 : decode cX10_fails 19 = .ok (.bipush 24, 2) := by decide +kernel
theorem dX10_fails_21 : decode cX10_fails 21 = .ok (.iload_n 1, 1) := by decide +kernel
theorem dX10_fails_22 : decode cX10_fails 22 = .ok (.imul, 1) := by decide +kernel
theorem dX10_fails_23 : decode cX10_fails 23 = .ok (.iload 5, 2) := by decide +kernel
theorem dX10_fails_25 : decode cX10_fails 25 = .ok (.iadd, 1) := by decide +kernel
theorem dX10_fails_26 : decode cX10_fails 26 = .ok (.iaload, 1) := by decide +kernel
theorem dX10_fails_27 : decode cX10_fails 27 = .ok (.iload_n 2, 1) := by decide +kernel
theorem dX10_fails_28 : decode cX10_fails 28 = .ok (.if_icmp .eq 29, 3) := by decide +kernel
theorem dX10_fails_31 : decode cX10_fails 31 = .ok (.aload_n 0, 1) := by decide +kernel
theorem dX10_fails_32 : decode cX10_fails 32 = .ok (.getfield 126, 3) := by decide +kernel
theorem dX10_fails_35 : decode cX10_fails 35 = .ok (.bipush 24, 2) := by decide +kernel
theorem dX10_fails_37 : decode cX10_fails 37 = .ok (.iload_n 1, 1) := by decide +kernel
theorem dX10_fails_38 : decode cX10_fails 38 = .ok (.imul, 1) := by decide +kernel
theorem dX10_fails_39 : decode cX10_fails 39 = .ok (.iload 5, 2) := by decide +kernel
theorem dX10_fails_41 : decode cX10_fails 41 = .ok (.iadd, 1) := by decide +kernel
theorem dX10_fails_42 : decode cX10_fails 42 = .ok (.iaload, 1) := by decide +kernel
theorem dX10_fails_43 : decode cX10_fails 43 = .ok (.bipush 8, 2) := by decide +kernel
theorem dX10_fails_45 : decode cX10_fails 45 = .ok (.if_icmp .eq 12, 3) := by decide +kernel
theorem dX10_fails_48 : decode cX10_fails 48 = .ok (.iload 5, 2) := by decide +kernel
theorem dX10_fails_50 : decode cX10_fails 50 = .ok (.iconst 1, 1) := by decide +kernel
theorem dX10_fails_51 : decode cX10_fails 51 = .ok (.isub, 1) := by decide +kernel
theorem dX10_fails_52 : decode cX10_fails 52 = .ok (.istore 5, 2) := by decide +kernel
theorem dX10_fails_54 : decode cX10_fails 54 = .ok (.goto (-44), 3) := by decide +kernel
theorem dX10_fails_57 : decode cX10_fails 57 = .ok (.iload 5, 2) := by decide +kernel
theorem dX10_fails_59 : decode cX10_fails 59 = .ok (.ifCond .lt 89, 3) := by decide +kernel
theorem dX10_fails_62 : decode cX10_fails 62 = .ok (.aload_n 0, 1) := by decide +kernel
theorem dX10_fails_63 : decode cX10_fails 63 = .ok (.getfield 123, 3) := by decide +kernel
theorem dX10_fails_66 : decode cX10_fails 66 = .ok (.iload_n 1, 1) := by decide +kernel
theorem dX10_fails_67 : decode cX10_fails 67 = .ok (.iload 5, 2) := by decide +kernel
theorem dX10_fails_69 : decode cX10_fails 69 = .ok (.iastore, 1) := by decide +kernel
theorem dX10_fails_70 : decode cX10_fails 70 = .ok (.aload_n 0, 1) := by decide +kernel
theorem dX10_fails_71 : decode cX10_fails 71 = .ok (.getfield 114, 3) := by decide +kernel
theorem dX10_fails_74 : decode cX10_fails 74 = .ok (.iload_n 1, 1) := by decide +kernel
theorem dX10_fails_75 : decode cX10_fails 75 = .ok (.iaload, 1) := by decide +kernel
theorem dX10_fails_76 : decode cX10_fails 76 = .ok (.ifCond .le 53, 3) := by decide +kernel
theorem dX10_fails_79 : decode cX10_fails 79 = .ok (.aload_n 0, 1) := by decide +kernel
theorem dX10_fails_80 : decode cX10_fails 80 = .ok (.getfield 132, 3) := by decide +kernel
theorem dX10_fails_83 : decode cX10_fails 83 = .ok (.bipush 24, 2) := by decide +kernel
theorem dX10_fails_85 : decode cX10_fails 85 = .ok (.iload_n 1, 1) := by decide +kernel
theorem dX10_fails_86 : decode cX10_fails 86 = .ok (.imul, 1) := by decide +kernel
theorem dX10_fails_87 : decode cX10_fails 87 = .ok (.aload_n 0, 1) := by decide +kernel
theorem dX10_fails_88 : decode cX10_fails 88 = .ok (.getfield 114, 3) := by decide +kernel
theorem dX10_fails_91 : decode cX10_fails 91 = .ok (.iload_n 1, 1) := by decide +kernel
theorem dX10_fails_92 : decode cX10_fails 92 = .ok (.iaload, 1) := by decide +kernel
theorem dX10_fails_93 : decode cX10_fails 93 = .ok (.iadd, 1) := by decide +kernel
theorem dX10_fails_94 : decode cX10_fails 94 = .ok (.iconst 1, 1) := by decide +kernel
theorem dX10_fails_95 : decode cX10_fails 95 = .ok (.isub, 1) := by decide +kernel
theorem dX10_fails_96 : decode cX10_fails 96 = .ok (.iaload, 1) := by decide +kernel
theorem dX10_fails_97 : decode cX10_fails 97 = .ok (.aload_n 0, 1) := by decide +kernel
theorem dX10_fails_98 : decode cX10_fails 98 = .ok (.getfield 135, 3) := by decide +kernel
theorem dX10_fails_101 : decode cX10_fails 101 = .ok (.bipush 24, 2) := by decide +kernel
theorem dX10_fails_103 : decode cX10_fails 103 = .ok (.iload_n 1, 1) := by decide +kernel
theorem dX10_fails_104 : decode cX10_fails 104 = .ok (.imul, 1) := by decide +kernel
theorem dX10_fails_105 : decode cX10_fails 105 = .ok (.iload 5, 2) := by decide +kernel
theorem dX10_fails_107 : decode cX10_fails 107 = .ok (.iadd, 1) := by decide +kernel
theorem dX10_fails_108 : decode cX10_fails 108 = .ok (.iaload, 1) := by decide +kernel
theorem dX10_fails_109 : decode cX10_fails 109 = .ok (.if_icmp .lt 20, 3) := by decide +kernel
theorem dX10_fails_112 : decode cX10_fails 112 = .ok (.aload_n 0, 1) := by decide +kernel
theorem dX10_fails_113 : decode cX10_fails 113 = .ok (.getfield 114, 3) := by decide +kernel
theorem dX10_fails_116 : decode cX10_fails 116 = .ok (.iload_n 1, 1) := by decide +kernel
theorem dX10_fails_117 : decode cX10_fails 117 = .ok (.aload_n 0, 1) := by decide +kernel
theorem dX10_fails_118 : decode cX10_fails 118 = .ok (.getfield 114, 3) := by decide +kernel
theorem dX10_fails_121 : decode cX10_fails 121 = .ok (.iload_n 1, 1) := by decide +kernel
theorem dX10_fails_122 : decode cX10_fails 122 = .ok (.iaload, 1) := by decide +kernel
theorem dX10_fails_123 : decode cX10_fails 123 = .ok (.iconst 1, 1) := by decide +kernel
theorem dX10_fails_124 : decode cX10_fails 124 = .ok (.isub, 1) := by decide +kernel
theorem dX10_fails_125 : decode cX10_fails 125 = .ok (.iastore, 1) := by decide +kernel
theorem dX10_fails_126 : decode cX10_fails 126 = .ok (.goto (-56), 3) := by decide +kernel
theorem dX10_fails_129 : decode cX10_fails 129 = .ok (.aload_n 0, 1) := by decide +kernel
theorem dX10_fails_130 : decode cX10_fails 130 = .ok (.getfield 66, 3) := by decide +kernel
theorem dX10_fails_133 : decode cX10_fails 133 = .ok (.iload_n 1, 1) := by decide +kernel
theorem dX10_fails_134 : decode cX10_fails 134 = .ok (.aload_n 0, 1) := by decide +kernel
theorem dX10_fails_135 : decode cX10_fails 135 = .ok (.getfield 129, 3) := by decide +kernel
theorem dX10_fails_138 : decode cX10_fails 138 = .ok (.bipush 24, 2) := by decide +kernel
theorem dX10_fails_140 : decode cX10_fails 140 = .ok (.iload_n 1, 1) := by decide +kernel
theorem dX10_fails_141 : decode cX10_fails 141 = .ok (.imul, 1) := by decide +kernel
theorem dX10_fails_142 : decode cX10_fails 142 = .ok (.iload 5, 2) := by decide +kernel
theorem dX10_fails_144 : decode cX10_fails 144 = .ok (.iadd, 1) := by decide +kernel
theorem dX10_fails_145 : decode cX10_fails 145 = .ok (.iaload, 1) := by decide +kernel
theorem dX10_fails_146 : decode cX10_fails 146 = .ok (.iastore, 1) := by decide +kernel
theorem dX10_fails_147 : decode cX10_fails 147 = .ok (.return_, 1) := by decide +kernel
theorem dX10_fails_148 : decode cX10_fails 148 = .ok (.aload_n 0, 1) := by decide +kernel
theorem dX10_fails_149 : decode cX10_fails 149 = .ok (.getfield 90, 3) := by decide +kernel
theorem dX10_fails_152 : decode cX10_fails 152 = .ok (.iload_n 1, 1) := by decide +kernel
theorem dX10_fails_153 : decode cX10_fails 153 = .ok (.iload_n 2, 1) := by decide +kernel
theorem dX10_fails_154 : decode cX10_fails 154 = .ok (.iastore, 1) := by decide +kernel
theorem dX10_fails_155 : decode cX10_fails 155 = .ok (.aload_n 0, 1) := by decide +kernel
theorem dX10_fails_156 : decode cX10_fails 156 = .ok (.getfield 93, 3) := by decide +kernel
theorem dX10_fails_159 : decode cX10_fails 159 = .ok (.iload_n 1, 1) := by decide +kernel
theorem dX10_fails_160 : decode cX10_fails 160 = .ok (.aload_n 0, 1) := by decide +kernel
theorem dX10_fails_161 : decode cX10_fails 161 = .ok (.getfield 66, 3) := by decide +kernel
theorem dX10_fails_164 : decode cX10_fails 164 = .ok (.iload_n 1, 1) := by decide +kernel
theorem dX10_fails_165 : decode cX10_fails 165 = .ok (.iaload, 1) := by decide +kernel
theorem dX10_fails_166 : decode cX10_fails 166 = .ok (.iastore, 1) := by decide +kernel
theorem dX10_fails_167 : decode cX10_fails 167 = .ok (.aload_n 0, 1) := by decide +kernel
theorem dX10_fails_168 : decode cX10_fails 168 = .ok (.getfield 96, 3) := by decide +kernel
theorem dX10_fails_171 : decode cX10_fails 171 = .ok (.iload_n 1, 1) := by decide +kernel
theorem dX10_fails_172 : decode cX10_fails 172 = .ok (.iload_n 3, 1) := by decide +kernel
theorem dX10_fails_173 : decode cX10_fails 173 = .ok (.iastore, 1) := by decide +kernel
theorem dX10_fails_174 : decode cX10_fails 174 = .ok (.aload_n 0, 1) := by decide +kernel
theorem dX10_fails_175 : decode cX10_fails 175 = .ok (.getfield 99, 3) := by decide +kernel
theorem dX10_fails_178 : decode cX10_fails 178 = .ok (.iload_n 1, 1) := by decide +kernel
theorem dX10_fails_179 : decode cX10_fails 179 = .ok (.iload 4, 2) := by decide +kernel
theorem dX10_fails_181 : decode cX10_fails 181 = .ok (.iastore, 1) := by decide +kernel
theorem dX10_fails_182 : decode cX10_fails 182 = .ok (.aload_n 0, 1) := by decide +kernel
theorem dX10_fails_183 : decode cX10_fails 183 = .ok (.iload_n 1, 1) := by decide +kernel
theorem dX10_fails_184 : decode cX10_fails 184 = .ok (.iconst 4, 1) := by decide +kernel
theorem dX10_fails_185 : decode cX10_fails 185 = .ok (.invokevirtual 221, 3) := by decide +kernel
theorem dX10_fails_188 : decode cX10_fails 188 = .ok (.return_, 1) := by decide +kernel
theorem dX10_areOver_0 : decode cX10_areOver 0 = .ok (.iconst 1, 1) := by decide +kernel
theorem dX10_areOver_1 : decode cX10_areOver 1 = .ok (.istore_n 2, 1) := by decide +kernel
theorem dX10_areOver_2 : decode cX10_areOver 2 = .ok (.iload_n 1, 1) := by decide +kernel
theorem dX10_areOver_3 : decode cX10_areOver 3 = .ok (.iconst 1, 1) := by decide +kernel
theorem dX10_areOver_4 : decode cX10_areOver 4 = .ok (.iadd, 1) := by decide +kernel
theorem dX10_areOver_5 : decode cX10_areOver 5 = .ok (.istore_n 3, 1) := by decide +kernel
theorem dX10_areOver_6 : decode cX10_areOver 6 = .ok (.iload_n 3, 1) := by decide +kernel
theorem dX10_areOver_7 : decode cX10_areOver 7 = .ok (.aload_n 0, 1) := by decide +kernel
theorem dX10_areOver_8 : decode cX10_areOver 8 = .ok (.getfield 176, 3) := by decide +kernel
theorem dX10_areOver_11 : decode cX10_areOver 11 = .ok (.if_icmp .ge 46, 3) := by decide +kernel
theorem dX10_areOver_14 : decode cX10_areOver 14 = .ok (.iload_n 2, 1) := by decide +kernel
theorem dX10_areOver_15 : decode cX10_areOver 15 = .ok (.ifCond .eq 34, 3) := by decide +kernel
theorem dX10_areOver_18 : decode cX10_areOver 18 = .ok (.aload_n 0, 1) := by decide +kernel
theorem dX10_areOver_19 : decode cX10_areOver 19 = .ok (.getfield 51, 3) := by decide +kernel
theorem dX10_areOver_22 : decode cX10_areOver 22 = .ok (.iload_n 3, 1) := by decide +kernel
theorem dX10_areOver_23 : decode cX10_areOver 23 = .ok (.iaload, 1) := by decide +kernel
theorem dX10_areOver_24 : decode cX10_areOver 24 = .ok (.iload_n 1, 1) := by decide +kernel
theorem dX10_areOver_25 : decode cX10_areOver 25 = .ok (.if_icmp .ne 20, 3) := by decide +kernel
theorem dX10_areOver_28 : decode cX10_areOver 28 = .ok (.aload_n 0, 1) := by decide +kernel
theorem dX10_areOver_29 : decode cX10_areOver 29 = .ok (.getfield 87, 3) := by decide +kernel
theorem dX10_areOver_32 : decode cX10_areOver 32 = .ok (.iload_n 3, 1) := by decide +kernel
theorem dX10_areOver_33 : decode cX10_areOver 33 = .ok (.baload, 1) := by decide +kernel
theorem dX10_areOver_34 : decode cX10_areOver 34 = .ok (.ifCond .eq 11, 3) := by decide +kernel
theorem dX10_areOver_37 : decode cX10_areOver 37 = .ok (.aload_n 0, 1) := by decide +kernel
theorem dX10_areOver_38 : decode cX10_areOver 38 = .ok (.iload_n 3, 1) := by decide +kernel
theorem dX10_areOver_39 : decode cX10_areOver 39 = .ok (.invokevirtual 215, 3) := by decide +kernel
theorem dX10_areOver_42 : decode cX10_areOver 42 = .ok (.ifCond .eq 7, 3) := by decide +kernel
theorem dX10_areOver_45 : decode cX10_areOver 45 = .ok (.iconst 1, 1) := by decide +kernel
theorem dX10_areOver_46 : decode cX10_areOver 46 = .ok (.goto 4, 3) := by decide +kernel
theorem dX10_areOver_49 : decode cX10_areOver 49 = .ok (.iconst 0, 1) := by decide +kernel
theorem dX10_areOver_50 : decode cX10_areOver 50 = .ok (.istore_n 2, 1) := by decide +kernel
theorem dX10_areOver_51 : decode cX10_areOver 51 = .ok (.iinc 3 1, 3) := by decide +kernel
theorem dX10_areOver_54 : decode cX10_areOver 54 = .ok (.goto (-48), 3) := by decide +kernel
theorem dX10_areOver_57 : decode cX10_areOver 57 = .ok (.iload_n 2, 1) := by decide +kernel
theorem dX10_areOver_58 : decode cX10_areOver 58 = .ok (.ireturn, 1) := by decide +kernel
theorem dX10_gathers_0 : decode cX10_gathers 0 = .ok (.iconst (-1), 1) := by decide +kernel
theorem dX10_gathers_1 : decode cX10_gathers 1 = .ok (.istore_n 2, 1) := by decide +kernel
theorem dX10_gathers_2 : decode cX10_gathers 2 = .ok (.iconst 0, 1) := by decide +kernel
theorem dX10_gathers_3 : decode cX10_gathers 3 = .ok (.istore_n 3, 1) := by decide +kernel
theorem dX10_gathers_4 : decode cX10_gathers 4 = .ok (.iload_n 1, 1) := by decide +kernel
theorem dX10_gathers_5 : decode cX10_gathers 5 = .ok (.iconst 1, 1) := by decide +kernel
theorem dX10_gathers_6 : decode cX10_gathers 6 = .ok (.iadd, 1) := by decide +kernel
theorem dX10_gathers_7 : decode cX10_gathers 7 = .ok (.istore 4, 2) := by decide +kernel
theorem dX10_gathers_9 : decode cX10_gathers 9 = .ok (.iload 4, 2) := by decide +kernel
theorem dX10_gathers_11 : decode cX10_gathers 11 = .ok (.aload_n 0, 1) := by decide +kernel
theorem dX10_gathers_12 : decode cX10_gathers 12 = .ok (.getfield 176, 3) := by decide +kernel
theorem dX10_gathers_15 : decode cX10_gathers 15 = .ok (.if_icmp .ge 95, 3) := by decide +kernel
theorem dX10_gathers_18 : decode cX10_gathers 18 = .ok (.aload_n 0, 1) := by decide +kernel
theorem dX10_gathers_19 : decode cX10_gathers 19 = .ok (.getfield 51, 3) := by decide +kernel
theorem dX10_gathers_22 : decode cX10_gathers 22 = .ok (.iload 4, 2) := by decide +kernel
theorem dX10_gathers_24 : decode cX10_gathers 24 = .ok (.iaload, 1) := by decide +kernel
theorem dX10_gathers_25 : decode cX10_gathers 25 = .ok (.iload_n 1, 1) := by decide +kernel
theorem dX10_gathers_26 : decode cX10_gathers 26 = .ok (.if_icmp .ne 78, 3) := by decide +kernel
theorem dX10_gathers_29 : decode cX10_gathers 29 = .ok (.aload_n 0, 1) := by decide +kernel
theorem dX10_gathers_30 : decode cX10_gathers 30 = .ok (.getfield 87, 3) := by decide +kernel
theorem dX10_gathers_33 : decode cX10_gathers 33 = .ok (.iload 4, 2) := by decide +kernel
theorem dX10_gathers_35 : decode cX10_gathers 35 = .ok (.baload, 1) := by decide +kernel
theorem dX10_gathers_36 : decode cX10_gathers 36 = .ok (.ifCond .ne 6, 3) := by decide +kernel
theorem dX10_gathers_39 : decode cX10_gathers 39 = .ok (.goto 65, 3) := by decide +kernel
theorem dX10_gathers_42 : decode cX10_gathers 42 = .ok (.aload_n 0, 1) := by decide +kernel
theorem dX10_gathers_43 : decode cX10_gathers 43 = .ok (.getfield 87, 3) := by decide +kernel
theorem dX10_gathers_46 : decode cX10_gathers 46 = .ok (.iload 4, 2) := by decide +kernel
theorem dX10_gathers_48 : decode cX10_gathers 48 = .ok (.iconst 0, 1) := by decide +kernel
theorem dX10_gathers_49 : decode cX10_gathers 49 = .ok (.bastore, 1) := by decide +kernel
theorem dX10_gathers_50 : decode cX10_gathers 50 = .ok (.aload_n 0, 1) := by decide +kernel
theorem dX10_gathers_51 : decode cX10_gathers 51 = .ok (.getfield 84, 3) := by decide +kernel
theorem dX10_gathers_54 : decode cX10_gathers 54 = .ok (.iload 4, 2) := by decide +kernel
theorem dX10_gathers_56 : decode cX10_gathers 56 = .ok (.iconst 1, 1) := by decide +kernel
theorem dX10_gathers_57 : decode cX10_gathers 57 = .ok (.bastore, 1) := by decide +kernel
theorem dX10_gathers_58 : decode cX10_gathers 58 = .ok (.aload_n 0, 1) := by decide +kernel
theorem dX10_gathers_59 : decode cX10_gathers 59 = .ok (.getfield 45, 3) := by decide +kernel
theorem dX10_gathers_62 : decode cX10_gathers 62 = .ok (.iload 4, 2) := by decide +kernel
theorem dX10_gathers_64 : decode cX10_gathers 64 = .ok (.iaload, 1) := by decide +kernel
theorem dX10_gathers_65 : decode cX10_gathers 65 = .ok (.iconst 3, 1) := by decide +kernel
theorem dX10_gathers_66 : decode cX10_gathers 66 = .ok (.if_icmp .ne 26, 3) := by decide +kernel
theorem dX10_gathers_69 : decode cX10_gathers 69 = .ok (.aload_n 0, 1) := by decide +kernel
theorem dX10_gathers_70 : decode cX10_gathers 70 = .ok (.getfield 63, 3) := by decide +kernel
theorem dX10_gathers_73 : decode cX10_gathers 73 = .ok (.iload_n 1, 1) := by decide +kernel
theorem dX10_gathers_74 : decode cX10_gathers 74 = .ok (.aload_n 0, 1) := by decide +kernel
theorem dX10_gathers_75 : decode cX10_gathers 75 = .ok (.getfield 63, 3) := by decide +kernel
theorem dX10_gathers_78 : decode cX10_gathers 78 = .ok (.iload_n 1, 1) := by decide +kernel
theorem dX10_gathers_79 : decode cX10_gathers 79 = .ok (.iaload, 1) := by decide +kernel
theorem dX10_gathers_80 : decode cX10_gathers 80 = .ok (.aload_n 0, 1) := by decide +kernel
theorem dX10_gathers_81 : decode cX10_gathers 81 = .ok (.getfield 63, 3) := by decide +kernel
theorem dX10_gathers_84 : decode cX10_gathers 84 = .ok (.iload 4, 2) := by decide +kernel
theorem dX10_gathers_86 : decode cX10_gathers 86 = .ok (.iaload, 1) := by decide +kernel
theorem dX10_gathers_87 : decode cX10_gathers 87 = .ok (.iadd, 1) := by decide +kernel
theorem dX10_gathers_88 : decode cX10_gathers 88 = .ok (.iastore, 1) := by decide +kernel
theorem dX10_gathers_89 : decode cX10_gathers 89 = .ok (.goto 15, 3) := by decide +kernel
theorem dX10_gathers_92 : decode cX10_gathers 92 = .ok (.iload_n 2, 1) := by decide +kernel
theorem dX10_gathers_93 : decode cX10_gathers 93 = .ok (.iconst (-1), 1) := by decide +kernel
theorem dX10_gathers_94 : decode cX10_gathers 94 = .ok (.if_icmp .ne 6, 3) := by decide +kernel
theorem dX10_gathers_97 : decode cX10_gathers 97 = .ok (.iload 4, 2) := by decide +kernel
theorem dX10_gathers_99 : decode cX10_gathers 99 = .ok (.istore_n 2, 1) := by decide +kernel
theorem dX10_gathers_100 : decode cX10_gathers 100 = .ok (.iload_n 3, 1) := by decide +kernel
theorem dX10_gathers_101 : decode cX10_gathers 101 = .ok (.iconst 1, 1) := by decide +kernel
theorem dX10_gathers_102 : decode cX10_gathers 102 = .ok (.iadd, 1) := by decide +kernel
theorem dX10_gathers_103 : decode cX10_gathers 103 = .ok (.istore_n 3, 1) := by decide +kernel
theorem dX10_gathers_104 : decode cX10_gathers 104 = .ok (.iinc 4 1, 3) := by decide +kernel
theorem dX10_gathers_107 : decode cX10_gathers 107 = .ok (.goto (-98), 3) := by decide +kernel
theorem dX10_gathers_110 : decode cX10_gathers 110 = .ok (.iload_n 2, 1) := by decide +kernel
theorem dX10_gathers_111 : decode cX10_gathers 111 = .ok (.iconst (-1), 1) := by decide +kernel
theorem dX10_gathers_112 : decode cX10_gathers 112 = .ok (.if_icmp .ne 20, 3) := by decide +kernel
theorem dX10_gathers_115 : decode cX10_gathers 115 = .ok (.aload_n 0, 1) := by decide +kernel
theorem dX10_gathers_116 : decode cX10_gathers 116 = .ok (.getfield 66, 3) := by decide +kernel
theorem dX10_gathers_119 : decode cX10_gathers 119 = .ok (.iload_n 1, 1) := by decide +kernel
theorem dX10_gathers_120 : decode cX10_gathers 120 = .ok (.aload_n 0, 1) := by decide +kernel
theorem dX10_gathers_121 : decode cX10_gathers 121 = .ok (.getfield 66, 3) := by decide +kernel
theorem dX10_gathers_124 : decode cX10_gathers 124 = .ok (.iload_n 1, 1) := by decide +kernel
theorem dX10_gathers_125 : decode cX10_gathers 125 = .ok (.iaload, 1) := by decide +kernel
theorem dX10_gathers_126 : decode cX10_gathers 126 = .ok (.iconst 1, 1) := by decide +kernel
theorem dX10_gathers_127 : decode cX10_gathers 127 = .ok (.iadd, 1) := by decide +kernel
theorem dX10_gathers_128 : decode cX10_gathers 128 = .ok (.iastore, 1) := by decide +kernel
theorem dX10_gathers_129 : decode cX10_gathers 129 = .ok (.goto 18, 3) := by decide +kernel
theorem dX10_gathers_132 : decode cX10_gathers 132 = .ok (.aload_n 0, 1) := by decide +kernel
theorem dX10_gathers_133 : decode cX10_gathers 133 = .ok (.iload_n 1, 1) := by decide +kernel
theorem dX10_gathers_134 : decode cX10_gathers 134 = .ok (.aload_n 0, 1) := by decide +kernel
theorem dX10_gathers_135 : decode cX10_gathers 135 = .ok (.getfield 90, 3) := by decide +kernel
theorem dX10_gathers_138 : decode cX10_gathers 138 = .ok (.iload_n 2, 1) := by decide +kernel
theorem dX10_gathers_139 : decode cX10_gathers 139 = .ok (.iaload, 1) := by decide +kernel
theorem dX10_gathers_140 : decode cX10_gathers 140 = .ok (.iload_n 2, 1) := by decide +kernel
theorem dX10_gathers_141 : decode cX10_gathers 141 = .ok (.iload_n 3, 1) := by decide +kernel
theorem dX10_gathers_142 : decode cX10_gathers 142 = .ok (.iconst 1, 1) := by decide +kernel
theorem dX10_gathers_143 : decode cX10_gathers 143 = .ok (.isub, 1) := by decide +kernel
theorem dX10_gathers_144 : decode cX10_gathers 144 = .ok (.invokevirtual 225, 3) := by decide +kernel
theorem dX10_gathers_147 : decode cX10_gathers 147 = .ok (.return_, 1) := by decide +kernel
theorem dX10_waits_0 : decode cX10_waits 0 = .ok (.aload_n 0, 1) := by decide +kernel
theorem dX10_waits_1 : decode cX10_waits 1 = .ok (.getfield 45, 3) := by decide +kernel
theorem dX10_waits_4 : decode cX10_waits 4 = .ok (.iload_n 1, 1) := by decide +kernel
theorem dX10_waits_5 : decode cX10_waits 5 = .ok (.iconst 2, 1) := by decide +kernel
theorem dX10_waits_6 : decode cX10_waits 6 = .ok (.iastore, 1) := by decide +kernel
theorem dX10_waits_7 : decode cX10_waits 7 = .ok (.aload_n 0, 1) := by decide +kernel
theorem dX10_waits_8 : decode cX10_waits 8 = .ok (.getfield 78, 3) := by decide +kernel
theorem dX10_waits_11 : decode cX10_waits 11 = .ok (.iload_n 1, 1) := by decide +kernel
theorem dX10_waits_12 : decode cX10_waits 12 = .ok (.iconst 1, 1) := by decide +kernel
theorem dX10_waits_13 : decode cX10_waits 13 = .ok (.bastore, 1) := by decide +kernel
theorem dX10_waits_14 : decode cX10_waits 14 = .ok (.aload_n 0, 1) := by decide +kernel
theorem dX10_waits_15 : decode cX10_waits 15 = .ok (.iload_n 1, 1) := by decide +kernel
theorem dX10_waits_16 : decode cX10_waits 16 = .ok (.invokevirtual 211, 3) := by decide +kernel
theorem dX10_waits_19 : decode cX10_waits 19 = .ok (.return_, 1) := by decide +kernel
theorem dX10_hands_0 : decode cX10_hands 0 = .ok (.aload_n 0, 1) := by decide +kernel
theorem dX10_hands_1 : decode cX10_hands 1 = .ok (.getfield 57, 3) := by decide +kernel
theorem dX10_hands_4 : decode cX10_hands 4 = .ok (.iload_n 1, 1) := by decide +kernel
theorem dX10_hands_5 : decode cX10_hands 5 = .ok (.iaload, 1) := by decide +kernel
theorem dX10_hands_6 : decode cX10_hands 6 = .ok (.bipush 6, 2) := by decide +kernel
theorem dX10_hands_8 : decode cX10_hands 8 = .ok (.if_icmp .ne 14, 3) := by decide +kernel
theorem dX10_hands_11 : decode cX10_hands 11 = .ok (.aload_n 0, 1) := by decide +kernel
theorem dX10_hands_12 : decode cX10_hands 12 = .ok (.iload_n 1, 1) := by decide +kernel
theorem dX10_hands_13 : decode cX10_hands 13 = .ok (.bipush 6, 2) := by decide +kernel
theorem dX10_hands_15 : decode cX10_hands 15 = .ok (.iconst (-1), 1) := by decide +kernel
theorem dX10_hands_16 : decode cX10_hands 16 = .ok (.iconst 0, 1) := by decide +kernel
theorem dX10_hands_17 : decode cX10_hands 17 = .ok (.invokevirtual 225, 3) := by decide +kernel
theorem dX10_hands_20 : decode cX10_hands 20 = .ok (.iconst 0, 1) := by decide +kernel
theorem dX10_hands_21 : decode cX10_hands 21 = .ok (.ireturn, 1) := by decide +kernel
theorem dX10_hands_22 : decode cX10_hands 22 = .ok (.aload_n 0, 1) := by decide +kernel
theorem dX10_hands_23 : decode cX10_hands 23 = .ok (.getfield 176, 3) := by decide +kernel
theorem dX10_hands_26 : decode cX10_hands 26 = .ok (.sipush 200, 3) := by decide +kernel
theorem dX10_hands_29 : decode cX10_hands 29 = .ok (.if_icmp .ne 14, 3) := by decide +kernel
theorem dX10_hands_32 : decode cX10_hands 32 = .ok (.aload_n 0, 1) := by decide +kernel
theorem dX10_hands_33 : decode cX10_hands 33 = .ok (.iload_n 1, 1) := by decide +kernel
theorem dX10_hands_34 : decode cX10_hands 34 = .ok (.bipush 7, 2) := by decide +kernel
theorem dX10_hands_36 : decode cX10_hands 36 = .ok (.iconst (-1), 1) := by decide +kernel
theorem dX10_hands_37 : decode cX10_hands 37 = .ok (.iconst 0, 1) := by decide +kernel
theorem dX10_hands_38 : decode cX10_hands 38 = .ok (.invokevirtual 225, 3) := by decide +kernel
theorem dX10_hands_41 : decode cX10_hands 41 = .ok (.iconst 0, 1) := by decide +kernel
theorem dX10_hands_42 : decode cX10_hands 42 = .ok (.ireturn, 1) := by decide +kernel
theorem dX10_hands_43 : decode cX10_hands 43 = .ok (.aload_n 0, 1) := by decide +kernel
theorem dX10_hands_44 : decode cX10_hands 44 = .ok (.iload_n 2, 1) := by decide +kernel
theorem dX10_hands_45 : decode cX10_hands 45 = .ok (.iload_n 1, 1) := by decide +kernel
theorem dX10_hands_46 : decode cX10_hands 46 = .ok (.invokevirtual 205, 3) := by decide +kernel
theorem dX10_hands_49 : decode cX10_hands 49 = .ok (.istore 4, 2) := by decide +kernel
theorem dX10_hands_51 : decode cX10_hands 51 = .ok (.aload_n 0, 1) := by decide +kernel
theorem dX10_hands_52 : decode cX10_hands 52 = .ok (.getfield 87, 3) := by decide +kernel
theorem dX10_hands_55 : decode cX10_hands 55 = .ok (.iload 4, 2) := by decide +kernel
theorem dX10_hands_57 : decode cX10_hands 57 = .ok (.iload_n 3, 1) := by decide +kernel
theorem dX10_hands_58 : decode cX10_hands 58 = .ok (.bastore, 1) := by decide +kernel
theorem dX10_hands_59 : decode cX10_hands 59 = .ok (.iconst 1, 1) := by decide +kernel
theorem dX10_hands_60 : decode cX10_hands 60 = .ok (.ireturn, 1) := by decide +kernel
theorem dX10_does_0 : decode cX10_does 0 = .ok (.bipush 24, 2) := by decide +kernel
theorem dX10_does_2 : decode cX10_does 2 = .ok (.aload_n 0, 1) := by decide +kernel
theorem dX10_does_3 : decode cX10_does 3 = .ok (.getfield 48, 3) := by decide +kernel
theorem dX10_does_6 : decode cX10_does 6 = .ok (.iload_n 1, 1) := by decide +kernel
theorem dX10_does_7 : decode cX10_does 7 = .ok (.iaload, 1) := by decide +kernel
theorem dX10_does_8 : decode cX10_does 8 = .ok (.imul, 1) := by decide +kernel
theorem dX10_does_9 : decode cX10_does 9 = .ok (.aload_n 0, 1) := by decide +kernel
theorem dX10_does_10 : decode cX10_does 10 = .ok (.getfield 66, 3) := by decide +kernel
theorem dX10_does_13 : decode cX10_does 13 = .ok (.iload_n 1, 1) := by decide +kernel
theorem dX10_does_14 : decode cX10_does 14 = .ok (.iaload, 1) := by decide +kernel
theorem dX10_does_15 : decode cX10_does 15 = .ok (.iadd, 1) := by decide +kernel
theorem dX10_does_16 : decode cX10_does 16 = .ok (.istore_n 2, 1) := by decide +kernel
theorem dX10_does_17 : decode cX10_does 17 = .ok (.aload_n 0, 1) := by decide +kernel
theorem dX10_does_18 : decode cX10_does 18 = .ok (.getfield 66, 3) := by decide +kernel
theorem dX10_does_21 : decode cX10_does 21 = .ok (.iload_n 1, 1) := by decide +kernel
theorem dX10_does_22 : decode cX10_does 22 = .ok (.iaload, 1) := by decide +kernel
theorem dX10_does_23 : decode cX10_does 23 = .ok (.aload_n 0, 1) := by decide +kernel
theorem dX10_does_24 : decode cX10_does 24 = .ok (.getfield 16, 3) := by decide +kernel
theorem dX10_does_27 : decode cX10_does 27 = .ok (.aload_n 0, 1) := by decide +kernel
theorem dX10_does_28 : decode cX10_does 28 = .ok (.getfield 48, 3) := by decide +kernel
theorem dX10_does_31 : decode cX10_does 31 = .ok (.iload_n 1, 1) := by decide +kernel
theorem dX10_does_32 : decode cX10_does 32 = .ok (.iaload, 1) := by decide +kernel
theorem dX10_does_33 : decode cX10_does 33 = .ok (.iaload, 1) := by decide +kernel
theorem dX10_does_34 : decode cX10_does 34 = .ok (.if_icmp .ge 14, 3) := by decide +kernel
theorem dX10_does_37 : decode cX10_does 37 = .ok (.aload_n 0, 1) := by decide +kernel
theorem dX10_does_38 : decode cX10_does 38 = .ok (.getfield 19, 3) := by decide +kernel
theorem dX10_does_41 : decode cX10_does 41 = .ok (.iload_n 2, 1) := by decide +kernel
theorem dX10_does_42 : decode cX10_does 42 = .ok (.iaload, 1) := by decide +kernel
theorem dX10_does_43 : decode cX10_does 43 = .ok (.bipush 12, 2) := by decide +kernel
theorem dX10_does_45 : decode cX10_does 45 = .ok (.if_icmp .ne 10, 3) := by decide +kernel
theorem dX10_does_48 : decode cX10_does 48 = .ok (.aload_n 0, 1) := by decide +kernel
theorem dX10_does_49 : decode cX10_does 49 = .ok (.iload_n 1, 1) := by decide +kernel
theorem dX10_does_50 : decode cX10_does 50 = .ok (.iconst 3, 1) := by decide +kernel
theorem dX10_does_51 : decode cX10_does 51 = .ok (.invokevirtual 221, 3) := by decide +kernel
theorem dX10_does_54 : decode cX10_does 54 = .ok (.return_, 1) := by decide +kernel
theorem dX10_does_55 : decode cX10_does 55 = .ok (.aload_n 0, 1) := by decide +kernel
theorem dX10_does_56 : decode cX10_does 56 = .ok (.getfield 22, 3) := by decide +kernel
theorem dX10_does_59 : decode cX10_does 59 = .ok (.iload_n 2, 1) := by decide +kernel
theorem dX10_does_60 : decode cX10_does 60 = .ok (.iaload, 1) := by decide +kernel
theorem dX10_does_61 : decode cX10_does 61 = .ok (.istore_n 3, 1) := by decide +kernel
theorem dX10_does_62 : decode cX10_does 62 = .ok (.aload_n 0, 1) := by decide +kernel
theorem dX10_does_63 : decode cX10_does 63 = .ok (.getfield 25, 3) := by decide +kernel
theorem dX10_does_66 : decode cX10_does 66 = .ok (.iload_n 2, 1) := by decide +kernel
theorem dX10_does_67 : decode cX10_does 67 = .ok (.iaload, 1) := by decide +kernel
theorem dX10_does_68 : decode cX10_does 68 = .ok (.istore 4, 2) := by decide +kernel
theorem dX10_does_70 : decode cX10_does 70 = .ok (.iconst 1, 1) := by decide +kernel
theorem dX10_does_71 : decode cX10_does 71 = .ok (.istore 5, 2) := by decide +kernel
theorem dX10_does_73 : decode cX10_does 73 = .ok (.aload_n 0, 1) := by decide +kernel
theorem dX10_does_74 : decode cX10_does 74 = .ok (.getfield 19, 3) := by decide +kernel
theorem dX10_does_77 : decode cX10_does 77 = .ok (.iload_n 2, 1) := by decide +kernel
theorem dX10_does_78 : decode cX10_does 78 = .ok (.iaload, 1) := by decide +kernel
theorem dX10_does_79 : decode cX10_does 79 = .ok (.tableswitch 390 0 10 #[57, 70, 79, 92, 103, 136, 166, 237, 285, 294, 352], 57) := by decide +kernel
theorem dX10_does_136 : decode cX10_does 136 = .ok (.aload_n 0, 1) := by decide +kernel
theorem dX10_does_137 : decode cX10_does 137 = .ok (.iload_n 1, 1) := by decide +kernel
theorem dX10_does_138 : decode cX10_does 138 = .ok (.iload_n 3, 1) := by decide +kernel
theorem dX10_does_139 : decode cX10_does 139 = .ok (.iload 4, 2) := by decide +kernel
theorem dX10_does_141 : decode cX10_does 141 = .ok (.invokevirtual 229, 3) := by decide +kernel
theorem dX10_does_144 : decode cX10_does 144 = .ok (.istore 5, 2) := by decide +kernel
theorem dX10_does_146 : decode cX10_does 146 = .ok (.goto 338, 3) := by decide +kernel
theorem dX10_does_149 : decode cX10_does 149 = .ok (.aload_n 0, 1) := by decide +kernel
theorem dX10_does_150 : decode cX10_does 150 = .ok (.iload_n 1, 1) := by decide +kernel
theorem dX10_does_151 : decode cX10_does 151 = .ok (.iload_n 3, 1) := by decide +kernel
theorem dX10_does_152 : decode cX10_does 152 = .ok (.invokevirtual 233, 3) := by decide +kernel
theorem dX10_does_155 : decode cX10_does 155 = .ok (.goto 329, 3) := by decide +kernel
theorem dX10_does_158 : decode cX10_does 158 = .ok (.aload_n 0, 1) := by decide +kernel
theorem dX10_does_159 : decode cX10_does 159 = .ok (.iload_n 1, 1) := by decide +kernel
theorem dX10_does_160 : decode cX10_does 160 = .ok (.iload_n 3, 1) := by decide +kernel
theorem dX10_does_161 : decode cX10_does 161 = .ok (.iload 4, 2) := by decide +kernel
theorem dX10_does_163 : decode cX10_does 163 = .ok (.invokevirtual 236, 3) := by decide +kernel
theorem dX10_does_166 : decode cX10_does 166 = .ok (.istore 5, 2) := by decide +kernel
theorem dX10_does_168 : decode cX10_does 168 = .ok (.goto 316, 3) := by decide +kernel
theorem dX10_does_171 : decode cX10_does 171 = .ok (.aload_n 0, 1) := by decide +kernel
theorem dX10_does_172 : decode cX10_does 172 = .ok (.iload_n 1, 1) := by decide +kernel
theorem dX10_does_173 : decode cX10_does 173 = .ok (.iload_n 3, 1) := by decide +kernel
theorem dX10_does_174 : decode cX10_does 174 = .ok (.invokevirtual 239, 3) := by decide +kernel
theorem dX10_does_177 : decode cX10_does 177 = .ok (.istore 5, 2) := by decide +kernel
theorem dX10_does_179 : decode cX10_does 179 = .ok (.goto 305, 3) := by decide +kernel
theorem dX10_does_182 : decode cX10_does 182 = .ok (.aload_n 0, 1) := by decide +kernel
theorem dX10_does_183 : decode cX10_does 183 = .ok (.iload_n 1, 1) := by decide +kernel
theorem dX10_does_184 : decode cX10_does 184 = .ok (.iload_n 3, 1) := by decide +kernel
theorem dX10_does_185 : decode cX10_does 185 = .ok (.iload 4, 2) := by decide +kernel
theorem dX10_does_187 : decode cX10_does 187 = .ok (.iconst 1, 1) := by decide +kernel
theorem dX10_does_188 : decode cX10_does 188 = .ok (.if_icmp .ne 7, 3) := by decide +kernel
theorem dX10_does_191 : decode cX10_does 191 = .ok (.iconst 1, 1) := by decide +kernel
theorem dX10_does_192 : decode cX10_does 192 = .ok (.goto 4, 3) := by decide +kernel
theorem dX10_does_195 : decode cX10_does 195 = .ok (.iconst 0, 1) := by decide +kernel
theorem dX10_does_196 : decode cX10_does 196 = .ok (.invokevirtual 243, 3) := by decide +kernel
theorem dX10_does_199 : decode cX10_does 199 = .ok (.ifCond .ne 4, 3) := by decide +kernel
theorem dX10_does_202 : decode cX10_does 202 = .ok (.return_, 1) := by decide +kernel
theorem dX10_does_203 : decode cX10_does 203 = .ok (.iload 4, 2) := by decide +kernel
theorem dX10_does_205 : decode cX10_does 205 = .ok (.iconst 1, 1) := by decide +kernel
theorem dX10_does_206 : decode cX10_does 206 = .ok (.if_icmp .ne 278, 3) := by decide +kernel
theorem dX10_does_209 : decode cX10_does 209 = .ok (.aload_n 0, 1) := by decide +kernel
theorem dX10_does_210 : decode cX10_does 210 = .ok (.iload_n 1, 1) := by decide +kernel
theorem dX10_does_211 : decode cX10_does 211 = .ok (.invokevirtual 247, 3) := by decide +kernel
theorem dX10_does_214 : decode cX10_does 214 = .ok (.return_, 1) := by decide +kernel
theorem dX10_does_215 : decode cX10_does 215 = .ok (.iconst 0, 1) := by decide +kernel
theorem dX10_does_216 : decode cX10_does 216 = .ok (.istore 6, 2) := by decide +kernel
theorem dX10_does_218 : decode cX10_does 218 = .ok (.iload 6, 2) := by decide +kernel
theorem dX10_does_220 : decode cX10_does 220 = .ok (.iload 4, 2) := by decide +kernel
theorem dX10_does_222 : decode cX10_does 222 = .ok (.if_icmp .ge 20, 3) := by decide +kernel
theorem dX10_does_225 : decode cX10_does 225 = .ok (.aload_n 0, 1) := by decide +kernel
theorem dX10_does_226 : decode cX10_does 226 = .ok (.iload_n 1, 1) := by decide +kernel
theorem dX10_does_227 : decode cX10_does 227 = .ok (.iload_n 3, 1) := by decide +kernel
theorem dX10_does_228 : decode cX10_does 228 = .ok (.iconst 0, 1) := by decide +kernel
theorem dX10_does_229 : decode cX10_does 229 = .ok (.invokevirtual 243, 3) := by decide +kernel
theorem dX10_does_232 : decode cX10_does 232 = .ok (.ifCond .ne 4, 3) := by decide +kernel
theorem dX10_does_235 : decode cX10_does 235 = .ok (.return_, 1) := by decide +kernel
theorem dX10_does_236 : decode cX10_does 236 = .ok (.iinc 6 1, 3) := by decide +kernel
theorem dX10_does_239 : decode cX10_does 239 = .ok (.goto (-21), 3) := by decide +kernel
theorem dX10_does_242 : decode cX10_does 242 = .ok (.goto 242, 3) := by decide +kernel
theorem dX10_does_245 : decode cX10_does 245 = .ok (.iload_n 1, 1) := by decide +kernel
theorem dX10_does_246 : decode cX10_does 246 = .ok (.iconst 1, 1) := by decide +kernel
theorem dX10_does_247 : decode cX10_does 247 = .ok (.iadd, 1) := by decide +kernel
theorem dX10_does_248 : decode cX10_does 248 = .ok (.istore 6, 2) := by decide +kernel
theorem dX10_does_250 : decode cX10_does 250 = .ok (.iload 6, 2) := by decide +kernel
theorem dX10_does_252 : decode cX10_does 252 = .ok (.aload_n 0, 1) := by decide +kernel
theorem dX10_does_253 : decode cX10_does 253 = .ok (.getfield 176, 3) := by decide +kernel
theorem dX10_does_256 : decode cX10_does 256 = .ok (.if_icmp .ge 38, 3) := by decide +kernel
theorem dX10_does_259 : decode cX10_does 259 = .ok (.aload_n 0, 1) := by decide +kernel
theorem dX10_does_260 : decode cX10_does 260 = .ok (.getfield 51, 3) := by decide +kernel
theorem dX10_does_263 : decode cX10_does 263 = .ok (.iload 6, 2) := by decide +kernel
theorem dX10_does_265 : decode cX10_does 265 = .ok (.iaload, 1) := by decide +kernel
theorem dX10_does_266 : decode cX10_does 266 = .ok (.iload_n 1, 1) := by decide +kernel
theorem dX10_does_267 : decode cX10_does 267 = .ok (.if_icmp .ne 21, 3) := by decide +kernel
theorem dX10_does_270 : decode cX10_does 270 = .ok (.aload_n 0, 1) := by decide +kernel
theorem dX10_does_271 : decode cX10_does 271 = .ok (.getfield 84, 3) := by decide +kernel
theorem dX10_does_274 : decode cX10_does 274 = .ok (.iload 6, 2) := by decide +kernel
theorem dX10_does_276 : decode cX10_does 276 = .ok (.baload, 1) := by decide +kernel
theorem dX10_does_277 : decode cX10_does 277 = .ok (.ifCond .ne 11, 3) := by decide +kernel
theorem dX10_does_280 : decode cX10_does 280 = .ok (.aload_n 0, 1) := by decide +kernel
theorem dX10_does_281 : decode cX10_does 281 = .ok (.getfield 87, 3) := by decide +kernel
theorem dX10_does_284 : decode cX10_does 284 = .ok (.iload 6, 2) := by decide +kernel
theorem dX10_does_286 : decode cX10_does 286 = .ok (.iconst 1, 1) := by decide +kernel
theorem dX10_does_287 : decode cX10_does 287 = .ok (.bastore, 1) := by decide +kernel
theorem dX10_does_288 : decode cX10_does 288 = .ok (.iinc 6 1, 3) := by decide +kernel
theorem dX10_does_291 : decode cX10_does 291 = .ok (.goto (-41), 3) := by decide +kernel
theorem dX10_does_294 : decode cX10_does 294 = .ok (.aload_n 0, 1) := by decide +kernel
theorem dX10_does_295 : decode cX10_does 295 = .ok (.iload_n 1, 1) := by decide +kernel
theorem dX10_does_296 : decode cX10_does 296 = .ok (.invokevirtual 250, 3) := by decide +kernel
theorem dX10_does_299 : decode cX10_does 299 = .ok (.ifCond .eq 11, 3) := by decide +kernel
theorem dX10_does_302 : decode cX10_does 302 = .ok (.aload_n 0, 1) := by decide +kernel
theorem dX10_does_303 : decode cX10_does 303 = .ok (.iload_n 1, 1) := by decide +kernel
theorem dX10_does_304 : decode cX10_does 304 = .ok (.invokevirtual 253, 3) := by decide +kernel
theorem dX10_does_307 : decode cX10_does 307 = .ok (.goto 8, 3) := by decide +kernel
theorem dX10_does_310 : decode cX10_does 310 = .ok (.aload_n 0, 1) := by decide +kernel
theorem dX10_does_311 : decode cX10_does 311 = .ok (.iload_n 1, 1) := by decide +kernel
theorem dX10_does_312 : decode cX10_does 312 = .ok (.invokevirtual 247, 3) := by decide +kernel
theorem dX10_does_315 : decode cX10_does 315 = .ok (.return_, 1) := by decide +kernel
theorem dX10_does_316 : decode cX10_does 316 = .ok (.aload_n 0, 1) := by decide +kernel
theorem dX10_does_317 : decode cX10_does 317 = .ok (.getfield 192, 3) := by decide +kernel
theorem dX10_does_320 : decode cX10_does 320 = .ok (.ldc 150, 2) := by decide +kernel
theorem dX10_does_322 : decode cX10_does 322 = .ok (.if_icmp .ge 162, 3) := by decide +kernel
theorem dX10_does_325 : decode cX10_does 325 = .ok (.aload_n 0, 1) := by decide +kernel
theorem dX10_does_326 : decode cX10_does 326 = .ok (.getfield 151, 3) := by decide +kernel
theorem dX10_does_329 : decode cX10_does 329 = .ok (.aload_n 0, 1) := by decide +kernel
theorem dX10_does_330 : decode cX10_does 330 = .ok (.getfield 192, 3) := by decide +kernel
theorem dX10_does_333 : decode cX10_does 333 = .ok (.aload_n 0, 1) := by decide +kernel
theorem dX10_does_334 : decode cX10_does 334 = .ok (.getfield 54, 3) := by decide +kernel
theorem dX10_does_337 : decode cX10_does 337 = .ok (.iload_n 1, 1) := by decide +kernel
theorem dX10_does_338 : decode cX10_does 338 = .ok (.iaload, 1) := by decide +kernel
theorem dX10_does_339 : decode cX10_does 339 = .ok (.iastore, 1) := by decide +kernel
theorem dX10_does_340 : decode cX10_does 340 = .ok (.aload_n 0, 1) := by decide +kernel
theorem dX10_does_341 : decode cX10_does 341 = .ok (.getfield 154, 3) := by decide +kernel
theorem dX10_does_344 : decode cX10_does 344 = .ok (.aload_n 0, 1) := by decide +kernel
theorem dX10_does_345 : decode cX10_does 345 = .ok (.getfield 192, 3) := by decide +kernel
theorem dX10_does_348 : decode cX10_does 348 = .ok (.iload 4, 2) := by decide +kernel
theorem dX10_does_350 : decode cX10_does 350 = .ok (.iastore, 1) := by decide +kernel
theorem dX10_does_351 : decode cX10_does 351 = .ok (.aload_n 0, 1) := by decide +kernel
theorem dX10_does_352 : decode cX10_does 352 = .ok (.aload_n 0, 1) := by decide +kernel
theorem dX10_does_353 : decode cX10_does 353 = .ok (.getfield 192, 3) := by decide +kernel
theorem dX10_does_356 : decode cX10_does 356 = .ok (.iconst 1, 1) := by decide +kernel
theorem dX10_does_357 : decode cX10_does 357 = .ok (.iadd, 1) := by decide +kernel
theorem dX10_does_358 : decode cX10_does 358 = .ok (.putfield 192, 3) := by decide +kernel
theorem dX10_does_361 : decode cX10_does 361 = .ok (.goto 123, 3) := by decide +kernel
theorem dX10_does_364 : decode cX10_does 364 = .ok (.aload_n 0, 1) := by decide +kernel
theorem dX10_does_365 : decode cX10_does 365 = .ok (.iload_n 1, 1) := by decide +kernel
theorem dX10_does_366 : decode cX10_does 366 = .ok (.iload_n 3, 1) := by decide +kernel
theorem dX10_does_367 : decode cX10_does 367 = .ok (.iconst (-1), 1) := by decide +kernel
theorem dX10_does_368 : decode cX10_does 368 = .ok (.iconst 0, 1) := by decide +kernel
theorem dX10_does_369 : decode cX10_does 369 = .ok (.invokevirtual 225, 3) := by decide +kernel
theorem dX10_does_372 : decode cX10_does 372 = .ok (.return_, 1) := by decide +kernel
theorem dX10_does_373 : decode cX10_does 373 = .ok (.bipush 24, 2) := by decide +kernel
theorem dX10_does_375 : decode cX10_does 375 = .ok (.iload_n 1, 1) := by decide +kernel
theorem dX10_does_376 : decode cX10_does 376 = .ok (.imul, 1) := by decide +kernel
theorem dX10_does_377 : decode cX10_does 377 = .ok (.aload_n 0, 1) := by decide +kernel
theorem dX10_does_378 : decode cX10_does 378 = .ok (.getfield 123, 3) := by decide +kernel
theorem dX10_does_381 : decode cX10_does 381 = .ok (.iload_n 1, 1) := by decide +kernel
theorem dX10_does_382 : decode cX10_does 382 = .ok (.iaload, 1) := by decide +kernel
theorem dX10_does_383 : decode cX10_does 383 = .ok (.iadd, 1) := by decide +kernel
theorem dX10_does_384 : decode cX10_does 384 = .ok (.istore 6, 2) := by decide +kernel
theorem dX10_does_386 : decode cX10_does 386 = .ok (.aload_n 0, 1) := by decide +kernel
theorem dX10_does_387 : decode cX10_does 387 = .ok (.getfield 126, 3) := by decide +kernel
theorem dX10_does_390 : decode cX10_does 390 = .ok (.iload 6, 2) := by decide +kernel
theorem dX10_does_392 : decode cX10_does 392 = .ok (.iload_n 3, 1) := by decide +kernel
theorem dX10_does_393 : decode cX10_does 393 = .ok (.iastore, 1) := by decide +kernel
theorem dX10_does_394 : decode cX10_does 394 = .ok (.aload_n 0, 1) := by decide +kernel
theorem dX10_does_395 : decode cX10_does 395 = .ok (.getfield 129, 3) := by decide +kernel
theorem dX10_does_398 : decode cX10_does 398 = .ok (.iload 6, 2) := by decide +kernel
theorem dX10_does_400 : decode cX10_does 400 = .ok (.iload 4, 2) := by decide +kernel
theorem dX10_does_402 : decode cX10_does 402 = .ok (.iastore, 1) := by decide +kernel
theorem dX10_does_403 : decode cX10_does 403 = .ok (.aload_n 0, 1) := by decide +kernel
theorem dX10_does_404 : decode cX10_does 404 = .ok (.getfield 135, 3) := by decide +kernel
theorem dX10_does_407 : decode cX10_does 407 = .ok (.iload 6, 2) := by decide +kernel
theorem dX10_does_409 : decode cX10_does 409 = .ok (.aload_n 0, 1) := by decide +kernel
theorem dX10_does_410 : decode cX10_does 410 = .ok (.getfield 256, 3) := by decide +kernel
theorem dX10_does_413 : decode cX10_does 413 = .ok (.iastore, 1) := by decide +kernel
theorem dX10_does_414 : decode cX10_does 414 = .ok (.aload_n 0, 1) := by decide +kernel
theorem dX10_does_415 : decode cX10_does 415 = .ok (.getfield 123, 3) := by decide +kernel
theorem dX10_does_418 : decode cX10_does 418 = .ok (.iload_n 1, 1) := by decide +kernel
theorem dX10_does_419 : decode cX10_does 419 = .ok (.aload_n 0, 1) := by decide +kernel
theorem dX10_does_420 : decode cX10_does 420 = .ok (.getfield 123, 3) := by decide +kernel
theorem dX10_does_423 : decode cX10_does 423 = .ok (.iload_n 1, 1) := by decide +kernel
theorem dX10_does_424 : decode cX10_does 424 = .ok (.iaload, 1) := by decide +kernel
theorem dX10_does_425 : decode cX10_does 425 = .ok (.iconst 1, 1) := by decide +kernel
theorem dX10_does_426 : decode cX10_does 426 = .ok (.iadd, 1) := by decide +kernel
theorem dX10_does_427 : decode cX10_does 427 = .ok (.iastore, 1) := by decide +kernel
theorem dX10_does_428 : decode cX10_does 428 = .ok (.goto 56, 3) := by decide +kernel
theorem dX10_does_431 : decode cX10_does 431 = .ok (.aload_n 0, 1) := by decide +kernel
theorem dX10_does_432 : decode cX10_does 432 = .ok (.getfield 123, 3) := by decide +kernel
theorem dX10_does_435 : decode cX10_does 435 = .ok (.iload_n 1, 1) := by decide +kernel
theorem dX10_does_436 : decode cX10_does 436 = .ok (.iaload, 1) := by decide +kernel
theorem dX10_does_437 : decode cX10_does 437 = .ok (.ifCond .le 7, 3) := by decide +kernel
theorem dX10_does_440 : decode cX10_does 440 = .ok (.iconst 1, 1) := by decide +kernel
theorem dX10_does_441 : decode cX10_does 441 = .ok (.goto 4, 3) := by decide +kernel
theorem dX10_does_444 : decode cX10_does 444 = .ok (.iconst 0, 1) := by decide +kernel
theorem dX10_does_445 : decode cX10_does 445 = .ok (.istore 5, 2) := by decide +kernel
theorem dX10_does_447 : decode cX10_does 447 = .ok (.iload 5, 2) := by decide +kernel
theorem dX10_does_449 : decode cX10_does 449 = .ok (.ifCond .eq 35, 3) := by decide +kernel
theorem dX10_does_452 : decode cX10_does 452 = .ok (.aload_n 0, 1) := by decide +kernel
theorem dX10_does_453 : decode cX10_does 453 = .ok (.getfield 123, 3) := by decide +kernel
theorem dX10_does_456 : decode cX10_does 456 = .ok (.iload_n 1, 1) := by decide +kernel
theorem dX10_does_457 : decode cX10_does 457 = .ok (.aload_n 0, 1) := by decide +kernel
theorem dX10_does_458 : decode cX10_does 458 = .ok (.getfield 123, 3) := by decide +kernel
theorem dX10_does_461 : decode cX10_does 461 = .ok (.iload_n 1, 1) := by decide +kernel
theorem dX10_does_462 : decode cX10_does 462 = .ok (.iaload, 1) := by decide +kernel
theorem dX10_does_463 : decode cX10_does 463 = .ok (.iconst 1, 1) := by decide +kernel
theorem dX10_does_464 : decode cX10_does 464 = .ok (.isub, 1) := by decide +kernel
theorem dX10_does_465 : decode cX10_does 465 = .ok (.iastore, 1) := by decide +kernel
theorem dX10_does_466 : decode cX10_does 466 = .ok (.goto 18, 3) := by decide +kernel
theorem dX10_does_469 : decode cX10_does 469 = .ok (.aload_n 0, 1) := by decide +kernel
theorem dX10_does_470 : decode cX10_does 470 = .ok (.getfield 63, 3) := by decide +kernel
theorem dX10_does_473 : decode cX10_does 473 = .ok (.iload_n 1, 1) := by decide +kernel
theorem dX10_does_474 : decode cX10_does 474 = .ok (.aload_n 0, 1) := by decide +kernel
theorem dX10_does_475 : decode cX10_does 475 = .ok (.getfield 63, 3) := by decide +kernel
theorem dX10_does_478 : decode cX10_does 478 = .ok (.iload_n 1, 1) := by decide +kernel
theorem dX10_does_479 : decode cX10_does 479 = .ok (.iaload, 1) := by decide +kernel
theorem dX10_does_480 : decode cX10_does 480 = .ok (.iload 4, 2) := by decide +kernel
theorem dX10_does_482 : decode cX10_does 482 = .ok (.iadd, 1) := by decide +kernel
theorem dX10_does_483 : decode cX10_does 483 = .ok (.iastore, 1) := by decide +kernel
theorem dX10_does_484 : decode cX10_does 484 = .ok (.iload 5, 2) := by decide +kernel
theorem dX10_does_486 : decode cX10_does 486 = .ok (.ifCond .eq 20, 3) := by decide +kernel
theorem dX10_does_489 : decode cX10_does 489 = .ok (.aload_n 0, 1) := by decide +kernel
theorem dX10_does_490 : decode cX10_does 490 = .ok (.getfield 66, 3) := by decide +kernel
theorem dX10_does_493 : decode cX10_does 493 = .ok (.iload_n 1, 1) := by decide +kernel
theorem dX10_does_494 : decode cX10_does 494 = .ok (.aload_n 0, 1) := by decide +kernel
theorem dX10_does_495 : decode cX10_does 495 = .ok (.getfield 66, 3) := by decide +kernel
theorem dX10_does_498 : decode cX10_does 498 = .ok (.iload_n 1, 1) := by decide +kernel
theorem dX10_does_499 : decode cX10_does 499 = .ok (.iaload, 1) := by decide +kernel
theorem dX10_does_500 : decode cX10_does 500 = .ok (.iconst 1, 1) := by decide +kernel
theorem dX10_does_501 : decode cX10_does 501 = .ok (.iadd, 1) := by decide +kernel
theorem dX10_does_502 : decode cX10_does 502 = .ok (.iastore, 1) := by decide +kernel
theorem dX10_does_503 : decode cX10_does 503 = .ok (.goto 11, 3) := by decide +kernel
theorem dX10_does_506 : decode cX10_does 506 = .ok (.aload_n 0, 1) := by decide +kernel
theorem dX10_does_507 : decode cX10_does 507 = .ok (.iload_n 1, 1) := by decide +kernel
theorem dX10_does_508 : decode cX10_does 508 = .ok (.iconst 5, 1) := by decide +kernel
theorem dX10_does_509 : decode cX10_does 509 = .ok (.iconst (-1), 1) := by decide +kernel
theorem dX10_does_510 : decode cX10_does 510 = .ok (.iconst 0, 1) := by decide +kernel
theorem dX10_does_511 : decode cX10_does 511 = .ok (.invokevirtual 225, 3) := by decide +kernel
theorem dX10_does_514 : decode cX10_does 514 = .ok (.return_, 1) := by decide +kernel
theorem dX10_writes_0 : decode cX10_writes 0 = .ok (.aload_n 0, 1) := by decide +kernel
theorem dX10_writes_1 : decode cX10_writes 1 = .ok (.getfield 7, 3) := by decide +kernel
theorem dX10_writes_4 : decode cX10_writes 4 = .ok (.iload_n 2, 1) := by decide +kernel
theorem dX10_writes_5 : decode cX10_writes 5 = .ok (.iaload, 1) := by decide +kernel
theorem dX10_writes_6 : decode cX10_writes 6 = .ok (.iconst 3, 1) := by decide +kernel
theorem dX10_writes_7 : decode cX10_writes 7 = .ok (.if_icmp .ne 29, 3) := by decide +kernel
theorem dX10_writes_10 : decode cX10_writes 10 = .ok (.aload_n 0, 1) := by decide +kernel
theorem dX10_writes_11 : decode cX10_writes 11 = .ok (.iload_n 1, 1) := by decide +kernel
theorem dX10_writes_12 : decode cX10_writes 12 = .ok (.iload_n 2, 1) := by decide +kernel
theorem dX10_writes_13 : decode cX10_writes 13 = .ok (.invokevirtual 208, 3) := by decide +kernel
theorem dX10_writes_16 : decode cX10_writes 16 = .ok (.istore 4, 2) := by decide +kernel
theorem dX10_writes_18 : decode cX10_writes 18 = .ok (.iload 4, 2) := by decide +kernel
theorem dX10_writes_20 : decode cX10_writes 20 = .ok (.iconst (-1), 1) := by decide +kernel
theorem dX10_writes_21 : decode cX10_writes 21 = .ok (.if_icmp .ne 5, 3) := by decide +kernel
theorem dX10_writes_24 : decode cX10_writes 24 = .ok (.iconst 0, 1) := by decide +kernel
theorem dX10_writes_25 : decode cX10_writes 25 = .ok (.ireturn, 1) := by decide +kernel
theorem dX10_writes_26 : decode cX10_writes 26 = .ok (.aload_n 0, 1) := by decide +kernel
theorem dX10_writes_27 : decode cX10_writes 27 = .ok (.getfield 120, 3) := by decide +kernel
theorem dX10_writes_30 : decode cX10_writes 30 = .ok (.iload 4, 2) := by decide +kernel
theorem dX10_writes_32 : decode cX10_writes 32 = .ok (.iload_n 3, 1) := by decide +kernel
theorem dX10_writes_33 : decode cX10_writes 33 = .ok (.iastore, 1) := by decide +kernel
theorem dX10_writes_34 : decode cX10_writes 34 = .ok (.iconst 1, 1) := by decide +kernel
theorem dX10_writes_35 : decode cX10_writes 35 = .ok (.ireturn, 1) := by decide +kernel
theorem dX10_writes_36 : decode cX10_writes 36 = .ok (.bipush 8, 2) := by decide +kernel
theorem dX10_writes_38 : decode cX10_writes 38 = .ok (.aload_n 0, 1) := by decide +kernel
theorem dX10_writes_39 : decode cX10_writes 39 = .ok (.getfield 7, 3) := by decide +kernel
theorem dX10_writes_42 : decode cX10_writes 42 = .ok (.iload_n 2, 1) := by decide +kernel
theorem dX10_writes_43 : decode cX10_writes 43 = .ok (.iaload, 1) := by decide +kernel
theorem dX10_writes_44 : decode cX10_writes 44 = .ok (.iconst 2, 1) := by decide +kernel
theorem dX10_writes_45 : decode cX10_writes 45 = .ok (.if_icmp .ne 12, 3) := by decide +kernel
theorem dX10_writes_48 : decode cX10_writes 48 = .ok (.aload_n 0, 1) := by decide +kernel
theorem dX10_writes_49 : decode cX10_writes 49 = .ok (.getfield 54, 3) := by decide +kernel
theorem dX10_writes_52 : decode cX10_writes 52 = .ok (.iload_n 1, 1) := by decide +kernel
theorem dX10_writes_53 : decode cX10_writes 53 = .ok (.iaload, 1) := by decide +kernel
theorem dX10_writes_54 : decode cX10_writes 54 = .ok (.goto 4, 3) := by decide +kernel
theorem dX10_writes_57 : decode cX10_writes 57 = .ok (.iload_n 1, 1) := by decide +kernel
theorem dX10_writes_58 : decode cX10_writes 58 = .ok (.imul, 1) := by decide +kernel
theorem dX10_writes_59 : decode cX10_writes 59 = .ok (.iload_n 2, 1) := by decide +kernel
theorem dX10_writes_60 : decode cX10_writes 60 = .ok (.iadd, 1) := by decide +kernel
theorem dX10_writes_61 : decode cX10_writes 61 = .ok (.istore 4, 2) := by decide +kernel
theorem dX10_writes_63 : decode cX10_writes 63 = .ok (.aload_n 0, 1) := by decide +kernel
theorem dX10_writes_64 : decode cX10_writes 64 = .ok (.getfield 108, 3) := by decide +kernel
theorem dX10_writes_67 : decode cX10_writes 67 = .ok (.iload 4, 2) := by decide +kernel
theorem dX10_writes_69 : decode cX10_writes 69 = .ok (.iload_n 3, 1) := by decide +kernel
theorem dX10_writes_70 : decode cX10_writes 70 = .ok (.iastore, 1) := by decide +kernel
theorem dX10_writes_71 : decode cX10_writes 71 = .ok (.aload_n 0, 1) := by decide +kernel
theorem dX10_writes_72 : decode cX10_writes 72 = .ok (.getfield 111, 3) := by decide +kernel
theorem dX10_writes_75 : decode cX10_writes 75 = .ok (.iload 4, 2) := by decide +kernel
theorem dX10_writes_77 : decode cX10_writes 77 = .ok (.iconst 1, 1) := by decide +kernel
theorem dX10_writes_78 : decode cX10_writes 78 = .ok (.bastore, 1) := by decide +kernel
theorem dX10_writes_79 : decode cX10_writes 79 = .ok (.iconst 1, 1) := by decide +kernel
theorem dX10_writes_80 : decode cX10_writes 80 = .ok (.ireturn, 1) := by decide +kernel
theorem dX10_adds_0 : decode cX10_adds 0 = .ok (.aload_n 0, 1) := by decide +kernel
theorem dX10_adds_1 : decode cX10_adds 1 = .ok (.iload_n 1, 1) := by decide +kernel
theorem dX10_adds_2 : decode cX10_adds 2 = .ok (.iload_n 2, 1) := by decide +kernel
theorem dX10_adds_3 : decode cX10_adds 3 = .ok (.invokevirtual 201, 3) := by decide +kernel
theorem dX10_adds_6 : decode cX10_adds 6 = .ok (.istore_n 3, 1) := by decide +kernel
theorem dX10_adds_7 : decode cX10_adds 7 = .ok (.aload_n 0, 1) := by decide +kernel
theorem dX10_adds_8 : decode cX10_adds 8 = .ok (.getfield 63, 3) := by decide +kernel
theorem dX10_adds_11 : decode cX10_adds 11 = .ok (.iload_n 1, 1) := by decide +kernel
theorem dX10_adds_12 : decode cX10_adds 12 = .ok (.aload_n 0, 1) := by decide +kernel
theorem dX10_adds_13 : decode cX10_adds 13 = .ok (.getfield 63, 3) := by decide +kernel
theorem dX10_adds_16 : decode cX10_adds 16 = .ok (.iload_n 1, 1) := by decide +kernel
theorem dX10_adds_17 : decode cX10_adds 17 = .ok (.iaload, 1) := by decide +kernel
theorem dX10_adds_18 : decode cX10_adds 18 = .ok (.iload_n 3, 1) := by decide +kernel
theorem dX10_adds_19 : decode cX10_adds 19 = .ok (.iadd, 1) := by decide +kernel
theorem dX10_adds_20 : decode cX10_adds 20 = .ok (.iastore, 1) := by decide +kernel
theorem dX10_adds_21 : decode cX10_adds 21 = .ok (.aload_n 0, 1) := by decide +kernel
theorem dX10_adds_22 : decode cX10_adds 22 = .ok (.getfield 189, 3) := by decide +kernel
theorem dX10_adds_25 : decode cX10_adds 25 = .ok (.sipush 1000, 3) := by decide +kernel
theorem dX10_adds_28 : decode cX10_adds 28 = .ok (.if_icmp .ge 48, 3) := by decide +kernel
theorem dX10_adds_31 : decode cX10_adds 31 = .ok (.aload_n 0, 1) := by decide +kernel
theorem dX10_adds_32 : decode cX10_adds 32 = .ok (.getfield 138, 3) := by decide +kernel
theorem dX10_adds_35 : decode cX10_adds 35 = .ok (.aload_n 0, 1) := by decide +kernel
theorem dX10_adds_36 : decode cX10_adds 36 = .ok (.getfield 189, 3) := by decide +kernel
theorem dX10_adds_39 : decode cX10_adds 39 = .ok (.iload_n 1, 1) := by decide +kernel
theorem dX10_adds_40 : decode cX10_adds 40 = .ok (.iastore, 1) := by decide +kernel
theorem dX10_adds_41 : decode cX10_adds 41 = .ok (.aload_n 0, 1) := by decide +kernel
theorem dX10_adds_42 : decode cX10_adds 42 = .ok (.getfield 141, 3) := by decide +kernel
theorem dX10_adds_45 : decode cX10_adds 45 = .ok (.aload_n 0, 1) := by decide +kernel
theorem dX10_adds_46 : decode cX10_adds 46 = .ok (.getfield 189, 3) := by decide +kernel
theorem dX10_adds_49 : decode cX10_adds 49 = .ok (.iload_n 2, 1) := by decide +kernel
theorem dX10_adds_50 : decode cX10_adds 50 = .ok (.iastore, 1) := by decide +kernel
theorem dX10_adds_51 : decode cX10_adds 51 = .ok (.aload_n 0, 1) := by decide +kernel
theorem dX10_adds_52 : decode cX10_adds 52 = .ok (.getfield 144, 3) := by decide +kernel
theorem dX10_adds_55 : decode cX10_adds 55 = .ok (.aload_n 0, 1) := by decide +kernel
theorem dX10_adds_56 : decode cX10_adds 56 = .ok (.getfield 189, 3) := by decide +kernel
theorem dX10_adds_59 : decode cX10_adds 59 = .ok (.iload_n 3, 1) := by decide +kernel
theorem dX10_adds_60 : decode cX10_adds 60 = .ok (.iastore, 1) := by decide +kernel
theorem dX10_adds_61 : decode cX10_adds 61 = .ok (.aload_n 0, 1) := by decide +kernel
theorem dX10_adds_62 : decode cX10_adds 62 = .ok (.getfield 147, 3) := by decide +kernel
theorem dX10_adds_65 : decode cX10_adds 65 = .ok (.aload_n 0, 1) := by decide +kernel
theorem dX10_adds_66 : decode cX10_adds 66 = .ok (.getfield 189, 3) := by decide +kernel
theorem dX10_adds_69 : decode cX10_adds 69 = .ok (.aload_n 0, 1) := by decide +kernel
theorem dX10_adds_70 : decode cX10_adds 70 = .ok (.getfield 66, 3) := by decide +kernel
theorem dX10_adds_73 : decode cX10_adds 73 = .ok (.iload_n 1, 1) := by decide +kernel
theorem dX10_adds_74 : decode cX10_adds 74 = .ok (.iaload, 1) := by decide +kernel
theorem dX10_adds_75 : decode cX10_adds 75 = .ok (.iastore, 1) := by decide +kernel
theorem dX10_adds_76 : decode cX10_adds 76 = .ok (.aload_n 0, 1) := by decide +kernel
theorem dX10_adds_77 : decode cX10_adds 77 = .ok (.aload_n 0, 1) := by decide +kernel
theorem dX10_adds_78 : decode cX10_adds 78 = .ok (.getfield 189, 3) := by decide +kernel
theorem dX10_adds_81 : decode cX10_adds 81 = .ok (.iconst 1, 1) := by decide +kernel
theorem dX10_adds_82 : decode cX10_adds 82 = .ok (.iadd, 1) := by decide +kernel
theorem dX10_adds_83 : decode cX10_adds 83 = .ok (.putfield 189, 3) := by decide +kernel
theorem dX10_adds_86 : decode cX10_adds 86 = .ok (.return_, 1) := by decide +kernel
theorem dX10_binds_0 : decode cX10_binds 0 = .ok (.aload_n 0, 1) := by decide +kernel
theorem dX10_binds_1 : decode cX10_binds 1 = .ok (.getfield 7, 3) := by decide +kernel
theorem dX10_binds_4 : decode cX10_binds 4 = .ok (.iload_n 2, 1) := by decide +kernel
theorem dX10_binds_5 : decode cX10_binds 5 = .ok (.iaload, 1) := by decide +kernel
theorem dX10_binds_6 : decode cX10_binds 6 = .ok (.iconst 3, 1) := by decide +kernel
theorem dX10_binds_7 : decode cX10_binds 7 = .ok (.if_icmp .eq 5, 3) := by decide +kernel
theorem dX10_binds_10 : decode cX10_binds 10 = .ok (.iconst 0, 1) := by decide +kernel
theorem dX10_binds_11 : decode cX10_binds 11 = .ok (.ireturn, 1) := by decide +kernel
theorem dX10_binds_12 : decode cX10_binds 12 = .ok (.bipush 24, 2) := by decide +kernel
theorem dX10_binds_14 : decode cX10_binds 14 = .ok (.iload_n 1, 1) := by decide +kernel
theorem dX10_binds_15 : decode cX10_binds 15 = .ok (.imul, 1) := by decide +kernel
theorem dX10_binds_16 : decode cX10_binds 16 = .ok (.aload_n 0, 1) := by decide +kernel
theorem dX10_binds_17 : decode cX10_binds 17 = .ok (.getfield 114, 3) := by decide +kernel
theorem dX10_binds_20 : decode cX10_binds 20 = .ok (.iload_n 1, 1) := by decide +kernel
theorem dX10_binds_21 : decode cX10_binds 21 = .ok (.iaload, 1) := by decide +kernel
theorem dX10_binds_22 : decode cX10_binds 22 = .ok (.iadd, 1) := by decide +kernel
theorem dX10_binds_23 : decode cX10_binds 23 = .ok (.istore 4, 2) := by decide +kernel
theorem dX10_binds_25 : decode cX10_binds 25 = .ok (.aload_n 0, 1) := by decide +kernel
theorem dX10_binds_26 : decode cX10_binds 26 = .ok (.getfield 117, 3) := by decide +kernel
theorem dX10_binds_29 : decode cX10_binds 29 = .ok (.iload 4, 2) := by decide +kernel
theorem dX10_binds_31 : decode cX10_binds 31 = .ok (.iload_n 2, 1) := by decide +kernel
theorem dX10_binds_32 : decode cX10_binds 32 = .ok (.iastore, 1) := by decide +kernel
theorem dX10_binds_33 : decode cX10_binds 33 = .ok (.aload_n 0, 1) := by decide +kernel
theorem dX10_binds_34 : decode cX10_binds 34 = .ok (.getfield 120, 3) := by decide +kernel
theorem dX10_binds_37 : decode cX10_binds 37 = .ok (.iload 4, 2) := by decide +kernel
theorem dX10_binds_39 : decode cX10_binds 39 = .ok (.iload_n 3, 1) := by decide +kernel
theorem dX10_binds_40 : decode cX10_binds 40 = .ok (.iastore, 1) := by decide +kernel
theorem dX10_binds_41 : decode cX10_binds 41 = .ok (.aload_n 0, 1) := by decide +kernel
theorem dX10_binds_42 : decode cX10_binds 42 = .ok (.getfield 132, 3) := by decide +kernel
theorem dX10_binds_45 : decode cX10_binds 45 = .ok (.iload 4, 2) := by decide +kernel
theorem dX10_binds_47 : decode cX10_binds 47 = .ok (.aload_n 0, 1) := by decide +kernel
theorem dX10_binds_48 : decode cX10_binds 48 = .ok (.getfield 256, 3) := by decide +kernel
theorem dX10_binds_51 : decode cX10_binds 51 = .ok (.iastore, 1) := by decide +kernel
theorem dX10_binds_52 : decode cX10_binds 52 = .ok (.aload_n 0, 1) := by decide +kernel
theorem dX10_binds_53 : decode cX10_binds 53 = .ok (.aload_n 0, 1) := by decide +kernel
theorem dX10_binds_54 : decode cX10_binds 54 = .ok (.getfield 256, 3) := by decide +kernel
theorem dX10_binds_57 : decode cX10_binds 57 = .ok (.iconst 1, 1) := by decide +kernel
theorem dX10_binds_58 : decode cX10_binds 58 = .ok (.iadd, 1) := by decide +kernel
theorem dX10_binds_59 : decode cX10_binds 59 = .ok (.putfield 256, 3) := by decide +kernel
theorem dX10_binds_62 : decode cX10_binds 62 = .ok (.aload_n 0, 1) := by decide +kernel
theorem dX10_binds_63 : decode cX10_binds 63 = .ok (.getfield 114, 3) := by decide +kernel
theorem dX10_binds_66 : decode cX10_binds 66 = .ok (.iload_n 1, 1) := by decide +kernel
theorem dX10_binds_67 : decode cX10_binds 67 = .ok (.aload_n 0, 1) := by decide +kernel
theorem dX10_binds_68 : decode cX10_binds 68 = .ok (.getfield 114, 3) := by decide +kernel
theorem dX10_binds_71 : decode cX10_binds 71 = .ok (.iload_n 1, 1) := by decide +kernel
theorem dX10_binds_72 : decode cX10_binds 72 = .ok (.iaload, 1) := by decide +kernel
theorem dX10_binds_73 : decode cX10_binds 73 = .ok (.iconst 1, 1) := by decide +kernel
theorem dX10_binds_74 : decode cX10_binds 74 = .ok (.iadd, 1) := by decide +kernel
theorem dX10_binds_75 : decode cX10_binds 75 = .ok (.iastore, 1) := by decide +kernel
theorem dX10_binds_76 : decode cX10_binds 76 = .ok (.iconst 1, 1) := by decide +kernel
theorem dX10_binds_77 : decode cX10_binds 77 = .ok (.ireturn, 1) := by decide +kernel
theorem dX10_frees_0 : decode cX10_frees 0 = .ok (.aload_n 0, 1) := by decide +kernel
theorem dX10_frees_1 : decode cX10_frees 1 = .ok (.getfield 114, 3) := by decide +kernel
theorem dX10_frees_4 : decode cX10_frees 4 = .ok (.iload_n 1, 1) := by decide +kernel
theorem dX10_frees_5 : decode cX10_frees 5 = .ok (.iaload, 1) := by decide +kernel
theorem dX10_frees_6 : decode cX10_frees 6 = .ok (.ifCond .eq 25, 3) := by decide +kernel
theorem dX10_frees_9 : decode cX10_frees 9 = .ok (.aload_n 0, 1) := by decide +kernel
theorem dX10_frees_10 : decode cX10_frees 10 = .ok (.getfield 117, 3) := by decide +kernel
theorem dX10_frees_13 : decode cX10_frees 13 = .ok (.bipush 24, 2) := by decide +kernel
theorem dX10_frees_15 : decode cX10_frees 15 = .ok (.iload_n 1, 1) := by decide +kernel
theorem dX10_frees_16 : decode cX10_frees 16 = .ok (.imul, 1) := by decide +kernel
theorem dX10_frees_17 : decode cX10_frees 17 = .ok (.aload_n 0, 1) := by decide +kernel
theorem dX10_frees_18 : decode cX10_frees 18 = .ok (.getfield 114, 3) := by decide +kernel
theorem dX10_frees_21 : decode cX10_frees 21 = .ok (.iload_n 1, 1) := by decide +kernel
theorem dX10_frees_22 : decode cX10_frees 22 = .ok (.iaload, 1) := by decide +kernel
theorem dX10_frees_23 : decode cX10_frees 23 = .ok (.iadd, 1) := by decide +kernel
theorem dX10_frees_24 : decode cX10_frees 24 = .ok (.iconst 1, 1) := by decide +kernel
theorem dX10_frees_25 : decode cX10_frees 25 = .ok (.isub, 1) := by decide +kernel
theorem dX10_frees_26 : decode cX10_frees 26 = .ok (.iaload, 1) := by decide +kernel
theorem dX10_frees_27 : decode cX10_frees 27 = .ok (.iload_n 2, 1) := by decide +kernel
theorem dX10_frees_28 : decode cX10_frees 28 = .ok (.if_icmp .eq 5, 3) := by decide +kernel
theorem dX10_frees_31 : decode cX10_frees 31 = .ok (.iconst 0, 1) := by decide +kernel
theorem dX10_frees_32 : decode cX10_frees 32 = .ok (.ireturn, 1) := by decide +kernel
theorem dX10_frees_33 : decode cX10_frees 33 = .ok (.aload_n 0, 1) := by decide +kernel
theorem dX10_frees_34 : decode cX10_frees 34 = .ok (.getfield 114, 3) := by decide +kernel
theorem dX10_frees_37 : decode cX10_frees 37 = .ok (.iload_n 1, 1) := by decide +kernel
theorem dX10_frees_38 : decode cX10_frees 38 = .ok (.aload_n 0, 1) := by decide +kernel
theorem dX10_frees_39 : decode cX10_frees 39 = .ok (.getfield 114, 3) := by decide +kernel
theorem dX10_frees_42 : decode cX10_frees 42 = .ok (.iload_n 1, 1) := by decide +kernel
theorem dX10_frees_43 : decode cX10_frees 43 = .ok (.iaload, 1) := by decide +kernel
theorem dX10_frees_44 : decode cX10_frees 44 = .ok (.iconst 1, 1) := by decide +kernel
theorem dX10_frees_45 : decode cX10_frees 45 = .ok (.isub, 1) := by decide +kernel
theorem dX10_frees_46 : decode cX10_frees 46 = .ok (.iastore, 1) := by decide +kernel
theorem dX10_frees_47 : decode cX10_frees 47 = .ok (.iconst 1, 1) := by decide +kernel
theorem dX10_frees_48 : decode cX10_frees 48 = .ok (.ireturn, 1) := by decide +kernel
theorem dX10_free_0 : decode cX10_free 0 = .ok (.iconst 0, 1) := by decide +kernel
theorem dX10_free_1 : decode cX10_free 1 = .ok (.istore_n 1, 1) := by decide +kernel
theorem dX10_free_2 : decode cX10_free 2 = .ok (.iload_n 1, 1) := by decide +kernel
theorem dX10_free_3 : decode cX10_free 3 = .ok (.aload_n 0, 1) := by decide +kernel
theorem dX10_free_4 : decode cX10_free 4 = .ok (.getfield 38, 3) := by decide +kernel
theorem dX10_free_7 : decode cX10_free 7 = .ok (.if_icmp .ge 21, 3) := by decide +kernel
theorem dX10_free_10 : decode cX10_free 10 = .ok (.aload_n 0, 1) := by decide +kernel
theorem dX10_free_11 : decode cX10_free 11 = .ok (.getfield 42, 3) := by decide +kernel
theorem dX10_free_14 : decode cX10_free 14 = .ok (.iload_n 1, 1) := by decide +kernel
theorem dX10_free_15 : decode cX10_free 15 = .ok (.iaload, 1) := by decide +kernel
theorem dX10_free_16 : decode cX10_free 16 = .ok (.iconst (-1), 1) := by decide +kernel
theorem dX10_free_17 : decode cX10_free 17 = .ok (.if_icmp .ne 5, 3) := by decide +kernel
theorem dX10_free_20 : decode cX10_free 20 = .ok (.iload_n 1, 1) := by decide +kernel
theorem dX10_free_21 : decode cX10_free 21 = .ok (.ireturn, 1) := by decide +kernel
theorem dX10_free_22 : decode cX10_free 22 = .ok (.iinc 1 1, 3) := by decide +kernel
theorem dX10_free_25 : decode cX10_free 25 = .ok (.goto (-23), 3) := by decide +kernel
theorem dX10_free_28 : decode cX10_free 28 = .ok (.iconst (-1), 1) := by decide +kernel
theorem dX10_free_29 : decode cX10_free 29 = .ok (.ireturn, 1) := by decide +kernel
theorem dX10_turn_0 : decode cX10_turn 0 = .ok (.aload_n 0, 1) := by decide +kernel
theorem dX10_turn_1 : decode cX10_turn 1 = .ok (.getfield 198, 3) := by decide +kernel
theorem dX10_turn_4 : decode cX10_turn 4 = .ok (.sipush 2000, 3) := by decide +kernel
theorem dX10_turn_7 : decode cX10_turn 7 = .ok (.if_icmp .ge 24, 3) := by decide +kernel
theorem dX10_turn_10 : decode cX10_turn 10 = .ok (.aload_n 0, 1) := by decide +kernel
theorem dX10_turn_11 : decode cX10_turn 11 = .ok (.getfield 169, 3) := by decide +kernel
theorem dX10_turn_14 : decode cX10_turn 14 = .ok (.aload_n 0, 1) := by decide +kernel
theorem dX10_turn_15 : decode cX10_turn 15 = .ok (.getfield 198, 3) := by decide +kernel
theorem dX10_turn_18 : decode cX10_turn 18 = .ok (.sipush 256, 3) := by decide +kernel
theorem dX10_turn_21 : decode cX10_turn 21 = .ok (.iload_n 1, 1) := by decide +kernel
theorem dX10_turn_22 : decode cX10_turn 22 = .ok (.imul, 1) := by decide +kernel
theorem dX10_turn_23 : decode cX10_turn 23 = .ok (.aload_n 0, 1) := by decide +kernel
theorem dX10_turn_24 : decode cX10_turn 24 = .ok (.getfield 60, 3) := by decide +kernel
theorem dX10_turn_27 : decode cX10_turn 27 = .ok (.iload_n 1, 1) := by decide +kernel
theorem dX10_turn_28 : decode cX10_turn 28 = .ok (.iaload, 1) := by decide +kernel
theorem dX10_turn_29 : decode cX10_turn 29 = .ok (.iadd, 1) := by decide +kernel
theorem dX10_turn_30 : decode cX10_turn 30 = .ok (.iastore, 1) := by decide +kernel
theorem dX10_turn_31 : decode cX10_turn 31 = .ok (.aload_n 0, 1) := by decide +kernel
theorem dX10_turn_32 : decode cX10_turn 32 = .ok (.aload_n 0, 1) := by decide +kernel
theorem dX10_turn_33 : decode cX10_turn 33 = .ok (.getfield 198, 3) := by decide +kernel
theorem dX10_turn_36 : decode cX10_turn 36 = .ok (.iconst 1, 1) := by decide +kernel
theorem dX10_turn_37 : decode cX10_turn 37 = .ok (.iadd, 1) := by decide +kernel
theorem dX10_turn_38 : decode cX10_turn 38 = .ok (.putfield 198, 3) := by decide +kernel
theorem dX10_turn_41 : decode cX10_turn 41 = .ok (.aload_n 0, 1) := by decide +kernel
theorem dX10_turn_42 : decode cX10_turn 42 = .ok (.getfield 81, 3) := by decide +kernel
theorem dX10_turn_45 : decode cX10_turn 45 = .ok (.iload_n 1, 1) := by decide +kernel
theorem dX10_turn_46 : decode cX10_turn 46 = .ok (.baload, 1) := by decide +kernel
theorem dX10_turn_47 : decode cX10_turn 47 = .ok (.ifCond .eq 28, 3) := by decide +kernel
theorem dX10_turn_50 : decode cX10_turn 50 = .ok (.aload_n 0, 1) := by decide +kernel
theorem dX10_turn_51 : decode cX10_turn 51 = .ok (.getfield 81, 3) := by decide +kernel
theorem dX10_turn_54 : decode cX10_turn 54 = .ok (.iload_n 1, 1) := by decide +kernel
theorem dX10_turn_55 : decode cX10_turn 55 = .ok (.iconst 0, 1) := by decide +kernel
theorem dX10_turn_56 : decode cX10_turn 56 = .ok (.bastore, 1) := by decide +kernel
theorem dX10_turn_57 : decode cX10_turn 57 = .ok (.aload_n 0, 1) := by decide +kernel
theorem dX10_turn_58 : decode cX10_turn 58 = .ok (.getfield 78, 3) := by decide +kernel
theorem dX10_turn_61 : decode cX10_turn 61 = .ok (.iload_n 1, 1) := by decide +kernel
theorem dX10_turn_62 : decode cX10_turn 62 = .ok (.iconst 0, 1) := by decide +kernel
theorem dX10_turn_63 : decode cX10_turn 63 = .ok (.bastore, 1) := by decide +kernel
theorem dX10_turn_64 : decode cX10_turn 64 = .ok (.aload_n 0, 1) := by decide +kernel
theorem dX10_turn_65 : decode cX10_turn 65 = .ok (.iload_n 1, 1) := by decide +kernel
theorem dX10_turn_66 : decode cX10_turn 66 = .ok (.iconst 4, 1) := by decide +kernel
theorem dX10_turn_67 : decode cX10_turn 67 = .ok (.iconst (-1), 1) := by decide +kernel
theorem dX10_turn_68 : decode cX10_turn 68 = .ok (.iconst 0, 1) := by decide +kernel
theorem dX10_turn_69 : decode cX10_turn 69 = .ok (.invokevirtual 225, 3) := by decide +kernel
theorem dX10_turn_72 : decode cX10_turn 72 = .ok (.goto 32, 3) := by decide +kernel
theorem dX10_turn_75 : decode cX10_turn 75 = .ok (.aload_n 0, 1) := by decide +kernel
theorem dX10_turn_76 : decode cX10_turn 76 = .ok (.getfield 78, 3) := by decide +kernel
theorem dX10_turn_79 : decode cX10_turn 79 = .ok (.iload_n 1, 1) := by decide +kernel
theorem dX10_turn_80 : decode cX10_turn 80 = .ok (.baload, 1) := by decide +kernel
theorem dX10_turn_81 : decode cX10_turn 81 = .ok (.ifCond .eq 18, 3) := by decide +kernel
theorem dX10_turn_84 : decode cX10_turn 84 = .ok (.aload_n 0, 1) := by decide +kernel
theorem dX10_turn_85 : decode cX10_turn 85 = .ok (.getfield 78, 3) := by decide +kernel
theorem dX10_turn_88 : decode cX10_turn 88 = .ok (.iload_n 1, 1) := by decide +kernel
theorem dX10_turn_89 : decode cX10_turn 89 = .ok (.iconst 0, 1) := by decide +kernel
theorem dX10_turn_90 : decode cX10_turn 90 = .ok (.bastore, 1) := by decide +kernel
theorem dX10_turn_91 : decode cX10_turn 91 = .ok (.aload_n 0, 1) := by decide +kernel
theorem dX10_turn_92 : decode cX10_turn 92 = .ok (.iload_n 1, 1) := by decide +kernel
theorem dX10_turn_93 : decode cX10_turn 93 = .ok (.invokevirtual 253, 3) := by decide +kernel
theorem dX10_turn_96 : decode cX10_turn 96 = .ok (.goto 8, 3) := by decide +kernel
theorem dX10_turn_99 : decode cX10_turn 99 = .ok (.aload_n 0, 1) := by decide +kernel
theorem dX10_turn_100 : decode cX10_turn 100 = .ok (.iload_n 1, 1) := by decide +kernel
theorem dX10_turn_101 : decode cX10_turn 101 = .ok (.invokevirtual 259, 3) := by decide +kernel
theorem dX10_turn_104 : decode cX10_turn 104 = .ok (.return_, 1) := by decide +kernel
theorem dX10_oneBeat_0 : decode cX10_oneBeat 0 = .ok (.aload_n 0, 1) := by decide +kernel
theorem dX10_oneBeat_1 : decode cX10_oneBeat 1 = .ok (.aload_n 0, 1) := by decide +kernel
theorem dX10_oneBeat_2 : decode cX10_oneBeat 2 = .ok (.getfield 186, 3) := by decide +kernel
theorem dX10_oneBeat_5 : decode cX10_oneBeat 5 = .ok (.iconst 1, 1) := by decide +kernel
theorem dX10_oneBeat_6 : decode cX10_oneBeat 6 = .ok (.iadd, 1) := by decide +kernel
theorem dX10_oneBeat_7 : decode cX10_oneBeat 7 = .ok (.putfield 186, 3) := by decide +kernel
theorem dX10_oneBeat_10 : decode cX10_oneBeat 10 = .ok (.iconst 0, 1) := by decide +kernel
theorem dX10_oneBeat_11 : decode cX10_oneBeat 11 = .ok (.istore_n 1, 1) := by decide +kernel
theorem dX10_oneBeat_12 : decode cX10_oneBeat 12 = .ok (.iload_n 1, 1) := by decide +kernel
theorem dX10_oneBeat_13 : decode cX10_oneBeat 13 = .ok (.aload_n 0, 1) := by decide +kernel
theorem dX10_oneBeat_14 : decode cX10_oneBeat 14 = .ok (.getfield 176, 3) := by decide +kernel
theorem dX10_oneBeat_17 : decode cX10_oneBeat 17 = .ok (.if_icmp .ge 105, 3) := by decide +kernel
theorem dX10_oneBeat_20 : decode cX10_oneBeat 20 = .ok (.aload_n 0, 1) := by decide +kernel
theorem dX10_oneBeat_21 : decode cX10_oneBeat 21 = .ok (.getfield 45, 3) := by decide +kernel
theorem dX10_oneBeat_24 : decode cX10_oneBeat 24 = .ok (.iload_n 1, 1) := by decide +kernel
theorem dX10_oneBeat_25 : decode cX10_oneBeat 25 = .ok (.iaload, 1) := by decide +kernel
theorem dX10_oneBeat_26 : decode cX10_oneBeat 26 = .ok (.ifCond .ne 10, 3) := by decide +kernel
theorem dX10_oneBeat_29 : decode cX10_oneBeat 29 = .ok (.aload_n 0, 1) := by decide +kernel
theorem dX10_oneBeat_30 : decode cX10_oneBeat 30 = .ok (.invokevirtual 262, 3) := by decide +kernel
theorem dX10_oneBeat_33 : decode cX10_oneBeat 33 = .ok (.goto 4, 3) := by decide +kernel
theorem dX10_oneBeat_36 : decode cX10_oneBeat 36 = .ok (.iconst (-1), 1) := by decide +kernel
theorem dX10_oneBeat_37 : decode cX10_oneBeat 37 = .ok (.istore_n 2, 1) := by decide +kernel
theorem dX10_oneBeat_38 : decode cX10_oneBeat 38 = .ok (.iload_n 2, 1) := by decide +kernel
theorem dX10_oneBeat_39 : decode cX10_oneBeat 39 = .ok (.iconst (-1), 1) := by decide +kernel
theorem dX10_oneBeat_40 : decode cX10_oneBeat 40 = .ok (.if_icmp .ne 6, 3) := by decide +kernel
theorem dX10_oneBeat_43 : decode cX10_oneBeat 43 = .ok (.goto 73, 3) := by decide +kernel
theorem dX10_oneBeat_46 : decode cX10_oneBeat 46 = .ok (.aload_n 0, 1) := by decide +kernel
theorem dX10_oneBeat_47 : decode cX10_oneBeat 47 = .ok (.getfield 45, 3) := by decide +kernel
theorem dX10_oneBeat_50 : decode cX10_oneBeat 50 = .ok (.iload_n 1, 1) := by decide +kernel
theorem dX10_oneBeat_51 : decode cX10_oneBeat 51 = .ok (.iconst 1, 1) := by decide +kernel
theorem dX10_oneBeat_52 : decode cX10_oneBeat 52 = .ok (.iastore, 1) := by decide +kernel
theorem dX10_oneBeat_53 : decode cX10_oneBeat 53 = .ok (.aload_n 0, 1) := by decide +kernel
theorem dX10_oneBeat_54 : decode cX10_oneBeat 54 = .ok (.getfield 60, 3) := by decide +kernel
theorem dX10_oneBeat_57 : decode cX10_oneBeat 57 = .ok (.iload_n 1, 1) := by decide +kernel
theorem dX10_oneBeat_58 : decode cX10_oneBeat 58 = .ok (.iload_n 2, 1) := by decide +kernel
theorem dX10_oneBeat_59 : decode cX10_oneBeat 59 = .ok (.iastore, 1) := by decide +kernel
theorem dX10_oneBeat_60 : decode cX10_oneBeat 60 = .ok (.aload_n 0, 1) := by decide +kernel
theorem dX10_oneBeat_61 : decode cX10_oneBeat 61 = .ok (.getfield 42, 3) := by decide +kernel
theorem dX10_oneBeat_64 : decode cX10_oneBeat 64 = .ok (.iload_n 2, 1) := by decide +kernel
theorem dX10_oneBeat_65 : decode cX10_oneBeat 65 = .ok (.iload_n 1, 1) := by decide +kernel
theorem dX10_oneBeat_66 : decode cX10_oneBeat 66 = .ok (.iastore, 1) := by decide +kernel
theorem dX10_oneBeat_67 : decode cX10_oneBeat 67 = .ok (.aload_n 0, 1) := by decide +kernel
theorem dX10_oneBeat_68 : decode cX10_oneBeat 68 = .ok (.getfield 75, 3) := by decide +kernel
theorem dX10_oneBeat_71 : decode cX10_oneBeat 71 = .ok (.iload_n 1, 1) := by decide +kernel
theorem dX10_oneBeat_72 : decode cX10_oneBeat 72 = .ok (.aload_n 0, 1) := by decide +kernel
theorem dX10_oneBeat_73 : decode cX10_oneBeat 73 = .ok (.getfield 75, 3) := by decide +kernel
theorem dX10_oneBeat_76 : decode cX10_oneBeat 76 = .ok (.iload_n 1, 1) := by decide +kernel
theorem dX10_oneBeat_77 : decode cX10_oneBeat 77 = .ok (.iaload, 1) := by decide +kernel
theorem dX10_oneBeat_78 : decode cX10_oneBeat 78 = .ok (.iconst 1, 1) := by decide +kernel
theorem dX10_oneBeat_79 : decode cX10_oneBeat 79 = .ok (.iadd, 1) := by decide +kernel
theorem dX10_oneBeat_80 : decode cX10_oneBeat 80 = .ok (.iastore, 1) := by decide +kernel
theorem dX10_oneBeat_81 : decode cX10_oneBeat 81 = .ok (.iconst 0, 1) := by decide +kernel
theorem dX10_oneBeat_82 : decode cX10_oneBeat 82 = .ok (.istore_n 3, 1) := by decide +kernel
theorem dX10_oneBeat_83 : decode cX10_oneBeat 83 = .ok (.iload_n 3, 1) := by decide +kernel
theorem dX10_oneBeat_84 : decode cX10_oneBeat 84 = .ok (.bipush 8, 2) := by decide +kernel
theorem dX10_oneBeat_86 : decode cX10_oneBeat 86 = .ok (.if_icmp .ge 30, 3) := by decide +kernel
theorem dX10_oneBeat_89 : decode cX10_oneBeat 89 = .ok (.aload_n 0, 1) := by decide +kernel
theorem dX10_oneBeat_90 : decode cX10_oneBeat 90 = .ok (.getfield 7, 3) := by decide +kernel
theorem dX10_oneBeat_93 : decode cX10_oneBeat 93 = .ok (.iload_n 3, 1) := by decide +kernel
theorem dX10_oneBeat_94 : decode cX10_oneBeat 94 = .ok (.iaload, 1) := by decide +kernel
theorem dX10_oneBeat_95 : decode cX10_oneBeat 95 = .ok (.ifCond .ne 15, 3) := by decide +kernel
theorem dX10_oneBeat_98 : decode cX10_oneBeat 98 = .ok (.aload_n 0, 1) := by decide +kernel
theorem dX10_oneBeat_99 : decode cX10_oneBeat 99 = .ok (.getfield 111, 3) := by decide +kernel
theorem dX10_oneBeat_102 : decode cX10_oneBeat 102 = .ok (.bipush 8, 2) := by decide +kernel
theorem dX10_oneBeat_104 : decode cX10_oneBeat 104 = .ok (.iload_n 1, 1) := by decide +kernel
theorem dX10_oneBeat_105 : decode cX10_oneBeat 105 = .ok (.imul, 1) := by decide +kernel
theorem dX10_oneBeat_106 : decode cX10_oneBeat 106 = .ok (.iload_n 3, 1) := by decide +kernel
theorem dX10_oneBeat_107 : decode cX10_oneBeat 107 = .ok (.iadd, 1) := by decide +kernel
theorem dX10_oneBeat_108 : decode cX10_oneBeat 108 = .ok (.iconst 0, 1) := by decide +kernel
theorem dX10_oneBeat_109 : decode cX10_oneBeat 109 = .ok (.bastore, 1) := by decide +kernel
theorem dX10_oneBeat_110 : decode cX10_oneBeat 110 = .ok (.iinc 3 1, 3) := by decide +kernel
theorem dX10_oneBeat_113 : decode cX10_oneBeat 113 = .ok (.goto (-30), 3) := by decide +kernel
theorem dX10_oneBeat_116 : decode cX10_oneBeat 116 = .ok (.iinc 1 1, 3) := by decide +kernel
theorem dX10_oneBeat_119 : decode cX10_oneBeat 119 = .ok (.goto (-107), 3) := by decide +kernel
theorem dX10_oneBeat_122 : decode cX10_oneBeat 122 = .ok (.aload_n 0, 1) := by decide +kernel
theorem dX10_oneBeat_123 : decode cX10_oneBeat 123 = .ok (.getfield 176, 3) := by decide +kernel
theorem dX10_oneBeat_126 : decode cX10_oneBeat 126 = .ok (.istore_n 1, 1) := by decide +kernel
theorem dX10_oneBeat_127 : decode cX10_oneBeat 127 = .ok (.iconst 0, 1) := by decide +kernel
theorem dX10_oneBeat_128 : decode cX10_oneBeat 128 = .ok (.istore_n 2, 1) := by decide +kernel
theorem dX10_oneBeat_129 : decode cX10_oneBeat 129 = .ok (.iload_n 2, 1) := by decide +kernel
theorem dX10_oneBeat_130 : decode cX10_oneBeat 130 = .ok (.iload_n 1, 1) := by decide +kernel
theorem dX10_oneBeat_131 : decode cX10_oneBeat 131 = .ok (.if_icmp .ge 24, 3) := by decide +kernel
theorem dX10_oneBeat_134 : decode cX10_oneBeat 134 = .ok (.aload_n 0, 1) := by decide +kernel
theorem dX10_oneBeat_135 : decode cX10_oneBeat 135 = .ok (.getfield 45, 3) := by decide +kernel
theorem dX10_oneBeat_138 : decode cX10_oneBeat 138 = .ok (.iload_n 2, 1) := by decide +kernel
theorem dX10_oneBeat_139 : decode cX10_oneBeat 139 = .ok (.iaload, 1) := by decide +kernel
theorem dX10_oneBeat_140 : decode cX10_oneBeat 140 = .ok (.iconst 1, 1) := by decide +kernel
theorem dX10_oneBeat_141 : decode cX10_oneBeat 141 = .ok (.if_icmp .ne 8, 3) := by decide +kernel
theorem dX10_oneBeat_144 : decode cX10_oneBeat 144 = .ok (.aload_n 0, 1) := by decide +kernel
theorem dX10_oneBeat_145 : decode cX10_oneBeat 145 = .ok (.iload_n 2, 1) := by decide +kernel
theorem dX10_oneBeat_146 : decode cX10_oneBeat 146 = .ok (.invokevirtual 266, 3) := by decide +kernel
theorem dX10_oneBeat_149 : decode cX10_oneBeat 149 = .ok (.iinc 2 1, 3) := by decide +kernel
theorem dX10_oneBeat_152 : decode cX10_oneBeat 152 = .ok (.goto (-23), 3) := by decide +kernel
theorem dX10_oneBeat_155 : decode cX10_oneBeat 155 = .ok (.iconst 0, 1) := by decide +kernel
theorem dX10_oneBeat_156 : decode cX10_oneBeat 156 = .ok (.istore_n 2, 1) := by decide +kernel
theorem dX10_oneBeat_157 : decode cX10_oneBeat 157 = .ok (.iload_n 2, 1) := by decide +kernel
theorem dX10_oneBeat_158 : decode cX10_oneBeat 158 = .ok (.aload_n 0, 1) := by decide +kernel
theorem dX10_oneBeat_159 : decode cX10_oneBeat 159 = .ok (.getfield 176, 3) := by decide +kernel
theorem dX10_oneBeat_162 : decode cX10_oneBeat 162 = .ok (.if_icmp .ge 34, 3) := by decide +kernel
theorem dX10_oneBeat_165 : decode cX10_oneBeat 165 = .ok (.aload_n 0, 1) := by decide +kernel
theorem dX10_oneBeat_166 : decode cX10_oneBeat 166 = .ok (.getfield 45, 3) := by decide +kernel
theorem dX10_oneBeat_169 : decode cX10_oneBeat 169 = .ok (.iload_n 2, 1) := by decide +kernel
theorem dX10_oneBeat_170 : decode cX10_oneBeat 170 = .ok (.iaload, 1) := by decide +kernel
theorem dX10_oneBeat_171 : decode cX10_oneBeat 171 = .ok (.iconst 2, 1) := by decide +kernel
theorem dX10_oneBeat_172 : decode cX10_oneBeat 172 = .ok (.if_icmp .ne 18, 3) := by decide +kernel
theorem dX10_oneBeat_175 : decode cX10_oneBeat 175 = .ok (.aload_n 0, 1) := by decide +kernel
theorem dX10_oneBeat_176 : decode cX10_oneBeat 176 = .ok (.iload_n 2, 1) := by decide +kernel
theorem dX10_oneBeat_177 : decode cX10_oneBeat 177 = .ok (.invokevirtual 250, 3) := by decide +kernel
theorem dX10_oneBeat_180 : decode cX10_oneBeat 180 = .ok (.ifCond .eq 10, 3) := by decide +kernel
theorem dX10_oneBeat_183 : decode cX10_oneBeat 183 = .ok (.aload_n 0, 1) := by decide +kernel
theorem dX10_oneBeat_184 : decode cX10_oneBeat 184 = .ok (.getfield 45, 3) := by decide +kernel
theorem dX10_oneBeat_187 : decode cX10_oneBeat 187 = .ok (.iload_n 2, 1) := by decide +kernel
theorem dX10_oneBeat_188 : decode cX10_oneBeat 188 = .ok (.iconst 0, 1) := by decide +kernel
theorem dX10_oneBeat_189 : decode cX10_oneBeat 189 = .ok (.iastore, 1) := by decide +kernel
theorem dX10_oneBeat_190 : decode cX10_oneBeat 190 = .ok (.iinc 2 1, 3) := by decide +kernel
theorem dX10_oneBeat_193 : decode cX10_oneBeat 193 = .ok (.goto (-36), 3) := by decide +kernel
theorem dX10_oneBeat_196 : decode cX10_oneBeat 196 = .ok (.return_, 1) := by decide +kernel
theorem dX10_isLeft_0 : decode cX10_isLeft 0 = .ok (.iconst 0, 1) := by decide +kernel
theorem dX10_isLeft_1 : decode cX10_isLeft 1 = .ok (.istore_n 1, 1) := by decide +kernel
theorem dX10_isLeft_2 : decode cX10_isLeft 2 = .ok (.iconst 0, 1) := by decide +kernel
theorem dX10_isLeft_3 : decode cX10_isLeft 3 = .ok (.istore_n 2, 1) := by decide +kernel
theorem dX10_isLeft_4 : decode cX10_isLeft 4 = .ok (.iload_n 2, 1) := by decide +kernel
theorem dX10_isLeft_5 : decode cX10_isLeft 5 = .ok (.aload_n 0, 1) := by decide +kernel
theorem dX10_isLeft_6 : decode cX10_isLeft 6 = .ok (.getfield 176, 3) := by decide +kernel
theorem dX10_isLeft_9 : decode cX10_isLeft 9 = .ok (.if_icmp .ge 27, 3) := by decide +kernel
theorem dX10_isLeft_12 : decode cX10_isLeft 12 = .ok (.iload_n 1, 1) := by decide +kernel
theorem dX10_isLeft_13 : decode cX10_isLeft 13 = .ok (.ifCond .ne 11, 3) := by decide +kernel
theorem dX10_isLeft_16 : decode cX10_isLeft 16 = .ok (.aload_n 0, 1) := by decide +kernel
theorem dX10_isLeft_17 : decode cX10_isLeft 17 = .ok (.iload_n 2, 1) := by decide +kernel
theorem dX10_isLeft_18 : decode cX10_isLeft 18 = .ok (.invokevirtual 215, 3) := by decide +kernel
theorem dX10_isLeft_21 : decode cX10_isLeft 21 = .ok (.ifCond .ne 7, 3) := by decide +kernel
theorem dX10_isLeft_24 : decode cX10_isLeft 24 = .ok (.iconst 1, 1) := by decide +kernel
theorem dX10_isLeft_25 : decode cX10_isLeft 25 = .ok (.goto 4, 3) := by decide +kernel
theorem dX10_isLeft_28 : decode cX10_isLeft 28 = .ok (.iconst 0, 1) := by decide +kernel
theorem dX10_isLeft_29 : decode cX10_isLeft 29 = .ok (.istore_n 1, 1) := by decide +kernel
theorem dX10_isLeft_30 : decode cX10_isLeft 30 = .ok (.iinc 2 1, 3) := by decide +kernel
theorem dX10_isLeft_33 : decode cX10_isLeft 33 = .ok (.goto (-29), 3) := by decide +kernel
theorem dX10_isLeft_36 : decode cX10_isLeft 36 = .ok (.iload_n 1, 1) := by decide +kernel
theorem dX10_isLeft_37 : decode cX10_isLeft 37 = .ok (.ireturn, 1) := by decide +kernel
theorem dX10_beat_0 : decode cX10_beat 0 = .ok (.iload_n 1, 1) := by decide +kernel
theorem dX10_beat_1 : decode cX10_beat 1 = .ok (.iconst 1, 1) := by decide +kernel
theorem dX10_beat_2 : decode cX10_beat 2 = .ok (.if_icmp .lt 9, 3) := by decide +kernel
theorem dX10_beat_5 : decode cX10_beat 5 = .ok (.iload_n 1, 1) := by decide +kernel
theorem dX10_beat_6 : decode cX10_beat 6 = .ok (.bipush 100, 2) := by decide +kernel
theorem dX10_beat_8 : decode cX10_beat 8 = .ok (.if_icmp .le 5, 3) := by decide +kernel
theorem dX10_beat_11 : decode cX10_beat 11 = .ok (.iconst (-1), 1) := by decide +kernel
theorem dX10_beat_12 : decode cX10_beat 12 = .ok (.ireturn, 1) := by decide +kernel
theorem dX10_beat_13 : decode cX10_beat 13 = .ok (.iconst 0, 1) := by decide +kernel
theorem dX10_beat_14 : decode cX10_beat 14 = .ok (.istore_n 2, 1) := by decide +kernel
theorem dX10_beat_15 : decode cX10_beat 15 = .ok (.iload_n 2, 1) := by decide +kernel
theorem dX10_beat_16 : decode cX10_beat 16 = .ok (.iload_n 1, 1) := by decide +kernel
theorem dX10_beat_17 : decode cX10_beat 17 = .ok (.if_icmp .ge 21, 3) := by decide +kernel
theorem dX10_beat_20 : decode cX10_beat 20 = .ok (.aload_n 0, 1) := by decide +kernel
theorem dX10_beat_21 : decode cX10_beat 21 = .ok (.invokevirtual 269, 3) := by decide +kernel
theorem dX10_beat_24 : decode cX10_beat 24 = .ok (.ifCond .eq 14, 3) := by decide +kernel
theorem dX10_beat_27 : decode cX10_beat 27 = .ok (.aload_n 0, 1) := by decide +kernel
theorem dX10_beat_28 : decode cX10_beat 28 = .ok (.invokevirtual 273, 3) := by decide +kernel
theorem dX10_beat_31 : decode cX10_beat 31 = .ok (.iload_n 2, 1) := by decide +kernel
theorem dX10_beat_32 : decode cX10_beat 32 = .ok (.iconst 1, 1) := by decide +kernel
theorem dX10_beat_33 : decode cX10_beat 33 = .ok (.iadd, 1) := by decide +kernel
theorem dX10_beat_34 : decode cX10_beat 34 = .ok (.istore_n 2, 1) := by decide +kernel
theorem dX10_beat_35 : decode cX10_beat 35 = .ok (.goto (-20), 3) := by decide +kernel
theorem dX10_beat_38 : decode cX10_beat 38 = .ok (.iload_n 2, 1) := by decide +kernel
theorem dX10_beat_39 : decode cX10_beat 39 = .ok (.ireturn, 1) := by decide +kernel
theorem dX10_interrupt_0 : decode cX10_interrupt 0 = .ok (.aload_n 0, 1) := by decide +kernel
theorem dX10_interrupt_1 : decode cX10_interrupt 1 = .ok (.iload_n 1, 1) := by decide +kernel
theorem dX10_interrupt_2 : decode cX10_interrupt 2 = .ok (.invokevirtual 276, 3) := by decide +kernel
theorem dX10_interrupt_5 : decode cX10_interrupt 5 = .ok (.ifCond .eq 20, 3) := by decide +kernel
theorem dX10_interrupt_8 : decode cX10_interrupt 8 = .ok (.aload_n 0, 1) := by decide +kernel
theorem dX10_interrupt_9 : decode cX10_interrupt 9 = .ok (.iload_n 1, 1) := by decide +kernel
theorem dX10_interrupt_10 : decode cX10_interrupt 10 = .ok (.invokevirtual 215, 3) := by decide +kernel
theorem dX10_interrupt_13 : decode cX10_interrupt 13 = .ok (.ifCond .ne 12, 3) := by decide +kernel
theorem dX10_interrupt_16 : decode cX10_interrupt 16 = .ok (.aload_n 0, 1) := by decide +kernel
theorem dX10_interrupt_17 : decode cX10_interrupt 17 = .ok (.getfield 81, 3) := by decide +kernel
theorem dX10_interrupt_20 : decode cX10_interrupt 20 = .ok (.iload_n 1, 1) := by decide +kernel
theorem dX10_interrupt_21 : decode cX10_interrupt 21 = .ok (.baload, 1) := by decide +kernel
theorem dX10_interrupt_22 : decode cX10_interrupt 22 = .ok (.ifCond .eq 5, 3) := by decide +kernel
theorem dX10_interrupt_25 : decode cX10_interrupt 25 = .ok (.iconst 0, 1) := by decide +kernel
theorem dX10_interrupt_26 : decode cX10_interrupt 26 = .ok (.ireturn, 1) := by decide +kernel
theorem dX10_interrupt_27 : decode cX10_interrupt 27 = .ok (.aload_n 0, 1) := by decide +kernel
theorem dX10_interrupt_28 : decode cX10_interrupt 28 = .ok (.getfield 81, 3) := by decide +kernel
theorem dX10_interrupt_31 : decode cX10_interrupt 31 = .ok (.iload_n 1, 1) := by decide +kernel
theorem dX10_interrupt_32 : decode cX10_interrupt 32 = .ok (.iconst 1, 1) := by decide +kernel
theorem dX10_interrupt_33 : decode cX10_interrupt 33 = .ok (.bastore, 1) := by decide +kernel
theorem dX10_interrupt_34 : decode cX10_interrupt 34 = .ok (.aload_n 0, 1) := by decide +kernel
theorem dX10_interrupt_35 : decode cX10_interrupt 35 = .ok (.getfield 45, 3) := by decide +kernel
theorem dX10_interrupt_38 : decode cX10_interrupt 38 = .ok (.iload_n 1, 1) := by decide +kernel
theorem dX10_interrupt_39 : decode cX10_interrupt 39 = .ok (.iaload, 1) := by decide +kernel
theorem dX10_interrupt_40 : decode cX10_interrupt 40 = .ok (.iconst 2, 1) := by decide +kernel
theorem dX10_interrupt_41 : decode cX10_interrupt 41 = .ok (.if_icmp .ne 10, 3) := by decide +kernel
theorem dX10_interrupt_44 : decode cX10_interrupt 44 = .ok (.aload_n 0, 1) := by decide +kernel
theorem dX10_interrupt_45 : decode cX10_interrupt 45 = .ok (.getfield 45, 3) := by decide +kernel
theorem dX10_interrupt_48 : decode cX10_interrupt 48 = .ok (.iload_n 1, 1) := by decide +kernel
theorem dX10_interrupt_49 : decode cX10_interrupt 49 = .ok (.iconst 0, 1) := by decide +kernel
theorem dX10_interrupt_50 : decode cX10_interrupt 50 = .ok (.iastore, 1) := by decide +kernel
theorem dX10_interrupt_51 : decode cX10_interrupt 51 = .ok (.aload_n 0, 1) := by decide +kernel
theorem dX10_interrupt_52 : decode cX10_interrupt 52 = .ok (.getfield 78, 3) := by decide +kernel
theorem dX10_interrupt_55 : decode cX10_interrupt 55 = .ok (.iload_n 1, 1) := by decide +kernel
theorem dX10_interrupt_56 : decode cX10_interrupt 56 = .ok (.baload, 1) := by decide +kernel
theorem dX10_interrupt_57 : decode cX10_interrupt 57 = .ok (.ifCond .eq 57, 3) := by decide +kernel
theorem dX10_interrupt_60 : decode cX10_interrupt 60 = .ok (.iload_n 1, 1) := by decide +kernel
theorem dX10_interrupt_61 : decode cX10_interrupt 61 = .ok (.iconst 1, 1) := by decide +kernel
theorem dX10_interrupt_62 : decode cX10_interrupt 62 = .ok (.iadd, 1) := by decide +kernel
theorem dX10_interrupt_63 : decode cX10_interrupt 63 = .ok (.istore_n 2, 1) := by decide +kernel
theorem dX10_interrupt_64 : decode cX10_interrupt 64 = .ok (.iload_n 2, 1) := by decide +kernel
theorem dX10_interrupt_65 : decode cX10_interrupt 65 = .ok (.aload_n 0, 1) := by decide +kernel
theorem dX10_interrupt_66 : decode cX10_interrupt 66 = .ok (.getfield 176, 3) := by decide +kernel
theorem dX10_interrupt_69 : decode cX10_interrupt 69 = .ok (.if_icmp .ge 45, 3) := by decide +kernel
theorem dX10_interrupt_72 : decode cX10_interrupt 72 = .ok (.aload_n 0, 1) := by decide +kernel
theorem dX10_interrupt_73 : decode cX10_interrupt 73 = .ok (.getfield 51, 3) := by decide +kernel
theorem dX10_interrupt_76 : decode cX10_interrupt 76 = .ok (.iload_n 2, 1) := by decide +kernel
theorem dX10_interrupt_77 : decode cX10_interrupt 77 = .ok (.iaload, 1) := by decide +kernel
theorem dX10_interrupt_78 : decode cX10_interrupt 78 = .ok (.iload_n 1, 1) := by decide +kernel
theorem dX10_interrupt_79 : decode cX10_interrupt 79 = .ok (.if_icmp .ne 29, 3) := by decide +kernel
theorem dX10_interrupt_82 : decode cX10_interrupt 82 = .ok (.aload_n 0, 1) := by decide +kernel
theorem dX10_interrupt_83 : decode cX10_interrupt 83 = .ok (.getfield 87, 3) := by decide +kernel
theorem dX10_interrupt_86 : decode cX10_interrupt 86 = .ok (.iload_n 2, 1) := by decide +kernel
theorem dX10_interrupt_87 : decode cX10_interrupt 87 = .ok (.baload, 1) := by decide +kernel
theorem dX10_interrupt_88 : decode cX10_interrupt 88 = .ok (.ifCond .ne 6, 3) := by decide +kernel
theorem dX10_interrupt_91 : decode cX10_interrupt 91 = .ok (.goto 17, 3) := by decide +kernel
theorem dX10_interrupt_94 : decode cX10_interrupt 94 = .ok (.aload_n 0, 1) := by decide +kernel
theorem dX10_interrupt_95 : decode cX10_interrupt 95 = .ok (.getfield 87, 3) := by decide +kernel
theorem dX10_interrupt_98 : decode cX10_interrupt 98 = .ok (.iload_n 2, 1) := by decide +kernel
theorem dX10_interrupt_99 : decode cX10_interrupt 99 = .ok (.iconst 0, 1) := by decide +kernel
theorem dX10_interrupt_100 : decode cX10_interrupt 100 = .ok (.bastore, 1) := by decide +kernel
theorem dX10_interrupt_101 : decode cX10_interrupt 101 = .ok (.aload_n 0, 1) := by decide +kernel
theorem dX10_interrupt_102 : decode cX10_interrupt 102 = .ok (.getfield 84, 3) := by decide +kernel
theorem dX10_interrupt_105 : decode cX10_interrupt 105 = .ok (.iload_n 2, 1) := by decide +kernel
theorem dX10_interrupt_106 : decode cX10_interrupt 106 = .ok (.iconst 1, 1) := by decide +kernel
theorem dX10_interrupt_107 : decode cX10_interrupt 107 = .ok (.bastore, 1) := by decide +kernel
theorem dX10_interrupt_108 : decode cX10_interrupt 108 = .ok (.iinc 2 1, 3) := by decide +kernel
theorem dX10_interrupt_111 : decode cX10_interrupt 111 = .ok (.goto (-47), 3) := by decide +kernel
theorem dX10_interrupt_114 : decode cX10_interrupt 114 = .ok (.iconst 1, 1) := by decide +kernel
theorem dX10_interrupt_115 : decode cX10_interrupt 115 = .ok (.ireturn, 1) := by decide +kernel
theorem dX10_children_0 : decode cX10_children 0 = .ok (.iconst 0, 1) := by decide +kernel
theorem dX10_children_1 : decode cX10_children 1 = .ok (.istore_n 2, 1) := by decide +kernel
theorem dX10_children_2 : decode cX10_children 2 = .ok (.iload_n 1, 1) := by decide +kernel
theorem dX10_children_3 : decode cX10_children 3 = .ok (.iconst 1, 1) := by decide +kernel
theorem dX10_children_4 : decode cX10_children 4 = .ok (.iadd, 1) := by decide +kernel
theorem dX10_children_5 : decode cX10_children 5 = .ok (.istore_n 3, 1) := by decide +kernel
theorem dX10_children_6 : decode cX10_children 6 = .ok (.iload_n 3, 1) := by decide +kernel
theorem dX10_children_7 : decode cX10_children 7 = .ok (.aload_n 0, 1) := by decide +kernel
theorem dX10_children_8 : decode cX10_children 8 = .ok (.getfield 176, 3) := by decide +kernel
theorem dX10_children_11 : decode cX10_children 11 = .ok (.if_icmp .ge 27, 3) := by decide +kernel
theorem dX10_children_14 : decode cX10_children 14 = .ok (.iload_n 2, 1) := by decide +kernel
theorem dX10_children_15 : decode cX10_children 15 = .ok (.aload_n 0, 1) := by decide +kernel
theorem dX10_children_16 : decode cX10_children 16 = .ok (.getfield 51, 3) := by decide +kernel
theorem dX10_children_19 : decode cX10_children 19 = .ok (.iload_n 3, 1) := by decide +kernel
theorem dX10_children_20 : decode cX10_children 20 = .ok (.iaload, 1) := by decide +kernel
theorem dX10_children_21 : decode cX10_children 21 = .ok (.iload_n 1, 1) := by decide +kernel
theorem dX10_children_22 : decode cX10_children 22 = .ok (.if_icmp .ne 7, 3) := by decide +kernel
theorem dX10_children_25 : decode cX10_children 25 = .ok (.iconst 1, 1) := by decide +kernel
theorem dX10_children_26 : decode cX10_children 26 = .ok (.goto 4, 3) := by decide +kernel
theorem dX10_children_29 : decode cX10_children 29 = .ok (.iconst 0, 1) := by decide +kernel
theorem dX10_children_30 : decode cX10_children 30 = .ok (.iadd, 1) := by decide +kernel
theorem dX10_children_31 : decode cX10_children 31 = .ok (.istore_n 2, 1) := by decide +kernel
theorem dX10_children_32 : decode cX10_children 32 = .ok (.iinc 3 1, 3) := by decide +kernel
theorem dX10_children_35 : decode cX10_children 35 = .ok (.goto (-29), 3) := by decide +kernel
theorem dX10_children_38 : decode cX10_children 38 = .ok (.iload_n 2, 1) := by decide +kernel
theorem dX10_children_39 : decode cX10_children 39 = .ok (.ireturn, 1) := by decide +kernel
theorem dX10_run_0 : decode cX10_run 0 = .ok (.aload_n 0, 1) := by decide +kernel
theorem dX10_run_1 : decode cX10_run 1 = .ok (.iload_n 1, 1) := by decide +kernel
theorem dX10_run_2 : decode cX10_run 2 = .ok (.invokevirtual 276, 3) := by decide +kernel
theorem dX10_run_5 : decode cX10_run 5 = .ok (.ifCond .ne 5, 3) := by decide +kernel
theorem dX10_run_8 : decode cX10_run 8 = .ok (.iconst (-1), 1) := by decide +kernel
theorem dX10_run_9 : decode cX10_run 9 = .ok (.ireturn, 1) := by decide +kernel
theorem dX10_run_10 : decode cX10_run 10 = .ok (.iload_n 2, 1) := by decide +kernel
theorem dX10_run_11 : decode cX10_run 11 = .ok (.tableswitch 155 0 12 #[65, 72, 79, 86, 93, 100, 107, 114, 121, 128, 135, 142, 148], 65) := by decide +kernel
theorem dX10_run_76 : decode cX10_run 76 = .ok (.aload_n 0, 1) := by decide +kernel
theorem dX10_run_77 : decode cX10_run 77 = .ok (.getfield 45, 3) := by decide +kernel
theorem dX10_run_80 : decode cX10_run 80 = .ok (.iload_n 1, 1) := by decide +kernel
theorem dX10_run_81 : decode cX10_run 81 = .ok (.iaload, 1) := by decide +kernel
theorem dX10_run_82 : decode cX10_run 82 = .ok (.ireturn, 1) := by decide +kernel
theorem dX10_run_83 : decode cX10_run 83 = .ok (.aload_n 0, 1) := by decide +kernel
theorem dX10_run_84 : decode cX10_run 84 = .ok (.getfield 48, 3) := by decide +kernel
theorem dX10_run_87 : decode cX10_run 87 = .ok (.iload_n 1, 1) := by decide +kernel
theorem dX10_run_88 : decode cX10_run 88 = .ok (.iaload, 1) := by decide +kernel
theorem dX10_run_89 : decode cX10_run 89 = .ok (.ireturn, 1) := by decide +kernel
theorem dX10_run_90 : decode cX10_run 90 = .ok (.aload_n 0, 1) := by decide +kernel
theorem dX10_run_91 : decode cX10_run 91 = .ok (.getfield 51, 3) := by decide +kernel
theorem dX10_run_94 : decode cX10_run 94 = .ok (.iload_n 1, 1) := by decide +kernel
theorem dX10_run_95 : decode cX10_run 95 = .ok (.iaload, 1) := by decide +kernel
theorem dX10_run_96 : decode cX10_run 96 = .ok (.ireturn, 1) := by decide +kernel
theorem dX10_run_97 : decode cX10_run 97 = .ok (.aload_n 0, 1) := by decide +kernel
theorem dX10_run_98 : decode cX10_run 98 = .ok (.getfield 54, 3) := by decide +kernel
theorem dX10_run_101 : decode cX10_run 101 = .ok (.iload_n 1, 1) := by decide +kernel
theorem dX10_run_102 : decode cX10_run 102 = .ok (.iaload, 1) := by decide +kernel
theorem dX10_run_103 : decode cX10_run 103 = .ok (.ireturn, 1) := by decide +kernel
theorem dX10_run_104 : decode cX10_run 104 = .ok (.aload_n 0, 1) := by decide +kernel
theorem dX10_run_105 : decode cX10_run 105 = .ok (.getfield 57, 3) := by decide +kernel
theorem dX10_run_108 : decode cX10_run 108 = .ok (.iload_n 1, 1) := by decide +kernel
theorem dX10_run_109 : decode cX10_run 109 = .ok (.iaload, 1) := by decide +kernel
theorem dX10_run_110 : decode cX10_run 110 = .ok (.ireturn, 1) := by decide +kernel
theorem dX10_run_111 : decode cX10_run 111 = .ok (.aload_n 0, 1) := by decide +kernel
theorem dX10_run_112 : decode cX10_run 112 = .ok (.getfield 60, 3) := by decide +kernel
theorem dX10_run_115 : decode cX10_run 115 = .ok (.iload_n 1, 1) := by decide +kernel
theorem dX10_run_116 : decode cX10_run 116 = .ok (.iaload, 1) := by decide +kernel
theorem dX10_run_117 : decode cX10_run 117 = .ok (.ireturn, 1) := by decide +kernel
theorem dX10_run_118 : decode cX10_run 118 = .ok (.aload_n 0, 1) := by decide +kernel
theorem dX10_run_119 : decode cX10_run 119 = .ok (.getfield 63, 3) := by decide +kernel
theorem dX10_run_122 : decode cX10_run 122 = .ok (.iload_n 1, 1) := by decide +kernel
theorem dX10_run_123 : decode cX10_run 123 = .ok (.iaload, 1) := by decide +kernel
theorem dX10_run_124 : decode cX10_run 124 = .ok (.ireturn, 1) := by decide +kernel
theorem dX10_run_125 : decode cX10_run 125 = .ok (.aload_n 0, 1) := by decide +kernel
theorem dX10_run_126 : decode cX10_run 126 = .ok (.getfield 66, 3) := by decide +kernel
theorem dX10_run_129 : decode cX10_run 129 = .ok (.iload_n 1, 1) := by decide +kernel
theorem dX10_run_130 : decode cX10_run 130 = .ok (.iaload, 1) := by decide +kernel
theorem dX10_run_131 : decode cX10_run 131 = .ok (.ireturn, 1) := by decide +kernel
theorem dX10_run_132 : decode cX10_run 132 = .ok (.aload_n 0, 1) := by decide +kernel
theorem dX10_run_133 : decode cX10_run 133 = .ok (.getfield 114, 3) := by decide +kernel
theorem dX10_run_136 : decode cX10_run 136 = .ok (.iload_n 1, 1) := by decide +kernel
theorem dX10_run_137 : decode cX10_run 137 = .ok (.iaload, 1) := by decide +kernel
theorem dX10_run_138 : decode cX10_run 138 = .ok (.ireturn, 1) := by decide +kernel
theorem dX10_run_139 : decode cX10_run 139 = .ok (.aload_n 0, 1) := by decide +kernel
theorem dX10_run_140 : decode cX10_run 140 = .ok (.getfield 123, 3) := by decide +kernel
theorem dX10_run_143 : decode cX10_run 143 = .ok (.iload_n 1, 1) := by decide +kernel
theorem dX10_run_144 : decode cX10_run 144 = .ok (.iaload, 1) := by decide +kernel
theorem dX10_run_145 : decode cX10_run 145 = .ok (.ireturn, 1) := by decide +kernel
theorem dX10_run_146 : decode cX10_run 146 = .ok (.aload_n 0, 1) := by decide +kernel
theorem dX10_run_147 : decode cX10_run 147 = .ok (.getfield 72, 3) := by decide +kernel
theorem dX10_run_150 : decode cX10_run 150 = .ok (.iload_n 1, 1) := by decide +kernel
theorem dX10_run_151 : decode cX10_run 151 = .ok (.iaload, 1) := by decide +kernel
theorem dX10_run_152 : decode cX10_run 152 = .ok (.ireturn, 1) := by decide +kernel
theorem dX10_run_153 : decode cX10_run 153 = .ok (.aload_n 0, 1) := by decide +kernel
theorem dX10_run_154 : decode cX10_run 154 = .ok (.iload_n 1, 1) := by decide +kernel
theorem dX10_run_155 : decode cX10_run 155 = .ok (.invokevirtual 279, 3) := by decide +kernel
theorem dX10_run_158 : decode cX10_run 158 = .ok (.ireturn, 1) := by decide +kernel
theorem dX10_run_159 : decode cX10_run 159 = .ok (.aload_n 0, 1) := by decide +kernel
theorem dX10_run_160 : decode cX10_run 160 = .ok (.getfield 75, 3) := by decide +kernel
theorem dX10_run_163 : decode cX10_run 163 = .ok (.iload_n 1, 1) := by decide +kernel
theorem dX10_run_164 : decode cX10_run 164 = .ok (.iaload, 1) := by decide +kernel
theorem dX10_run_165 : decode cX10_run 165 = .ok (.ireturn, 1) := by decide +kernel
theorem dX10_run_166 : decode cX10_run 166 = .ok (.iconst (-1), 1) := by decide +kernel
theorem dX10_run_167 : decode cX10_run 167 = .ok (.ireturn, 1) := by decide +kernel
theorem dX10_failure_0 : decode cX10_failure 0 = .ok (.aload_n 0, 1) := by decide +kernel
theorem dX10_failure_1 : decode cX10_failure 1 = .ok (.iload_n 1, 1) := by decide +kernel
theorem dX10_failure_2 : decode cX10_failure 2 = .ok (.invokevirtual 276, 3) := by decide +kernel
theorem dX10_failure_5 : decode cX10_failure 5 = .ok (.ifCond .eq 13, 3) := by decide +kernel
theorem dX10_failure_8 : decode cX10_failure 8 = .ok (.aload_n 0, 1) := by decide +kernel
theorem dX10_failure_9 : decode cX10_failure 9 = .ok (.getfield 45, 3) := by decide +kernel
theorem dX10_failure_12 : decode cX10_failure 12 = .ok (.iload_n 1, 1) := by decide +kernel
theorem dX10_failure_13 : decode cX10_failure 13 = .ok (.iaload, 1) := by decide +kernel
theorem dX10_failure_14 : decode cX10_failure 14 = .ok (.iconst 4, 1) := by decide +kernel
theorem dX10_failure_15 : decode cX10_failure 15 = .ok (.if_icmp .eq 5, 3) := by decide +kernel
theorem dX10_failure_18 : decode cX10_failure 18 = .ok (.iconst (-1), 1) := by decide +kernel
theorem dX10_failure_19 : decode cX10_failure 19 = .ok (.ireturn, 1) := by decide +kernel
theorem dX10_failure_20 : decode cX10_failure 20 = .ok (.iload_n 2, 1) := by decide +kernel
theorem dX10_failure_21 : decode cX10_failure 21 = .ok (.tableswitch 78 0 4 #[35, 42, 49, 56, 63], 35) := by decide +kernel
theorem dX10_failure_56 : decode cX10_failure 56 = .ok (.aload_n 0, 1) := by decide +kernel
theorem dX10_failure_57 : decode cX10_failure 57 = .ok (.getfield 90, 3) := by decide +kernel
theorem dX10_failure_60 : decode cX10_failure 60 = .ok (.iload_n 1, 1) := by decide +kernel
theorem dX10_failure_61 : decode cX10_failure 61 = .ok (.iaload, 1) := by decide +kernel
theorem dX10_failure_62 : decode cX10_failure 62 = .ok (.ireturn, 1) := by decide +kernel
theorem dX10_failure_63 : decode cX10_failure 63 = .ok (.aload_n 0, 1) := by decide +kernel
theorem dX10_failure_64 : decode cX10_failure 64 = .ok (.getfield 93, 3) := by decide +kernel
theorem dX10_failure_67 : decode cX10_failure 67 = .ok (.iload_n 1, 1) := by decide +kernel
theorem dX10_failure_68 : decode cX10_failure 68 = .ok (.iaload, 1) := by decide +kernel
theorem dX10_failure_69 : decode cX10_failure 69 = .ok (.ireturn, 1) := by decide +kernel
theorem dX10_failure_70 : decode cX10_failure 70 = .ok (.aload_n 0, 1) := by decide +kernel
theorem dX10_failure_71 : decode cX10_failure 71 = .ok (.getfield 96, 3) := by decide +kernel
theorem dX10_failure_74 : decode cX10_failure 74 = .ok (.iload_n 1, 1) := by decide +kernel
theorem dX10_failure_75 : decode cX10_failure 75 = .ok (.iaload, 1) := by decide +kernel
theorem dX10_failure_76 : decode cX10_failure 76 = .ok (.ireturn, 1) := by decide +kernel
theorem dX10_failure_77 : decode cX10_failure 77 = .ok (.aload_n 0, 1) := by decide +kernel
theorem dX10_failure_78 : decode cX10_failure 78 = .ok (.getfield 99, 3) := by decide +kernel
theorem dX10_failure_81 : decode cX10_failure 81 = .ok (.iload_n 1, 1) := by decide +kernel
theorem dX10_failure_82 : decode cX10_failure 82 = .ok (.iaload, 1) := by decide +kernel
theorem dX10_failure_83 : decode cX10_failure 83 = .ok (.ireturn, 1) := by decide +kernel
theorem dX10_failure_84 : decode cX10_failure 84 = .ok (.aload_n 0, 1) := by decide +kernel
theorem dX10_failure_85 : decode cX10_failure 85 = .ok (.getfield 102, 3) := by decide +kernel
theorem dX10_failure_88 : decode cX10_failure 88 = .ok (.iload_n 1, 1) := by decide +kernel
theorem dX10_failure_89 : decode cX10_failure 89 = .ok (.baload, 1) := by decide +kernel
theorem dX10_failure_90 : decode cX10_failure 90 = .ok (.ifCond .eq 7, 3) := by decide +kernel
theorem dX10_failure_93 : decode cX10_failure 93 = .ok (.iconst 1, 1) := by decide +kernel
theorem dX10_failure_94 : decode cX10_failure 94 = .ok (.goto 4, 3) := by decide +kernel
theorem dX10_failure_97 : decode cX10_failure 97 = .ok (.iconst 0, 1) := by decide +kernel
theorem dX10_failure_98 : decode cX10_failure 98 = .ok (.ireturn, 1) := by decide +kernel
theorem dX10_failure_99 : decode cX10_failure 99 = .ok (.iconst (-1), 1) := by decide +kernel
theorem dX10_failure_100 : decode cX10_failure 100 = .ok (.ireturn, 1) := by decide +kernel
theorem dX10_trace_0 : decode cX10_trace 0 = .ok (.aload_n 0, 1) := by decide +kernel
theorem dX10_trace_1 : decode cX10_trace 1 = .ok (.iload_n 1, 1) := by decide +kernel
theorem dX10_trace_2 : decode cX10_trace 2 = .ok (.invokevirtual 276, 3) := by decide +kernel
theorem dX10_trace_5 : decode cX10_trace 5 = .ok (.ifCond .eq 17, 3) := by decide +kernel
theorem dX10_trace_8 : decode cX10_trace 8 = .ok (.aload_n 0, 1) := by decide +kernel
theorem dX10_trace_9 : decode cX10_trace 9 = .ok (.getfield 45, 3) := by decide +kernel
theorem dX10_trace_12 : decode cX10_trace 12 = .ok (.iload_n 1, 1) := by decide +kernel
theorem dX10_trace_13 : decode cX10_trace 13 = .ok (.iaload, 1) := by decide +kernel
theorem dX10_trace_14 : decode cX10_trace 14 = .ok (.iconst 4, 1) := by decide +kernel
theorem dX10_trace_15 : decode cX10_trace 15 = .ok (.if_icmp .ne 7, 3) := by decide +kernel
theorem dX10_trace_18 : decode cX10_trace 18 = .ok (.iload_n 2, 1) := by decide +kernel
theorem dX10_trace_19 : decode cX10_trace 19 = .ok (.ifCond .ge 5, 3) := by decide +kernel
theorem dX10_trace_22 : decode cX10_trace 22 = .ok (.iconst (-1), 1) := by decide +kernel
theorem dX10_trace_23 : decode cX10_trace 23 = .ok (.ireturn, 1) := by decide +kernel
theorem dX10_trace_24 : decode cX10_trace 24 = .ok (.iload_n 1, 1) := by decide +kernel
theorem dX10_trace_25 : decode cX10_trace 25 = .ok (.istore_n 3, 1) := by decide +kernel
theorem dX10_trace_26 : decode cX10_trace 26 = .ok (.aload_n 0, 1) := by decide +kernel
theorem dX10_trace_27 : decode cX10_trace 27 = .ok (.getfield 93, 3) := by decide +kernel
theorem dX10_trace_30 : decode cX10_trace 30 = .ok (.iload_n 1, 1) := by decide +kernel
theorem dX10_trace_31 : decode cX10_trace 31 = .ok (.iaload, 1) := by decide +kernel
theorem dX10_trace_32 : decode cX10_trace 32 = .ok (.istore 4, 2) := by decide +kernel
theorem dX10_trace_34 : decode cX10_trace 34 = .ok (.iconst 0, 1) := by decide +kernel
theorem dX10_trace_35 : decode cX10_trace 35 = .ok (.istore 5, 2) := by decide +kernel
theorem dX10_trace_37 : decode cX10_trace 37 = .ok (.iload 5, 2) := by decide +kernel
theorem dX10_trace_39 : decode cX10_trace 39 = .ok (.iload_n 2, 1) := by decide +kernel
theorem dX10_trace_40 : decode cX10_trace 40 = .ok (.if_icmp .ge 31, 3) := by decide +kernel
theorem dX10_trace_43 : decode cX10_trace 43 = .ok (.aload_n 0, 1) := by decide +kernel
theorem dX10_trace_44 : decode cX10_trace 44 = .ok (.getfield 69, 3) := by decide +kernel
theorem dX10_trace_47 : decode cX10_trace 47 = .ok (.iload_n 3, 1) := by decide +kernel
theorem dX10_trace_48 : decode cX10_trace 48 = .ok (.iaload, 1) := by decide +kernel
theorem dX10_trace_49 : decode cX10_trace 49 = .ok (.istore 4, 2) := by decide +kernel
theorem dX10_trace_51 : decode cX10_trace 51 = .ok (.aload_n 0, 1) := by decide +kernel
theorem dX10_trace_52 : decode cX10_trace 52 = .ok (.getfield 51, 3) := by decide +kernel
theorem dX10_trace_55 : decode cX10_trace 55 = .ok (.iload_n 3, 1) := by decide +kernel
theorem dX10_trace_56 : decode cX10_trace 56 = .ok (.iaload, 1) := by decide +kernel
theorem dX10_trace_57 : decode cX10_trace 57 = .ok (.istore_n 3, 1) := by decide +kernel
theorem dX10_trace_58 : decode cX10_trace 58 = .ok (.iload_n 3, 1) := by decide +kernel
theorem dX10_trace_59 : decode cX10_trace 59 = .ok (.iconst (-1), 1) := by decide +kernel
theorem dX10_trace_60 : decode cX10_trace 60 = .ok (.if_icmp .ne 5, 3) := by decide +kernel
theorem dX10_trace_63 : decode cX10_trace 63 = .ok (.iconst (-1), 1) := by decide +kernel
theorem dX10_trace_64 : decode cX10_trace 64 = .ok (.ireturn, 1) := by decide +kernel
theorem dX10_trace_65 : decode cX10_trace 65 = .ok (.iinc 5 1, 3) := by decide +kernel
theorem dX10_trace_68 : decode cX10_trace 68 = .ok (.goto (-31), 3) := by decide +kernel
theorem dX10_trace_71 : decode cX10_trace 71 = .ok (.bipush 32, 2) := by decide +kernel
theorem dX10_trace_73 : decode cX10_trace 73 = .ok (.aload_n 0, 1) := by decide +kernel
theorem dX10_trace_74 : decode cX10_trace 74 = .ok (.getfield 48, 3) := by decide +kernel
theorem dX10_trace_77 : decode cX10_trace 77 = .ok (.iload_n 3, 1) := by decide +kernel
theorem dX10_trace_78 : decode cX10_trace 78 = .ok (.iaload, 1) := by decide +kernel
theorem dX10_trace_79 : decode cX10_trace 79 = .ok (.imul, 1) := by decide +kernel
theorem dX10_trace_80 : decode cX10_trace 80 = .ok (.iload 4, 2) := by decide +kernel
theorem dX10_trace_82 : decode cX10_trace 82 = .ok (.iadd, 1) := by decide +kernel
theorem dX10_trace_83 : decode cX10_trace 83 = .ok (.ireturn, 1) := by decide +kernel
theorem dX10_child_0 : decode cX10_child 0 = .ok (.aload_n 0, 1) := by decide +kernel
theorem dX10_child_1 : decode cX10_child 1 = .ok (.iload_n 1, 1) := by decide +kernel
theorem dX10_child_2 : decode cX10_child 2 = .ok (.invokevirtual 276, 3) := by decide +kernel
theorem dX10_child_5 : decode cX10_child 5 = .ok (.ifCond .eq 7, 3) := by decide +kernel
theorem dX10_child_8 : decode cX10_child 8 = .ok (.iload_n 2, 1) := by decide +kernel
theorem dX10_child_9 : decode cX10_child 9 = .ok (.ifCond .ge 5, 3) := by decide +kernel
theorem dX10_child_12 : decode cX10_child 12 = .ok (.iconst (-1), 1) := by decide +kernel
theorem dX10_child_13 : decode cX10_child 13 = .ok (.ireturn, 1) := by decide +kernel
theorem dX10_child_14 : decode cX10_child 14 = .ok (.iconst 0, 1) := by decide +kernel
theorem dX10_child_15 : decode cX10_child 15 = .ok (.istore_n 3, 1) := by decide +kernel
theorem dX10_child_16 : decode cX10_child 16 = .ok (.iload_n 1, 1) := by decide +kernel
theorem dX10_child_17 : decode cX10_child 17 = .ok (.iconst 1, 1) := by decide +kernel
theorem dX10_child_18 : decode cX10_child 18 = .ok (.iadd, 1) := by decide +kernel
theorem dX10_child_19 : decode cX10_child 19 = .ok (.istore 4, 2) := by decide +kernel
theorem dX10_child_21 : decode cX10_child 21 = .ok (.iload 4, 2) := by decide +kernel
theorem dX10_child_23 : decode cX10_child 23 = .ok (.aload_n 0, 1) := by decide +kernel
theorem dX10_child_24 : decode cX10_child 24 = .ok (.getfield 176, 3) := by decide +kernel
theorem dX10_child_27 : decode cX10_child 27 = .ok (.if_icmp .ge 35, 3) := by decide +kernel
theorem dX10_child_30 : decode cX10_child 30 = .ok (.aload_n 0, 1) := by decide +kernel
theorem dX10_child_31 : decode cX10_child 31 = .ok (.getfield 51, 3) := by decide +kernel
theorem dX10_child_34 : decode cX10_child 34 = .ok (.iload 4, 2) := by decide +kernel
theorem dX10_child_36 : decode cX10_child 36 = .ok (.iaload, 1) := by decide +kernel
theorem dX10_child_37 : decode cX10_child 37 = .ok (.iload_n 1, 1) := by decide +kernel
theorem dX10_child_38 : decode cX10_child 38 = .ok (.if_icmp .eq 6, 3) := by decide +kernel
theorem dX10_child_41 : decode cX10_child 41 = .ok (.goto 15, 3) := by decide +kernel
theorem dX10_child_44 : decode cX10_child 44 = .ok (.iload_n 3, 1) := by decide +kernel
theorem dX10_child_45 : decode cX10_child 45 = .ok (.iload_n 2, 1) := by decide +kernel
theorem dX10_child_46 : decode cX10_child 46 = .ok (.if_icmp .ne 6, 3) := by decide +kernel
theorem dX10_child_49 : decode cX10_child 49 = .ok (.iload 4, 2) := by decide +kernel
theorem dX10_child_51 : decode cX10_child 51 = .ok (.ireturn, 1) := by decide +kernel
theorem dX10_child_52 : decode cX10_child 52 = .ok (.iload_n 3, 1) := by decide +kernel
theorem dX10_child_53 : decode cX10_child 53 = .ok (.iconst 1, 1) := by decide +kernel
theorem dX10_child_54 : decode cX10_child 54 = .ok (.iadd, 1) := by decide +kernel
theorem dX10_child_55 : decode cX10_child 55 = .ok (.istore_n 3, 1) := by decide +kernel
theorem dX10_child_56 : decode cX10_child 56 = .ok (.iinc 4 1, 3) := by decide +kernel
theorem dX10_child_59 : decode cX10_child 59 = .ok (.goto (-38), 3) := by decide +kernel
theorem dX10_child_62 : decode cX10_child 62 = .ok (.iconst (-1), 1) := by decide +kernel
theorem dX10_child_63 : decode cX10_child 63 = .ok (.ireturn, 1) := by decide +kernel
theorem dX10_value_0 : decode cX10_value 0 = .ok (.aload_n 0, 1) := by decide +kernel
theorem dX10_value_1 : decode cX10_value 1 = .ok (.iload_n 1, 1) := by decide +kernel
theorem dX10_value_2 : decode cX10_value 2 = .ok (.invokevirtual 276, 3) := by decide +kernel
theorem dX10_value_5 : decode cX10_value 5 = .ok (.ifCond .eq 19, 3) := by decide +kernel
theorem dX10_value_8 : decode cX10_value 8 = .ok (.iload_n 2, 1) := by decide +kernel
theorem dX10_value_9 : decode cX10_value 9 = .ok (.invokestatic 172, 3) := by decide +kernel
theorem dX10_value_12 : decode cX10_value 12 = .ok (.ifCond .eq 12, 3) := by decide +kernel
theorem dX10_value_15 : decode cX10_value 15 = .ok (.aload_n 0, 1) := by decide +kernel
theorem dX10_value_16 : decode cX10_value 16 = .ok (.iload_n 1, 1) := by decide +kernel
theorem dX10_value_17 : decode cX10_value 17 = .ok (.iload_n 2, 1) := by decide +kernel
theorem dX10_value_18 : decode cX10_value 18 = .ok (.invokevirtual 201, 3) := by decide +kernel
theorem dX10_value_21 : decode cX10_value 21 = .ok (.goto 4, 3) := by decide +kernel
theorem dX10_value_24 : decode cX10_value 24 = .ok (.iconst 0, 1) := by decide +kernel
theorem dX10_value_25 : decode cX10_value 25 = .ok (.ireturn, 1) := by decide +kernel
theorem dX10_seen_0 : decode cX10_seen 0 = .ok (.iload_n 1, 1) := by decide +kernel
theorem dX10_seen_1 : decode cX10_seen 1 = .ok (.ifCond .lt 18, 3) := by decide +kernel
theorem dX10_seen_4 : decode cX10_seen 4 = .ok (.iload_n 1, 1) := by decide +kernel
theorem dX10_seen_5 : decode cX10_seen 5 = .ok (.aload_n 0, 1) := by decide +kernel
theorem dX10_seen_6 : decode cX10_seen 6 = .ok (.getfield 189, 3) := by decide +kernel
theorem dX10_seen_9 : decode cX10_seen 9 = .ok (.if_icmp .ge 10, 3) := by decide +kernel
theorem dX10_seen_12 : decode cX10_seen 12 = .ok (.iload_n 1, 1) := by decide +kernel
theorem dX10_seen_13 : decode cX10_seen 13 = .ok (.sipush 1000, 3) := by decide +kernel
theorem dX10_seen_16 : decode cX10_seen 16 = .ok (.if_icmp .lt 5, 3) := by decide +kernel
theorem dX10_seen_19 : decode cX10_seen 19 = .ok (.iconst (-1), 1) := by decide +kernel
theorem dX10_seen_20 : decode cX10_seen 20 = .ok (.ireturn, 1) := by decide +kernel
theorem dX10_seen_21 : decode cX10_seen 21 = .ok (.iload_n 2, 1) := by decide +kernel
theorem dX10_seen_22 : decode cX10_seen 22 = .ok (.tableswitch 58 0 3 #[30, 37, 44, 51], 30) := by decide +kernel
theorem dX10_seen_52 : decode cX10_seen 52 = .ok (.aload_n 0, 1) := by decide +kernel
theorem dX10_seen_53 : decode cX10_seen 53 = .ok (.getfield 138, 3) := by decide +kernel
theorem dX10_seen_56 : decode cX10_seen 56 = .ok (.iload_n 1, 1) := by decide +kernel
theorem dX10_seen_57 : decode cX10_seen 57 = .ok (.iaload, 1) := by decide +kernel
theorem dX10_seen_58 : decode cX10_seen 58 = .ok (.ireturn, 1) := by decide +kernel
theorem dX10_seen_59 : decode cX10_seen 59 = .ok (.aload_n 0, 1) := by decide +kernel
theorem dX10_seen_60 : decode cX10_seen 60 = .ok (.getfield 141, 3) := by decide +kernel
theorem dX10_seen_63 : decode cX10_seen 63 = .ok (.iload_n 1, 1) := by decide +kernel
theorem dX10_seen_64 : decode cX10_seen 64 = .ok (.iaload, 1) := by decide +kernel
theorem dX10_seen_65 : decode cX10_seen 65 = .ok (.ireturn, 1) := by decide +kernel
theorem dX10_seen_66 : decode cX10_seen 66 = .ok (.aload_n 0, 1) := by decide +kernel
theorem dX10_seen_67 : decode cX10_seen 67 = .ok (.getfield 144, 3) := by decide +kernel
theorem dX10_seen_70 : decode cX10_seen 70 = .ok (.iload_n 1, 1) := by decide +kernel
theorem dX10_seen_71 : decode cX10_seen 71 = .ok (.iaload, 1) := by decide +kernel
theorem dX10_seen_72 : decode cX10_seen 72 = .ok (.ireturn, 1) := by decide +kernel
theorem dX10_seen_73 : decode cX10_seen 73 = .ok (.aload_n 0, 1) := by decide +kernel
theorem dX10_seen_74 : decode cX10_seen 74 = .ok (.getfield 147, 3) := by decide +kernel
theorem dX10_seen_77 : decode cX10_seen 77 = .ok (.iload_n 1, 1) := by decide +kernel
theorem dX10_seen_78 : decode cX10_seen 78 = .ok (.iaload, 1) := by decide +kernel
theorem dX10_seen_79 : decode cX10_seen 79 = .ok (.ireturn, 1) := by decide +kernel
theorem dX10_seen_80 : decode cX10_seen 80 = .ok (.iconst (-1), 1) := by decide +kernel
theorem dX10_seen_81 : decode cX10_seen 81 = .ok (.ireturn, 1) := by decide +kernel
theorem dX10_remark_0 : decode cX10_remark 0 = .ok (.iconst 0, 1) := by decide +kernel
theorem dX10_remark_1 : decode cX10_remark 1 = .ok (.istore_n 3, 1) := by decide +kernel
theorem dX10_remark_2 : decode cX10_remark 2 = .ok (.iconst 0, 1) := by decide +kernel
theorem dX10_remark_3 : decode cX10_remark 3 = .ok (.istore 4, 2) := by decide +kernel
theorem dX10_remark_5 : decode cX10_remark 5 = .ok (.iload 4, 2) := by decide +kernel
theorem dX10_remark_7 : decode cX10_remark 7 = .ok (.aload_n 0, 1) := by decide +kernel
theorem dX10_remark_8 : decode cX10_remark 8 = .ok (.getfield 192, 3) := by decide +kernel
theorem dX10_remark_11 : decode cX10_remark 11 = .ok (.if_icmp .ge 44, 3) := by decide +kernel
theorem dX10_remark_14 : decode cX10_remark 14 = .ok (.iload_n 2, 1) := by decide +kernel
theorem dX10_remark_15 : decode cX10_remark 15 = .ok (.ifCond .lt 40, 3) := by decide +kernel
theorem dX10_remark_18 : decode cX10_remark 18 = .ok (.aload_n 0, 1) := by decide +kernel
theorem dX10_remark_19 : decode cX10_remark 19 = .ok (.getfield 151, 3) := by decide +kernel
theorem dX10_remark_22 : decode cX10_remark 22 = .ok (.iload 4, 2) := by decide +kernel
theorem dX10_remark_24 : decode cX10_remark 24 = .ok (.iaload, 1) := by decide +kernel
theorem dX10_remark_25 : decode cX10_remark 25 = .ok (.iload_n 1, 1) := by decide +kernel
theorem dX10_remark_26 : decode cX10_remark 26 = .ok (.if_icmp .eq 6, 3) := by decide +kernel
theorem dX10_remark_29 : decode cX10_remark 29 = .ok (.goto 20, 3) := by decide +kernel
theorem dX10_remark_32 : decode cX10_remark 32 = .ok (.iload_n 3, 1) := by decide +kernel
theorem dX10_remark_33 : decode cX10_remark 33 = .ok (.iload_n 2, 1) := by decide +kernel
theorem dX10_remark_34 : decode cX10_remark 34 = .ok (.if_icmp .ne 11, 3) := by decide +kernel
theorem dX10_remark_37 : decode cX10_remark 37 = .ok (.aload_n 0, 1) := by decide +kernel
theorem dX10_remark_38 : decode cX10_remark 38 = .ok (.getfield 154, 3) := by decide +kernel
theorem dX10_remark_41 : decode cX10_remark 41 = .ok (.iload 4, 2) := by decide +kernel
theorem dX10_remark_43 : decode cX10_remark 43 = .ok (.iaload, 1) := by decide +kernel
theorem dX10_remark_44 : decode cX10_remark 44 = .ok (.ireturn, 1) := by decide +kernel
theorem dX10_remark_45 : decode cX10_remark 45 = .ok (.iload_n 3, 1) := by decide +kernel
theorem dX10_remark_46 : decode cX10_remark 46 = .ok (.iconst 1, 1) := by decide +kernel
theorem dX10_remark_47 : decode cX10_remark 47 = .ok (.iadd, 1) := by decide +kernel
theorem dX10_remark_48 : decode cX10_remark 48 = .ok (.istore_n 3, 1) := by decide +kernel
theorem dX10_remark_49 : decode cX10_remark 49 = .ok (.iinc 4 1, 3) := by decide +kernel
theorem dX10_remark_52 : decode cX10_remark 52 = .ok (.goto (-47), 3) := by decide +kernel
theorem dX10_remark_55 : decode cX10_remark 55 = .ok (.iconst 0, 1) := by decide +kernel
theorem dX10_remark_56 : decode cX10_remark 56 = .ok (.ireturn, 1) := by decide +kernel
theorem dX10_handled_0 : decode cX10_handled 0 = .ok (.iload_n 1, 1) := by decide +kernel
theorem dX10_handled_1 : decode cX10_handled 1 = .ok (.ifCond .lt 11, 3) := by decide +kernel
theorem dX10_handled_4 : decode cX10_handled 4 = .ok (.iload_n 1, 1) := by decide +kernel
theorem dX10_handled_5 : decode cX10_handled 5 = .ok (.aload_n 0, 1) := by decide +kernel
theorem dX10_handled_6 : decode cX10_handled 6 = .ok (.getfield 195, 3) := by decide +kernel
theorem dX10_handled_9 : decode cX10_handled 9 = .ok (.if_icmp .lt 5, 3) := by decide +kernel
theorem dX10_handled_12 : decode cX10_handled 12 = .ok (.iconst (-1), 1) := by decide +kernel
theorem dX10_handled_13 : decode cX10_handled 13 = .ok (.ireturn, 1) := by decide +kernel
theorem dX10_handled_14 : decode cX10_handled 14 = .ok (.iload_n 2, 1) := by decide +kernel
theorem dX10_handled_15 : decode cX10_handled 15 = .ok (.tableswitch 57 0 3 #[29, 36, 43, 50], 29) := by decide +kernel
theorem dX10_handled_44 : decode cX10_handled 44 = .ok (.aload_n 0, 1) := by decide +kernel
theorem dX10_handled_45 : decode cX10_handled 45 = .ok (.getfield 157, 3) := by decide +kernel
theorem dX10_handled_48 : decode cX10_handled 48 = .ok (.iload_n 1, 1) := by decide +kernel
theorem dX10_handled_49 : decode cX10_handled 49 = .ok (.iaload, 1) := by decide +kernel
theorem dX10_handled_50 : decode cX10_handled 50 = .ok (.ireturn, 1) := by decide +kernel
theorem dX10_handled_51 : decode cX10_handled 51 = .ok (.aload_n 0, 1) := by decide +kernel
theorem dX10_handled_52 : decode cX10_handled 52 = .ok (.getfield 160, 3) := by decide +kernel
theorem dX10_handled_55 : decode cX10_handled 55 = .ok (.iload_n 1, 1) := by decide +kernel
theorem dX10_handled_56 : decode cX10_handled 56 = .ok (.iaload, 1) := by decide +kernel
theorem dX10_handled_57 : decode cX10_handled 57 = .ok (.ireturn, 1) := by decide +kernel
theorem dX10_handled_58 : decode cX10_handled 58 = .ok (.aload_n 0, 1) := by decide +kernel
theorem dX10_handled_59 : decode cX10_handled 59 = .ok (.getfield 163, 3) := by decide +kernel
theorem dX10_handled_62 : decode cX10_handled 62 = .ok (.iload_n 1, 1) := by decide +kernel
theorem dX10_handled_63 : decode cX10_handled 63 = .ok (.iaload, 1) := by decide +kernel
theorem dX10_handled_64 : decode cX10_handled 64 = .ok (.ireturn, 1) := by decide +kernel
theorem dX10_handled_65 : decode cX10_handled 65 = .ok (.aload_n 0, 1) := by decide +kernel
theorem dX10_handled_66 : decode cX10_handled 66 = .ok (.getfield 166, 3) := by decide +kernel
theorem dX10_handled_69 : decode cX10_handled 69 = .ok (.iload_n 1, 1) := by decide +kernel
theorem dX10_handled_70 : decode cX10_handled 70 = .ok (.iaload, 1) := by decide +kernel
theorem dX10_handled_71 : decode cX10_handled 71 = .ok (.ireturn, 1) := by decide +kernel
theorem dX10_handled_72 : decode cX10_handled 72 = .ok (.iconst (-1), 1) := by decide +kernel
theorem dX10_handled_73 : decode cX10_handled 73 = .ok (.ireturn, 1) := by decide +kernel
theorem dX10_order_0 : decode cX10_order 0 = .ok (.iload_n 1, 1) := by decide +kernel
theorem dX10_order_1 : decode cX10_order 1 = .ok (.ifCond .lt 27, 3) := by decide +kernel
theorem dX10_order_4 : decode cX10_order 4 = .ok (.iload_n 1, 1) := by decide +kernel
theorem dX10_order_5 : decode cX10_order 5 = .ok (.aload_n 0, 1) := by decide +kernel
theorem dX10_order_6 : decode cX10_order 6 = .ok (.getfield 198, 3) := by decide +kernel
theorem dX10_order_9 : decode cX10_order 9 = .ok (.if_icmp .ge 19, 3) := by decide +kernel
theorem dX10_order_12 : decode cX10_order 12 = .ok (.iload_n 1, 1) := by decide +kernel
theorem dX10_order_13 : decode cX10_order 13 = .ok (.sipush 2000, 3) := by decide +kernel
theorem dX10_order_16 : decode cX10_order 16 = .ok (.if_icmp .ge 12, 3) := by decide +kernel
theorem dX10_order_19 : decode cX10_order 19 = .ok (.aload_n 0, 1) := by decide +kernel
theorem dX10_order_20 : decode cX10_order 20 = .ok (.getfield 169, 3) := by decide +kernel
theorem dX10_order_23 : decode cX10_order 23 = .ok (.iload_n 1, 1) := by decide +kernel
theorem dX10_order_24 : decode cX10_order 24 = .ok (.iaload, 1) := by decide +kernel
theorem dX10_order_25 : decode cX10_order 25 = .ok (.goto 4, 3) := by decide +kernel
theorem dX10_order_28 : decode cX10_order 28 = .ok (.iconst (-1), 1) := by decide +kernel
theorem dX10_order_29 : decode cX10_order 29 = .ok (.ireturn, 1) := by decide +kernel
theorem dX10_inState_0 : decode cX10_inState 0 = .ok (.iconst 0, 1) := by decide +kernel
theorem dX10_inState_1 : decode cX10_inState 1 = .ok (.istore_n 2, 1) := by decide +kernel
theorem dX10_inState_2 : decode cX10_inState 2 = .ok (.iconst 0, 1) := by decide +kernel
theorem dX10_inState_3 : decode cX10_inState 3 = .ok (.istore_n 3, 1) := by decide +kernel
theorem dX10_inState_4 : decode cX10_inState 4 = .ok (.iload_n 3, 1) := by decide +kernel
theorem dX10_inState_5 : decode cX10_inState 5 = .ok (.aload_n 0, 1) := by decide +kernel
theorem dX10_inState_6 : decode cX10_inState 6 = .ok (.getfield 176, 3) := by decide +kernel
theorem dX10_inState_9 : decode cX10_inState 9 = .ok (.if_icmp .ge 27, 3) := by decide +kernel
theorem dX10_inState_12 : decode cX10_inState 12 = .ok (.iload_n 2, 1) := by decide +kernel
theorem dX10_inState_13 : decode cX10_inState 13 = .ok (.aload_n 0, 1) := by decide +kernel
theorem dX10_inState_14 : decode cX10_inState 14 = .ok (.getfield 45, 3) := by decide +kernel
theorem dX10_inState_17 : decode cX10_inState 17 = .ok (.iload_n 3, 1) := by decide +kernel
theorem dX10_inState_18 : decode cX10_inState 18 = .ok (.iaload, 1) := by decide +kernel
theorem dX10_inState_19 : decode cX10_inState 19 = .ok (.iload_n 1, 1) := by decide +kernel
theorem dX10_inState_20 : decode cX10_inState 20 = .ok (.if_icmp .ne 7, 3) := by decide +kernel
theorem dX10_inState_23 : decode cX10_inState 23 = .ok (.iconst 1, 1) := by decide +kernel
theorem dX10_inState_24 : decode cX10_inState 24 = .ok (.goto 4, 3) := by decide +kernel
theorem dX10_inState_27 : decode cX10_inState 27 = .ok (.iconst 0, 1) := by decide +kernel
theorem dX10_inState_28 : decode cX10_inState 28 = .ok (.iadd, 1) := by decide +kernel
theorem dX10_inState_29 : decode cX10_inState 29 = .ok (.istore_n 2, 1) := by decide +kernel
theorem dX10_inState_30 : decode cX10_inState 30 = .ok (.iinc 3 1, 3) := by decide +kernel
theorem dX10_inState_33 : decode cX10_inState 33 = .ok (.goto (-29), 3) := by decide +kernel
theorem dX10_inState_36 : decode cX10_inState 36 = .ok (.iload_n 2, 1) := by decide +kernel
theorem dX10_inState_37 : decode cX10_inState 37 = .ok (.ireturn, 1) := by decide +kernel
theorem dX10_count_0 : decode cX10_count 0 = .ok (.iload_n 1, 1) := by decide +kernel
theorem dX10_count_1 : decode cX10_count 1 = .ok (.tableswitch 119 0 10 #[59, 64, 69, 74, 80, 86, 92, 98, 104, 109, 114], 59) := by decide +kernel
theorem dX10_count_60 : decode cX10_count 60 = .ok (.aload_n 0, 1) := by decide +kernel
theorem dX10_count_61 : decode cX10_count 61 = .ok (.getfield 176, 3) := by decide +kernel
theorem dX10_count_64 : decode cX10_count 64 = .ok (.ireturn, 1) := by decide +kernel
theorem dX10_count_65 : decode cX10_count 65 = .ok (.aload_n 0, 1) := by decide +kernel
theorem dX10_count_66 : decode cX10_count 66 = .ok (.getfield 186, 3) := by decide +kernel
theorem dX10_count_69 : decode cX10_count 69 = .ok (.ireturn, 1) := by decide +kernel
theorem dX10_count_70 : decode cX10_count 70 = .ok (.aload_n 0, 1) := by decide +kernel
theorem dX10_count_71 : decode cX10_count 71 = .ok (.getfield 38, 3) := by decide +kernel
theorem dX10_count_74 : decode cX10_count 74 = .ok (.ireturn, 1) := by decide +kernel
theorem dX10_count_75 : decode cX10_count 75 = .ok (.aload_n 0, 1) := by decide +kernel
theorem dX10_count_76 : decode cX10_count 76 = .ok (.iconst 0, 1) := by decide +kernel
theorem dX10_count_77 : decode cX10_count 77 = .ok (.invokevirtual 283, 3) := by decide +kernel
theorem dX10_count_80 : decode cX10_count 80 = .ok (.ireturn, 1) := by decide +kernel
theorem dX10_count_81 : decode cX10_count 81 = .ok (.aload_n 0, 1) := by decide +kernel
theorem dX10_count_82 : decode cX10_count 82 = .ok (.iconst 1, 1) := by decide +kernel
theorem dX10_count_83 : decode cX10_count 83 = .ok (.invokevirtual 283, 3) := by decide +kernel
theorem dX10_count_86 : decode cX10_count 86 = .ok (.ireturn, 1) := by decide +kernel
theorem dX10_count_87 : decode cX10_count 87 = .ok (.aload_n 0, 1) := by decide +kernel
theorem dX10_count_88 : decode cX10_count 88 = .ok (.iconst 2, 1) := by decide +kernel
theorem dX10_count_89 : decode cX10_count 89 = .ok (.invokevirtual 283, 3) := by decide +kernel
theorem dX10_count_92 : decode cX10_count 92 = .ok (.ireturn, 1) := by decide +kernel
theorem dX10_count_93 : decode cX10_count 93 = .ok (.aload_n 0, 1) := by decide +kernel
theorem dX10_count_94 : decode cX10_count 94 = .ok (.iconst 3, 1) := by decide +kernel
theorem dX10_count_95 : decode cX10_count 95 = .ok (.invokevirtual 283, 3) := by decide +kernel
theorem dX10_count_98 : decode cX10_count 98 = .ok (.ireturn, 1) := by decide +kernel
theorem dX10_count_99 : decode cX10_count 99 = .ok (.aload_n 0, 1) := by decide +kernel
theorem dX10_count_100 : decode cX10_count 100 = .ok (.iconst 4, 1) := by decide +kernel
theorem dX10_count_101 : decode cX10_count 101 = .ok (.invokevirtual 283, 3) := by decide +kernel
theorem dX10_count_104 : decode cX10_count 104 = .ok (.ireturn, 1) := by decide +kernel
theorem dX10_count_105 : decode cX10_count 105 = .ok (.aload_n 0, 1) := by decide +kernel
theorem dX10_count_106 : decode cX10_count 106 = .ok (.getfield 189, 3) := by decide +kernel
theorem dX10_count_109 : decode cX10_count 109 = .ok (.ireturn, 1) := by decide +kernel
theorem dX10_count_110 : decode cX10_count 110 = .ok (.aload_n 0, 1) := by decide +kernel
theorem dX10_count_111 : decode cX10_count 111 = .ok (.getfield 195, 3) := by decide +kernel
theorem dX10_count_114 : decode cX10_count 114 = .ok (.ireturn, 1) := by decide +kernel
theorem dX10_count_115 : decode cX10_count 115 = .ok (.aload_n 0, 1) := by decide +kernel
theorem dX10_count_116 : decode cX10_count 116 = .ok (.getfield 198, 3) := by decide +kernel
theorem dX10_count_119 : decode cX10_count 119 = .ok (.ireturn, 1) := by decide +kernel
theorem dX10_count_120 : decode cX10_count 120 = .ok (.iload_n 1, 1) := by decide +kernel
theorem dX10_count_121 : decode cX10_count 121 = .ok (.bipush 16, 2) := by decide +kernel
theorem dX10_count_123 : decode cX10_count 123 = .ok (.if_icmp .lt 26, 3) := by decide +kernel
theorem dX10_count_126 : decode cX10_count 126 = .ok (.iload_n 1, 1) := by decide +kernel
theorem dX10_count_127 : decode cX10_count 127 = .ok (.bipush 16, 2) := by decide +kernel
theorem dX10_count_129 : decode cX10_count 129 = .ok (.aload_n 0, 1) := by decide +kernel
theorem dX10_count_130 : decode cX10_count 130 = .ok (.getfield 38, 3) := by decide +kernel
theorem dX10_count_133 : decode cX10_count 133 = .ok (.iadd, 1) := by decide +kernel
theorem dX10_count_134 : decode cX10_count 134 = .ok (.if_icmp .ge 15, 3) := by decide +kernel
theorem dX10_count_137 : decode cX10_count 137 = .ok (.aload_n 0, 1) := by decide +kernel
theorem dX10_count_138 : decode cX10_count 138 = .ok (.getfield 42, 3) := by decide +kernel
theorem dX10_count_141 : decode cX10_count 141 = .ok (.iload_n 1, 1) := by decide +kernel
theorem dX10_count_142 : decode cX10_count 142 = .ok (.bipush 16, 2) := by decide +kernel
theorem dX10_count_144 : decode cX10_count 144 = .ok (.isub, 1) := by decide +kernel
theorem dX10_count_145 : decode cX10_count 145 = .ok (.iaload, 1) := by decide +kernel
theorem dX10_count_146 : decode cX10_count 146 = .ok (.goto 4, 3) := by decide +kernel
theorem dX10_count_149 : decode cX10_count 149 = .ok (.iconst (-1), 1) := by decide +kernel
theorem dX10_count_150 : decode cX10_count 150 = .ok (.ireturn, 1) := by decide +kernel
