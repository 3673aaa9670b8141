theorem dX10_init_0 : decode cX10_init 0 = .ok (.aload_n 0, 1) := by decide +kernel
theorem dX10_init_1 : decode cX10_init 1 = .ok (.invokespecial 1, 3) := by decide +kernel
theorem dX10_init_4 : decode cX10_init 4 = .ok (.aload_n 0, 1) := by decide +kernel
theorem dX10_init_5 : decode cX10_init 5 = .ok (.bipush 24, 2) := by decide +kernel
theorem dX10_init_7 : decode cX10_init 7 = .ok (.newarray .int, 2) := by decide +kernel
theorem dX10_init_9 : decode cX10_init 9 = .ok (.putfield 7, 3) := by decide +kernel
theorem dX10_init_12 : decode cX10_init 12 = .ok (.aload_n 0, 1) := by decide +kernel
theorem dX10_init_13 : decode cX10_init 13 = .ok (.bipush 6, 2) := by decide +kernel
theorem dX10_init_15 : decode cX10_init 15 = .ok (.newarray .int, 2) := by decide +kernel
theorem dX10_init_17 : decode cX10_init 17 = .ok (.putfield 13, 3) := by decide +kernel
theorem dX10_init_20 : decode cX10_init 20 = .ok (.aload_n 0, 1) := by decide +kernel
theorem dX10_init_21 : decode cX10_init 21 = .ok (.bipush 6, 2) := by decide +kernel
theorem dX10_init_23 : decode cX10_init 23 = .ok (.newarray .int, 2) := by decide +kernel
theorem dX10_init_25 : decode cX10_init 25 = .ok (.putfield 16, 3) := by decide +kernel
theorem dX10_init_28 : decode cX10_init 28 = .ok (.aload_n 0, 1) := by decide +kernel
theorem dX10_init_29 : decode cX10_init 29 = .ok (.bipush 6, 2) := by decide +kernel
theorem dX10_init_31 : decode cX10_init 31 = .ok (.newarray .int, 2) := by decide +kernel
theorem dX10_init_33 : decode cX10_init 33 = .ok (.putfield 19, 3) := by decide +kernel
theorem dX10_init_36 : decode cX10_init 36 = .ok (.aload_n 0, 1) := by decide +kernel
theorem dX10_init_37 : decode cX10_init 37 = .ok (.bipush 6, 2) := by decide +kernel
theorem dX10_init_39 : decode cX10_init 39 = .ok (.newarray .int, 2) := by decide +kernel
theorem dX10_init_41 : decode cX10_init 41 = .ok (.putfield 22, 3) := by decide +kernel
theorem dX10_init_44 : decode cX10_init 44 = .ok (.aload_n 0, 1) := by decide +kernel
theorem dX10_init_45 : decode cX10_init 45 = .ok (.iconst 3, 1) := by decide +kernel
theorem dX10_init_46 : decode cX10_init 46 = .ok (.newarray .int, 2) := by decide +kernel
theorem dX10_init_48 : decode cX10_init 48 = .ok (.putfield 25, 3) := by decide +kernel
theorem dX10_init_51 : decode cX10_init 51 = .ok (.aload_n 0, 1) := by decide +kernel
theorem dX10_init_52 : decode cX10_init 52 = .ok (.iconst 3, 1) := by decide +kernel
theorem dX10_init_53 : decode cX10_init 53 = .ok (.newarray .int, 2) := by decide +kernel
theorem dX10_init_55 : decode cX10_init 55 = .ok (.putfield 28, 3) := by decide +kernel
theorem dX10_init_58 : decode cX10_init 58 = .ok (.aload_n 0, 1) := by decide +kernel
theorem dX10_init_59 : decode cX10_init 59 = .ok (.iconst 3, 1) := by decide +kernel
theorem dX10_init_60 : decode cX10_init 60 = .ok (.newarray .int, 2) := by decide +kernel
theorem dX10_init_62 : decode cX10_init 62 = .ok (.putfield 31, 3) := by decide +kernel
theorem dX10_init_65 : decode cX10_init 65 = .ok (.aload_n 0, 1) := by decide +kernel
theorem dX10_init_66 : decode cX10_init 66 = .ok (.bipush 24, 2) := by decide +kernel
theorem dX10_init_68 : decode cX10_init 68 = .ok (.newarray .int, 2) := by decide +kernel
theorem dX10_init_70 : decode cX10_init 70 = .ok (.putfield 34, 3) := by decide +kernel
theorem dX10_init_73 : decode cX10_init 73 = .ok (.aload_n 0, 1) := by decide +kernel
theorem dX10_init_74 : decode cX10_init 74 = .ok (.bipush 6, 2) := by decide +kernel
theorem dX10_init_76 : decode cX10_init 76 = .ok (.newarray .int, 2) := by decide +kernel
theorem dX10_init_78 : decode cX10_init 78 = .ok (.putfield 37, 3) := by decide +kernel
theorem dX10_init_81 : decode cX10_init 81 = .ok (.aload_n 0, 1) := by decide +kernel
theorem dX10_init_82 : decode cX10_init 82 = .ok (.bipush 6, 2) := by decide +kernel
theorem dX10_init_84 : decode cX10_init 84 = .ok (.newarray .int, 2) := by decide +kernel
theorem dX10_init_86 : decode cX10_init 86 = .ok (.putfield 40, 3) := by decide +kernel
theorem dX10_init_89 : decode cX10_init 89 = .ok (.aload_n 0, 1) := by decide +kernel
theorem dX10_init_90 : decode cX10_init 90 = .ok (.bipush 6, 2) := by decide +kernel
theorem dX10_init_92 : decode cX10_init 92 = .ok (.newarray .int, 2) := by decide +kernel
theorem dX10_init_94 : decode cX10_init 94 = .ok (.putfield 43, 3) := by decide +kernel
theorem dX10_init_97 : decode cX10_init 97 = .ok (.aload_n 0, 1) := by decide +kernel
theorem dX10_init_98 : decode cX10_init 98 = .ok (.bipush 6, 2) := by decide +kernel
theorem dX10_init_100 : decode cX10_init 100 = .ok (.newarray .int, 2) := by decide +kernel
theorem dX10_init_102 : decode cX10_init 102 = .ok (.putfield 46, 3) := by decide +kernel
theorem dX10_init_105 : decode cX10_init 105 = .ok (.aload_n 0, 1) := by decide +kernel
theorem dX10_init_106 : decode cX10_init 106 = .ok (.iconst 3, 1) := by decide +kernel
theorem dX10_init_107 : decode cX10_init 107 = .ok (.newarray .int, 2) := by decide +kernel
theorem dX10_init_109 : decode cX10_init 109 = .ok (.putfield 49, 3) := by decide +kernel
theorem dX10_init_112 : decode cX10_init 112 = .ok (.aload_n 0, 1) := by decide +kernel
theorem dX10_init_113 : decode cX10_init 113 = .ok (.iconst 3, 1) := by decide +kernel
theorem dX10_init_114 : decode cX10_init 114 = .ok (.newarray .int, 2) := by decide +kernel
theorem dX10_init_116 : decode cX10_init 116 = .ok (.putfield 52, 3) := by decide +kernel
theorem dX10_init_119 : decode cX10_init 119 = .ok (.aload_n 0, 1) := by decide +kernel
theorem dX10_init_120 : decode cX10_init 120 = .ok (.iconst 3, 1) := by decide +kernel
theorem dX10_init_121 : decode cX10_init 121 = .ok (.newarray .int, 2) := by decide +kernel
theorem dX10_init_123 : decode cX10_init 123 = .ok (.putfield 55, 3) := by decide +kernel
theorem dX10_init_126 : decode cX10_init 126 = .ok (.aload_n 0, 1) := by decide +kernel
theorem dX10_init_127 : decode cX10_init 127 = .ok (.iconst 3, 1) := by decide +kernel
theorem dX10_init_128 : decode cX10_init 128 = .ok (.newarray .int, 2) := by decide +kernel
theorem dX10_init_130 : decode cX10_init 130 = .ok (.putfield 58, 3) := by decide +kernel
theorem dX10_init_133 : decode cX10_init 133 = .ok (.aload_n 0, 1) := by decide +kernel
theorem dX10_init_134 : decode cX10_init 134 = .ok (.sipush 384, 3) := by decide +kernel
theorem dX10_init_137 : decode cX10_init 137 = .ok (.newarray .int, 2) := by decide +kernel
theorem dX10_init_139 : decode cX10_init 139 = .ok (.putfield 61, 3) := by decide +kernel
theorem dX10_init_142 : decode cX10_init 142 = .ok (.aload_n 0, 1) := by decide +kernel
theorem dX10_init_143 : decode cX10_init 143 = .ok (.sipush 200, 3) := by decide +kernel
theorem dX10_init_146 : decode cX10_init 146 = .ok (.newarray .byte, 2) := by decide +kernel
theorem dX10_init_148 : decode cX10_init 148 = .ok (.putfield 64, 3) := by decide +kernel
theorem dX10_init_151 : decode cX10_init 151 = .ok (.aload_n 0, 1) := by decide +kernel
theorem dX10_init_152 : decode cX10_init 152 = .ok (.bipush 8, 2) := by decide +kernel
theorem dX10_init_154 : decode cX10_init 154 = .ok (.newarray .int, 2) := by decide +kernel
theorem dX10_init_156 : decode cX10_init 156 = .ok (.putfield 68, 3) := by decide +kernel
theorem dX10_init_159 : decode cX10_init 159 = .ok (.aload_n 0, 1) := by decide +kernel
theorem dX10_init_160 : decode cX10_init 160 = .ok (.bipush 8, 2) := by decide +kernel
theorem dX10_init_162 : decode cX10_init 162 = .ok (.newarray .int, 2) := by decide +kernel
theorem dX10_init_164 : decode cX10_init 164 = .ok (.putfield 71, 3) := by decide +kernel
theorem dX10_init_167 : decode cX10_init 167 = .ok (.aload_n 0, 1) := by decide +kernel
theorem dX10_init_168 : decode cX10_init 168 = .ok (.sipush 984, 3) := by decide +kernel
theorem dX10_init_171 : decode cX10_init 171 = .ok (.newarray .int, 2) := by decide +kernel
theorem dX10_init_173 : decode cX10_init 173 = .ok (.putfield 74, 3) := by decide +kernel
theorem dX10_init_176 : decode cX10_init 176 = .ok (.aload_n 0, 1) := by decide +kernel
theorem dX10_init_177 : decode cX10_init 177 = .ok (.sipush 984, 3) := by decide +kernel
theorem dX10_init_180 : decode cX10_init 180 = .ok (.newarray .int, 2) := by decide +kernel
theorem dX10_init_182 : decode cX10_init 182 = .ok (.putfield 77, 3) := by decide +kernel
theorem dX10_init_185 : decode cX10_init 185 = .ok (.aload_n 0, 1) := by decide +kernel
theorem dX10_init_186 : decode cX10_init 186 = .ok (.sipush 984, 3) := by decide +kernel
theorem dX10_init_189 : decode cX10_init 189 = .ok (.newarray .int, 2) := by decide +kernel
theorem dX10_init_191 : decode cX10_init 191 = .ok (.putfield 80, 3) := by decide +kernel
theorem dX10_init_194 : decode cX10_init 194 = .ok (.aload_n 0, 1) := by decide +kernel
theorem dX10_init_195 : decode cX10_init 195 = .ok (.iconst 5, 1) := by decide +kernel
theorem dX10_init_196 : decode cX10_init 196 = .ok (.newarray .int, 2) := by decide +kernel
theorem dX10_init_198 : decode cX10_init 198 = .ok (.putfield 83, 3) := by decide +kernel
theorem dX10_init_201 : decode cX10_init 201 = .ok (.aload_n 0, 1) := by decide +kernel
theorem dX10_init_202 : decode cX10_init 202 = .ok (.iconst 5, 1) := by decide +kernel
theorem dX10_init_203 : decode cX10_init 203 = .ok (.newarray .int, 2) := by decide +kernel
theorem dX10_init_205 : decode cX10_init 205 = .ok (.putfield 86, 3) := by decide +kernel
theorem dX10_init_208 : decode cX10_init 208 = .ok (.aload_n 0, 1) := by decide +kernel
theorem dX10_init_209 : decode cX10_init 209 = .ok (.bipush 64, 2) := by decide +kernel
theorem dX10_init_211 : decode cX10_init 211 = .ok (.newarray .int, 2) := by decide +kernel
theorem dX10_init_213 : decode cX10_init 213 = .ok (.putfield 89, 3) := by decide +kernel
theorem dX10_init_216 : decode cX10_init 216 = .ok (.aload_n 0, 1) := by decide +kernel
theorem dX10_init_217 : decode cX10_init 217 = .ok (.bipush 64, 2) := by decide +kernel
theorem dX10_init_219 : decode cX10_init 219 = .ok (.newarray .int, 2) := by decide +kernel
theorem dX10_init_221 : decode cX10_init 221 = .ok (.putfield 92, 3) := by decide +kernel
theorem dX10_init_224 : decode cX10_init 224 = .ok (.aload_n 0, 1) := by decide +kernel
theorem dX10_init_225 : decode cX10_init 225 = .ok (.invokevirtual 95, 3) := by decide +kernel
theorem dX10_init_228 : decode cX10_init 228 = .ok (.aload_n 0, 1) := by decide +kernel
theorem dX10_init_229 : decode cX10_init 229 = .ok (.bipush 6, 2) := by decide +kernel
theorem dX10_init_231 : decode cX10_init 231 = .ok (.putfield 98, 3) := by decide +kernel
theorem dX10_init_234 : decode cX10_init 234 = .ok (.aload_n 0, 1) := by decide +kernel
theorem dX10_init_235 : decode cX10_init 235 = .ok (.bipush 18, 2) := by decide +kernel
theorem dX10_init_237 : decode cX10_init 237 = .ok (.putfield 102, 3) := by decide +kernel
theorem dX10_init_240 : decode cX10_init 240 = .ok (.aload_n 0, 1) := by decide +kernel
theorem dX10_init_241 : decode cX10_init 241 = .ok (.getfield 34, 3) := by decide +kernel
theorem dX10_init_244 : decode cX10_init 244 = .ok (.bipush 8, 2) := by decide +kernel
theorem dX10_init_246 : decode cX10_init 246 = .ok (.iconst 3, 1) := by decide +kernel
theorem dX10_init_247 : decode cX10_init 247 = .ok (.iastore, 1) := by decide +kernel
theorem dX10_init_248 : decode cX10_init 248 = .ok (.aload_n 0, 1) := by decide +kernel
theorem dX10_init_249 : decode cX10_init 249 = .ok (.getfield 34, 3) := by decide +kernel
theorem dX10_init_252 : decode cX10_init 252 = .ok (.bipush 13, 2) := by decide +kernel
theorem dX10_init_254 : decode cX10_init 254 = .ok (.iconst 1, 1) := by decide +kernel
theorem dX10_init_255 : decode cX10_init 255 = .ok (.iastore, 1) := by decide +kernel
theorem dX10_init_256 : decode cX10_init 256 = .ok (.aload_n 0, 1) := by decide +kernel
theorem dX10_init_257 : decode cX10_init 257 = .ok (.getfield 34, 3) := by decide +kernel
theorem dX10_init_260 : decode cX10_init 260 = .ok (.bipush 16, 2) := by decide +kernel
theorem dX10_init_262 : decode cX10_init 262 = .ok (.iconst 2, 1) := by decide +kernel
theorem dX10_init_263 : decode cX10_init 263 = .ok (.iastore, 1) := by decide +kernel
theorem dX10_init_264 : decode cX10_init 264 = .ok (.aload_n 0, 1) := by decide +kernel
theorem dX10_init_265 : decode cX10_init 265 = .ok (.iconst 0, 1) := by decide +kernel
theorem dX10_init_266 : decode cX10_init 266 = .ok (.bipush 7, 2) := by decide +kernel
theorem dX10_init_268 : decode cX10_init 268 = .ok (.iconst 3, 1) := by decide +kernel
theorem dX10_init_269 : decode cX10_init 269 = .ok (.iconst 0, 1) := by decide +kernel
theorem dX10_init_270 : decode cX10_init 270 = .ok (.invokevirtual 105, 3) := by decide +kernel
theorem dX10_init_273 : decode cX10_init 273 = .ok (.aload_n 0, 1) := by decide +kernel
theorem dX10_init_274 : decode cX10_init 274 = .ok (.iconst 1, 1) := by decide +kernel
theorem dX10_init_275 : decode cX10_init 275 = .ok (.bipush 12, 2) := by decide +kernel
theorem dX10_init_277 : decode cX10_init 277 = .ok (.iconst 4, 1) := by decide +kernel
theorem dX10_init_278 : decode cX10_init 278 = .ok (.iconst 1, 1) := by decide +kernel
theorem dX10_init_279 : decode cX10_init 279 = .ok (.invokevirtual 105, 3) := by decide +kernel
theorem dX10_init_282 : decode cX10_init 282 = .ok (.aload_n 0, 1) := by decide +kernel
theorem dX10_init_283 : decode cX10_init 283 = .ok (.iconst 2, 1) := by decide +kernel
theorem dX10_init_284 : decode cX10_init 284 = .ok (.bipush 9, 2) := by decide +kernel
theorem dX10_init_286 : decode cX10_init 286 = .ok (.iconst 5, 1) := by decide +kernel
theorem dX10_init_287 : decode cX10_init 287 = .ok (.iconst 2, 1) := by decide +kernel
theorem dX10_init_288 : decode cX10_init 288 = .ok (.invokevirtual 105, 3) := by decide +kernel
theorem dX10_init_291 : decode cX10_init 291 = .ok (.aload_n 0, 1) := by decide +kernel
theorem dX10_init_292 : decode cX10_init 292 = .ok (.iconst 3, 1) := by decide +kernel
theorem dX10_init_293 : decode cX10_init 293 = .ok (.bipush 16, 2) := by decide +kernel
theorem dX10_init_295 : decode cX10_init 295 = .ok (.iconst 2, 1) := by decide +kernel
theorem dX10_init_296 : decode cX10_init 296 = .ok (.iconst 0, 1) := by decide +kernel
theorem dX10_init_297 : decode cX10_init 297 = .ok (.invokevirtual 105, 3) := by decide +kernel
theorem dX10_init_300 : decode cX10_init 300 = .ok (.aload_n 0, 1) := by decide +kernel
theorem dX10_init_301 : decode cX10_init 301 = .ok (.iconst 1, 1) := by decide +kernel
theorem dX10_init_302 : decode cX10_init 302 = .ok (.iconst 2, 1) := by decide +kernel
theorem dX10_init_303 : decode cX10_init 303 = .ok (.bipush 6, 2) := by decide +kernel
theorem dX10_init_305 : decode cX10_init 305 = .ok (.iconst 4, 1) := by decide +kernel
theorem dX10_init_306 : decode cX10_init 306 = .ok (.invokevirtual 105, 3) := by decide +kernel
theorem dX10_init_309 : decode cX10_init 309 = .ok (.aload_n 0, 1) := by decide +kernel
theorem dX10_init_310 : decode cX10_init 310 = .ok (.iconst 0, 1) := by decide +kernel
theorem dX10_init_311 : decode cX10_init 311 = .ok (.iconst 4, 1) := by decide +kernel
theorem dX10_init_312 : decode cX10_init 312 = .ok (.iconst 3, 1) := by decide +kernel
theorem dX10_init_313 : decode cX10_init 313 = .ok (.iconst 0, 1) := by decide +kernel
theorem dX10_init_314 : decode cX10_init 314 = .ok (.invokevirtual 109, 3) := by decide +kernel
theorem dX10_init_317 : decode cX10_init 317 = .ok (.aload_n 0, 1) := by decide +kernel
theorem dX10_init_318 : decode cX10_init 318 = .ok (.iconst 1, 1) := by decide +kernel
theorem dX10_init_319 : decode cX10_init 319 = .ok (.iconst 3, 1) := by decide +kernel
theorem dX10_init_320 : decode cX10_init 320 = .ok (.iconst 4, 1) := by decide +kernel
theorem dX10_init_321 : decode cX10_init 321 = .ok (.bipush 8, 2) := by decide +kernel
theorem dX10_init_323 : decode cX10_init 323 = .ok (.invokevirtual 109, 3) := by decide +kernel
theorem dX10_init_326 : decode cX10_init 326 = .ok (.aload_n 0, 1) := by decide +kernel
theorem dX10_init_327 : decode cX10_init 327 = .ok (.iconst 2, 1) := by decide +kernel
theorem dX10_init_328 : decode cX10_init 328 = .ok (.bipush 6, 2) := by decide +kernel
theorem dX10_init_330 : decode cX10_init 330 = .ok (.iconst 2, 1) := by decide +kernel
theorem dX10_init_331 : decode cX10_init 331 = .ok (.bipush 17, 2) := by decide +kernel
theorem dX10_init_333 : decode cX10_init 333 = .ok (.invokevirtual 109, 3) := by decide +kernel
theorem dX10_init_336 : decode cX10_init 336 = .ok (.aload_n 0, 1) := by decide +kernel
theorem dX10_init_337 : decode cX10_init 337 = .ok (.invokevirtual 112, 3) := by decide +kernel
theorem dX10_init_340 : decode cX10_init 340 = .ok (.return_, 1) := by decide +kernel
theorem dX10_in_0 : decode cX10_in 0 = .ok (.lload_n 0, 1) := by decide +kernel
theorem dX10_in_1 : decode cX10_in 1 = .ok (.lload_n 2, 1) := by decide +kernel
theorem dX10_in_2 : decode cX10_in 2 = .ok (.lcmp, 1) := by decide +kernel
theorem dX10_in_3 : decode cX10_in 3 = .ok (.ifCond .lt 14, 3) := by decide +kernel
theorem dX10_in_6 : decode cX10_in 6 = .ok (.lload_n 0, 1) := by decide +kernel
theorem dX10_in_7 : decode cX10_in 7 = .ok (.lload 4, 2) := by decide +kernel
theorem dX10_in_9 : decode cX10_in 9 = .ok (.lcmp, 1) := by decide +kernel
theorem dX10_in_10 : decode cX10_in 10 = .ok (.ifCond .gt 7, 3) := by decide +kernel
theorem dX10_in_13 : decode cX10_in 13 = .ok (.iconst 1, 1) := by decide +kernel
theorem dX10_in_14 : decode cX10_in 14 = .ok (.goto 4, 3) := by decide +kernel
theorem dX10_in_17 : decode cX10_in 17 = .ok (.iconst 0, 1) := by decide +kernel
theorem dX10_in_18 : decode cX10_in 18 = .ok (.ireturn, 1) := by decide +kernel
theorem dX10_has_0 : decode cX10_has 0 = .ok (.iload_n 0, 1) := by decide +kernel
theorem dX10_has_1 : decode cX10_has 1 = .ok (.iload_n 1, 1) := by decide +kernel
theorem dX10_has_2 : decode cX10_has 2 = .ok (.ishr, 1) := by decide +kernel
theorem dX10_has_3 : decode cX10_has 3 = .ok (.iconst 1, 1) := by decide +kernel
theorem dX10_has_4 : decode cX10_has 4 = .ok (.iand, 1) := by decide +kernel
theorem dX10_has_5 : decode cX10_has 5 = .ok (.iconst 1, 1) := by decide +kernel
theorem dX10_has_6 : decode cX10_has 6 = .ok (.if_icmp .ne 7, 3) := by decide +kernel
theorem dX10_has_9 : decode cX10_has 9 = .ok (.iconst 1, 1) := by decide +kernel
theorem dX10_has_10 : decode cX10_has 10 = .ok (.goto 4, 3) := by decide +kernel
theorem dX10_has_13 : decode cX10_has 13 = .ok (.iconst 0, 1) := by decide +kernel
theorem dX10_has_14 : decode cX10_has 14 = .ok (.ireturn, 1) := by decide +kernel
theorem dX10_bits_0 : decode cX10_bits 0 = .ok (.iconst 0, 1) := by decide +kernel
theorem dX10_bits_1 : decode cX10_bits 1 = .ok (.istore_n 1, 1) := by decide +kernel
theorem dX10_bits_2 : decode cX10_bits 2 = .ok (.iconst 0, 1) := by decide +kernel
theorem dX10_bits_3 : decode cX10_bits 3 = .ok (.istore_n 2, 1) := by decide +kernel
theorem dX10_bits_4 : decode cX10_bits 4 = .ok (.iload_n 2, 1) := by decide +kernel
theorem dX10_bits_5 : decode cX10_bits 5 = .ok (.bipush 6, 2) := by decide +kernel
theorem dX10_bits_7 : decode cX10_bits 7 = .ok (.if_icmp .ge 17, 3) := by decide +kernel
theorem dX10_bits_10 : decode cX10_bits 10 = .ok (.iload_n 1, 1) := by decide +kernel
theorem dX10_bits_11 : decode cX10_bits 11 = .ok (.iload_n 0, 1) := by decide +kernel
theorem dX10_bits_12 : decode cX10_bits 12 = .ok (.iload_n 2, 1) := by decide +kernel
theorem dX10_bits_13 : decode cX10_bits 13 = .ok (.ishr, 1) := by decide +kernel
theorem dX10_bits_14 : decode cX10_bits 14 = .ok (.iconst 1, 1) := by decide +kernel
theorem dX10_bits_15 : decode cX10_bits 15 = .ok (.iand, 1) := by decide +kernel
theorem dX10_bits_16 : decode cX10_bits 16 = .ok (.iadd, 1) := by decide +kernel
theorem dX10_bits_17 : decode cX10_bits 17 = .ok (.istore_n 1, 1) := by decide +kernel
theorem dX10_bits_18 : decode cX10_bits 18 = .ok (.iinc 2 1, 3) := by decide +kernel
theorem dX10_bits_21 : decode cX10_bits 21 = .ok (.goto (-17), 3) := by decide +kernel
theorem dX10_bits_24 : decode cX10_bits 24 = .ok (.iload_n 1, 1) := by decide +kernel
theorem dX10_bits_25 : decode cX10_bits 25 = .ok (.ireturn, 1) := by decide +kernel
theorem dX10_smaller_0 : decode cX10_smaller 0 = .ok (.iload_n 0, 1) := by decide +kernel
theorem dX10_smaller_1 : decode cX10_smaller 1 = .ok (.iload_n 1, 1) := by decide +kernel
theorem dX10_smaller_2 : decode cX10_smaller 2 = .ok (.if_icmp .ge 7, 3) := by decide +kernel
theorem dX10_smaller_5 : decode cX10_smaller 5 = .ok (.iload_n 0, 1) := by decide +kernel
theorem dX10_smaller_6 : decode cX10_smaller 6 = .ok (.goto 4, 3) := by decide +kernel
theorem dX10_smaller_9 : decode cX10_smaller 9 = .ok (.iload_n 1, 1) := by decide +kernel
theorem dX10_smaller_10 : decode cX10_smaller 10 = .ok (.ireturn, 1) := by decide +kernel
theorem dX10_larger_0 : decode cX10_larger 0 = .ok (.iload_n 0, 1) := by decide +kernel
theorem dX10_larger_1 : decode cX10_larger 1 = .ok (.iload_n 1, 1) := by decide +kernel
theorem dX10_larger_2 : decode cX10_larger 2 = .ok (.if_icmp .ge 7, 3) := by decide +kernel
theorem dX10_larger_5 : decode cX10_larger 5 = .ok (.iload_n 1, 1) := by decide +kernel
theorem dX10_larger_6 : decode cX10_larger 6 = .ok (.goto 4, 3) := by decide +kernel
theorem dX10_larger_9 : decode cX10_larger 9 = .ok (.iload_n 0, 1) := by decide +kernel
theorem dX10_larger_10 : decode cX10_larger 10 = .ok (.ireturn, 1) := by decide +kernel
theorem dX10_clears_0 : decode cX10_clears 0 = .ok (.aload_n 0, 1) := by decide +kernel
theorem dX10_clears_1 : decode cX10_clears 1 = .ok (.iconst 0, 1) := by decide +kernel
theorem dX10_clears_2 : decode cX10_clears 2 = .ok (.putfield 102, 3) := by decide +kernel
theorem dX10_clears_5 : decode cX10_clears 5 = .ok (.aload_n 0, 1) := by decide +kernel
theorem dX10_clears_6 : decode cX10_clears 6 = .ok (.iconst 0, 1) := by decide +kernel
theorem dX10_clears_7 : decode cX10_clears 7 = .ok (.putfield 98, 3) := by decide +kernel
theorem dX10_clears_10 : decode cX10_clears 10 = .ok (.aload_n 0, 1) := by decide +kernel
theorem dX10_clears_11 : decode cX10_clears 11 = .ok (.iconst 0, 1) := by decide +kernel
theorem dX10_clears_12 : decode cX10_clears 12 = .ok (.putfield 115, 3) := by decide +kernel
theorem dX10_clears_15 : decode cX10_clears 15 = .ok (.aload_n 0, 1) := by decide +kernel
theorem dX10_clears_16 : decode cX10_clears 16 = .ok (.iconst 0, 1) := by decide +kernel
theorem dX10_clears_17 : decode cX10_clears 17 = .ok (.putfield 118, 3) := by decide +kernel
theorem dX10_clears_20 : decode cX10_clears 20 = .ok (.iconst 0, 1) := by decide +kernel
theorem dX10_clears_21 : decode cX10_clears 21 = .ok (.istore_n 1, 1) := by decide +kernel
theorem dX10_clears_22 : decode cX10_clears 22 = .ok (.iload_n 1, 1) := by decide +kernel
theorem dX10_clears_23 : decode cX10_clears 23 = .ok (.bipush 24, 2) := by decide +kernel
theorem dX10_clears_25 : decode cX10_clears 25 = .ok (.if_icmp .ge 16, 3) := by decide +kernel
theorem dX10_clears_28 : decode cX10_clears 28 = .ok (.aload_n 0, 1) := by decide +kernel
theorem dX10_clears_29 : decode cX10_clears 29 = .ok (.getfield 34, 3) := by decide +kernel
theorem dX10_clears_32 : decode cX10_clears 32 = .ok (.iload_n 1, 1) := by decide +kernel
theorem dX10_clears_33 : decode cX10_clears 33 = .ok (.iconst 0, 1) := by decide +kernel
theorem dX10_clears_34 : decode cX10_clears 34 = .ok (.iastore, 1) := by decide +kernel
theorem dX10_clears_35 : decode cX10_clears 35 = .ok (.iinc 1 1, 3) := by decide +kernel
theorem dX10_clears_38 : decode cX10_clears 38 = .ok (.goto (-16), 3) := by decide +kernel
theorem dX10_clears_41 : decode cX10_clears 41 = .ok (.return_, 1) := by decide +kernel
theorem dX10_lies_0 : decode cX10_lies 0 = .ok (.aload_n 0, 1) := by decide +kernel
theorem dX10_lies_1 : decode cX10_lies 1 = .ok (.getfield 37, 3) := by decide +kernel
theorem dX10_lies_4 : decode cX10_lies 4 = .ok (.aload_n 0, 1) := by decide +kernel
theorem dX10_lies_5 : decode cX10_lies 5 = .ok (.getfield 115, 3) := by decide +kernel
theorem dX10_lies_8 : decode cX10_lies 8 = .ok (.iload_n 1, 1) := by decide +kernel
theorem dX10_lies_9 : decode cX10_lies 9 = .ok (.iastore, 1) := by decide +kernel
theorem dX10_lies_10 : decode cX10_lies 10 = .ok (.aload_n 0, 1) := by decide +kernel
theorem dX10_lies_11 : decode cX10_lies 11 = .ok (.getfield 40, 3) := by decide +kernel
theorem dX10_lies_14 : decode cX10_lies 14 = .ok (.aload_n 0, 1) := by decide +kernel
theorem dX10_lies_15 : decode cX10_lies 15 = .ok (.getfield 115, 3) := by decide +kernel
theorem dX10_lies_18 : decode cX10_lies 18 = .ok (.iload_n 2, 1) := by decide +kernel
theorem dX10_lies_19 : decode cX10_lies 19 = .ok (.iastore, 1) := by decide +kernel
theorem dX10_lies_20 : decode cX10_lies 20 = .ok (.aload_n 0, 1) := by decide +kernel
theorem dX10_lies_21 : decode cX10_lies 21 = .ok (.getfield 43, 3) := by decide +kernel
theorem dX10_lies_24 : decode cX10_lies 24 = .ok (.aload_n 0, 1) := by decide +kernel
theorem dX10_lies_25 : decode cX10_lies 25 = .ok (.getfield 115, 3) := by decide +kernel
theorem dX10_lies_28 : decode cX10_lies 28 = .ok (.iload_n 3, 1) := by decide +kernel
theorem dX10_lies_29 : decode cX10_lies 29 = .ok (.iastore, 1) := by decide +kernel
theorem dX10_lies_30 : decode cX10_lies 30 = .ok (.aload_n 0, 1) := by decide +kernel
theorem dX10_lies_31 : decode cX10_lies 31 = .ok (.getfield 46, 3) := by decide +kernel
theorem dX10_lies_34 : decode cX10_lies 34 = .ok (.aload_n 0, 1) := by decide +kernel
theorem dX10_lies_35 : decode cX10_lies 35 = .ok (.getfield 115, 3) := by decide +kernel
theorem dX10_lies_38 : decode cX10_lies 38 = .ok (.iload 4, 2) := by decide +kernel
theorem dX10_lies_40 : decode cX10_lies 40 = .ok (.iastore, 1) := by decide +kernel
theorem dX10_lies_41 : decode cX10_lies 41 = .ok (.aload_n 0, 1) := by decide +kernel
theorem dX10_lies_42 : decode cX10_lies 42 = .ok (.dup, 1) := by decide +kernel
theorem dX10_lies_43 : decode cX10_lies 43 = .ok (.getfield 115, 3) := by decide +kernel
theorem dX10_lies_46 : decode cX10_lies 46 = .ok (.iconst 1, 1) := by decide +kernel
theorem dX10_lies_47 : decode cX10_lies 47 = .ok (.iadd, 1) := by decide +kernel
theorem dX10_lies_48 : decode cX10_lies 48 = .ok (.putfield 115, 3) := by decide +kernel
theorem dX10_lies_51 : decode cX10_lies 51 = .ok (.return_, 1) := by decide +kernel
theorem dX10_comes_0 : decode cX10_comes 0 = .ok (.aload_n 0, 1) := by decide +kernel
theorem dX10_comes_1 : decode cX10_comes 1 = .ok (.getfield 49, 3) := by decide +kernel
theorem dX10_comes_4 : decode cX10_comes 4 = .ok (.aload_n 0, 1) := by decide +kernel
theorem dX10_comes_5 : decode cX10_comes 5 = .ok (.getfield 118, 3) := by decide +kernel
theorem dX10_comes_8 : decode cX10_comes 8 = .ok (.iload_n 1, 1) := by decide +kernel
theorem dX10_comes_9 : decode cX10_comes 9 = .ok (.iastore, 1) := by decide +kernel
theorem dX10_comes_10 : decode cX10_comes 10 = .ok (.aload_n 0, 1) := by decide +kernel
theorem dX10_comes_11 : decode cX10_comes 11 = .ok (.getfield 52, 3) := by decide +kernel
theorem dX10_comes_14 : decode cX10_comes 14 = .ok (.aload_n 0, 1) := by decide +kernel
theorem dX10_comes_15 : decode cX10_comes 15 = .ok (.getfield 118, 3) := by decide +kernel
theorem dX10_comes_18 : decode cX10_comes 18 = .ok (.iload_n 2, 1) := by decide +kernel
theorem dX10_comes_19 : decode cX10_comes 19 = .ok (.iastore, 1) := by decide +kernel
theorem dX10_comes_20 : decode cX10_comes 20 = .ok (.aload_n 0, 1) := by decide +kernel
theorem dX10_comes_21 : decode cX10_comes 21 = .ok (.getfield 55, 3) := by decide +kernel
theorem dX10_comes_24 : decode cX10_comes 24 = .ok (.aload_n 0, 1) := by decide +kernel
theorem dX10_comes_25 : decode cX10_comes 25 = .ok (.getfield 118, 3) := by decide +kernel
theorem dX10_comes_28 : decode cX10_comes 28 = .ok (.iload_n 3, 1) := by decide +kernel
theorem dX10_comes_29 : decode cX10_comes 29 = .ok (.iastore, 1) := by decide +kernel
theorem dX10_comes_30 : decode cX10_comes 30 = .ok (.aload_n 0, 1) := by decide +kernel
theorem dX10_comes_31 : decode cX10_comes 31 = .ok (.getfield 58, 3) := by decide +kernel
theorem dX10_comes_34 : decode cX10_comes 34 = .ok (.aload_n 0, 1) := by decide +kernel
theorem dX10_comes_35 : decode cX10_comes 35 = .ok (.getfield 118, 3) := by decide +kernel
theorem dX10_comes_38 : decode cX10_comes 38 = .ok (.iload 4, 2) := by decide +kernel
theorem dX10_comes_40 : decode cX10_comes 40 = .ok (.iastore, 1) := by decide +kernel
theorem dX10_comes_41 : decode cX10_comes 41 = .ok (.aload_n 0, 1) := by decide +kernel
theorem dX10_comes_42 : decode cX10_comes 42 = .ok (.dup, 1) := by decide +kernel
theorem dX10_comes_43 : decode cX10_comes 43 = .ok (.getfield 118, 3) := by decide +kernel
theorem dX10_comes_46 : decode cX10_comes 46 = .ok (.iconst 1, 1) := by decide +kernel
theorem dX10_comes_47 : decode cX10_comes 47 = .ok (.iadd, 1) := by decide +kernel
theorem dX10_comes_48 : decode cX10_comes 48 = .ok (.putfield 118, 3) := by decide +kernel
theorem dX10_comes_51 : decode cX10_comes 51 = .ok (.return_, 1) := by decide +kernel
theorem dX10_settles_0 : decode cX10_settles 0 = .ok (.aload_n 0, 1) := by decide +kernel
theorem dX10_settles_1 : decode cX10_settles 1 = .ok (.aload_n 0, 1) := by decide +kernel
theorem dX10_settles_2 : decode cX10_settles 2 = .ok (.getfield 102, 3) := by decide +kernel
theorem dX10_settles_5 : decode cX10_settles 5 = .ok (.putfield 121, 3) := by decide +kernel
theorem dX10_settles_8 : decode cX10_settles 8 = .ok (.aload_n 0, 1) := by decide +kernel
theorem dX10_settles_9 : decode cX10_settles 9 = .ok (.aload_n 0, 1) := by decide +kernel
theorem dX10_settles_10 : decode cX10_settles 10 = .ok (.getfield 98, 3) := by decide +kernel
theorem dX10_settles_13 : decode cX10_settles 13 = .ok (.putfield 124, 3) := by decide +kernel
theorem dX10_settles_16 : decode cX10_settles 16 = .ok (.aload_n 0, 1) := by decide +kernel
theorem dX10_settles_17 : decode cX10_settles 17 = .ok (.aload_n 0, 1) := by decide +kernel
theorem dX10_settles_18 : decode cX10_settles 18 = .ok (.getfield 115, 3) := by decide +kernel
theorem dX10_settles_21 : decode cX10_settles 21 = .ok (.putfield 127, 3) := by decide +kernel
theorem dX10_settles_24 : decode cX10_settles 24 = .ok (.aload_n 0, 1) := by decide +kernel
theorem dX10_settles_25 : decode cX10_settles 25 = .ok (.aload_n 0, 1) := by decide +kernel
theorem dX10_settles_26 : decode cX10_settles 26 = .ok (.getfield 118, 3) := by decide +kernel
theorem dX10_settles_29 : decode cX10_settles 29 = .ok (.putfield 130, 3) := by decide +kernel
theorem dX10_settles_32 : decode cX10_settles 32 = .ok (.iconst 0, 1) := by decide +kernel
theorem dX10_settles_33 : decode cX10_settles 33 = .ok (.istore_n 1, 1) := by decide +kernel
theorem dX10_settles_34 : decode cX10_settles 34 = .ok (.iload_n 1, 1) := by decide +kernel
theorem dX10_settles_35 : decode cX10_settles 35 = .ok (.bipush 24, 2) := by decide +kernel
theorem dX10_settles_37 : decode cX10_settles 37 = .ok (.if_icmp .ge 21, 3) := by decide +kernel
theorem dX10_settles_40 : decode cX10_settles 40 = .ok (.aload_n 0, 1) := by decide +kernel
theorem dX10_settles_41 : decode cX10_settles 41 = .ok (.getfield 7, 3) := by decide +kernel
theorem dX10_settles_44 : decode cX10_settles 44 = .ok (.iload_n 1, 1) := by decide +kernel
theorem dX10_settles_45 : decode cX10_settles 45 = .ok (.aload_n 0, 1) := by decide +kernel
theorem dX10_settles_46 : decode cX10_settles 46 = .ok (.getfield 34, 3) := by decide +kernel
theorem dX10_settles_49 : decode cX10_settles 49 = .ok (.iload_n 1, 1) := by decide +kernel
theorem dX10_settles_50 : decode cX10_settles 50 = .ok (.iaload, 1) := by decide +kernel
theorem dX10_settles_51 : decode cX10_settles 51 = .ok (.iastore, 1) := by decide +kernel
theorem dX10_settles_52 : decode cX10_settles 52 = .ok (.iinc 1 1, 3) := by decide +kernel
theorem dX10_settles_55 : decode cX10_settles 55 = .ok (.goto (-21), 3) := by decide +kernel
theorem dX10_settles_58 : decode cX10_settles 58 = .ok (.iconst 0, 1) := by decide +kernel
theorem dX10_settles_59 : decode cX10_settles 59 = .ok (.istore_n 1, 1) := by decide +kernel
theorem dX10_settles_60 : decode cX10_settles 60 = .ok (.iload_n 1, 1) := by decide +kernel
theorem dX10_settles_61 : decode cX10_settles 61 = .ok (.bipush 6, 2) := by decide +kernel
theorem dX10_settles_63 : decode cX10_settles 63 = .ok (.if_icmp .ge 57, 3) := by decide +kernel
theorem dX10_settles_66 : decode cX10_settles 66 = .ok (.aload_n 0, 1) := by decide +kernel
theorem dX10_settles_67 : decode cX10_settles 67 = .ok (.getfield 13, 3) := by decide +kernel
theorem dX10_settles_70 : decode cX10_settles 70 = .ok (.iload_n 1, 1) := by decide +kernel
theorem dX10_settles_71 : decode cX10_settles 71 = .ok (.aload_n 0, 1) := by decide +kernel
theorem dX10_settles_72 : decode cX10_settles 72 = .ok (.getfield 37, 3) := by decide +kernel
theorem dX10_settles_75 : decode cX10_settles 75 = .ok (.iload_n 1, 1) := by decide +kernel
theorem dX10_settles_76 : decode cX10_settles 76 = .ok (.iaload, 1) := by decide +kernel
theorem dX10_settles_77 : decode cX10_settles 77 = .ok (.iastore, 1) := by decide +kernel
theorem dX10_settles_78 : decode cX10_settles 78 = .ok (.aload_n 0, 1) := by decide +kernel
theorem dX10_settles_79 : decode cX10_settles 79 = .ok (.getfield 16, 3) := by decide +kernel
theorem dX10_settles_82 : decode cX10_settles 82 = .ok (.iload_n 1, 1) := by decide +kernel
theorem dX10_settles_83 : decode cX10_settles 83 = .ok (.aload_n 0, 1) := by decide +kernel
theorem dX10_settles_84 : decode cX10_settles 84 = .ok (.getfield 40, 3) := by decide +kernel
theorem dX10_settles_87 : decode cX10_settles 87 = .ok (.iload_n 1, 1) := by decide +kernel
theorem dX10_settles_88 : decode cX10_settles 88 = .ok (.iaload, 1) := by decide +kernel
theorem dX10_settles_89 : decode cX10_settles 89 = .ok (.iastore, 1) := by decide +kernel
theorem dX10_settles_90 : decode cX10_settles 90 = .ok (.aload_n 0, 1) := by decide +kernel
theorem dX10_settles_91 : decode cX10_settles 91 = .ok (.getfield 19, 3) := by decide +kernel
theorem dX10_settles_94 : decode cX10_settles 94 = .ok (.iload_n 1, 1) := by decide +kernel
theorem dX10_settles_95 : decode cX10_settles 95 = .ok (.aload_n 0, 1) := by decide +kernel
theorem dX10_settles_96 : decode cX10_settles 96 = .ok (.getfield 43, 3) := by decide +kernel
theorem dX10_settles_99 : decode cX10_settles 99 = .ok (.iload_n 1, 1) := by decide +kernel
theorem dX10_settles_100 : decode cX10_settles 100 = .ok (.iaload, 1) := by decide +kernel
theorem dX10_settles_101 : decode cX10_settles 101 = .ok (.iastore, 1) := by decide +kernel
theorem dX10_settles_102 : decode cX10_settles 102 = .ok (.aload_n 0, 1) := by decide +kernel
theorem dX10_settles_103 : decode cX10_settles 103 = .ok (.getfield 22, 3) := by decide +kernel
theorem dX10_settles_106 : decode cX10_settles 106 = .ok (.iload_n 1, 1) := by decide +kernel
theorem dX10_settles_107 : decode cX10_settles 107 = .ok (.aload_n 0, 1) := by decide +kernel
theorem dX10_settles_108 : decode cX10_settles 108 = .ok (.getfield 46, 3) := by decide +kernel
theorem dX10_settles_111 : decode cX10_settles 111 = .ok (.iload_n 1, 1) := by decide +kernel
theorem dX10_settles_112 : decode cX10_settles 112 = .ok (.iaload, 1) := by decide +kernel
theorem dX10_settles_113 : decode cX10_settles 113 = .ok (.iastore, 1) := by decide +kernel
theorem dX10_settles_114 : decode cX10_settles 114 = .ok (.iinc 1 1, 3) := by decide +kernel
theorem dX10_settles_117 : decode cX10_settles 117 = .ok (.goto (-57), 3) := by decide +kernel
theorem dX10_settles_120 : decode cX10_settles 120 = .ok (.iconst 0, 1) := by decide +kernel
theorem dX10_settles_121 : decode cX10_settles 121 = .ok (.istore_n 1, 1) := by decide +kernel
theorem dX10_settles_122 : decode cX10_settles 122 = .ok (.iload_n 1, 1) := by decide +kernel
theorem dX10_settles_123 : decode cX10_settles 123 = .ok (.iconst 3, 1) := by decide +kernel
theorem dX10_settles_124 : decode cX10_settles 124 = .ok (.if_icmp .ge 45, 3) := by decide +kernel
theorem dX10_settles_127 : decode cX10_settles 127 = .ok (.aload_n 0, 1) := by decide +kernel
theorem dX10_settles_128 : decode cX10_settles 128 = .ok (.getfield 25, 3) := by decide +kernel
theorem dX10_settles_131 : decode cX10_settles 131 = .ok (.iload_n 1, 1) := by decide +kernel
theorem dX10_settles_132 : decode cX10_settles 132 = .ok (.aload_n 0, 1) := by decide +kernel
theorem dX10_settles_133 : decode cX10_settles 133 = .ok (.getfield 49, 3) := by decide +kernel
theorem dX10_settles_136 : decode cX10_settles 136 = .ok (.iload_n 1, 1) := by decide +kernel
theorem dX10_settles_137 : decode cX10_settles 137 = .ok (.iaload, 1) := by decide +kernel
theorem dX10_settles_138 : decode cX10_settles 138 = .ok (.iastore, 1) := by decide +kernel
theorem dX10_settles_139 : decode cX10_settles 139 = .ok (.aload_n 0, 1) := by decide +kernel
theorem dX10_settles_140 : decode cX10_settles 140 = .ok (.getfield 28, 3) := by decide +kernel
theorem dX10_settles_143 : decode cX10_settles 143 = .ok (.iload_n 1, 1) := by decide +kernel
theorem dX10_settles_144 : decode cX10_settles 144 = .ok (.aload_n 0, 1) := by decide +kernel
theorem dX10_settles_145 : decode cX10_settles 145 = .ok (.getfield 52, 3) := by decide +kernel
theorem dX10_settles_148 : decode cX10_settles 148 = .ok (.iload_n 1, 1) := by decide +kernel
theorem dX10_settles_149 : decode cX10_settles 149 = .ok (.iaload, 1) := by decide +kernel
theorem dX10_settles_150 : decode cX10_settles 150 = .ok (.iastore, 1) := by decide +kernel
theorem dX10_settles_151 : decode cX10_settles 151 = .ok (.aload_n 0, 1) := by decide +kernel
theorem dX10_settles_152 : decode cX10_settles 152 = .ok (.getfield 31, 3) := by decide +kernel
theorem dX10_settles_155 : decode cX10_settles 155 = .ok (.iload_n 1, 1) := by decide +kernel
theorem dX10_settles_156 : decode cX10_settles 156 = .ok (.aload_n 0, 1) := by decide +kernel
theorem dX10_settles_157 : decode cX10_settles 157 = .ok (.getfield 55, 3) := by decide +kernel
theorem dX10_settles_160 : decode cX10_settles 160 = .ok (.iload_n 1, 1) := by decide +kernel
theorem dX10_settles_161 : decode cX10_settles 161 = .ok (.iaload, 1) := by decide +kernel
theorem dX10_settles_162 : decode cX10_settles 162 = .ok (.iastore, 1) := by decide +kernel
theorem dX10_settles_163 : decode cX10_settles 163 = .ok (.iinc 1 1, 3) := by decide +kernel
theorem dX10_settles_166 : decode cX10_settles 166 = .ok (.goto (-44), 3) := by decide +kernel
theorem dX10_settles_169 : decode cX10_settles 169 = .ok (.aload_n 0, 1) := by decide +kernel
theorem dX10_settles_170 : decode cX10_settles 170 = .ok (.iconst 0, 1) := by decide +kernel
theorem dX10_settles_171 : decode cX10_settles 171 = .ok (.invokevirtual 133, 3) := by decide +kernel
theorem dX10_settles_174 : decode cX10_settles 174 = .ok (.iconst 0, 1) := by decide +kernel
theorem dX10_settles_175 : decode cX10_settles 175 = .ok (.istore_n 1, 1) := by decide +kernel
theorem dX10_settles_176 : decode cX10_settles 176 = .ok (.iload_n 1, 1) := by decide +kernel
theorem dX10_settles_177 : decode cX10_settles 177 = .ok (.iconst 3, 1) := by decide +kernel
theorem dX10_settles_178 : decode cX10_settles 178 = .ok (.if_icmp .ge 24, 3) := by decide +kernel
theorem dX10_settles_181 : decode cX10_settles 181 = .ok (.aload_n 0, 1) := by decide +kernel
theorem dX10_settles_182 : decode cX10_settles 182 = .ok (.getfield 61, 3) := by decide +kernel
theorem dX10_settles_185 : decode cX10_settles 185 = .ok (.bipush 27, 2) := by decide +kernel
theorem dX10_settles_187 : decode cX10_settles 187 = .ok (.iload_n 1, 1) := by decide +kernel
theorem dX10_settles_188 : decode cX10_settles 188 = .ok (.iadd, 1) := by decide +kernel
theorem dX10_settles_189 : decode cX10_settles 189 = .ok (.aload_n 0, 1) := by decide +kernel
theorem dX10_settles_190 : decode cX10_settles 190 = .ok (.getfield 58, 3) := by decide +kernel
theorem dX10_settles_193 : decode cX10_settles 193 = .ok (.iload_n 1, 1) := by decide +kernel
theorem dX10_settles_194 : decode cX10_settles 194 = .ok (.iaload, 1) := by decide +kernel
theorem dX10_settles_195 : decode cX10_settles 195 = .ok (.iastore, 1) := by decide +kernel
theorem dX10_settles_196 : decode cX10_settles 196 = .ok (.iinc 1 1, 3) := by decide +kernel
theorem dX10_settles_199 : decode cX10_settles 199 = .ok (.goto (-23), 3) := by decide +kernel
theorem dX10_settles_202 : decode cX10_settles 202 = .ok (.return_, 1) := by decide +kernel
theorem dX10_begins_0 : decode cX10_begins 0 = .ok (.iconst 0, 1) := by decide +kernel
theorem dX10_begins_1 : decode cX10_begins 1 = .ok (.istore_n 2, 1) := by decide +kernel
theorem dX10_begins_2 : decode cX10_begins 2 = .ok (.iload_n 2, 1) := by decide +kernel
theorem dX10_begins_3 : decode cX10_begins 3 = .ok (.bipush 24, 2) := by decide +kernel
theorem dX10_begins_5 : decode cX10_begins 5 = .ok (.if_icmp .ge 23, 3) := by decide +kernel
theorem dX10_begins_8 : decode cX10_begins 8 = .ok (.aload_n 0, 1) := by decide +kernel
theorem dX10_begins_9 : decode cX10_begins 9 = .ok (.getfield 61, 3) := by decide +kernel
theorem dX10_begins_12 : decode cX10_begins 12 = .ok (.iload_n 1, 1) := by decide +kernel
theorem dX10_begins_13 : decode cX10_begins 13 = .ok (.iload_n 2, 1) := by decide +kernel
theorem dX10_begins_14 : decode cX10_begins 14 = .ok (.iadd, 1) := by decide +kernel
theorem dX10_begins_15 : decode cX10_begins 15 = .ok (.aload_n 0, 1) := by decide +kernel
theorem dX10_begins_16 : decode cX10_begins 16 = .ok (.getfield 7, 3) := by decide +kernel
theorem dX10_begins_19 : decode cX10_begins 19 = .ok (.iload_n 2, 1) := by decide +kernel
theorem dX10_begins_20 : decode cX10_begins 20 = .ok (.iaload, 1) := by decide +kernel
theorem dX10_begins_21 : decode cX10_begins 21 = .ok (.iastore, 1) := by decide +kernel
theorem dX10_begins_22 : decode cX10_begins 22 = .ok (.iinc 2 1, 3) := by decide +kernel
theorem dX10_begins_25 : decode cX10_begins 25 = .ok (.goto (-23), 3) := by decide +kernel
theorem dX10_begins_28 : decode cX10_begins 28 = .ok (.iconst 0, 1) := by decide +kernel
theorem dX10_begins_29 : decode cX10_begins 29 = .ok (.istore_n 2, 1) := by decide +kernel
theorem dX10_begins_30 : decode cX10_begins 30 = .ok (.iload_n 2, 1) := by decide +kernel
theorem dX10_begins_31 : decode cX10_begins 31 = .ok (.iconst 3, 1) := by decide +kernel
theorem dX10_begins_32 : decode cX10_begins 32 = .ok (.if_icmp .ge 38, 3) := by decide +kernel
theorem dX10_begins_35 : decode cX10_begins 35 = .ok (.aload_n 0, 1) := by decide +kernel
theorem dX10_begins_36 : decode cX10_begins 36 = .ok (.getfield 61, 3) := by decide +kernel
theorem dX10_begins_39 : decode cX10_begins 39 = .ok (.iload_n 1, 1) := by decide +kernel
theorem dX10_begins_40 : decode cX10_begins 40 = .ok (.bipush 24, 2) := by decide +kernel
theorem dX10_begins_42 : decode cX10_begins 42 = .ok (.iadd, 1) := by decide +kernel
theorem dX10_begins_43 : decode cX10_begins 43 = .ok (.iload_n 2, 1) := by decide +kernel
theorem dX10_begins_44 : decode cX10_begins 44 = .ok (.iadd, 1) := by decide +kernel
theorem dX10_begins_45 : decode cX10_begins 45 = .ok (.iload_n 2, 1) := by decide +kernel
theorem dX10_begins_46 : decode cX10_begins 46 = .ok (.aload_n 0, 1) := by decide +kernel
theorem dX10_begins_47 : decode cX10_begins 47 = .ok (.getfield 130, 3) := by decide +kernel
theorem dX10_begins_50 : decode cX10_begins 50 = .ok (.if_icmp .ge 12, 3) := by decide +kernel
theorem dX10_begins_53 : decode cX10_begins 53 = .ok (.aload_n 0, 1) := by decide +kernel
theorem dX10_begins_54 : decode cX10_begins 54 = .ok (.getfield 31, 3) := by decide +kernel
theorem dX10_begins_57 : decode cX10_begins 57 = .ok (.iload_n 2, 1) := by decide +kernel
theorem dX10_begins_58 : decode cX10_begins 58 = .ok (.iaload, 1) := by decide +kernel
theorem dX10_begins_59 : decode cX10_begins 59 = .ok (.goto 4, 3) := by decide +kernel
theorem dX10_begins_62 : decode cX10_begins 62 = .ok (.iconst 0, 1) := by decide +kernel
theorem dX10_begins_63 : decode cX10_begins 63 = .ok (.iastore, 1) := by decide +kernel
theorem dX10_begins_64 : decode cX10_begins 64 = .ok (.iinc 2 1, 3) := by decide +kernel
theorem dX10_begins_67 : decode cX10_begins 67 = .ok (.goto (-37), 3) := by decide +kernel
theorem dX10_begins_70 : decode cX10_begins 70 = .ok (.aload_n 0, 1) := by decide +kernel
theorem dX10_begins_71 : decode cX10_begins 71 = .ok (.getfield 61, 3) := by decide +kernel
theorem dX10_begins_74 : decode cX10_begins 74 = .ok (.iload_n 1, 1) := by decide +kernel
theorem dX10_begins_75 : decode cX10_begins 75 = .ok (.bipush 30, 2) := by decide +kernel
theorem dX10_begins_77 : decode cX10_begins 77 = .ok (.iadd, 1) := by decide +kernel
theorem dX10_begins_78 : decode cX10_begins 78 = .ok (.iconst 0, 1) := by decide +kernel
theorem dX10_begins_79 : decode cX10_begins 79 = .ok (.iastore, 1) := by decide +kernel
theorem dX10_begins_80 : decode cX10_begins 80 = .ok (.aload_n 0, 1) := by decide +kernel
theorem dX10_begins_81 : decode cX10_begins 81 = .ok (.getfield 61, 3) := by decide +kernel
theorem dX10_begins_84 : decode cX10_begins 84 = .ok (.iload_n 1, 1) := by decide +kernel
theorem dX10_begins_85 : decode cX10_begins 85 = .ok (.bipush 31, 2) := by decide +kernel
theorem dX10_begins_87 : decode cX10_begins 87 = .ok (.iadd, 1) := by decide +kernel
theorem dX10_begins_88 : decode cX10_begins 88 = .ok (.iconst 0, 1) := by decide +kernel
theorem dX10_begins_89 : decode cX10_begins 89 = .ok (.iastore, 1) := by decide +kernel
theorem dX10_begins_90 : decode cX10_begins 90 = .ok (.return_, 1) := by decide +kernel
theorem dX10_copies_0 : decode cX10_copies 0 = .ok (.iconst 0, 1) := by decide +kernel
theorem dX10_copies_1 : decode cX10_copies 1 = .ok (.istore_n 3, 1) := by decide +kernel
theorem dX10_copies_2 : decode cX10_copies 2 = .ok (.iload_n 3, 1) := by decide +kernel
theorem dX10_copies_3 : decode cX10_copies 3 = .ok (.bipush 32, 2) := by decide +kernel
theorem dX10_copies_5 : decode cX10_copies 5 = .ok (.if_icmp .ge 25, 3) := by decide +kernel
theorem dX10_copies_8 : decode cX10_copies 8 = .ok (.aload_n 0, 1) := by decide +kernel
theorem dX10_copies_9 : decode cX10_copies 9 = .ok (.getfield 61, 3) := by decide +kernel
theorem dX10_copies_12 : decode cX10_copies 12 = .ok (.iload_n 2, 1) := by decide +kernel
theorem dX10_copies_13 : decode cX10_copies 13 = .ok (.iload_n 3, 1) := by decide +kernel
theorem dX10_copies_14 : decode cX10_copies 14 = .ok (.iadd, 1) := by decide +kernel
theorem dX10_copies_15 : decode cX10_copies 15 = .ok (.aload_n 0, 1) := by decide +kernel
theorem dX10_copies_16 : decode cX10_copies 16 = .ok (.getfield 61, 3) := by decide +kernel
theorem dX10_copies_19 : decode cX10_copies 19 = .ok (.iload_n 1, 1) := by decide +kernel
theorem dX10_copies_20 : decode cX10_copies 20 = .ok (.iload_n 3, 1) := by decide +kernel
theorem dX10_copies_21 : decode cX10_copies 21 = .ok (.iadd, 1) := by decide +kernel
theorem dX10_copies_22 : decode cX10_copies 22 = .ok (.iaload, 1) := by decide +kernel
theorem dX10_copies_23 : decode cX10_copies 23 = .ok (.iastore, 1) := by decide +kernel
theorem dX10_copies_24 : decode cX10_copies 24 = .ok (.iinc 3 1, 3) := by decide +kernel
theorem dX10_copies_27 : decode cX10_copies 27 = .ok (.goto (-25), 3) := by decide +kernel
theorem dX10_copies_30 : decode cX10_copies 30 = .ok (.return_, 1) := by decide +kernel
theorem dX10_isCell_0 : decode cX10_isCell 0 = .ok (.iload_n 1, 1) := by decide +kernel
theorem dX10_isCell_1 : decode cX10_isCell 1 = .ok (.i2l, 1) := by decide +kernel
theorem dX10_isCell_2 : decode cX10_isCell 2 = .ok (.lconst 0, 1) := by decide +kernel
theorem dX10_isCell_3 : decode cX10_isCell 3 = .ok (.aload_n 0, 1) := by decide +kernel
theorem dX10_isCell_4 : decode cX10_isCell 4 = .ok (.getfield 121, 3) := by decide +kernel
theorem dX10_isCell_7 : decode cX10_isCell 7 = .ok (.iconst 1, 1) := by decide +kernel
theorem dX10_isCell_8 : decode cX10_isCell 8 = .ok (.isub, 1) := by decide +kernel
theorem dX10_isCell_9 : decode cX10_isCell 9 = .ok (.i2l, 1) := by decide +kernel
theorem dX10_isCell_10 : decode cX10_isCell 10 = .ok (.invokestatic 137, 3) := by decide +kernel
theorem dX10_isCell_13 : decode cX10_isCell 13 = .ok (.ireturn, 1) := by decide +kernel
theorem dX10_isCase_0 : decode cX10_isCase 0 = .ok (.iload_n 1, 1) := by decide +kernel
theorem dX10_isCase_1 : decode cX10_isCase 1 = .ok (.i2l, 1) := by decide +kernel
theorem dX10_isCase_2 : decode cX10_isCase 2 = .ok (.lconst 0, 1) := by decide +kernel
theorem dX10_isCase_3 : decode cX10_isCase 3 = .ok (.aload_n 0, 1) := by decide +kernel
theorem dX10_isCase_4 : decode cX10_isCase 4 = .ok (.getfield 127, 3) := by decide +kernel
theorem dX10_isCase_7 : decode cX10_isCase 7 = .ok (.iconst 1, 1) := by decide +kernel
theorem dX10_isCase_8 : decode cX10_isCase 8 = .ok (.isub, 1) := by decide +kernel
theorem dX10_isCase_9 : decode cX10_isCase 9 = .ok (.i2l, 1) := by decide +kernel
theorem dX10_isCase_10 : decode cX10_isCase 10 = .ok (.invokestatic 137, 3) := by decide +kernel
theorem dX10_isCase_13 : decode cX10_isCase 13 = .ok (.ireturn, 1) := by decide +kernel
theorem dX10_isMaid_0 : decode cX10_isMaid 0 = .ok (.iload_n 1, 1) := by decide +kernel
theorem dX10_isMaid_1 : decode cX10_isMaid 1 = .ok (.i2l, 1) := by decide +kernel
theorem dX10_isMaid_2 : decode cX10_isMaid 2 = .ok (.lconst 0, 1) := by decide +kernel
theorem dX10_isMaid_3 : decode cX10_isMaid 3 = .ok (.aload_n 0, 1) := by decide +kernel
theorem dX10_isMaid_4 : decode cX10_isMaid 4 = .ok (.getfield 130, 3) := by decide +kernel
theorem dX10_isMaid_7 : decode cX10_isMaid 7 = .ok (.iconst 1, 1) := by decide +kernel
theorem dX10_isMaid_8 : decode cX10_isMaid 8 = .ok (.isub, 1) := by decide +kernel
theorem dX10_isMaid_9 : decode cX10_isMaid 9 = .ok (.i2l, 1) := by decide +kernel
theorem dX10_isMaid_10 : decode cX10_isMaid 10 = .ok (.invokestatic 137, 3) := by decide +kernel
theorem dX10_isMaid_13 : decode cX10_isMaid 13 = .ok (.ireturn, 1) := by decide +kernel
theorem dX10_write_0 : decode cX10_write 0 = .ok (.iload_n 1, 1) := by decide +kernel
theorem dX10_write_1 : decode cX10_write 1 = .ok (.i2l, 1) := by decide +kernel
theorem dX10_write_2 : decode cX10_write 2 = .ok (.ldc2_w 141, 3) := by decide +kernel
theorem dX10_write_5 : decode cX10_write 5 = .ok (.ldc2_w 143, 3) := by decide +kernel
theorem dX10_write_8 : decode cX10_write 8 = .ok (.invokestatic 137, 3) := by decide +kernel
theorem dX10_write_11 : decode cX10_write 11 = .ok (.ifCond .ne 5, 3) := by decide +kernel
theorem dX10_write_14 : decode cX10_write 14 = .ok (.iconst (-1), 1) := by decide +kernel
theorem dX10_write_15 : decode cX10_write 15 = .ok (.ireturn, 1) := by decide +kernel
theorem dX10_write_16 : decode cX10_write 16 = .ok (.aload_n 0, 1) := by decide +kernel
theorem dX10_write_17 : decode cX10_write 17 = .ok (.getfield 145, 3) := by decide +kernel
theorem dX10_write_20 : decode cX10_write 20 = .ok (.sipush 200, 3) := by decide +kernel
theorem dX10_write_23 : decode cX10_write 23 = .ok (.if_icmp .ne 6, 3) := by decide +kernel
theorem dX10_write_26 : decode cX10_write 26 = .ok (.bipush (-3), 2) := by decide +kernel
theorem dX10_write_28 : decode cX10_write 28 = .ok (.ireturn, 1) := by decide +kernel
theorem dX10_write_29 : decode cX10_write 29 = .ok (.aload_n 0, 1) := by decide +kernel
theorem dX10_write_30 : decode cX10_write 30 = .ok (.getfield 64, 3) := by decide +kernel
theorem dX10_write_33 : decode cX10_write 33 = .ok (.aload_n 0, 1) := by decide +kernel
theorem dX10_write_34 : decode cX10_write 34 = .ok (.getfield 145, 3) := by decide +kernel
theorem dX10_write_37 : decode cX10_write 37 = .ok (.iload_n 1, 1) := by decide +kernel
theorem dX10_write_38 : decode cX10_write 38 = .ok (.i2b, 1) := by decide +kernel
theorem dX10_write_39 : decode cX10_write 39 = .ok (.bastore, 1) := by decide +kernel
theorem dX10_write_40 : decode cX10_write 40 = .ok (.aload_n 0, 1) := by decide +kernel
theorem dX10_write_41 : decode cX10_write 41 = .ok (.dup, 1) := by decide +kernel
theorem dX10_write_42 : decode cX10_write 42 = .ok (.getfield 145, 3) := by decide +kernel
theorem dX10_write_45 : decode cX10_write 45 = .ok (.iconst 1, 1) := by decide +kernel
theorem dX10_write_46 : decode cX10_write 46 = .ok (.iadd, 1) := by decide +kernel
theorem dX10_write_47 : decode cX10_write 47 = .ok (.putfield 145, 3) := by decide +kernel
theorem dX10_write_50 : decode cX10_write 50 = .ok (.aload_n 0, 1) := by decide +kernel
theorem dX10_write_51 : decode cX10_write 51 = .ok (.getfield 145, 3) := by decide +kernel
theorem dX10_write_54 : decode cX10_write 54 = .ok (.ireturn, 1) := by decide +kernel
theorem dX10_wipe_0 : decode cX10_wipe 0 = .ok (.aload_n 0, 1) := by decide +kernel
theorem dX10_wipe_1 : decode cX10_wipe 1 = .ok (.getfield 145, 3) := by decide +kernel
theorem dX10_wipe_4 : decode cX10_wipe 4 = .ok (.istore_n 1, 1) := by decide +kernel
theorem dX10_wipe_5 : decode cX10_wipe 5 = .ok (.aload_n 0, 1) := by decide +kernel
theorem dX10_wipe_6 : decode cX10_wipe 6 = .ok (.iconst 0, 1) := by decide +kernel
theorem dX10_wipe_7 : decode cX10_wipe 7 = .ok (.putfield 145, 3) := by decide +kernel
theorem dX10_wipe_10 : decode cX10_wipe 10 = .ok (.iload_n 1, 1) := by decide +kernel
theorem dX10_wipe_11 : decode cX10_wipe 11 = .ok (.ireturn, 1) := by decide +kernel
theorem dX10_next_0 : decode cX10_next 0 = .ok (.aload_n 0, 1) := by decide +kernel
theorem dX10_next_1 : decode cX10_next 1 = .ok (.getfield 148, 3) := by decide +kernel
theorem dX10_next_4 : decode cX10_next 4 = .ok (.aload_n 0, 1) := by decide +kernel
theorem dX10_next_5 : decode cX10_next 5 = .ok (.getfield 145, 3) := by decide +kernel
theorem dX10_next_8 : decode cX10_next 8 = .ok (.if_icmp .ge 15, 3) := by decide +kernel
theorem dX10_next_11 : decode cX10_next 11 = .ok (.aload_n 0, 1) := by decide +kernel
theorem dX10_next_12 : decode cX10_next 12 = .ok (.getfield 64, 3) := by decide +kernel
theorem dX10_next_15 : decode cX10_next 15 = .ok (.aload_n 0, 1) := by decide +kernel
theorem dX10_next_16 : decode cX10_next 16 = .ok (.getfield 148, 3) := by decide +kernel
theorem dX10_next_19 : decode cX10_next 19 = .ok (.baload, 1) := by decide +kernel
theorem dX10_next_20 : decode cX10_next 20 = .ok (.goto 4, 3) := by decide +kernel
theorem dX10_next_23 : decode cX10_next 23 = .ok (.iconst (-1), 1) := by decide +kernel
theorem dX10_next_24 : decode cX10_next 24 = .ok (.ireturn, 1) := by decide +kernel
theorem dX10_number_0 : decode cX10_number 0 = .ok (.iconst 0, 1) := by decide +kernel
theorem dX10_number_1 : decode cX10_number 1 = .ok (.istore_n 3, 1) := by decide +kernel
theorem dX10_number_2 : decode cX10_number 2 = .ok (.iconst 0, 1) := by decide +kernel
theorem dX10_number_3 : decode cX10_number 3 = .ok (.istore 4, 2) := by decide +kernel
theorem dX10_number_5 : decode cX10_number 5 = .ok (.aload_n 0, 1) := by decide +kernel
theorem dX10_number_6 : decode cX10_number 6 = .ok (.invokevirtual 151, 3) := by decide +kernel
theorem dX10_number_9 : decode cX10_number 9 = .ok (.i2l, 1) := by decide +kernel
theorem dX10_number_10 : decode cX10_number 10 = .ok (.ldc2_w 155, 3) := by decide +kernel
theorem dX10_number_13 : decode cX10_number 13 = .ok (.ldc2_w 157, 3) := by decide +kernel
theorem dX10_number_16 : decode cX10_number 16 = .ok (.invokestatic 137, 3) := by decide +kernel
theorem dX10_number_19 : decode cX10_number 19 = .ok (.ifCond .eq 38, 3) := by decide +kernel
theorem dX10_number_22 : decode cX10_number 22 = .ok (.iload 4, 2) := by decide +kernel
theorem dX10_number_24 : decode cX10_number 24 = .ok (.iconst 3, 1) := by decide +kernel
theorem dX10_number_25 : decode cX10_number 25 = .ok (.if_icmp .ge 32, 3) := by decide +kernel
theorem dX10_number_28 : decode cX10_number 28 = .ok (.bipush 10, 2) := by decide +kernel
theorem dX10_number_30 : decode cX10_number 30 = .ok (.iload_n 3, 1) := by decide +kernel
theorem dX10_number_31 : decode cX10_number 31 = .ok (.imul, 1) := by decide +kernel
theorem dX10_number_32 : decode cX10_number 32 = .ok (.aload_n 0, 1) := by decide +kernel
theorem dX10_number_33 : decode cX10_number 33 = .ok (.invokevirtual 151, 3) := by decide +kernel
theorem dX10_number_36 : decode cX10_number 36 = .ok (.iadd, 1) := by decide +kernel
theorem dX10_number_37 : decode cX10_number 37 = .ok (.bipush 48, 2) := by decide +kernel
theorem dX10_number_39 : decode cX10_number 39 = .ok (.isub, 1) := by decide +kernel
theorem dX10_number_40 : decode cX10_number 40 = .ok (.istore_n 3, 1) := by decide +kernel
theorem dX10_number_41 : decode cX10_number 41 = .ok (.iinc 4 1, 3) := by decide +kernel
theorem dX10_number_44 : decode cX10_number 44 = .ok (.aload_n 0, 1) := by decide +kernel
theorem dX10_number_45 : decode cX10_number 45 = .ok (.dup, 1) := by decide +kernel
theorem dX10_number_46 : decode cX10_number 46 = .ok (.getfield 148, 3) := by decide +kernel
theorem dX10_number_49 : decode cX10_number 49 = .ok (.iconst 1, 1) := by decide +kernel
theorem dX10_number_50 : decode cX10_number 50 = .ok (.iadd, 1) := by decide +kernel
theorem dX10_number_51 : decode cX10_number 51 = .ok (.putfield 148, 3) := by decide +kernel
theorem dX10_number_54 : decode cX10_number 54 = .ok (.goto (-49), 3) := by decide +kernel
theorem dX10_number_57 : decode cX10_number 57 = .ok (.aload_n 0, 1) := by decide +kernel
theorem dX10_number_58 : decode cX10_number 58 = .ok (.aload_n 0, 1) := by decide +kernel
theorem dX10_number_59 : decode cX10_number 59 = .ok (.getfield 159, 3) := by decide +kernel
theorem dX10_number_62 : decode cX10_number 62 = .ok (.ifCond .ne 26, 3) := by decide +kernel
theorem dX10_number_65 : decode cX10_number 65 = .ok (.iload 4, 2) := by decide +kernel
theorem dX10_number_67 : decode cX10_number 67 = .ok (.ifCond .eq 21, 3) := by decide +kernel
theorem dX10_number_70 : decode cX10_number 70 = .ok (.iload 4, 2) := by decide +kernel
theorem dX10_number_72 : decode cX10_number 72 = .ok (.iconst 2, 1) := by decide +kernel
theorem dX10_number_73 : decode cX10_number 73 = .ok (.if_icmp .gt 15, 3) := by decide +kernel
theorem dX10_number_76 : decode cX10_number 76 = .ok (.iload_n 3, 1) := by decide +kernel
theorem dX10_number_77 : decode cX10_number 77 = .ok (.i2l, 1) := by decide +kernel
theorem dX10_number_78 : decode cX10_number 78 = .ok (.iload_n 1, 1) := by decide +kernel
theorem dX10_number_79 : decode cX10_number 79 = .ok (.i2l, 1) := by decide +kernel
theorem dX10_number_80 : decode cX10_number 80 = .ok (.iload_n 2, 1) := by decide +kernel
theorem dX10_number_81 : decode cX10_number 81 = .ok (.i2l, 1) := by decide +kernel
theorem dX10_number_82 : decode cX10_number 82 = .ok (.invokestatic 137, 3) := by decide +kernel
theorem dX10_number_85 : decode cX10_number 85 = .ok (.ifCond .ne 7, 3) := by decide +kernel
theorem dX10_number_88 : decode cX10_number 88 = .ok (.iconst 1, 1) := by decide +kernel
theorem dX10_number_89 : decode cX10_number 89 = .ok (.goto 4, 3) := by decide +kernel
theorem dX10_number_92 : decode cX10_number 92 = .ok (.iconst 0, 1) := by decide +kernel
theorem dX10_number_93 : decode cX10_number 93 = .ok (.putfield 159, 3) := by decide +kernel
theorem dX10_number_96 : decode cX10_number 96 = .ok (.aload_n 0, 1) := by decide +kernel
theorem dX10_number_97 : decode cX10_number 97 = .ok (.getfield 159, 3) := by decide +kernel
theorem dX10_number_100 : decode cX10_number 100 = .ok (.ifCond .eq 7, 3) := by decide +kernel
theorem dX10_number_103 : decode cX10_number 103 = .ok (.iconst 0, 1) := by decide +kernel
theorem dX10_number_104 : decode cX10_number 104 = .ok (.goto 4, 3) := by decide +kernel
theorem dX10_number_107 : decode cX10_number 107 = .ok (.iload_n 3, 1) := by decide +kernel
theorem dX10_number_108 : decode cX10_number 108 = .ok (.ireturn, 1) := by decide +kernel
theorem dX10_more_0 : decode cX10_more 0 = .ok (.aload_n 0, 1) := by decide +kernel
theorem dX10_more_1 : decode cX10_more 1 = .ok (.aload_n 0, 1) := by decide +kernel
theorem dX10_more_2 : decode cX10_more 2 = .ok (.getfield 159, 3) := by decide +kernel
theorem dX10_more_5 : decode cX10_more 5 = .ok (.ifCond .ne 12, 3) := by decide +kernel
theorem dX10_more_8 : decode cX10_more 8 = .ok (.aload_n 0, 1) := by decide +kernel
theorem dX10_more_9 : decode cX10_more 9 = .ok (.invokevirtual 151, 3) := by decide +kernel
theorem dX10_more_12 : decode cX10_more 12 = .ok (.bipush 44, 2) := by decide +kernel
theorem dX10_more_14 : decode cX10_more 14 = .ok (.if_icmp .eq 7, 3) := by decide +kernel
theorem dX10_more_17 : decode cX10_more 17 = .ok (.iconst 1, 1) := by decide +kernel
theorem dX10_more_18 : decode cX10_more 18 = .ok (.goto 4, 3) := by decide +kernel
theorem dX10_more_21 : decode cX10_more 21 = .ok (.iconst 0, 1) := by decide +kernel
theorem dX10_more_22 : decode cX10_more 22 = .ok (.putfield 159, 3) := by decide +kernel
theorem dX10_more_25 : decode cX10_more 25 = .ok (.aload_n 0, 1) := by decide +kernel
theorem dX10_more_26 : decode cX10_more 26 = .ok (.dup, 1) := by decide +kernel
theorem dX10_more_27 : decode cX10_more 27 = .ok (.getfield 148, 3) := by decide +kernel
theorem dX10_more_30 : decode cX10_more 30 = .ok (.iconst 1, 1) := by decide +kernel
theorem dX10_more_31 : decode cX10_more 31 = .ok (.iadd, 1) := by decide +kernel
theorem dX10_more_32 : decode cX10_more 32 = .ok (.putfield 148, 3) := by decide +kernel
theorem dX10_more_35 : decode cX10_more 35 = .ok (.aload_n 0, 1) := by decide +kernel
theorem dX10_more_36 : decode cX10_more 36 = .ok (.getfield 159, 3) := by decide +kernel
theorem dX10_more_39 : decode cX10_more 39 = .ok (.ifCond .eq 7, 3) := by decide +kernel
theorem dX10_more_42 : decode cX10_more 42 = .ok (.iconst 0, 1) := by decide +kernel
theorem dX10_more_43 : decode cX10_more 43 = .ok (.goto 9, 3) := by decide +kernel
theorem dX10_more_46 : decode cX10_more 46 = .ok (.aload_n 0, 1) := by decide +kernel
theorem dX10_more_47 : decode cX10_more 47 = .ok (.iload_n 1, 1) := by decide +kernel
theorem dX10_more_48 : decode cX10_more 48 = .ok (.iload_n 2, 1) := by decide +kernel
theorem dX10_more_49 : decode cX10_more 49 = .ok (.invokevirtual 163, 3) := by decide +kernel
theorem dX10_more_52 : decode cX10_more 52 = .ok (.ireturn, 1) := by decide +kernel
theorem dX10_rowItem_0 : decode cX10_rowItem 0 = .ok (.aload_n 0, 1) := by decide +kernel
theorem dX10_rowItem_1 : decode cX10_rowItem 1 = .ok (.aload_n 0, 1) := by decide +kernel
theorem dX10_rowItem_2 : decode cX10_rowItem 2 = .ok (.getfield 98, 3) := by decide +kernel
theorem dX10_rowItem_5 : decode cX10_rowItem 5 = .ok (.ifCond .le 20, 3) := by decide +kernel
theorem dX10_rowItem_8 : decode cX10_rowItem 8 = .ok (.aload_n 0, 1) := by decide +kernel
theorem dX10_rowItem_9 : decode cX10_rowItem 9 = .ok (.getfield 102, 3) := by decide +kernel
theorem dX10_rowItem_12 : decode cX10_rowItem 12 = .ok (.iconst 4, 1) := by decide +kernel
theorem dX10_rowItem_13 : decode cX10_rowItem 13 = .ok (.aload_n 0, 1) := by decide +kernel
theorem dX10_rowItem_14 : decode cX10_rowItem 14 = .ok (.getfield 98, 3) := by decide +kernel
theorem dX10_rowItem_17 : decode cX10_rowItem 17 = .ok (.imul, 1) := by decide +kernel
theorem dX10_rowItem_18 : decode cX10_rowItem 18 = .ok (.if_icmp .ne 7, 3) := by decide +kernel
theorem dX10_rowItem_21 : decode cX10_rowItem 21 = .ok (.iconst 1, 1) := by decide +kernel
theorem dX10_rowItem_22 : decode cX10_rowItem 22 = .ok (.goto 4, 3) := by decide +kernel
theorem dX10_rowItem_25 : decode cX10_rowItem 25 = .ok (.iconst 0, 1) := by decide +kernel
theorem dX10_rowItem_26 : decode cX10_rowItem 26 = .ok (.putfield 159, 3) := by decide +kernel
theorem dX10_rowItem_29 : decode cX10_rowItem 29 = .ok (.iconst 0, 1) := by decide +kernel
theorem dX10_rowItem_30 : decode cX10_rowItem 30 = .ok (.istore_n 1, 1) := by decide +kernel
theorem dX10_rowItem_31 : decode cX10_rowItem 31 = .ok (.aload_n 0, 1) := by decide +kernel
theorem dX10_rowItem_32 : decode cX10_rowItem 32 = .ok (.invokevirtual 151, 3) := by decide +kernel
theorem dX10_rowItem_35 : decode cX10_rowItem 35 = .ok (.i2l, 1) := by decide +kernel
theorem dX10_rowItem_36 : decode cX10_rowItem 36 = .ok (.ldc2_w 155, 3) := by decide +kernel
theorem dX10_rowItem_39 : decode cX10_rowItem 39 = .ok (.ldc2_w 157, 3) := by decide +kernel
theorem dX10_rowItem_42 : decode cX10_rowItem 42 = .ok (.invokestatic 137, 3) := by decide +kernel
theorem dX10_rowItem_45 : decode cX10_rowItem 45 = .ok (.ifCond .eq 61, 3) := by decide +kernel
theorem dX10_rowItem_48 : decode cX10_rowItem 48 = .ok (.iload_n 1, 1) := by decide +kernel
theorem dX10_rowItem_49 : decode cX10_rowItem 49 = .ok (.bipush 7, 2) := by decide +kernel
theorem dX10_rowItem_51 : decode cX10_rowItem 51 = .ok (.if_icmp .ge 55, 3) := by decide +kernel
theorem dX10_rowItem_54 : decode cX10_rowItem 54 = .ok (.aload_n 0, 1) := by decide +kernel
theorem dX10_rowItem_55 : decode cX10_rowItem 55 = .ok (.getfield 159, 3) := by decide +kernel
theorem dX10_rowItem_58 : decode cX10_rowItem 58 = .ok (.ifCond .ne 48, 3) := by decide +kernel
theorem dX10_rowItem_61 : decode cX10_rowItem 61 = .ok (.iload_n 1, 1) := by decide +kernel
theorem dX10_rowItem_62 : decode cX10_rowItem 62 = .ok (.bipush 6, 2) := by decide +kernel
theorem dX10_rowItem_64 : decode cX10_rowItem 64 = .ok (.if_icmp .ge 26, 3) := by decide +kernel
theorem dX10_rowItem_67 : decode cX10_rowItem 67 = .ok (.aload_n 0, 1) := by decide +kernel
theorem dX10_rowItem_68 : decode cX10_rowItem 68 = .ok (.getfield 34, 3) := by decide +kernel
theorem dX10_rowItem_71 : decode cX10_rowItem 71 = .ok (.bipush 23, 2) := by decide +kernel
theorem dX10_rowItem_73 : decode cX10_rowItem 73 = .ok (.aload_n 0, 1) := by decide +kernel
theorem dX10_rowItem_74 : decode cX10_rowItem 74 = .ok (.getfield 102, 3) := by decide +kernel
theorem dX10_rowItem_77 : decode cX10_rowItem 77 = .ok (.iload_n 1, 1) := by decide +kernel
theorem dX10_rowItem_78 : decode cX10_rowItem 78 = .ok (.iadd, 1) := by decide +kernel
theorem dX10_rowItem_79 : decode cX10_rowItem 79 = .ok (.invokestatic 167, 3) := by decide +kernel
theorem dX10_rowItem_82 : decode cX10_rowItem 82 = .ok (.aload_n 0, 1) := by decide +kernel
theorem dX10_rowItem_83 : decode cX10_rowItem 83 = .ok (.invokevirtual 151, 3) := by decide +kernel
theorem dX10_rowItem_86 : decode cX10_rowItem 86 = .ok (.bipush 48, 2) := by decide +kernel
theorem dX10_rowItem_88 : decode cX10_rowItem 88 = .ok (.isub, 1) := by decide +kernel
theorem dX10_rowItem_89 : decode cX10_rowItem 89 = .ok (.iastore, 1) := by decide +kernel
theorem dX10_rowItem_90 : decode cX10_rowItem 90 = .ok (.iinc 1 1, 3) := by decide +kernel
theorem dX10_rowItem_93 : decode cX10_rowItem 93 = .ok (.aload_n 0, 1) := by decide +kernel
theorem dX10_rowItem_94 : decode cX10_rowItem 94 = .ok (.dup, 1) := by decide +kernel
theorem dX10_rowItem_95 : decode cX10_rowItem 95 = .ok (.getfield 148, 3) := by decide +kernel
theorem dX10_rowItem_98 : decode cX10_rowItem 98 = .ok (.iconst 1, 1) := by decide +kernel
theorem dX10_rowItem_99 : decode cX10_rowItem 99 = .ok (.iadd, 1) := by decide +kernel
theorem dX10_rowItem_100 : decode cX10_rowItem 100 = .ok (.putfield 148, 3) := by decide +kernel
theorem dX10_rowItem_103 : decode cX10_rowItem 103 = .ok (.goto (-72), 3) := by decide +kernel
theorem dX10_rowItem_106 : decode cX10_rowItem 106 = .ok (.aload_n 0, 1) := by decide +kernel
theorem dX10_rowItem_107 : decode cX10_rowItem 107 = .ok (.aload_n 0, 1) := by decide +kernel
theorem dX10_rowItem_108 : decode cX10_rowItem 108 = .ok (.getfield 159, 3) := by decide +kernel
theorem dX10_rowItem_111 : decode cX10_rowItem 111 = .ok (.ifCond .ne 30, 3) := by decide +kernel
theorem dX10_rowItem_114 : decode cX10_rowItem 114 = .ok (.iload_n 1, 1) := by decide +kernel
theorem dX10_rowItem_115 : decode cX10_rowItem 115 = .ok (.i2l, 1) := by decide +kernel
theorem dX10_rowItem_116 : decode cX10_rowItem 116 = .ok (.lconst 1, 1) := by decide +kernel
theorem dX10_rowItem_117 : decode cX10_rowItem 117 = .ok (.ldc2_w 170, 3) := by decide +kernel
theorem dX10_rowItem_120 : decode cX10_rowItem 120 = .ok (.invokestatic 137, 3) := by decide +kernel
theorem dX10_rowItem_123 : decode cX10_rowItem 123 = .ok (.ifCond .eq 18, 3) := by decide +kernel
theorem dX10_rowItem_126 : decode cX10_rowItem 126 = .ok (.aload_n 0, 1) := by decide +kernel
theorem dX10_rowItem_127 : decode cX10_rowItem 127 = .ok (.getfield 98, 3) := by decide +kernel
theorem dX10_rowItem_130 : decode cX10_rowItem 130 = .ok (.ifCond .le 15, 3) := by decide +kernel
theorem dX10_rowItem_133 : decode cX10_rowItem 133 = .ok (.iload_n 1, 1) := by decide +kernel
theorem dX10_rowItem_134 : decode cX10_rowItem 134 = .ok (.aload_n 0, 1) := by decide +kernel
theorem dX10_rowItem_135 : decode cX10_rowItem 135 = .ok (.getfield 98, 3) := by decide +kernel
theorem dX10_rowItem_138 : decode cX10_rowItem 138 = .ok (.if_icmp .eq 7, 3) := by decide +kernel
theorem dX10_rowItem_141 : decode cX10_rowItem 141 = .ok (.iconst 1, 1) := by decide +kernel
theorem dX10_rowItem_142 : decode cX10_rowItem 142 = .ok (.goto 4, 3) := by decide +kernel
theorem dX10_rowItem_145 : decode cX10_rowItem 145 = .ok (.iconst 0, 1) := by decide +kernel
theorem dX10_rowItem_146 : decode cX10_rowItem 146 = .ok (.putfield 159, 3) := by decide +kernel
theorem dX10_rowItem_149 : decode cX10_rowItem 149 = .ok (.aload_n 0, 1) := by decide +kernel
theorem dX10_rowItem_150 : decode cX10_rowItem 150 = .ok (.aload_n 0, 1) := by decide +kernel
theorem dX10_rowItem_151 : decode cX10_rowItem 151 = .ok (.getfield 159, 3) := by decide +kernel
theorem dX10_rowItem_154 : decode cX10_rowItem 154 = .ok (.ifCond .eq 10, 3) := by decide +kernel
theorem dX10_rowItem_157 : decode cX10_rowItem 157 = .ok (.aload_n 0, 1) := by decide +kernel
theorem dX10_rowItem_158 : decode cX10_rowItem 158 = .ok (.getfield 98, 3) := by decide +kernel
theorem dX10_rowItem_161 : decode cX10_rowItem 161 = .ok (.goto 4, 3) := by decide +kernel
theorem dX10_rowItem_164 : decode cX10_rowItem 164 = .ok (.iload_n 1, 1) := by decide +kernel
theorem dX10_rowItem_165 : decode cX10_rowItem 165 = .ok (.putfield 98, 3) := by decide +kernel
theorem dX10_rowItem_168 : decode cX10_rowItem 168 = .ok (.aload_n 0, 1) := by decide +kernel
theorem dX10_rowItem_169 : decode cX10_rowItem 169 = .ok (.dup, 1) := by decide +kernel
theorem dX10_rowItem_170 : decode cX10_rowItem 170 = .ok (.getfield 102, 3) := by decide +kernel
theorem dX10_rowItem_173 : decode cX10_rowItem 173 = .ok (.aload_n 0, 1) := by decide +kernel
theorem dX10_rowItem_174 : decode cX10_rowItem 174 = .ok (.getfield 159, 3) := by decide +kernel
theorem dX10_rowItem_177 : decode cX10_rowItem 177 = .ok (.ifCond .eq 7, 3) := by decide +kernel
theorem dX10_rowItem_180 : decode cX10_rowItem 180 = .ok (.iconst 0, 1) := by decide +kernel
theorem dX10_rowItem_181 : decode cX10_rowItem 181 = .ok (.goto 4, 3) := by decide +kernel
theorem dX10_rowItem_184 : decode cX10_rowItem 184 = .ok (.iload_n 1, 1) := by decide +kernel
theorem dX10_rowItem_185 : decode cX10_rowItem 185 = .ok (.iadd, 1) := by decide +kernel
theorem dX10_rowItem_186 : decode cX10_rowItem 186 = .ok (.putfield 102, 3) := by decide +kernel
theorem dX10_rowItem_189 : decode cX10_rowItem 189 = .ok (.return_, 1) := by decide +kernel
theorem dX10_caseItem_0 : decode cX10_caseItem 0 = .ok (.aload_n 0, 1) := by decide +kernel
theorem dX10_caseItem_1 : decode cX10_caseItem 1 = .ok (.aload_n 0, 1) := by decide +kernel
theorem dX10_caseItem_2 : decode cX10_caseItem 2 = .ok (.getfield 115, 3) := by decide +kernel
theorem dX10_caseItem_5 : decode cX10_caseItem 5 = .ok (.bipush 6, 2) := by decide +kernel
theorem dX10_caseItem_7 : decode cX10_caseItem 7 = .ok (.if_icmp .ne 7, 3) := by decide +kernel
theorem dX10_caseItem_10 : decode cX10_caseItem 10 = .ok (.iconst 1, 1) := by decide +kernel
theorem dX10_caseItem_11 : decode cX10_caseItem 11 = .ok (.goto 4, 3) := by decide +kernel
theorem dX10_caseItem_14 : decode cX10_caseItem 14 = .ok (.iconst 0, 1) := by decide +kernel
theorem dX10_caseItem_15 : decode cX10_caseItem 15 = .ok (.putfield 159, 3) := by decide +kernel
theorem dX10_caseItem_18 : decode cX10_caseItem 18 = .ok (.aload_n 0, 1) := by decide +kernel
theorem dX10_caseItem_19 : decode cX10_caseItem 19 = .ok (.getfield 159, 3) := by decide +kernel
theorem dX10_caseItem_22 : decode cX10_caseItem 22 = .ok (.ifCond .eq 7, 3) := by decide +kernel
theorem dX10_caseItem_25 : decode cX10_caseItem 25 = .ok (.iconst 0, 1) := by decide +kernel
theorem dX10_caseItem_26 : decode cX10_caseItem 26 = .ok (.goto 9, 3) := by decide +kernel
theorem dX10_caseItem_29 : decode cX10_caseItem 29 = .ok (.aload_n 0, 1) := by decide +kernel
theorem dX10_caseItem_30 : decode cX10_caseItem 30 = .ok (.iconst 0, 1) := by decide +kernel
theorem dX10_caseItem_31 : decode cX10_caseItem 31 = .ok (.iconst 3, 1) := by decide +kernel
theorem dX10_caseItem_32 : decode cX10_caseItem 32 = .ok (.invokevirtual 163, 3) := by decide +kernel
theorem dX10_caseItem_35 : decode cX10_caseItem 35 = .ok (.istore_n 1, 1) := by decide +kernel
theorem dX10_caseItem_36 : decode cX10_caseItem 36 = .ok (.aload_n 0, 1) := by decide +kernel
theorem dX10_caseItem_37 : decode cX10_caseItem 37 = .ok (.iconst 0, 1) := by decide +kernel
theorem dX10_caseItem_38 : decode cX10_caseItem 38 = .ok (.aload_n 0, 1) := by decide +kernel
theorem dX10_caseItem_39 : decode cX10_caseItem 39 = .ok (.getfield 102, 3) := by decide +kernel
theorem dX10_caseItem_42 : decode cX10_caseItem 42 = .ok (.iconst 1, 1) := by decide +kernel
theorem dX10_caseItem_43 : decode cX10_caseItem 43 = .ok (.isub, 1) := by decide +kernel
theorem dX10_caseItem_44 : decode cX10_caseItem 44 = .ok (.invokevirtual 172, 3) := by decide +kernel
theorem dX10_caseItem_47 : decode cX10_caseItem 47 = .ok (.istore_n 2, 1) := by decide +kernel
theorem dX10_caseItem_48 : decode cX10_caseItem 48 = .ok (.aload_n 0, 1) := by decide +kernel
theorem dX10_caseItem_49 : decode cX10_caseItem 49 = .ok (.iconst 1, 1) := by decide +kernel
theorem dX10_caseItem_50 : decode cX10_caseItem 50 = .ok (.bipush 9, 2) := by decide +kernel
theorem dX10_caseItem_52 : decode cX10_caseItem 52 = .ok (.invokevirtual 172, 3) := by decide +kernel
theorem dX10_caseItem_55 : decode cX10_caseItem 55 = .ok (.istore_n 3, 1) := by decide +kernel
theorem dX10_caseItem_56 : decode cX10_caseItem 56 = .ok (.aload_n 0, 1) := by decide +kernel
theorem dX10_caseItem_57 : decode cX10_caseItem 57 = .ok (.iconst 0, 1) := by decide +kernel
theorem dX10_caseItem_58 : decode cX10_caseItem 58 = .ok (.bipush 19, 2) := by decide +kernel
theorem dX10_caseItem_60 : decode cX10_caseItem 60 = .ok (.invokevirtual 172, 3) := by decide +kernel
theorem dX10_caseItem_63 : decode cX10_caseItem 63 = .ok (.istore 4, 2) := by decide +kernel
theorem dX10_caseItem_65 : decode cX10_caseItem 65 = .ok (.aload_n 0, 1) := by decide +kernel
theorem dX10_caseItem_66 : decode cX10_caseItem 66 = .ok (.getfield 159, 3) := by decide +kernel
theorem dX10_caseItem_69 : decode cX10_caseItem 69 = .ok (.ifCond .ne 12, 3) := by decide +kernel
theorem dX10_caseItem_72 : decode cX10_caseItem 72 = .ok (.aload_n 0, 1) := by decide +kernel
theorem dX10_caseItem_73 : decode cX10_caseItem 73 = .ok (.iload_n 1, 1) := by decide +kernel
theorem dX10_caseItem_74 : decode cX10_caseItem 74 = .ok (.iload_n 2, 1) := by decide +kernel
theorem dX10_caseItem_75 : decode cX10_caseItem 75 = .ok (.iload_n 3, 1) := by decide +kernel
theorem dX10_caseItem_76 : decode cX10_caseItem 76 = .ok (.iload 4, 2) := by decide +kernel
theorem dX10_caseItem_78 : decode cX10_caseItem 78 = .ok (.invokevirtual 105, 3) := by decide +kernel
theorem dX10_caseItem_81 : decode cX10_caseItem 81 = .ok (.return_, 1) := by decide +kernel
theorem dX10_maidItem_0 : decode cX10_maidItem 0 = .ok (.aload_n 0, 1) := by decide +kernel
theorem dX10_maidItem_1 : decode cX10_maidItem 1 = .ok (.aload_n 0, 1) := by decide +kernel
theorem dX10_maidItem_2 : decode cX10_maidItem 2 = .ok (.getfield 118, 3) := by decide +kernel
theorem dX10_maidItem_5 : decode cX10_maidItem 5 = .ok (.iconst 3, 1) := by decide +kernel
theorem dX10_maidItem_6 : decode cX10_maidItem 6 = .ok (.if_icmp .ne 7, 3) := by decide +kernel
theorem dX10_maidItem_9 : decode cX10_maidItem 9 = .ok (.iconst 1, 1) := by decide +kernel
theorem dX10_maidItem_10 : decode cX10_maidItem 10 = .ok (.goto 4, 3) := by decide +kernel
theorem dX10_maidItem_13 : decode cX10_maidItem 13 = .ok (.iconst 0, 1) := by decide +kernel
theorem dX10_maidItem_14 : decode cX10_maidItem 14 = .ok (.putfield 159, 3) := by decide +kernel
theorem dX10_maidItem_17 : decode cX10_maidItem 17 = .ok (.aload_n 0, 1) := by decide +kernel
theorem dX10_maidItem_18 : decode cX10_maidItem 18 = .ok (.getfield 159, 3) := by decide +kernel
theorem dX10_maidItem_21 : decode cX10_maidItem 21 = .ok (.ifCond .eq 7, 3) := by decide +kernel
theorem dX10_maidItem_24 : decode cX10_maidItem 24 = .ok (.iconst 0, 1) := by decide +kernel
theorem dX10_maidItem_25 : decode cX10_maidItem 25 = .ok (.goto 9, 3) := by decide +kernel
theorem dX10_maidItem_28 : decode cX10_maidItem 28 = .ok (.aload_n 0, 1) := by decide +kernel
theorem dX10_maidItem_29 : decode cX10_maidItem 29 = .ok (.iconst 0, 1) := by decide +kernel
theorem dX10_maidItem_30 : decode cX10_maidItem 30 = .ok (.iconst 3, 1) := by decide +kernel
theorem dX10_maidItem_31 : decode cX10_maidItem 31 = .ok (.invokevirtual 163, 3) := by decide +kernel
theorem dX10_maidItem_34 : decode cX10_maidItem 34 = .ok (.istore_n 1, 1) := by decide +kernel
theorem dX10_maidItem_35 : decode cX10_maidItem 35 = .ok (.aload_n 0, 1) := by decide +kernel
theorem dX10_maidItem_36 : decode cX10_maidItem 36 = .ok (.iconst 1, 1) := by decide +kernel
theorem dX10_maidItem_37 : decode cX10_maidItem 37 = .ok (.bipush 9, 2) := by decide +kernel
theorem dX10_maidItem_39 : decode cX10_maidItem 39 = .ok (.invokevirtual 172, 3) := by decide +kernel
theorem dX10_maidItem_42 : decode cX10_maidItem 42 = .ok (.istore_n 2, 1) := by decide +kernel
theorem dX10_maidItem_43 : decode cX10_maidItem 43 = .ok (.aload_n 0, 1) := by decide +kernel
theorem dX10_maidItem_44 : decode cX10_maidItem 44 = .ok (.iconst 1, 1) := by decide +kernel
theorem dX10_maidItem_45 : decode cX10_maidItem 45 = .ok (.bipush 9, 2) := by decide +kernel
theorem dX10_maidItem_47 : decode cX10_maidItem 47 = .ok (.invokevirtual 172, 3) := by decide +kernel
theorem dX10_maidItem_50 : decode cX10_maidItem 50 = .ok (.istore_n 3, 1) := by decide +kernel
theorem dX10_maidItem_51 : decode cX10_maidItem 51 = .ok (.aload_n 0, 1) := by decide +kernel
theorem dX10_maidItem_52 : decode cX10_maidItem 52 = .ok (.iconst 0, 1) := by decide +kernel
theorem dX10_maidItem_53 : decode cX10_maidItem 53 = .ok (.aload_n 0, 1) := by decide +kernel
theorem dX10_maidItem_54 : decode cX10_maidItem 54 = .ok (.getfield 102, 3) := by decide +kernel
theorem dX10_maidItem_57 : decode cX10_maidItem 57 = .ok (.iconst 1, 1) := by decide +kernel
theorem dX10_maidItem_58 : decode cX10_maidItem 58 = .ok (.isub, 1) := by decide +kernel
theorem dX10_maidItem_59 : decode cX10_maidItem 59 = .ok (.invokevirtual 172, 3) := by decide +kernel
theorem dX10_maidItem_62 : decode cX10_maidItem 62 = .ok (.istore 4, 2) := by decide +kernel
theorem dX10_maidItem_64 : decode cX10_maidItem 64 = .ok (.aload_n 0, 1) := by decide +kernel
theorem dX10_maidItem_65 : decode cX10_maidItem 65 = .ok (.getfield 159, 3) := by decide +kernel
theorem dX10_maidItem_68 : decode cX10_maidItem 68 = .ok (.ifCond .ne 12, 3) := by decide +kernel
theorem dX10_maidItem_71 : decode cX10_maidItem 71 = .ok (.aload_n 0, 1) := by decide +kernel
theorem dX10_maidItem_72 : decode cX10_maidItem 72 = .ok (.iload_n 1, 1) := by decide +kernel
theorem dX10_maidItem_73 : decode cX10_maidItem 73 = .ok (.iload_n 2, 1) := by decide +kernel
theorem dX10_maidItem_74 : decode cX10_maidItem 74 = .ok (.iload_n 3, 1) := by decide +kernel
theorem dX10_maidItem_75 : decode cX10_maidItem 75 = .ok (.iload 4, 2) := by decide +kernel
theorem dX10_maidItem_77 : decode cX10_maidItem 77 = .ok (.invokevirtual 109, 3) := by decide +kernel
theorem dX10_maidItem_80 : decode cX10_maidItem 80 = .ok (.return_, 1) := by decide +kernel
theorem dX10_item_0 : decode cX10_item 0 = .ok (.iload_n 1, 1) := by decide +kernel
theorem dX10_item_1 : decode cX10_item 1 = .ok (.bipush 114, 2) := by decide +kernel
theorem dX10_item_3 : decode cX10_item 3 = .ok (.if_icmp .ne 10, 3) := by decide +kernel
theorem dX10_item_6 : decode cX10_item 6 = .ok (.aload_n 0, 1) := by decide +kernel
theorem dX10_item_7 : decode cX10_item 7 = .ok (.invokevirtual 175, 3) := by decide +kernel
theorem dX10_item_10 : decode cX10_item 10 = .ok (.goto 34, 3) := by decide +kernel
theorem dX10_item_13 : decode cX10_item 13 = .ok (.iload_n 1, 1) := by decide +kernel
theorem dX10_item_14 : decode cX10_item 14 = .ok (.bipush 99, 2) := by decide +kernel
theorem dX10_item_16 : decode cX10_item 16 = .ok (.if_icmp .ne 10, 3) := by decide +kernel
theorem dX10_item_19 : decode cX10_item 19 = .ok (.aload_n 0, 1) := by decide +kernel
theorem dX10_item_20 : decode cX10_item 20 = .ok (.invokevirtual 178, 3) := by decide +kernel
theorem dX10_item_23 : decode cX10_item 23 = .ok (.goto 21, 3) := by decide +kernel
theorem dX10_item_26 : decode cX10_item 26 = .ok (.iload_n 1, 1) := by decide +kernel
theorem dX10_item_27 : decode cX10_item 27 = .ok (.bipush 109, 2) := by decide +kernel
theorem dX10_item_29 : decode cX10_item 29 = .ok (.if_icmp .ne 10, 3) := by decide +kernel
theorem dX10_item_32 : decode cX10_item 32 = .ok (.aload_n 0, 1) := by decide +kernel
theorem dX10_item_33 : decode cX10_item 33 = .ok (.invokevirtual 181, 3) := by decide +kernel
theorem dX10_item_36 : decode cX10_item 36 = .ok (.goto 8, 3) := by decide +kernel
theorem dX10_item_39 : decode cX10_item 39 = .ok (.aload_n 0, 1) := by decide +kernel
theorem dX10_item_40 : decode cX10_item 40 = .ok (.iconst 1, 1) := by decide +kernel
theorem dX10_item_41 : decode cX10_item 41 = .ok (.putfield 159, 3) := by decide +kernel
theorem dX10_item_44 : decode cX10_item 44 = .ok (.return_, 1) := by decide +kernel
theorem dX10_reads_0 : decode cX10_reads 0 = .ok (.aload_n 0, 1) := by decide +kernel
theorem dX10_reads_1 : decode cX10_reads 1 = .ok (.invokevirtual 95, 3) := by decide +kernel
theorem dX10_reads_4 : decode cX10_reads 4 = .ok (.aload_n 0, 1) := by decide +kernel
theorem dX10_reads_5 : decode cX10_reads 5 = .ok (.iconst 0, 1) := by decide +kernel
theorem dX10_reads_6 : decode cX10_reads 6 = .ok (.putfield 148, 3) := by decide +kernel
theorem dX10_reads_9 : decode cX10_reads 9 = .ok (.aload_n 0, 1) := by decide +kernel
theorem dX10_reads_10 : decode cX10_reads 10 = .ok (.iconst 0, 1) := by decide +kernel
theorem dX10_reads_11 : decode cX10_reads 11 = .ok (.putfield 159, 3) := by decide +kernel
theorem dX10_reads_14 : decode cX10_reads 14 = .ok (.aload_n 0, 1) := by decide +kernel
theorem dX10_reads_15 : decode cX10_reads 15 = .ok (.getfield 148, 3) := by decide +kernel
theorem dX10_reads_18 : decode cX10_reads 18 = .ok (.aload_n 0, 1) := by decide +kernel
theorem dX10_reads_19 : decode cX10_reads 19 = .ok (.getfield 145, 3) := by decide +kernel
theorem dX10_reads_22 : decode cX10_reads 22 = .ok (.if_icmp .ge 76, 3) := by decide +kernel
theorem dX10_reads_25 : decode cX10_reads 25 = .ok (.aload_n 0, 1) := by decide +kernel
theorem dX10_reads_26 : decode cX10_reads 26 = .ok (.getfield 159, 3) := by decide +kernel
theorem dX10_reads_29 : decode cX10_reads 29 = .ok (.ifCond .ne 69, 3) := by decide +kernel
theorem dX10_reads_32 : decode cX10_reads 32 = .ok (.aload_n 0, 1) := by decide +kernel
theorem dX10_reads_33 : decode cX10_reads 33 = .ok (.aload_n 0, 1) := by decide +kernel
theorem dX10_reads_34 : decode cX10_reads 34 = .ok (.getfield 148, 3) := by decide +kernel
theorem dX10_reads_37 : decode cX10_reads 37 = .ok (.putfield 184, 3) := by decide +kernel
theorem dX10_reads_40 : decode cX10_reads 40 = .ok (.aload_n 0, 1) := by decide +kernel
theorem dX10_reads_41 : decode cX10_reads 41 = .ok (.invokevirtual 151, 3) := by decide +kernel
theorem dX10_reads_44 : decode cX10_reads 44 = .ok (.istore_n 1, 1) := by decide +kernel
theorem dX10_reads_45 : decode cX10_reads 45 = .ok (.aload_n 0, 1) := by decide +kernel
theorem dX10_reads_46 : decode cX10_reads 46 = .ok (.dup, 1) := by decide +kernel
theorem dX10_reads_47 : decode cX10_reads 47 = .ok (.getfield 148, 3) := by decide +kernel
theorem dX10_reads_50 : decode cX10_reads 50 = .ok (.iconst 1, 1) := by decide +kernel
theorem dX10_reads_51 : decode cX10_reads 51 = .ok (.iadd, 1) := by decide +kernel
theorem dX10_reads_52 : decode cX10_reads 52 = .ok (.putfield 148, 3) := by decide +kernel
theorem dX10_reads_55 : decode cX10_reads 55 = .ok (.aload_n 0, 1) := by decide +kernel
theorem dX10_reads_56 : decode cX10_reads 56 = .ok (.iload_n 1, 1) := by decide +kernel
theorem dX10_reads_57 : decode cX10_reads 57 = .ok (.invokevirtual 187, 3) := by decide +kernel
theorem dX10_reads_60 : decode cX10_reads 60 = .ok (.aload_n 0, 1) := by decide +kernel
theorem dX10_reads_61 : decode cX10_reads 61 = .ok (.aload_n 0, 1) := by decide +kernel
theorem dX10_reads_62 : decode cX10_reads 62 = .ok (.getfield 159, 3) := by decide +kernel
theorem dX10_reads_65 : decode cX10_reads 65 = .ok (.ifCond .ne 12, 3) := by decide +kernel
theorem dX10_reads_68 : decode cX10_reads 68 = .ok (.aload_n 0, 1) := by decide +kernel
theorem dX10_reads_69 : decode cX10_reads 69 = .ok (.invokevirtual 151, 3) := by decide +kernel
theorem dX10_reads_72 : decode cX10_reads 72 = .ok (.bipush 59, 2) := by decide +kernel
theorem dX10_reads_74 : decode cX10_reads 74 = .ok (.if_icmp .eq 7, 3) := by decide +kernel
theorem dX10_reads_77 : decode cX10_reads 77 = .ok (.iconst 1, 1) := by decide +kernel
theorem dX10_reads_78 : decode cX10_reads 78 = .ok (.goto 4, 3) := by decide +kernel
theorem dX10_reads_81 : decode cX10_reads 81 = .ok (.iconst 0, 1) := by decide +kernel
theorem dX10_reads_82 : decode cX10_reads 82 = .ok (.putfield 159, 3) := by decide +kernel
theorem dX10_reads_85 : decode cX10_reads 85 = .ok (.aload_n 0, 1) := by decide +kernel
theorem dX10_reads_86 : decode cX10_reads 86 = .ok (.dup, 1) := by decide +kernel
theorem dX10_reads_87 : decode cX10_reads 87 = .ok (.getfield 148, 3) := by decide +kernel
theorem dX10_reads_90 : decode cX10_reads 90 = .ok (.iconst 1, 1) := by decide +kernel
theorem dX10_reads_91 : decode cX10_reads 91 = .ok (.iadd, 1) := by decide +kernel
theorem dX10_reads_92 : decode cX10_reads 92 = .ok (.putfield 148, 3) := by decide +kernel
theorem dX10_reads_95 : decode cX10_reads 95 = .ok (.goto (-81), 3) := by decide +kernel
theorem dX10_reads_98 : decode cX10_reads 98 = .ok (.aload_n 0, 1) := by decide +kernel
theorem dX10_reads_99 : decode cX10_reads 99 = .ok (.getfield 159, 3) := by decide +kernel
theorem dX10_reads_102 : decode cX10_reads 102 = .ok (.ifCond .ne 7, 3) := by decide +kernel
theorem dX10_reads_105 : decode cX10_reads 105 = .ok (.iconst 1, 1) := by decide +kernel
theorem dX10_reads_106 : decode cX10_reads 106 = .ok (.goto 4, 3) := by decide +kernel
theorem dX10_reads_109 : decode cX10_reads 109 = .ok (.iconst 0, 1) := by decide +kernel
theorem dX10_reads_110 : decode cX10_reads 110 = .ok (.ireturn, 1) := by decide +kernel
theorem dX10_fault_0 : decode cX10_fault 0 = .ok (.aload_n 0, 1) := by decide +kernel
theorem dX10_fault_1 : decode cX10_fault 1 = .ok (.invokevirtual 190, 3) := by decide +kernel
theorem dX10_fault_4 : decode cX10_fault 4 = .ok (.ifCond .eq 8, 3) := by decide +kernel
theorem dX10_fault_7 : decode cX10_fault 7 = .ok (.bipush (-4), 2) := by decide +kernel
theorem dX10_fault_9 : decode cX10_fault 9 = .ok (.goto 7, 3) := by decide +kernel
theorem dX10_fault_12 : decode cX10_fault 12 = .ok (.aload_n 0, 1) := by decide +kernel
theorem dX10_fault_13 : decode cX10_fault 13 = .ok (.getfield 184, 3) := by decide +kernel
theorem dX10_fault_16 : decode cX10_fault 16 = .ok (.ireturn, 1) := by decide +kernel
theorem dX10_lay_0 : decode cX10_lay 0 = .ok (.aload_n 0, 1) := by decide +kernel
theorem dX10_lay_1 : decode cX10_lay 1 = .ok (.invokevirtual 190, 3) := by decide +kernel
theorem dX10_lay_4 : decode cX10_lay 4 = .ok (.ifCond .eq 10, 3) := by decide +kernel
theorem dX10_lay_7 : decode cX10_lay 7 = .ok (.aload_n 0, 1) := by decide +kernel
theorem dX10_lay_8 : decode cX10_lay 8 = .ok (.getfield 102, 3) := by decide +kernel
theorem dX10_lay_11 : decode cX10_lay 11 = .ok (.ifCond .ne 6, 3) := by decide +kernel
theorem dX10_lay_14 : decode cX10_lay 14 = .ok (.bipush (-2), 2) := by decide +kernel
theorem dX10_lay_16 : decode cX10_lay 16 = .ok (.ireturn, 1) := by decide +kernel
theorem dX10_lay_17 : decode cX10_lay 17 = .ok (.aload_n 0, 1) := by decide +kernel
theorem dX10_lay_18 : decode cX10_lay 18 = .ok (.invokevirtual 112, 3) := by decide +kernel
theorem dX10_lay_21 : decode cX10_lay 21 = .ok (.aload_n 0, 1) := by decide +kernel
theorem dX10_lay_22 : decode cX10_lay 22 = .ok (.iconst 0, 1) := by decide +kernel
theorem dX10_lay_23 : decode cX10_lay 23 = .ok (.putfield 194, 3) := by decide +kernel
theorem dX10_lay_26 : decode cX10_lay 26 = .ok (.aload_n 0, 1) := by decide +kernel
theorem dX10_lay_27 : decode cX10_lay 27 = .ok (.iconst 0, 1) := by decide +kernel
theorem dX10_lay_28 : decode cX10_lay 28 = .ok (.putfield 197, 3) := by decide +kernel
theorem dX10_lay_31 : decode cX10_lay 31 = .ok (.aload_n 0, 1) := by decide +kernel
theorem dX10_lay_32 : decode cX10_lay 32 = .ok (.iconst 0, 1) := by decide +kernel
theorem dX10_lay_33 : decode cX10_lay 33 = .ok (.putfield 200, 3) := by decide +kernel
theorem dX10_lay_36 : decode cX10_lay 36 = .ok (.aload_n 0, 1) := by decide +kernel
theorem dX10_lay_37 : decode cX10_lay 37 = .ok (.getfield 121, 3) := by decide +kernel
theorem dX10_lay_40 : decode cX10_lay 40 = .ok (.ireturn, 1) := by decide +kernel
theorem dX10_high_0 : decode cX10_high 0 = .ok (.aload_n 0, 1) := by decide +kernel
theorem dX10_high_1 : decode cX10_high 1 = .ok (.iload_n 1, 1) := by decide +kernel
theorem dX10_high_2 : decode cX10_high 2 = .ok (.invokevirtual 203, 3) := by decide +kernel
theorem dX10_high_5 : decode cX10_high 5 = .ok (.ifCond .eq 12, 3) := by decide +kernel
theorem dX10_high_8 : decode cX10_high 8 = .ok (.aload_n 0, 1) := by decide +kernel
theorem dX10_high_9 : decode cX10_high 9 = .ok (.getfield 61, 3) := by decide +kernel
theorem dX10_high_12 : decode cX10_high 12 = .ok (.iload_n 1, 1) := by decide +kernel
theorem dX10_high_13 : decode cX10_high 13 = .ok (.iaload, 1) := by decide +kernel
theorem dX10_high_14 : decode cX10_high 14 = .ok (.goto 4, 3) := by decide +kernel
theorem dX10_high_17 : decode cX10_high 17 = .ok (.iconst (-1), 1) := by decide +kernel
theorem dX10_high_18 : decode cX10_high 18 = .ok (.ireturn, 1) := by decide +kernel
theorem dX10_isNext_0 : decode cX10_isNext 0 = .ok (.iload_n 1, 1) := by decide +kernel
theorem dX10_isNext_1 : decode cX10_isNext 1 = .ok (.aload_n 0, 1) := by decide +kernel
theorem dX10_isNext_2 : decode cX10_isNext 2 = .ok (.getfield 124, 3) := by decide +kernel
theorem dX10_isNext_5 : decode cX10_isNext 5 = .ok (.idiv, 1) := by decide +kernel
theorem dX10_isNext_6 : decode cX10_isNext 6 = .ok (.iload_n 2, 1) := by decide +kernel
theorem dX10_isNext_7 : decode cX10_isNext 7 = .ok (.aload_n 0, 1) := by decide +kernel
theorem dX10_isNext_8 : decode cX10_isNext 8 = .ok (.getfield 124, 3) := by decide +kernel
theorem dX10_isNext_11 : decode cX10_isNext 11 = .ok (.idiv, 1) := by decide +kernel
theorem dX10_isNext_12 : decode cX10_isNext 12 = .ok (.if_icmp .ne 21, 3) := by decide +kernel
theorem dX10_isNext_15 : decode cX10_isNext 15 = .ok (.iload_n 1, 1) := by decide +kernel
theorem dX10_isNext_16 : decode cX10_isNext 16 = .ok (.iload_n 2, 1) := by decide +kernel
theorem dX10_isNext_17 : decode cX10_isNext 17 = .ok (.isub, 1) := by decide +kernel
theorem dX10_isNext_18 : decode cX10_isNext 18 = .ok (.iconst 1, 1) := by decide +kernel
theorem dX10_isNext_19 : decode cX10_isNext 19 = .ok (.if_icmp .eq 10, 3) := by decide +kernel
theorem dX10_isNext_22 : decode cX10_isNext 22 = .ok (.iload_n 2, 1) := by decide +kernel
theorem dX10_isNext_23 : decode cX10_isNext 23 = .ok (.iload_n 1, 1) := by decide +kernel
theorem dX10_isNext_24 : decode cX10_isNext 24 = .ok (.isub, 1) := by decide +kernel
theorem dX10_isNext_25 : decode cX10_isNext 25 = .ok (.iconst 1, 1) := by decide +kernel
theorem dX10_isNext_26 : decode cX10_isNext 26 = .ok (.if_icmp .ne 7, 3) := by decide +kernel
theorem dX10_isNext_29 : decode cX10_isNext 29 = .ok (.iconst 1, 1) := by decide +kernel
theorem dX10_isNext_30 : decode cX10_isNext 30 = .ok (.goto 4, 3) := by decide +kernel
theorem dX10_isNext_33 : decode cX10_isNext 33 = .ok (.iconst 0, 1) := by decide +kernel
theorem dX10_isNext_34 : decode cX10_isNext 34 = .ok (.istore_n 3, 1) := by decide +kernel
theorem dX10_isNext_35 : decode cX10_isNext 35 = .ok (.iload_n 3, 1) := by decide +kernel
theorem dX10_isNext_36 : decode cX10_isNext 36 = .ok (.ifCond .ne 23, 3) := by decide +kernel
theorem dX10_isNext_39 : decode cX10_isNext 39 = .ok (.iload_n 1, 1) := by decide +kernel
theorem dX10_isNext_40 : decode cX10_isNext 40 = .ok (.iload_n 2, 1) := by decide +kernel
theorem dX10_isNext_41 : decode cX10_isNext 41 = .ok (.isub, 1) := by decide +kernel
theorem dX10_isNext_42 : decode cX10_isNext 42 = .ok (.aload_n 0, 1) := by decide +kernel
theorem dX10_isNext_43 : decode cX10_isNext 43 = .ok (.getfield 124, 3) := by decide +kernel
theorem dX10_isNext_46 : decode cX10_isNext 46 = .ok (.if_icmp .eq 13, 3) := by decide +kernel
theorem dX10_isNext_49 : decode cX10_isNext 49 = .ok (.iload_n 2, 1) := by decide +kernel
theorem dX10_isNext_50 : decode cX10_isNext 50 = .ok (.iload_n 1, 1) := by decide +kernel
theorem dX10_isNext_51 : decode cX10_isNext 51 = .ok (.isub, 1) := by decide +kernel
theorem dX10_isNext_52 : decode cX10_isNext 52 = .ok (.aload_n 0, 1) := by decide +kernel
theorem dX10_isNext_53 : decode cX10_isNext 53 = .ok (.getfield 124, 3) := by decide +kernel
theorem dX10_isNext_56 : decode cX10_isNext 56 = .ok (.if_icmp .ne 7, 3) := by decide +kernel
theorem dX10_isNext_59 : decode cX10_isNext 59 = .ok (.iconst 1, 1) := by decide +kernel
theorem dX10_isNext_60 : decode cX10_isNext 60 = .ok (.goto 4, 3) := by decide +kernel
theorem dX10_isNext_63 : decode cX10_isNext 63 = .ok (.iconst 0, 1) := by decide +kernel
theorem dX10_isNext_64 : decode cX10_isNext 64 = .ok (.ireturn, 1) := by decide +kernel
theorem dX10_hasBehind_0 : decode cX10_hasBehind 0 = .ok (.iload_n 1, 1) := by decide +kernel
theorem dX10_hasBehind_1 : decode cX10_hasBehind 1 = .ok (.aload_n 0, 1) := by decide +kernel
theorem dX10_hasBehind_2 : decode cX10_hasBehind 2 = .ok (.getfield 124, 3) := by decide +kernel
theorem dX10_hasBehind_5 : decode cX10_hasBehind 5 = .ok (.irem, 1) := by decide +kernel
theorem dX10_hasBehind_6 : decode cX10_hasBehind 6 = .ok (.aload_n 0, 1) := by decide +kernel
theorem dX10_hasBehind_7 : decode cX10_hasBehind 7 = .ok (.getfield 124, 3) := by decide +kernel
theorem dX10_hasBehind_10 : decode cX10_hasBehind 10 = .ok (.iconst 1, 1) := by decide +kernel
theorem dX10_hasBehind_11 : decode cX10_hasBehind 11 = .ok (.isub, 1) := by decide +kernel
theorem dX10_hasBehind_12 : decode cX10_hasBehind 12 = .ok (.if_icmp .ge 7, 3) := by decide +kernel
theorem dX10_hasBehind_15 : decode cX10_hasBehind 15 = .ok (.iconst 1, 1) := by decide +kernel
theorem dX10_hasBehind_16 : decode cX10_hasBehind 16 = .ok (.goto 4, 3) := by decide +kernel
theorem dX10_hasBehind_19 : decode cX10_hasBehind 19 = .ok (.iconst 0, 1) := by decide +kernel
theorem dX10_hasBehind_20 : decode cX10_hasBehind 20 = .ok (.ireturn, 1) := by decide +kernel
theorem dX10_raises_0 : decode cX10_raises 0 = .ok (.aload_n 0, 1) := by decide +kernel
theorem dX10_raises_1 : decode cX10_raises 1 = .ok (.getfield 61, 3) := by decide +kernel
theorem dX10_raises_4 : decode cX10_raises 4 = .ok (.iload_n 1, 1) := by decide +kernel
theorem dX10_raises_5 : decode cX10_raises 5 = .ok (.iload_n 2, 1) := by decide +kernel
theorem dX10_raises_6 : decode cX10_raises 6 = .ok (.iadd, 1) := by decide +kernel
theorem dX10_raises_7 : decode cX10_raises 7 = .ok (.bipush 40, 2) := by decide +kernel
theorem dX10_raises_9 : decode cX10_raises 9 = .ok (.aload_n 0, 1) := by decide +kernel
theorem dX10_raises_10 : decode cX10_raises 10 = .ok (.getfield 61, 3) := by decide +kernel
theorem dX10_raises_13 : decode cX10_raises 13 = .ok (.iload_n 1, 1) := by decide +kernel
theorem dX10_raises_14 : decode cX10_raises 14 = .ok (.iload_n 2, 1) := by decide +kernel
theorem dX10_raises_15 : decode cX10_raises 15 = .ok (.iadd, 1) := by decide +kernel
theorem dX10_raises_16 : decode cX10_raises 16 = .ok (.iaload, 1) := by decide +kernel
theorem dX10_raises_17 : decode cX10_raises 17 = .ok (.iload_n 3, 1) := by decide +kernel
theorem dX10_raises_18 : decode cX10_raises 18 = .ok (.iadd, 1) := by decide +kernel
theorem dX10_raises_19 : decode cX10_raises 19 = .ok (.invokestatic 167, 3) := by decide +kernel
theorem dX10_raises_22 : decode cX10_raises 22 = .ok (.iastore, 1) := by decide +kernel
theorem dX10_raises_23 : decode cX10_raises 23 = .ok (.return_, 1) := by decide +kernel
theorem dX10_own_0 : decode cX10_own 0 = .ok (.aload_n 0, 1) := by decide +kernel
theorem dX10_own_1 : decode cX10_own 1 = .ok (.getfield 19, 3) := by decide +kernel
theorem dX10_own_4 : decode cX10_own 4 = .ok (.iload_n 2, 1) := by decide +kernel
theorem dX10_own_5 : decode cX10_own 5 = .ok (.iaload, 1) := by decide +kernel
theorem dX10_own_6 : decode cX10_own 6 = .ok (.istore_n 3, 1) := by decide +kernel
theorem dX10_own_7 : decode cX10_own 7 = .ok (.aload_n 0, 1) := by decide +kernel
theorem dX10_own_8 : decode cX10_own 8 = .ok (.getfield 13, 3) := by decide +kernel
theorem dX10_own_11 : decode cX10_own 11 = .ok (.iload_n 2, 1) := by decide +kernel
theorem dX10_own_12 : decode cX10_own 12 = .ok (.iaload, 1) := by decide +kernel
theorem dX10_own_13 : decode cX10_own 13 = .ok (.iconst 2, 1) := by decide +kernel
theorem dX10_own_14 : decode cX10_own 14 = .ok (.if_icmp .ne 7, 3) := by decide +kernel
theorem dX10_own_17 : decode cX10_own 17 = .ok (.iconst 0, 1) := by decide +kernel
theorem dX10_own_18 : decode cX10_own 18 = .ok (.goto 38, 3) := by decide +kernel
theorem dX10_own_21 : decode cX10_own 21 = .ok (.aload_n 0, 1) := by decide +kernel
theorem dX10_own_22 : decode cX10_own 22 = .ok (.getfield 13, 3) := by decide +kernel
theorem dX10_own_25 : decode cX10_own 25 = .ok (.iload_n 2, 1) := by decide +kernel
theorem dX10_own_26 : decode cX10_own 26 = .ok (.iaload, 1) := by decide +kernel
theorem dX10_own_27 : decode cX10_own 27 = .ok (.iconst 3, 1) := by decide +kernel
theorem dX10_own_28 : decode cX10_own 28 = .ok (.if_icmp .ne 27, 3) := by decide +kernel
theorem dX10_own_31 : decode cX10_own 31 = .ok (.aload_n 0, 1) := by decide +kernel
theorem dX10_own_32 : decode cX10_own 32 = .ok (.getfield 61, 3) := by decide +kernel
theorem dX10_own_35 : decode cX10_own 35 = .ok (.iload_n 1, 1) := by decide +kernel
theorem dX10_own_36 : decode cX10_own 36 = .ok (.aload_n 0, 1) := by decide +kernel
theorem dX10_own_37 : decode cX10_own 37 = .ok (.getfield 16, 3) := by decide +kernel
theorem dX10_own_40 : decode cX10_own 40 = .ok (.iload_n 2, 1) := by decide +kernel
theorem dX10_own_41 : decode cX10_own 41 = .ok (.iaload, 1) := by decide +kernel
theorem dX10_own_42 : decode cX10_own 42 = .ok (.iadd, 1) := by decide +kernel
theorem dX10_own_43 : decode cX10_own 43 = .ok (.iaload, 1) := by decide +kernel
theorem dX10_own_44 : decode cX10_own 44 = .ok (.bipush 12, 2) := by decide +kernel
theorem dX10_own_46 : decode cX10_own 46 = .ok (.if_icmp .lt 9, 3) := by decide +kernel
theorem dX10_own_49 : decode cX10_own 49 = .ok (.iconst 2, 1) := by decide +kernel
theorem dX10_own_50 : decode cX10_own 50 = .ok (.iload_n 3, 1) := by decide +kernel
theorem dX10_own_51 : decode cX10_own 51 = .ok (.imul, 1) := by decide +kernel
theorem dX10_own_52 : decode cX10_own 52 = .ok (.goto 4, 3) := by decide +kernel
theorem dX10_own_55 : decode cX10_own 55 = .ok (.iload_n 3, 1) := by decide +kernel
theorem dX10_own_56 : decode cX10_own 56 = .ok (.ireturn, 1) := by decide +kernel
theorem dX10_comesUp_0 : decode cX10_comesUp 0 = .ok (.aload_n 0, 1) := by decide +kernel
theorem dX10_comesUp_1 : decode cX10_comesUp 1 = .ok (.getfield 16, 3) := by decide +kernel
theorem dX10_comesUp_4 : decode cX10_comesUp 4 = .ok (.iload_n 2, 1) := by decide +kernel
theorem dX10_comesUp_5 : decode cX10_comesUp 5 = .ok (.iaload, 1) := by decide +kernel
theorem dX10_comesUp_6 : decode cX10_comesUp 6 = .ok (.istore_n 3, 1) := by decide +kernel
theorem dX10_comesUp_7 : decode cX10_comesUp 7 = .ok (.aload_n 0, 1) := by decide +kernel
theorem dX10_comesUp_8 : decode cX10_comesUp 8 = .ok (.iload_n 1, 1) := by decide +kernel
theorem dX10_comesUp_9 : decode cX10_comesUp 9 = .ok (.iload_n 3, 1) := by decide +kernel
theorem dX10_comesUp_10 : decode cX10_comesUp 10 = .ok (.aload_n 0, 1) := by decide +kernel
theorem dX10_comesUp_11 : decode cX10_comesUp 11 = .ok (.iload_n 1, 1) := by decide +kernel
theorem dX10_comesUp_12 : decode cX10_comesUp 12 = .ok (.iload_n 2, 1) := by decide +kernel
theorem dX10_comesUp_13 : decode cX10_comesUp 13 = .ok (.invokevirtual 207, 3) := by decide +kernel
theorem dX10_comesUp_16 : decode cX10_comesUp 16 = .ok (.invokevirtual 210, 3) := by decide +kernel
theorem dX10_comesUp_19 : decode cX10_comesUp 19 = .ok (.aload_n 0, 1) := by decide +kernel
theorem dX10_comesUp_20 : decode cX10_comesUp 20 = .ok (.getfield 13, 3) := by decide +kernel
theorem dX10_comesUp_23 : decode cX10_comesUp 23 = .ok (.iload_n 2, 1) := by decide +kernel
theorem dX10_comesUp_24 : decode cX10_comesUp 24 = .ok (.iaload, 1) := by decide +kernel
theorem dX10_comesUp_25 : decode cX10_comesUp 25 = .ok (.iconst 1, 1) := by decide +kernel
theorem dX10_comesUp_26 : decode cX10_comesUp 26 = .ok (.if_icmp .ne 27, 3) := by decide +kernel
theorem dX10_comesUp_29 : decode cX10_comesUp 29 = .ok (.aload_n 0, 1) := by decide +kernel
theorem dX10_comesUp_30 : decode cX10_comesUp 30 = .ok (.iload_n 3, 1) := by decide +kernel
theorem dX10_comesUp_31 : decode cX10_comesUp 31 = .ok (.invokevirtual 214, 3) := by decide +kernel
theorem dX10_comesUp_34 : decode cX10_comesUp 34 = .ok (.ifCond .eq 19, 3) := by decide +kernel
theorem dX10_comesUp_37 : decode cX10_comesUp 37 = .ok (.aload_n 0, 1) := by decide +kernel
theorem dX10_comesUp_38 : decode cX10_comesUp 38 = .ok (.iload_n 1, 1) := by decide +kernel
theorem dX10_comesUp_39 : decode cX10_comesUp 39 = .ok (.iload_n 3, 1) := by decide +kernel
theorem dX10_comesUp_40 : decode cX10_comesUp 40 = .ok (.iconst 1, 1) := by decide +kernel
theorem dX10_comesUp_41 : decode cX10_comesUp 41 = .ok (.iadd, 1) := by decide +kernel
theorem dX10_comesUp_42 : decode cX10_comesUp 42 = .ok (.aload_n 0, 1) := by decide +kernel
theorem dX10_comesUp_43 : decode cX10_comesUp 43 = .ok (.getfield 19, 3) := by decide +kernel
theorem dX10_comesUp_46 : decode cX10_comesUp 46 = .ok (.iload_n 2, 1) := by decide +kernel
theorem dX10_comesUp_47 : decode cX10_comesUp 47 = .ok (.iaload, 1) := by decide +kernel
theorem dX10_comesUp_48 : decode cX10_comesUp 48 = .ok (.iconst 2, 1) := by decide +kernel
theorem dX10_comesUp_49 : decode cX10_comesUp 49 = .ok (.idiv, 1) := by decide +kernel
theorem dX10_comesUp_50 : decode cX10_comesUp 50 = .ok (.invokevirtual 210, 3) := by decide +kernel
theorem dX10_comesUp_53 : decode cX10_comesUp 53 = .ok (.iconst 0, 1) := by decide +kernel
theorem dX10_comesUp_54 : decode cX10_comesUp 54 = .ok (.istore 4, 2) := by decide +kernel
theorem dX10_comesUp_56 : decode cX10_comesUp 56 = .ok (.iload 4, 2) := by decide +kernel
theorem dX10_comesUp_58 : decode cX10_comesUp 58 = .ok (.aload_n 0, 1) := by decide +kernel
theorem dX10_comesUp_59 : decode cX10_comesUp 59 = .ok (.getfield 121, 3) := by decide +kernel
theorem dX10_comesUp_62 : decode cX10_comesUp 62 = .ok (.if_icmp .ge 50, 3) := by decide +kernel
theorem dX10_comesUp_65 : decode cX10_comesUp 65 = .ok (.aload_n 0, 1) := by decide +kernel
theorem dX10_comesUp_66 : decode cX10_comesUp 66 = .ok (.getfield 13, 3) := by decide +kernel
theorem dX10_comesUp_69 : decode cX10_comesUp 69 = .ok (.iload_n 2, 1) := by decide +kernel
theorem dX10_comesUp_70 : decode cX10_comesUp 70 = .ok (.iaload, 1) := by decide +kernel
theorem dX10_comesUp_71 : decode cX10_comesUp 71 = .ok (.iconst 2, 1) := by decide +kernel
theorem dX10_comesUp_72 : decode cX10_comesUp 72 = .ok (.if_icmp .ne 40, 3) := by decide +kernel
theorem dX10_comesUp_75 : decode cX10_comesUp 75 = .ok (.aload_n 0, 1) := by decide +kernel
theorem dX10_comesUp_76 : decode cX10_comesUp 76 = .ok (.iload_n 1, 1) := by decide +kernel
theorem dX10_comesUp_77 : decode cX10_comesUp 77 = .ok (.iload 4, 2) := by decide +kernel
theorem dX10_comesUp_79 : decode cX10_comesUp 79 = .ok (.aload_n 0, 1) := by decide +kernel
theorem dX10_comesUp_80 : decode cX10_comesUp 80 = .ok (.iload_n 3, 1) := by decide +kernel
theorem dX10_comesUp_81 : decode cX10_comesUp 81 = .ok (.iload 4, 2) := by decide +kernel
theorem dX10_comesUp_83 : decode cX10_comesUp 83 = .ok (.invokevirtual 217, 3) := by decide +kernel
theorem dX10_comesUp_86 : decode cX10_comesUp 86 = .ok (.ifCond .eq 16, 3) := by decide +kernel
theorem dX10_comesUp_89 : decode cX10_comesUp 89 = .ok (.aload_n 0, 1) := by decide +kernel
theorem dX10_comesUp_90 : decode cX10_comesUp 90 = .ok (.getfield 19, 3) := by decide +kernel
theorem dX10_comesUp_93 : decode cX10_comesUp 93 = .ok (.iload_n 2, 1) := by decide +kernel
theorem dX10_comesUp_94 : decode cX10_comesUp 94 = .ok (.iaload, 1) := by decide +kernel
theorem dX10_comesUp_95 : decode cX10_comesUp 95 = .ok (.iconst 2, 1) := by decide +kernel
theorem dX10_comesUp_96 : decode cX10_comesUp 96 = .ok (.idiv, 1) := by decide +kernel
theorem dX10_comesUp_97 : decode cX10_comesUp 97 = .ok (.iconst 1, 1) := by decide +kernel
theorem dX10_comesUp_98 : decode cX10_comesUp 98 = .ok (.iadd, 1) := by decide +kernel
theorem dX10_comesUp_99 : decode cX10_comesUp 99 = .ok (.goto 4, 3) := by decide +kernel
theorem dX10_comesUp_102 : decode cX10_comesUp 102 = .ok (.iconst 0, 1) := by decide +kernel
theorem dX10_comesUp_103 : decode cX10_comesUp 103 = .ok (.invokevirtual 210, 3) := by decide +kernel
theorem dX10_comesUp_106 : decode cX10_comesUp 106 = .ok (.iinc 4 1, 3) := by decide +kernel
theorem dX10_comesUp_109 : decode cX10_comesUp 109 = .ok (.goto (-53), 3) := by decide +kernel
theorem dX10_comesUp_112 : decode cX10_comesUp 112 = .ok (.return_, 1) := by decide +kernel
theorem dX10_goes_0 : decode cX10_goes 0 = .ok (.iconst 0, 1) := by decide +kernel
theorem dX10_goes_1 : decode cX10_goes 1 = .ok (.istore_n 3, 1) := by decide +kernel
theorem dX10_goes_2 : decode cX10_goes 2 = .ok (.iload_n 3, 1) := by decide +kernel
theorem dX10_goes_3 : decode cX10_goes 3 = .ok (.aload_n 0, 1) := by decide +kernel
theorem dX10_goes_4 : decode cX10_goes 4 = .ok (.getfield 127, 3) := by decide +kernel
theorem dX10_goes_7 : decode cX10_goes 7 = .ok (.if_icmp .ge 41, 3) := by decide +kernel
theorem dX10_goes_10 : decode cX10_goes 10 = .ok (.iload_n 2, 1) := by decide +kernel
theorem dX10_goes_11 : decode cX10_goes 11 = .ok (.iload_n 3, 1) := by decide +kernel
theorem dX10_goes_12 : decode cX10_goes 12 = .ok (.invokestatic 221, 3) := by decide +kernel
theorem dX10_goes_15 : decode cX10_goes 15 = .ok (.ifCond .eq 27, 3) := by decide +kernel
theorem dX10_goes_18 : decode cX10_goes 18 = .ok (.aload_n 0, 1) := by decide +kernel
theorem dX10_goes_19 : decode cX10_goes 19 = .ok (.getfield 22, 3) := by decide +kernel
theorem dX10_goes_22 : decode cX10_goes 22 = .ok (.iload_n 3, 1) := by decide +kernel
theorem dX10_goes_23 : decode cX10_goes 23 = .ok (.iaload, 1) := by decide +kernel
theorem dX10_goes_24 : decode cX10_goes 24 = .ok (.aload_n 0, 1) := by decide +kernel
theorem dX10_goes_25 : decode cX10_goes 25 = .ok (.getfield 61, 3) := by decide +kernel
theorem dX10_goes_28 : decode cX10_goes 28 = .ok (.iload_n 1, 1) := by decide +kernel
theorem dX10_goes_29 : decode cX10_goes 29 = .ok (.bipush 31, 2) := by decide +kernel
theorem dX10_goes_31 : decode cX10_goes 31 = .ok (.iadd, 1) := by decide +kernel
theorem dX10_goes_32 : decode cX10_goes 32 = .ok (.iaload, 1) := by decide +kernel
theorem dX10_goes_33 : decode cX10_goes 33 = .ok (.if_icmp .gt 9, 3) := by decide +kernel
theorem dX10_goes_36 : decode cX10_goes 36 = .ok (.aload_n 0, 1) := by decide +kernel
theorem dX10_goes_37 : decode cX10_goes 37 = .ok (.iload_n 1, 1) := by decide +kernel
theorem dX10_goes_38 : decode cX10_goes 38 = .ok (.iload_n 3, 1) := by decide +kernel
theorem dX10_goes_39 : decode cX10_goes 39 = .ok (.invokevirtual 224, 3) := by decide +kernel
theorem dX10_goes_42 : decode cX10_goes 42 = .ok (.iinc 3 1, 3) := by decide +kernel
theorem dX10_goes_45 : decode cX10_goes 45 = .ok (.goto (-43), 3) := by decide +kernel
theorem dX10_goes_48 : decode cX10_goes 48 = .ok (.iconst 0, 1) := by decide +kernel
theorem dX10_goes_49 : decode cX10_goes 49 = .ok (.istore_n 3, 1) := by decide +kernel
theorem dX10_goes_50 : decode cX10_goes 50 = .ok (.iload_n 3, 1) := by decide +kernel
theorem dX10_goes_51 : decode cX10_goes 51 = .ok (.aload_n 0, 1) := by decide +kernel
theorem dX10_goes_52 : decode cX10_goes 52 = .ok (.getfield 130, 3) := by decide +kernel
theorem dX10_goes_55 : decode cX10_goes 55 = .ok (.if_icmp .ge 26, 3) := by decide +kernel
theorem dX10_goes_58 : decode cX10_goes 58 = .ok (.aload_n 0, 1) := by decide +kernel
theorem dX10_goes_59 : decode cX10_goes 59 = .ok (.getfield 61, 3) := by decide +kernel
theorem dX10_goes_62 : decode cX10_goes 62 = .ok (.iload_n 1, 1) := by decide +kernel
theorem dX10_goes_63 : decode cX10_goes 63 = .ok (.bipush 24, 2) := by decide +kernel
theorem dX10_goes_65 : decode cX10_goes 65 = .ok (.iadd, 1) := by decide +kernel
theorem dX10_goes_66 : decode cX10_goes 66 = .ok (.iload_n 3, 1) := by decide +kernel
theorem dX10_goes_67 : decode cX10_goes 67 = .ok (.iadd, 1) := by decide +kernel
theorem dX10_goes_68 : decode cX10_goes 68 = .ok (.aload_n 0, 1) := by decide +kernel
theorem dX10_goes_69 : decode cX10_goes 69 = .ok (.getfield 31, 3) := by decide +kernel
theorem dX10_goes_72 : decode cX10_goes 72 = .ok (.iload_n 3, 1) := by decide +kernel
theorem dX10_goes_73 : decode cX10_goes 73 = .ok (.iaload, 1) := by decide +kernel
theorem dX10_goes_74 : decode cX10_goes 74 = .ok (.iastore, 1) := by decide +kernel
theorem dX10_goes_75 : decode cX10_goes 75 = .ok (.iinc 3 1, 3) := by decide +kernel
theorem dX10_goes_78 : decode cX10_goes 78 = .ok (.goto (-28), 3) := by decide +kernel
theorem dX10_goes_81 : decode cX10_goes 81 = .ok (.aload_n 0, 1) := by decide +kernel
theorem dX10_goes_82 : decode cX10_goes 82 = .ok (.getfield 61, 3) := by decide +kernel
theorem dX10_goes_85 : decode cX10_goes 85 = .ok (.iload_n 1, 1) := by decide +kernel
theorem dX10_goes_86 : decode cX10_goes 86 = .ok (.bipush 31, 2) := by decide +kernel
theorem dX10_goes_88 : decode cX10_goes 88 = .ok (.iadd, 1) := by decide +kernel
theorem dX10_goes_89 : decode cX10_goes 89 = .ok (.dup2, 1) := by decide +kernel
theorem dX10_goes_90 : decode cX10_goes 90 = .ok (.iaload, 1) := by decide +kernel
theorem dX10_goes_91 : decode cX10_goes 91 = .ok (.iconst 1, 1) := by decide +kernel
theorem dX10_goes_92 : decode cX10_goes 92 = .ok (.iadd, 1) := by decide +kernel
theorem dX10_goes_93 : decode cX10_goes 93 = .ok (.iastore, 1) := by decide +kernel
theorem dX10_goes_94 : decode cX10_goes 94 = .ok (.return_, 1) := by decide +kernel
theorem dX10_open_0 : decode cX10_open 0 = .ok (.iconst 1, 1) := by decide +kernel
theorem dX10_open_1 : decode cX10_open 1 = .ok (.aload_n 0, 1) := by decide +kernel
theorem dX10_open_2 : decode cX10_open 2 = .ok (.getfield 127, 3) := by decide +kernel
theorem dX10_open_5 : decode cX10_open 5 = .ok (.ishl, 1) := by decide +kernel
theorem dX10_open_6 : decode cX10_open 6 = .ok (.iconst 1, 1) := by decide +kernel
theorem dX10_open_7 : decode cX10_open 7 = .ok (.isub, 1) := by decide +kernel
theorem dX10_open_8 : decode cX10_open 8 = .ok (.aload_n 0, 1) := by decide +kernel
theorem dX10_open_9 : decode cX10_open 9 = .ok (.getfield 61, 3) := by decide +kernel
theorem dX10_open_12 : decode cX10_open 12 = .ok (.iload_n 1, 1) := by decide +kernel
theorem dX10_open_13 : decode cX10_open 13 = .ok (.bipush 30, 2) := by decide +kernel
theorem dX10_open_15 : decode cX10_open 15 = .ok (.iadd, 1) := by decide +kernel
theorem dX10_open_16 : decode cX10_open 16 = .ok (.iaload, 1) := by decide +kernel
theorem dX10_open_17 : decode cX10_open 17 = .ok (.iconst (-1), 1) := by decide +kernel
theorem dX10_open_18 : decode cX10_open 18 = .ok (.ixor, 1) := by decide +kernel
theorem dX10_open_19 : decode cX10_open 19 = .ok (.iand, 1) := by decide +kernel
theorem dX10_open_20 : decode cX10_open 20 = .ok (.ireturn, 1) := by decide +kernel
theorem dX10_takes_0 : decode cX10_takes 0 = .ok (.aload_n 0, 1) := by decide +kernel
theorem dX10_takes_1 : decode cX10_takes 1 = .ok (.getfield 28, 3) := by decide +kernel
theorem dX10_takes_4 : decode cX10_takes 4 = .ok (.iload_n 1, 1) := by decide +kernel
theorem dX10_takes_5 : decode cX10_takes 5 = .ok (.iaload, 1) := by decide +kernel
theorem dX10_takes_6 : decode cX10_takes 6 = .ok (.istore_n 3, 1) := by decide +kernel
theorem dX10_takes_7 : decode cX10_takes 7 = .ok (.aload_n 0, 1) := by decide +kernel
theorem dX10_takes_8 : decode cX10_takes 8 = .ok (.getfield 25, 3) := by decide +kernel
theorem dX10_takes_11 : decode cX10_takes 11 = .ok (.iload_n 1, 1) := by decide +kernel
theorem dX10_takes_12 : decode cX10_takes 12 = .ok (.iaload, 1) := by decide +kernel
theorem dX10_takes_13 : decode cX10_takes 13 = .ok (.iconst 2, 1) := by decide +kernel
theorem dX10_takes_14 : decode cX10_takes 14 = .ok (.if_icmp .ne 11, 3) := by decide +kernel
theorem dX10_takes_17 : decode cX10_takes 17 = .ok (.iconst 1, 1) := by decide +kernel
theorem dX10_takes_18 : decode cX10_takes 18 = .ok (.iload_n 3, 1) := by decide +kernel
theorem dX10_takes_19 : decode cX10_takes 19 = .ok (.iconst 2, 1) := by decide +kernel
theorem dX10_takes_20 : decode cX10_takes 20 = .ok (.idiv, 1) := by decide +kernel
theorem dX10_takes_21 : decode cX10_takes 21 = .ok (.iadd, 1) := by decide +kernel
theorem dX10_takes_22 : decode cX10_takes 22 = .ok (.goto 30, 3) := by decide +kernel
theorem dX10_takes_25 : decode cX10_takes 25 = .ok (.aload_n 0, 1) := by decide +kernel
theorem dX10_takes_26 : decode cX10_takes 26 = .ok (.getfield 25, 3) := by decide +kernel
theorem dX10_takes_29 : decode cX10_takes 29 = .ok (.iload_n 1, 1) := by decide +kernel
theorem dX10_takes_30 : decode cX10_takes 30 = .ok (.iaload, 1) := by decide +kernel
theorem dX10_takes_31 : decode cX10_takes 31 = .ok (.iconst 3, 1) := by decide +kernel
theorem dX10_takes_32 : decode cX10_takes 32 = .ok (.if_icmp .ne 19, 3) := by decide +kernel
theorem dX10_takes_35 : decode cX10_takes 35 = .ok (.iload_n 2, 1) := by decide +kernel
theorem dX10_takes_36 : decode cX10_takes 36 = .ok (.bipush 12, 2) := by decide +kernel
theorem dX10_takes_38 : decode cX10_takes 38 = .ok (.if_icmp .lt 7, 3) := by decide +kernel
theorem dX10_takes_41 : decode cX10_takes 41 = .ok (.iconst 0, 1) := by decide +kernel
theorem dX10_takes_42 : decode cX10_takes 42 = .ok (.goto 10, 3) := by decide +kernel
theorem dX10_takes_45 : decode cX10_takes 45 = .ok (.iconst 2, 1) := by decide +kernel
theorem dX10_takes_46 : decode cX10_takes 46 = .ok (.iload_n 3, 1) := by decide +kernel
theorem dX10_takes_47 : decode cX10_takes 47 = .ok (.imul, 1) := by decide +kernel
theorem dX10_takes_48 : decode cX10_takes 48 = .ok (.goto 4, 3) := by decide +kernel
theorem dX10_takes_51 : decode cX10_takes 51 = .ok (.iload_n 3, 1) := by decide +kernel
theorem dX10_takes_52 : decode cX10_takes 52 = .ok (.istore 4, 2) := by decide +kernel
theorem dX10_takes_54 : decode cX10_takes 54 = .ok (.iload 4, 2) := by decide +kernel
theorem dX10_takes_56 : decode cX10_takes 56 = .ok (.iload_n 2, 1) := by decide +kernel
theorem dX10_takes_57 : decode cX10_takes 57 = .ok (.invokestatic 167, 3) := by decide +kernel
theorem dX10_takes_60 : decode cX10_takes 60 = .ok (.ireturn, 1) := by decide +kernel
theorem dX10_strikes_0 : decode cX10_strikes 0 = .ok (.aload_n 0, 1) := by decide +kernel
theorem dX10_strikes_1 : decode cX10_strikes 1 = .ok (.getfield 61, 3) := by decide +kernel
theorem dX10_strikes_4 : decode cX10_strikes 4 = .ok (.iload_n 1, 1) := by decide +kernel
theorem dX10_strikes_5 : decode cX10_strikes 5 = .ok (.iload_n 3, 1) := by decide +kernel
theorem dX10_strikes_6 : decode cX10_strikes 6 = .ok (.iadd, 1) := by decide +kernel
theorem dX10_strikes_7 : decode cX10_strikes 7 = .ok (.dup2, 1) := by decide +kernel
theorem dX10_strikes_8 : decode cX10_strikes 8 = .ok (.iaload, 1) := by decide +kernel
theorem dX10_strikes_9 : decode cX10_strikes 9 = .ok (.aload_n 0, 1) := by decide +kernel
theorem dX10_strikes_10 : decode cX10_strikes 10 = .ok (.iload_n 2, 1) := by decide +kernel
theorem dX10_strikes_11 : decode cX10_strikes 11 = .ok (.aload_n 0, 1) := by decide +kernel
theorem dX10_strikes_12 : decode cX10_strikes 12 = .ok (.getfield 61, 3) := by decide +kernel
theorem dX10_strikes_15 : decode cX10_strikes 15 = .ok (.iload_n 1, 1) := by decide +kernel
theorem dX10_strikes_16 : decode cX10_strikes 16 = .ok (.iload_n 3, 1) := by decide +kernel
theorem dX10_strikes_17 : decode cX10_strikes 17 = .ok (.iadd, 1) := by decide +kernel
theorem dX10_strikes_18 : decode cX10_strikes 18 = .ok (.iaload, 1) := by decide +kernel
theorem dX10_strikes_19 : decode cX10_strikes 19 = .ok (.invokevirtual 228, 3) := by decide +kernel
theorem dX10_strikes_22 : decode cX10_strikes 22 = .ok (.isub, 1) := by decide +kernel
theorem dX10_strikes_23 : decode cX10_strikes 23 = .ok (.iastore, 1) := by decide +kernel
theorem dX10_strikes_24 : decode cX10_strikes 24 = .ok (.aload_n 0, 1) := by decide +kernel
theorem dX10_strikes_25 : decode cX10_strikes 25 = .ok (.getfield 25, 3) := by decide +kernel
theorem dX10_strikes_28 : decode cX10_strikes 28 = .ok (.iload_n 2, 1) := by decide +kernel
theorem dX10_strikes_29 : decode cX10_strikes 29 = .ok (.iaload, 1) := by decide +kernel
theorem dX10_strikes_30 : decode cX10_strikes 30 = .ok (.iconst 1, 1) := by decide +kernel
theorem dX10_strikes_31 : decode cX10_strikes 31 = .ok (.if_icmp .ne 44, 3) := by decide +kernel
theorem dX10_strikes_34 : decode cX10_strikes 34 = .ok (.aload_n 0, 1) := by decide +kernel
theorem dX10_strikes_35 : decode cX10_strikes 35 = .ok (.iload_n 3, 1) := by decide +kernel
theorem dX10_strikes_36 : decode cX10_strikes 36 = .ok (.invokevirtual 214, 3) := by decide +kernel
theorem dX10_strikes_39 : decode cX10_strikes 39 = .ok (.ifCond .eq 36, 3) := by decide +kernel
theorem dX10_strikes_42 : decode cX10_strikes 42 = .ok (.aload_n 0, 1) := by decide +kernel
theorem dX10_strikes_43 : decode cX10_strikes 43 = .ok (.getfield 61, 3) := by decide +kernel
theorem dX10_strikes_46 : decode cX10_strikes 46 = .ok (.iload_n 1, 1) := by decide +kernel
theorem dX10_strikes_47 : decode cX10_strikes 47 = .ok (.iload_n 3, 1) := by decide +kernel
theorem dX10_strikes_48 : decode cX10_strikes 48 = .ok (.iadd, 1) := by decide +kernel
theorem dX10_strikes_49 : decode cX10_strikes 49 = .ok (.iconst 1, 1) := by decide +kernel
theorem dX10_strikes_50 : decode cX10_strikes 50 = .ok (.iadd, 1) := by decide +kernel
theorem dX10_strikes_51 : decode cX10_strikes 51 = .ok (.iconst 0, 1) := by decide +kernel
theorem dX10_strikes_52 : decode cX10_strikes 52 = .ok (.aload_n 0, 1) := by decide +kernel
theorem dX10_strikes_53 : decode cX10_strikes 53 = .ok (.getfield 61, 3) := by decide +kernel
theorem dX10_strikes_56 : decode cX10_strikes 56 = .ok (.iload_n 1, 1) := by decide +kernel
theorem dX10_strikes_57 : decode cX10_strikes 57 = .ok (.iload_n 3, 1) := by decide +kernel
theorem dX10_strikes_58 : decode cX10_strikes 58 = .ok (.iadd, 1) := by decide +kernel
theorem dX10_strikes_59 : decode cX10_strikes 59 = .ok (.iconst 1, 1) := by decide +kernel
theorem dX10_strikes_60 : decode cX10_strikes 60 = .ok (.iadd, 1) := by decide +kernel
theorem dX10_strikes_61 : decode cX10_strikes 61 = .ok (.iaload, 1) := by decide +kernel
theorem dX10_strikes_62 : decode cX10_strikes 62 = .ok (.aload_n 0, 1) := by decide +kernel
theorem dX10_strikes_63 : decode cX10_strikes 63 = .ok (.getfield 28, 3) := by decide +kernel
theorem dX10_strikes_66 : decode cX10_strikes 66 = .ok (.iload_n 2, 1) := by decide +kernel
theorem dX10_strikes_67 : decode cX10_strikes 67 = .ok (.iaload, 1) := by decide +kernel
theorem dX10_strikes_68 : decode cX10_strikes 68 = .ok (.iconst 2, 1) := by decide +kernel
theorem dX10_strikes_69 : decode cX10_strikes 69 = .ok (.idiv, 1) := by decide +kernel
theorem dX10_strikes_70 : decode cX10_strikes 70 = .ok (.isub, 1) := by decide +kernel
theorem dX10_strikes_71 : decode cX10_strikes 71 = .ok (.invokestatic 231, 3) := by decide +kernel
theorem dX10_strikes_74 : decode cX10_strikes 74 = .ok (.iastore, 1) := by decide +kernel
theorem dX10_strikes_75 : decode cX10_strikes 75 = .ok (.aload_n 0, 1) := by decide +kernel
theorem dX10_strikes_76 : decode cX10_strikes 76 = .ok (.getfield 61, 3) := by decide +kernel
theorem dX10_strikes_79 : decode cX10_strikes 79 = .ok (.iload_n 1, 1) := by decide +kernel
theorem dX10_strikes_80 : decode cX10_strikes 80 = .ok (.bipush 27, 2) := by decide +kernel
theorem dX10_strikes_82 : decode cX10_strikes 82 = .ok (.iadd, 1) := by decide +kernel
theorem dX10_strikes_83 : decode cX10_strikes 83 = .ok (.iload_n 2, 1) := by decide +kernel
theorem dX10_strikes_84 : decode cX10_strikes 84 = .ok (.iadd, 1) := by decide +kernel
theorem dX10_strikes_85 : decode cX10_strikes 85 = .ok (.iload_n 3, 1) := by decide +kernel
theorem dX10_strikes_86 : decode cX10_strikes 86 = .ok (.iastore, 1) := by decide +kernel
theorem dX10_strikes_87 : decode cX10_strikes 87 = .ok (.aload_n 0, 1) := by decide +kernel
theorem dX10_strikes_88 : decode cX10_strikes 88 = .ok (.getfield 61, 3) := by decide +kernel
theorem dX10_strikes_91 : decode cX10_strikes 91 = .ok (.iload_n 1, 1) := by decide +kernel
theorem dX10_strikes_92 : decode cX10_strikes 92 = .ok (.bipush 24, 2) := by decide +kernel
theorem dX10_strikes_94 : decode cX10_strikes 94 = .ok (.iadd, 1) := by decide +kernel
theorem dX10_strikes_95 : decode cX10_strikes 95 = .ok (.iload_n 2, 1) := by decide +kernel
theorem dX10_strikes_96 : decode cX10_strikes 96 = .ok (.iadd, 1) := by decide +kernel
theorem dX10_strikes_97 : decode cX10_strikes 97 = .ok (.dup2, 1) := by decide +kernel
theorem dX10_strikes_98 : decode cX10_strikes 98 = .ok (.iaload, 1) := by decide +kernel
theorem dX10_strikes_99 : decode cX10_strikes 99 = .ok (.iconst 1, 1) := by decide +kernel
theorem dX10_strikes_100 : decode cX10_strikes 100 = .ok (.isub, 1) := by decide +kernel
theorem dX10_strikes_101 : decode cX10_strikes 101 = .ok (.iastore, 1) := by decide +kernel
theorem dX10_strikes_102 : decode cX10_strikes 102 = .ok (.return_, 1) := by decide +kernel
theorem dX10_canStrike_0 : decode cX10_canStrike 0 = .ok (.aload_n 0, 1) := by decide +kernel
theorem dX10_canStrike_1 : decode cX10_canStrike 1 = .ok (.getfield 61, 3) := by decide +kernel
theorem dX10_canStrike_4 : decode cX10_canStrike 4 = .ok (.iload_n 1, 1) := by decide +kernel
theorem dX10_canStrike_5 : decode cX10_canStrike 5 = .ok (.bipush 27, 2) := by decide +kernel
theorem dX10_canStrike_7 : decode cX10_canStrike 7 = .ok (.iadd, 1) := by decide +kernel
theorem dX10_canStrike_8 : decode cX10_canStrike 8 = .ok (.iload_n 2, 1) := by decide +kernel
theorem dX10_canStrike_9 : decode cX10_canStrike 9 = .ok (.iadd, 1) := by decide +kernel
theorem dX10_canStrike_10 : decode cX10_canStrike 10 = .ok (.iaload, 1) := by decide +kernel
theorem dX10_canStrike_11 : decode cX10_canStrike 11 = .ok (.istore 4, 2) := by decide +kernel
theorem dX10_canStrike_13 : decode cX10_canStrike 13 = .ok (.aload_n 0, 1) := by decide +kernel
theorem dX10_canStrike_14 : decode cX10_canStrike 14 = .ok (.getfield 61, 3) := by decide +kernel
theorem dX10_canStrike_17 : decode cX10_canStrike 17 = .ok (.iload_n 1, 1) := by decide +kernel
theorem dX10_canStrike_18 : decode cX10_canStrike 18 = .ok (.bipush 24, 2) := by decide +kernel
theorem dX10_canStrike_20 : decode cX10_canStrike 20 = .ok (.iadd, 1) := by decide +kernel
theorem dX10_canStrike_21 : decode cX10_canStrike 21 = .ok (.iload_n 2, 1) := by decide +kernel
theorem dX10_canStrike_22 : decode cX10_canStrike 22 = .ok (.iadd, 1) := by decide +kernel
theorem dX10_canStrike_23 : decode cX10_canStrike 23 = .ok (.iaload, 1) := by decide +kernel
theorem dX10_canStrike_24 : decode cX10_canStrike 24 = .ok (.ifCond .le 23, 3) := by decide +kernel
theorem dX10_canStrike_27 : decode cX10_canStrike 27 = .ok (.iload 4, 2) := by decide +kernel
theorem dX10_canStrike_29 : decode cX10_canStrike 29 = .ok (.iload_n 3, 1) := by decide +kernel
theorem dX10_canStrike_30 : decode cX10_canStrike 30 = .ok (.if_icmp .eq 13, 3) := by decide +kernel
theorem dX10_canStrike_33 : decode cX10_canStrike 33 = .ok (.aload_n 0, 1) := by decide +kernel
theorem dX10_canStrike_34 : decode cX10_canStrike 34 = .ok (.iload 4, 2) := by decide +kernel
theorem dX10_canStrike_36 : decode cX10_canStrike 36 = .ok (.iload_n 3, 1) := by decide +kernel
theorem dX10_canStrike_37 : decode cX10_canStrike 37 = .ok (.invokevirtual 217, 3) := by decide +kernel
theorem dX10_canStrike_40 : decode cX10_canStrike 40 = .ok (.ifCond .eq 7, 3) := by decide +kernel
theorem dX10_canStrike_43 : decode cX10_canStrike 43 = .ok (.iconst 1, 1) := by decide +kernel
theorem dX10_canStrike_44 : decode cX10_canStrike 44 = .ok (.goto 4, 3) := by decide +kernel
theorem dX10_canStrike_47 : decode cX10_canStrike 47 = .ok (.iconst 0, 1) := by decide +kernel
theorem dX10_canStrike_48 : decode cX10_canStrike 48 = .ok (.ireturn, 1) := by decide +kernel
theorem dX10_matter_0 : decode cX10_matter 0 = .ok (.aload_n 0, 1) := by decide +kernel
theorem dX10_matter_1 : decode cX10_matter 1 = .ok (.iload_n 1, 1) := by decide +kernel
theorem dX10_matter_2 : decode cX10_matter 2 = .ok (.invokevirtual 234, 3) := by decide +kernel
theorem dX10_matter_5 : decode cX10_matter 5 = .ok (.ifCond .eq 15, 3) := by decide +kernel
theorem dX10_matter_8 : decode cX10_matter 8 = .ok (.iload_n 2, 1) := by decide +kernel
theorem dX10_matter_9 : decode cX10_matter 9 = .ok (.i2l, 1) := by decide +kernel
theorem dX10_matter_10 : decode cX10_matter 10 = .ok (.lconst 0, 1) := by decide +kernel
theorem dX10_matter_11 : decode cX10_matter 11 = .ok (.ldc2_w 237, 3) := by decide +kernel
theorem dX10_matter_14 : decode cX10_matter 14 = .ok (.invokestatic 137, 3) := by decide +kernel
theorem dX10_matter_17 : decode cX10_matter 17 = .ok (.ifCond .ne 5, 3) := by decide +kernel
theorem dX10_matter_20 : decode cX10_matter 20 = .ok (.iconst (-1), 1) := by decide +kernel
theorem dX10_matter_21 : decode cX10_matter 21 = .ok (.ireturn, 1) := by decide +kernel
theorem dX10_matter_22 : decode cX10_matter 22 = .ok (.aload_n 0, 1) := by decide +kernel
theorem dX10_matter_23 : decode cX10_matter 23 = .ok (.getfield 61, 3) := by decide +kernel
theorem dX10_matter_26 : decode cX10_matter 26 = .ok (.bipush 30, 2) := by decide +kernel
theorem dX10_matter_28 : decode cX10_matter 28 = .ok (.iaload, 1) := by decide +kernel
theorem dX10_matter_29 : decode cX10_matter 29 = .ok (.iload_n 1, 1) := by decide +kernel
theorem dX10_matter_30 : decode cX10_matter 30 = .ok (.ishr, 1) := by decide +kernel
theorem dX10_matter_31 : decode cX10_matter 31 = .ok (.iconst 1, 1) := by decide +kernel
theorem dX10_matter_32 : decode cX10_matter 32 = .ok (.iand, 1) := by decide +kernel
theorem dX10_matter_33 : decode cX10_matter 33 = .ok (.istore_n 3, 1) := by decide +kernel
theorem dX10_matter_34 : decode cX10_matter 34 = .ok (.iload_n 3, 1) := by decide +kernel
theorem dX10_matter_35 : decode cX10_matter 35 = .ok (.iconst 1, 1) := by decide +kernel
theorem dX10_matter_36 : decode cX10_matter 36 = .ok (.if_icmp .ne 7, 3) := by decide +kernel
theorem dX10_matter_39 : decode cX10_matter 39 = .ok (.iconst 0, 1) := by decide +kernel
theorem dX10_matter_40 : decode cX10_matter 40 = .ok (.goto 26, 3) := by decide +kernel
theorem dX10_matter_43 : decode cX10_matter 43 = .ok (.aload_n 0, 1) := by decide +kernel
theorem dX10_matter_44 : decode cX10_matter 44 = .ok (.iconst 0, 1) := by decide +kernel
theorem dX10_matter_45 : decode cX10_matter 45 = .ok (.iload_n 1, 1) := by decide +kernel
theorem dX10_matter_46 : decode cX10_matter 46 = .ok (.invokevirtual 207, 3) := by decide +kernel
theorem dX10_matter_49 : decode cX10_matter 49 = .ok (.bipush 40, 2) := by decide +kernel
theorem dX10_matter_51 : decode cX10_matter 51 = .ok (.aload_n 0, 1) := by decide +kernel
theorem dX10_matter_52 : decode cX10_matter 52 = .ok (.getfield 61, 3) := by decide +kernel
theorem dX10_matter_55 : decode cX10_matter 55 = .ok (.aload_n 0, 1) := by decide +kernel
theorem dX10_matter_56 : decode cX10_matter 56 = .ok (.getfield 16, 3) := by decide +kernel
theorem dX10_matter_59 : decode cX10_matter 59 = .ok (.iload_n 1, 1) := by decide +kernel
theorem dX10_matter_60 : decode cX10_matter 60 = .ok (.iaload, 1) := by decide +kernel
theorem dX10_matter_61 : decode cX10_matter 61 = .ok (.iaload, 1) := by decide +kernel
theorem dX10_matter_62 : decode cX10_matter 62 = .ok (.isub, 1) := by decide +kernel
theorem dX10_matter_63 : decode cX10_matter 63 = .ok (.invokestatic 167, 3) := by decide +kernel
theorem dX10_matter_66 : decode cX10_matter 66 = .ok (.istore 4, 2) := by decide +kernel
theorem dX10_matter_68 : decode cX10_matter 68 = .ok (.iload_n 2, 1) := by decide +kernel
theorem dX10_matter_69 : decode cX10_matter 69 = .ok (.ifCond .ne 12, 3) := by decide +kernel
theorem dX10_matter_72 : decode cX10_matter 72 = .ok (.aload_n 0, 1) := by decide +kernel
theorem dX10_matter_73 : decode cX10_matter 73 = .ok (.getfield 13, 3) := by decide +kernel
theorem dX10_matter_76 : decode cX10_matter 76 = .ok (.iload_n 1, 1) := by decide +kernel
theorem dX10_matter_77 : decode cX10_matter 77 = .ok (.iaload, 1) := by decide +kernel
theorem dX10_matter_78 : decode cX10_matter 78 = .ok (.goto 56, 3) := by decide +kernel
theorem dX10_matter_81 : decode cX10_matter 81 = .ok (.iload_n 2, 1) := by decide +kernel
theorem dX10_matter_82 : decode cX10_matter 82 = .ok (.iconst 1, 1) := by decide +kernel
theorem dX10_matter_83 : decode cX10_matter 83 = .ok (.if_icmp .ne 12, 3) := by decide +kernel
theorem dX10_matter_86 : decode cX10_matter 86 = .ok (.aload_n 0, 1) := by decide +kernel
theorem dX10_matter_87 : decode cX10_matter 87 = .ok (.getfield 16, 3) := by decide +kernel
theorem dX10_matter_90 : decode cX10_matter 90 = .ok (.iload_n 1, 1) := by decide +kernel
theorem dX10_matter_91 : decode cX10_matter 91 = .ok (.iaload, 1) := by decide +kernel
theorem dX10_matter_92 : decode cX10_matter 92 = .ok (.goto 42, 3) := by decide +kernel
theorem dX10_matter_95 : decode cX10_matter 95 = .ok (.iload_n 2, 1) := by decide +kernel
theorem dX10_matter_96 : decode cX10_matter 96 = .ok (.iconst 2, 1) := by decide +kernel
theorem dX10_matter_97 : decode cX10_matter 97 = .ok (.if_icmp .ne 12, 3) := by decide +kernel
theorem dX10_matter_100 : decode cX10_matter 100 = .ok (.aload_n 0, 1) := by decide +kernel
theorem dX10_matter_101 : decode cX10_matter 101 = .ok (.getfield 19, 3) := by decide +kernel
theorem dX10_matter_104 : decode cX10_matter 104 = .ok (.iload_n 1, 1) := by decide +kernel
theorem dX10_matter_105 : decode cX10_matter 105 = .ok (.iaload, 1) := by decide +kernel
theorem dX10_matter_106 : decode cX10_matter 106 = .ok (.goto 28, 3) := by decide +kernel
theorem dX10_matter_109 : decode cX10_matter 109 = .ok (.iload_n 2, 1) := by decide +kernel
theorem dX10_matter_110 : decode cX10_matter 110 = .ok (.iconst 3, 1) := by decide +kernel
theorem dX10_matter_111 : decode cX10_matter 111 = .ok (.if_icmp .ne 12, 3) := by decide +kernel
theorem dX10_matter_114 : decode cX10_matter 114 = .ok (.aload_n 0, 1) := by decide +kernel
theorem dX10_matter_115 : decode cX10_matter 115 = .ok (.getfield 22, 3) := by decide +kernel
theorem dX10_matter_118 : decode cX10_matter 118 = .ok (.iload_n 1, 1) := by decide +kernel
theorem dX10_matter_119 : decode cX10_matter 119 = .ok (.iaload, 1) := by decide +kernel
theorem dX10_matter_120 : decode cX10_matter 120 = .ok (.goto 14, 3) := by decide +kernel
theorem dX10_matter_123 : decode cX10_matter 123 = .ok (.iload_n 2, 1) := by decide +kernel
theorem dX10_matter_124 : decode cX10_matter 124 = .ok (.iconst 4, 1) := by decide +kernel
theorem dX10_matter_125 : decode cX10_matter 125 = .ok (.if_icmp .ne 7, 3) := by decide +kernel
theorem dX10_matter_128 : decode cX10_matter 128 = .ok (.iload_n 3, 1) := by decide +kernel
theorem dX10_matter_129 : decode cX10_matter 129 = .ok (.goto 5, 3) := by decide +kernel
theorem dX10_matter_132 : decode cX10_matter 132 = .ok (.iload 4, 2) := by decide +kernel
theorem dX10_matter_134 : decode cX10_matter 134 = .ok (.ireturn, 1) := by decide +kernel
theorem dX10_maid_0 : decode cX10_maid 0 = .ok (.aload_n 0, 1) := by decide +kernel
theorem dX10_maid_1 : decode cX10_maid 1 = .ok (.iload_n 1, 1) := by decide +kernel
theorem dX10_maid_2 : decode cX10_maid 2 = .ok (.invokevirtual 239, 3) := by decide +kernel
theorem dX10_maid_5 : decode cX10_maid 5 = .ok (.ifCond .eq 15, 3) := by decide +kernel
theorem dX10_maid_8 : decode cX10_maid 8 = .ok (.iload_n 2, 1) := by decide +kernel
theorem dX10_maid_9 : decode cX10_maid 9 = .ok (.i2l, 1) := by decide +kernel
theorem dX10_maid_10 : decode cX10_maid 10 = .ok (.lconst 0, 1) := by decide +kernel
theorem dX10_maid_11 : decode cX10_maid 11 = .ok (.ldc2_w 242, 3) := by decide +kernel
theorem dX10_maid_14 : decode cX10_maid 14 = .ok (.invokestatic 137, 3) := by decide +kernel
theorem dX10_maid_17 : decode cX10_maid 17 = .ok (.ifCond .ne 5, 3) := by decide +kernel
theorem dX10_maid_20 : decode cX10_maid 20 = .ok (.iconst (-1), 1) := by decide +kernel
theorem dX10_maid_21 : decode cX10_maid 21 = .ok (.ireturn, 1) := by decide +kernel
theorem dX10_maid_22 : decode cX10_maid 22 = .ok (.iload_n 2, 1) := by decide +kernel
theorem dX10_maid_23 : decode cX10_maid 23 = .ok (.ifCond .ne 12, 3) := by decide +kernel
theorem dX10_maid_26 : decode cX10_maid 26 = .ok (.aload_n 0, 1) := by decide +kernel
theorem dX10_maid_27 : decode cX10_maid 27 = .ok (.getfield 25, 3) := by decide +kernel
theorem dX10_maid_30 : decode cX10_maid 30 = .ok (.iload_n 1, 1) := by decide +kernel
theorem dX10_maid_31 : decode cX10_maid 31 = .ok (.iaload, 1) := by decide +kernel
theorem dX10_maid_32 : decode cX10_maid 32 = .ok (.goto 70, 3) := by decide +kernel
theorem dX10_maid_35 : decode cX10_maid 35 = .ok (.iload_n 2, 1) := by decide +kernel
theorem dX10_maid_36 : decode cX10_maid 36 = .ok (.iconst 1, 1) := by decide +kernel
theorem dX10_maid_37 : decode cX10_maid 37 = .ok (.if_icmp .ne 12, 3) := by decide +kernel
theorem dX10_maid_40 : decode cX10_maid 40 = .ok (.aload_n 0, 1) := by decide +kernel
theorem dX10_maid_41 : decode cX10_maid 41 = .ok (.getfield 28, 3) := by decide +kernel
theorem dX10_maid_44 : decode cX10_maid 44 = .ok (.iload_n 1, 1) := by decide +kernel
theorem dX10_maid_45 : decode cX10_maid 45 = .ok (.iaload, 1) := by decide +kernel
theorem dX10_maid_46 : decode cX10_maid 46 = .ok (.goto 56, 3) := by decide +kernel
theorem dX10_maid_49 : decode cX10_maid 49 = .ok (.iload_n 2, 1) := by decide +kernel
theorem dX10_maid_50 : decode cX10_maid 50 = .ok (.iconst 2, 1) := by decide +kernel
theorem dX10_maid_51 : decode cX10_maid 51 = .ok (.if_icmp .ne 15, 3) := by decide +kernel
theorem dX10_maid_54 : decode cX10_maid 54 = .ok (.aload_n 0, 1) := by decide +kernel
theorem dX10_maid_55 : decode cX10_maid 55 = .ok (.getfield 61, 3) := by decide +kernel
theorem dX10_maid_58 : decode cX10_maid 58 = .ok (.bipush 24, 2) := by decide +kernel
theorem dX10_maid_60 : decode cX10_maid 60 = .ok (.iload_n 1, 1) := by decide +kernel
theorem dX10_maid_61 : decode cX10_maid 61 = .ok (.iadd, 1) := by decide +kernel
theorem dX10_maid_62 : decode cX10_maid 62 = .ok (.iaload, 1) := by decide +kernel
theorem dX10_maid_63 : decode cX10_maid 63 = .ok (.goto 39, 3) := by decide +kernel
theorem dX10_maid_66 : decode cX10_maid 66 = .ok (.iload_n 2, 1) := by decide +kernel
theorem dX10_maid_67 : decode cX10_maid 67 = .ok (.iconst 3, 1) := by decide +kernel
theorem dX10_maid_68 : decode cX10_maid 68 = .ok (.if_icmp .ne 15, 3) := by decide +kernel
theorem dX10_maid_71 : decode cX10_maid 71 = .ok (.aload_n 0, 1) := by decide +kernel
theorem dX10_maid_72 : decode cX10_maid 72 = .ok (.getfield 61, 3) := by decide +kernel
theorem dX10_maid_75 : decode cX10_maid 75 = .ok (.bipush 27, 2) := by decide +kernel
theorem dX10_maid_77 : decode cX10_maid 77 = .ok (.iload_n 1, 1) := by decide +kernel
theorem dX10_maid_78 : decode cX10_maid 78 = .ok (.iadd, 1) := by decide +kernel
theorem dX10_maid_79 : decode cX10_maid 79 = .ok (.iaload, 1) := by decide +kernel
theorem dX10_maid_80 : decode cX10_maid 80 = .ok (.goto 22, 3) := by decide +kernel
theorem dX10_maid_83 : decode cX10_maid 83 = .ok (.aload_n 0, 1) := by decide +kernel
theorem dX10_maid_84 : decode cX10_maid 84 = .ok (.iload_n 1, 1) := by decide +kernel
theorem dX10_maid_85 : decode cX10_maid 85 = .ok (.aload_n 0, 1) := by decide +kernel
theorem dX10_maid_86 : decode cX10_maid 86 = .ok (.getfield 61, 3) := by decide +kernel
theorem dX10_maid_89 : decode cX10_maid 89 = .ok (.aload_n 0, 1) := by decide +kernel
theorem dX10_maid_90 : decode cX10_maid 90 = .ok (.getfield 61, 3) := by decide +kernel
theorem dX10_maid_93 : decode cX10_maid 93 = .ok (.bipush 27, 2) := by decide +kernel
theorem dX10_maid_95 : decode cX10_maid 95 = .ok (.iload_n 1, 1) := by decide +kernel
theorem dX10_maid_96 : decode cX10_maid 96 = .ok (.iadd, 1) := by decide +kernel
theorem dX10_maid_97 : decode cX10_maid 97 = .ok (.iaload, 1) := by decide +kernel
theorem dX10_maid_98 : decode cX10_maid 98 = .ok (.iaload, 1) := by decide +kernel
theorem dX10_maid_99 : decode cX10_maid 99 = .ok (.invokevirtual 228, 3) := by decide +kernel
theorem dX10_maid_102 : decode cX10_maid 102 = .ok (.ireturn, 1) := by decide +kernel
theorem dX10_known_0 : decode cX10_known 0 = .ok (.aload_n 0, 1) := by decide +kernel
theorem dX10_known_1 : decode cX10_known 1 = .ok (.getfield 194, 3) := by decide +kernel
theorem dX10_known_4 : decode cX10_known 4 = .ok (.bipush 8, 2) := by decide +kernel
theorem dX10_known_6 : decode cX10_known 6 = .ok (.if_icmp .ne 40, 3) := by decide +kernel
theorem dX10_known_9 : decode cX10_known 9 = .ok (.bipush 32, 2) := by decide +kernel
theorem dX10_known_11 : decode cX10_known 11 = .ok (.istore_n 1, 1) := by decide +kernel
theorem dX10_known_12 : decode cX10_known 12 = .ok (.iload_n 1, 1) := by decide +kernel
theorem dX10_known_13 : decode cX10_known 13 = .ok (.sipush 256, 3) := by decide +kernel
theorem dX10_known_16 : decode cX10_known 16 = .ok (.if_icmp .ge 24, 3) := by decide +kernel
theorem dX10_known_19 : decode cX10_known 19 = .ok (.aload_n 0, 1) := by decide +kernel
theorem dX10_known_20 : decode cX10_known 20 = .ok (.getfield 61, 3) := by decide +kernel
theorem dX10_known_23 : decode cX10_known 23 = .ok (.iload_n 1, 1) := by decide +kernel
theorem dX10_known_24 : decode cX10_known 24 = .ok (.aload_n 0, 1) := by decide +kernel
theorem dX10_known_25 : decode cX10_known 25 = .ok (.getfield 61, 3) := by decide +kernel
theorem dX10_known_28 : decode cX10_known 28 = .ok (.iload_n 1, 1) := by decide +kernel
theorem dX10_known_29 : decode cX10_known 29 = .ok (.bipush 32, 2) := by decide +kernel
theorem dX10_known_31 : decode cX10_known 31 = .ok (.iadd, 1) := by decide +kernel
theorem dX10_known_32 : decode cX10_known 32 = .ok (.iaload, 1) := by decide +kernel
theorem dX10_known_33 : decode cX10_known 33 = .ok (.iastore, 1) := by decide +kernel
theorem dX10_known_34 : decode cX10_known 34 = .ok (.iinc 1 1, 3) := by decide +kernel
theorem dX10_known_37 : decode cX10_known 37 = .ok (.goto (-25), 3) := by decide +kernel
theorem dX10_known_40 : decode cX10_known 40 = .ok (.aload_n 0, 1) := by decide +kernel
theorem dX10_known_41 : decode cX10_known 41 = .ok (.bipush 7, 2) := by decide +kernel
theorem dX10_known_43 : decode cX10_known 43 = .ok (.putfield 194, 3) := by decide +kernel
theorem dX10_known_46 : decode cX10_known 46 = .ok (.aload_n 0, 1) := by decide +kernel
theorem dX10_known_47 : decode cX10_known 47 = .ok (.dup, 1) := by decide +kernel
theorem dX10_known_48 : decode cX10_known 48 = .ok (.getfield 194, 3) := by decide +kernel
theorem dX10_known_51 : decode cX10_known 51 = .ok (.iconst 1, 1) := by decide +kernel
theorem dX10_known_52 : decode cX10_known 52 = .ok (.iadd, 1) := by decide +kernel
theorem dX10_known_53 : decode cX10_known 53 = .ok (.putfield 194, 3) := by decide +kernel
theorem dX10_known_56 : decode cX10_known 56 = .ok (.aload_n 0, 1) := by decide +kernel
theorem dX10_known_57 : decode cX10_known 57 = .ok (.iconst 0, 1) := by decide +kernel
theorem dX10_known_58 : decode cX10_known 58 = .ok (.aload_n 0, 1) := by decide +kernel
theorem dX10_known_59 : decode cX10_known 59 = .ok (.getfield 194, 3) := by decide +kernel
theorem dX10_known_62 : decode cX10_known 62 = .ok (.bipush 32, 2) := by decide +kernel
theorem dX10_known_64 : decode cX10_known 64 = .ok (.imul, 1) := by decide +kernel
theorem dX10_known_65 : decode cX10_known 65 = .ok (.invokevirtual 244, 3) := by decide +kernel
theorem dX10_known_68 : decode cX10_known 68 = .ok (.return_, 1) := by decide +kernel
theorem dX10_stroke_0 : decode cX10_stroke 0 = .ok (.aload_n 0, 1) := by decide +kernel
theorem dX10_stroke_1 : decode cX10_stroke 1 = .ok (.iload_n 1, 1) := by decide +kernel
theorem dX10_stroke_2 : decode cX10_stroke 2 = .ok (.invokevirtual 239, 3) := by decide +kernel
theorem dX10_stroke_5 : decode cX10_stroke 5 = .ok (.ifCond .eq 11, 3) := by decide +kernel
theorem dX10_stroke_8 : decode cX10_stroke 8 = .ok (.aload_n 0, 1) := by decide +kernel
theorem dX10_stroke_9 : decode cX10_stroke 9 = .ok (.iload_n 2, 1) := by decide +kernel
theorem dX10_stroke_10 : decode cX10_stroke 10 = .ok (.invokevirtual 203, 3) := by decide +kernel
theorem dX10_stroke_13 : decode cX10_stroke 13 = .ok (.ifCond .ne 5, 3) := by decide +kernel
theorem dX10_stroke_16 : decode cX10_stroke 16 = .ok (.iconst (-1), 1) := by decide +kernel
theorem dX10_stroke_17 : decode cX10_stroke 17 = .ok (.ireturn, 1) := by decide +kernel
theorem dX10_stroke_18 : decode cX10_stroke 18 = .ok (.aload_n 0, 1) := by decide +kernel
theorem dX10_stroke_19 : decode cX10_stroke 19 = .ok (.iconst 0, 1) := by decide +kernel
theorem dX10_stroke_20 : decode cX10_stroke 20 = .ok (.iload_n 1, 1) := by decide +kernel
theorem dX10_stroke_21 : decode cX10_stroke 21 = .ok (.iload_n 2, 1) := by decide +kernel
theorem dX10_stroke_22 : decode cX10_stroke 22 = .ok (.invokevirtual 247, 3) := by decide +kernel
theorem dX10_stroke_25 : decode cX10_stroke 25 = .ok (.ifCond .ne 6, 3) := by decide +kernel
theorem dX10_stroke_28 : decode cX10_stroke 28 = .ok (.bipush (-2), 2) := by decide +kernel
theorem dX10_stroke_30 : decode cX10_stroke 30 = .ok (.ireturn, 1) := by decide +kernel
theorem dX10_stroke_31 : decode cX10_stroke 31 = .ok (.aload_n 0, 1) := by decide +kernel
theorem dX10_stroke_32 : decode cX10_stroke 32 = .ok (.invokevirtual 251, 3) := by decide +kernel
theorem dX10_stroke_35 : decode cX10_stroke 35 = .ok (.aload_n 0, 1) := by decide +kernel
theorem dX10_stroke_36 : decode cX10_stroke 36 = .ok (.iconst 0, 1) := by decide +kernel
theorem dX10_stroke_37 : decode cX10_stroke 37 = .ok (.iload_n 1, 1) := by decide +kernel
theorem dX10_stroke_38 : decode cX10_stroke 38 = .ok (.iload_n 2, 1) := by decide +kernel
theorem dX10_stroke_39 : decode cX10_stroke 39 = .ok (.invokevirtual 254, 3) := by decide +kernel
theorem dX10_stroke_42 : decode cX10_stroke 42 = .ok (.aload_n 0, 1) := by decide +kernel
theorem dX10_stroke_43 : decode cX10_stroke 43 = .ok (.getfield 61, 3) := by decide +kernel
theorem dX10_stroke_46 : decode cX10_stroke 46 = .ok (.iload_n 2, 1) := by decide +kernel
theorem dX10_stroke_47 : decode cX10_stroke 47 = .ok (.iaload, 1) := by decide +kernel
theorem dX10_stroke_48 : decode cX10_stroke 48 = .ok (.ireturn, 1) := by decide +kernel
theorem dX10_pass_0 : decode cX10_pass 0 = .ok (.iload_n 1, 1) := by decide +kernel
theorem dX10_pass_1 : decode cX10_pass 1 = .ok (.i2l, 1) := by decide +kernel
theorem dX10_pass_2 : decode cX10_pass 2 = .ok (.lconst 1, 1) := by decide +kernel
theorem dX10_pass_3 : decode cX10_pass 3 = .ok (.ldc2_w 257, 3) := by decide +kernel
theorem dX10_pass_6 : decode cX10_pass 6 = .ok (.invokestatic 137, 3) := by decide +kernel
theorem dX10_pass_9 : decode cX10_pass 9 = .ok (.ifCond .ne 5, 3) := by decide +kernel
theorem dX10_pass_12 : decode cX10_pass 12 = .ok (.iconst (-1), 1) := by decide +kernel
theorem dX10_pass_13 : decode cX10_pass 13 = .ok (.ireturn, 1) := by decide +kernel
theorem dX10_pass_14 : decode cX10_pass 14 = .ok (.aload_n 0, 1) := by decide +kernel
theorem dX10_pass_15 : decode cX10_pass 15 = .ok (.getfield 61, 3) := by decide +kernel
theorem dX10_pass_18 : decode cX10_pass 18 = .ok (.bipush 31, 2) := by decide +kernel
theorem dX10_pass_20 : decode cX10_pass 20 = .ok (.iaload, 1) := by decide +kernel
theorem dX10_pass_21 : decode cX10_pass 21 = .ok (.iload_n 1, 1) := by decide +kernel
theorem dX10_pass_22 : decode cX10_pass 22 = .ok (.iadd, 1) := by decide +kernel
theorem dX10_pass_23 : decode cX10_pass 23 = .ok (.sipush 999, 3) := by decide +kernel
theorem dX10_pass_26 : decode cX10_pass 26 = .ok (.if_icmp .le 6, 3) := by decide +kernel
theorem dX10_pass_29 : decode cX10_pass 29 = .ok (.bipush (-2), 2) := by decide +kernel
theorem dX10_pass_31 : decode cX10_pass 31 = .ok (.ireturn, 1) := by decide +kernel
theorem dX10_pass_32 : decode cX10_pass 32 = .ok (.aload_n 0, 1) := by decide +kernel
theorem dX10_pass_33 : decode cX10_pass 33 = .ok (.invokevirtual 251, 3) := by decide +kernel
theorem dX10_pass_36 : decode cX10_pass 36 = .ok (.iconst 0, 1) := by decide +kernel
theorem dX10_pass_37 : decode cX10_pass 37 = .ok (.istore_n 2, 1) := by decide +kernel
theorem dX10_pass_38 : decode cX10_pass 38 = .ok (.iload_n 2, 1) := by decide +kernel
theorem dX10_pass_39 : decode cX10_pass 39 = .ok (.iload_n 1, 1) := by decide +kernel
theorem dX10_pass_40 : decode cX10_pass 40 = .ok (.if_icmp .ge 19, 3) := by decide +kernel
theorem dX10_pass_43 : decode cX10_pass 43 = .ok (.aload_n 0, 1) := by decide +kernel
theorem dX10_pass_44 : decode cX10_pass 44 = .ok (.iconst 0, 1) := by decide +kernel
theorem dX10_pass_45 : decode cX10_pass 45 = .ok (.aload_n 0, 1) := by decide +kernel
theorem dX10_pass_46 : decode cX10_pass 46 = .ok (.iconst 0, 1) := by decide +kernel
theorem dX10_pass_47 : decode cX10_pass 47 = .ok (.invokevirtual 259, 3) := by decide +kernel
theorem dX10_pass_50 : decode cX10_pass 50 = .ok (.invokevirtual 263, 3) := by decide +kernel
theorem dX10_pass_53 : decode cX10_pass 53 = .ok (.iinc 2 1, 3) := by decide +kernel
theorem dX10_pass_56 : decode cX10_pass 56 = .ok (.goto (-18), 3) := by decide +kernel
theorem dX10_pass_59 : decode cX10_pass 59 = .ok (.aload_n 0, 1) := by decide +kernel
theorem dX10_pass_60 : decode cX10_pass 60 = .ok (.getfield 61, 3) := by decide +kernel
theorem dX10_pass_63 : decode cX10_pass 63 = .ok (.bipush 31, 2) := by decide +kernel
theorem dX10_pass_65 : decode cX10_pass 65 = .ok (.iaload, 1) := by decide +kernel
theorem dX10_pass_66 : decode cX10_pass 66 = .ok (.ireturn, 1) := by decide +kernel
theorem dX10_pardon_0 : decode cX10_pardon 0 = .ok (.aload_n 0, 1) := by decide +kernel
theorem dX10_pardon_1 : decode cX10_pardon 1 = .ok (.iload_n 1, 1) := by decide +kernel
theorem dX10_pardon_2 : decode cX10_pardon 2 = .ok (.invokevirtual 234, 3) := by decide +kernel
theorem dX10_pardon_5 : decode cX10_pardon 5 = .ok (.ifCond .ne 5, 3) := by decide +kernel
theorem dX10_pardon_8 : decode cX10_pardon 8 = .ok (.iconst (-1), 1) := by decide +kernel
theorem dX10_pardon_9 : decode cX10_pardon 9 = .ok (.ireturn, 1) := by decide +kernel
theorem dX10_pardon_10 : decode cX10_pardon 10 = .ok (.aload_n 0, 1) := by decide +kernel
theorem dX10_pardon_11 : decode cX10_pardon 11 = .ok (.getfield 61, 3) := by decide +kernel
theorem dX10_pardon_14 : decode cX10_pardon 14 = .ok (.bipush 30, 2) := by decide +kernel
theorem dX10_pardon_16 : decode cX10_pardon 16 = .ok (.iaload, 1) := by decide +kernel
theorem dX10_pardon_17 : decode cX10_pardon 17 = .ok (.iload_n 1, 1) := by decide +kernel
theorem dX10_pardon_18 : decode cX10_pardon 18 = .ok (.invokestatic 221, 3) := by decide +kernel
theorem dX10_pardon_21 : decode cX10_pardon 21 = .ok (.ifCond .eq 6, 3) := by decide +kernel
theorem dX10_pardon_24 : decode cX10_pardon 24 = .ok (.bipush (-2), 2) := by decide +kernel
theorem dX10_pardon_26 : decode cX10_pardon 26 = .ok (.ireturn, 1) := by decide +kernel
theorem dX10_pardon_27 : decode cX10_pardon 27 = .ok (.aload_n 0, 1) := by decide +kernel
theorem dX10_pardon_28 : decode cX10_pardon 28 = .ok (.invokevirtual 251, 3) := by decide +kernel
theorem dX10_pardon_31 : decode cX10_pardon 31 = .ok (.aload_n 0, 1) := by decide +kernel
theorem dX10_pardon_32 : decode cX10_pardon 32 = .ok (.getfield 61, 3) := by decide +kernel
theorem dX10_pardon_35 : decode cX10_pardon 35 = .ok (.bipush 30, 2) := by decide +kernel
theorem dX10_pardon_37 : decode cX10_pardon 37 = .ok (.dup2, 1) := by decide +kernel
theorem dX10_pardon_38 : decode cX10_pardon 38 = .ok (.iaload, 1) := by decide +kernel
theorem dX10_pardon_39 : decode cX10_pardon 39 = .ok (.iconst 1, 1) := by decide +kernel
theorem dX10_pardon_40 : decode cX10_pardon 40 = .ok (.iload_n 1, 1) := by decide +kernel
theorem dX10_pardon_41 : decode cX10_pardon 41 = .ok (.ishl, 1) := by decide +kernel
theorem dX10_pardon_42 : decode cX10_pardon 42 = .ok (.ior, 1) := by decide +kernel
theorem dX10_pardon_43 : decode cX10_pardon 43 = .ok (.iastore, 1) := by decide +kernel
theorem dX10_pardon_44 : decode cX10_pardon 44 = .ok (.aload_n 0, 1) := by decide +kernel
theorem dX10_pardon_45 : decode cX10_pardon 45 = .ok (.iconst 0, 1) := by decide +kernel
theorem dX10_pardon_46 : decode cX10_pardon 46 = .ok (.invokevirtual 259, 3) := by decide +kernel
theorem dX10_pardon_49 : decode cX10_pardon 49 = .ok (.invokestatic 266, 3) := by decide +kernel
theorem dX10_pardon_52 : decode cX10_pardon 52 = .ok (.ireturn, 1) := by decide +kernel
theorem dX10_undo_0 : decode cX10_undo 0 = .ok (.aload_n 0, 1) := by decide +kernel
theorem dX10_undo_1 : decode cX10_undo 1 = .ok (.getfield 194, 3) := by decide +kernel
theorem dX10_undo_4 : decode cX10_undo 4 = .ok (.ifCond .ne 6, 3) := by decide +kernel
theorem dX10_undo_7 : decode cX10_undo 7 = .ok (.bipush (-2), 2) := by decide +kernel
theorem dX10_undo_9 : decode cX10_undo 9 = .ok (.ireturn, 1) := by decide +kernel
theorem dX10_undo_10 : decode cX10_undo 10 = .ok (.aload_n 0, 1) := by decide +kernel
theorem dX10_undo_11 : decode cX10_undo 11 = .ok (.aload_n 0, 1) := by decide +kernel
theorem dX10_undo_12 : decode cX10_undo 12 = .ok (.getfield 194, 3) := by decide +kernel
theorem dX10_undo_15 : decode cX10_undo 15 = .ok (.bipush 32, 2) := by decide +kernel
theorem dX10_undo_17 : decode cX10_undo 17 = .ok (.imul, 1) := by decide +kernel
theorem dX10_undo_18 : decode cX10_undo 18 = .ok (.iconst 0, 1) := by decide +kernel
theorem dX10_undo_19 : decode cX10_undo 19 = .ok (.invokevirtual 244, 3) := by decide +kernel
theorem dX10_undo_22 : decode cX10_undo 22 = .ok (.aload_n 0, 1) := by decide +kernel
theorem dX10_undo_23 : decode cX10_undo 23 = .ok (.dup, 1) := by decide +kernel
theorem dX10_undo_24 : decode cX10_undo 24 = .ok (.getfield 194, 3) := by decide +kernel
theorem dX10_undo_27 : decode cX10_undo 27 = .ok (.iconst 1, 1) := by decide +kernel
theorem dX10_undo_28 : decode cX10_undo 28 = .ok (.isub, 1) := by decide +kernel
theorem dX10_undo_29 : decode cX10_undo 29 = .ok (.putfield 194, 3) := by decide +kernel
theorem dX10_undo_32 : decode cX10_undo 32 = .ok (.aload_n 0, 1) := by decide +kernel
theorem dX10_undo_33 : decode cX10_undo 33 = .ok (.getfield 194, 3) := by decide +kernel
theorem dX10_undo_36 : decode cX10_undo 36 = .ok (.ireturn, 1) := by decide +kernel
theorem dX10_behind_0 : decode cX10_behind 0 = .ok (.iload_n 1, 1) := by decide +kernel
theorem dX10_behind_1 : decode cX10_behind 1 = .ok (.i2l, 1) := by decide +kernel
theorem dX10_behind_2 : decode cX10_behind 2 = .ok (.lconst 0, 1) := by decide +kernel
theorem dX10_behind_3 : decode cX10_behind 3 = .ok (.ldc2_w 257, 3) := by decide +kernel
theorem dX10_behind_6 : decode cX10_behind 6 = .ok (.invokestatic 137, 3) := by decide +kernel
theorem dX10_behind_9 : decode cX10_behind 9 = .ok (.ifCond .eq 11, 3) := by decide +kernel
theorem dX10_behind_12 : decode cX10_behind 12 = .ok (.aload_n 0, 1) := by decide +kernel
theorem dX10_behind_13 : decode cX10_behind 13 = .ok (.iload_n 2, 1) := by decide +kernel
theorem dX10_behind_14 : decode cX10_behind 14 = .ok (.invokevirtual 203, 3) := by decide +kernel
theorem dX10_behind_17 : decode cX10_behind 17 = .ok (.ifCond .ne 5, 3) := by decide +kernel
theorem dX10_behind_20 : decode cX10_behind 20 = .ok (.iconst (-1), 1) := by decide +kernel
theorem dX10_behind_21 : decode cX10_behind 21 = .ok (.ireturn, 1) := by decide +kernel
theorem dX10_behind_22 : decode cX10_behind 22 = .ok (.aload_n 0, 1) := by decide +kernel
theorem dX10_behind_23 : decode cX10_behind 23 = .ok (.iconst 0, 1) := by decide +kernel
theorem dX10_behind_24 : decode cX10_behind 24 = .ok (.sipush 352, 3) := by decide +kernel
theorem dX10_behind_27 : decode cX10_behind 27 = .ok (.invokevirtual 244, 3) := by decide +kernel
theorem dX10_behind_30 : decode cX10_behind 30 = .ok (.iconst 0, 1) := by decide +kernel
theorem dX10_behind_31 : decode cX10_behind 31 = .ok (.istore_n 3, 1) := by decide +kernel
theorem dX10_behind_32 : decode cX10_behind 32 = .ok (.iload_n 3, 1) := by decide +kernel
theorem dX10_behind_33 : decode cX10_behind 33 = .ok (.iload_n 1, 1) := by decide +kernel
theorem dX10_behind_34 : decode cX10_behind 34 = .ok (.if_icmp .ge 23, 3) := by decide +kernel
theorem dX10_behind_37 : decode cX10_behind 37 = .ok (.aload_n 0, 1) := by decide +kernel
theorem dX10_behind_38 : decode cX10_behind 38 = .ok (.sipush 352, 3) := by decide +kernel
theorem dX10_behind_41 : decode cX10_behind 41 = .ok (.aload_n 0, 1) := by decide +kernel
theorem dX10_behind_42 : decode cX10_behind 42 = .ok (.sipush 352, 3) := by decide +kernel
theorem dX10_behind_45 : decode cX10_behind 45 = .ok (.invokevirtual 259, 3) := by decide +kernel
theorem dX10_behind_48 : decode cX10_behind 48 = .ok (.invokevirtual 263, 3) := by decide +kernel
theorem dX10_behind_51 : decode cX10_behind 51 = .ok (.iinc 3 1, 3) := by decide +kernel
theorem dX10_behind_54 : decode cX10_behind 54 = .ok (.goto (-22), 3) := by decide +kernel
theorem dX10_behind_57 : decode cX10_behind 57 = .ok (.aload_n 0, 1) := by decide +kernel
theorem dX10_behind_58 : decode cX10_behind 58 = .ok (.getfield 61, 3) := by decide +kernel
theorem dX10_behind_61 : decode cX10_behind 61 = .ok (.sipush 352, 3) := by decide +kernel
theorem dX10_behind_64 : decode cX10_behind 64 = .ok (.iload_n 2, 1) := by decide +kernel
theorem dX10_behind_65 : decode cX10_behind 65 = .ok (.iadd, 1) := by decide +kernel
theorem dX10_behind_66 : decode cX10_behind 66 = .ok (.iaload, 1) := by decide +kernel
theorem dX10_behind_67 : decode cX10_behind 67 = .ok (.ireturn, 1) := by decide +kernel
theorem dX10_hollowed_0 : decode cX10_hollowed 0 = .ok (.aload_n 0, 1) := by decide +kernel
theorem dX10_hollowed_1 : decode cX10_hollowed 1 = .ok (.iload_n 1, 1) := by decide +kernel
theorem dX10_hollowed_2 : decode cX10_hollowed 2 = .ok (.invokevirtual 203, 3) := by decide +kernel
theorem dX10_hollowed_5 : decode cX10_hollowed 5 = .ok (.ifCond .ne 5, 3) := by decide +kernel
theorem dX10_hollowed_8 : decode cX10_hollowed 8 = .ok (.iconst (-1), 1) := by decide +kernel
theorem dX10_hollowed_9 : decode cX10_hollowed 9 = .ok (.ireturn, 1) := by decide +kernel
theorem dX10_hollowed_10 : decode cX10_hollowed 10 = .ok (.aload_n 0, 1) := by decide +kernel
theorem dX10_hollowed_11 : decode cX10_hollowed 11 = .ok (.iconst 0, 1) := by decide +kernel
theorem dX10_hollowed_12 : decode cX10_hollowed 12 = .ok (.sipush 352, 3) := by decide +kernel
theorem dX10_hollowed_15 : decode cX10_hollowed 15 = .ok (.invokevirtual 244, 3) := by decide +kernel
theorem dX10_hollowed_18 : decode cX10_hollowed 18 = .ok (.iconst 0, 1) := by decide +kernel
theorem dX10_hollowed_19 : decode cX10_hollowed 19 = .ok (.istore_n 2, 1) := by decide +kernel
theorem dX10_hollowed_20 : decode cX10_hollowed 20 = .ok (.iload_n 2, 1) := by decide +kernel
theorem dX10_hollowed_21 : decode cX10_hollowed 21 = .ok (.bipush 20, 2) := by decide +kernel
theorem dX10_hollowed_23 : decode cX10_hollowed 23 = .ok (.if_icmp .gt 40, 3) := by decide +kernel
theorem dX10_hollowed_26 : decode cX10_hollowed 26 = .ok (.aload_n 0, 1) := by decide +kernel
theorem dX10_hollowed_27 : decode cX10_hollowed 27 = .ok (.getfield 61, 3) := by decide +kernel
theorem dX10_hollowed_30 : decode cX10_hollowed 30 = .ok (.sipush 352, 3) := by decide +kernel
theorem dX10_hollowed_33 : decode cX10_hollowed 33 = .ok (.iload_n 1, 1) := by decide +kernel
theorem dX10_hollowed_34 : decode cX10_hollowed 34 = .ok (.iadd, 1) := by decide +kernel
theorem dX10_hollowed_35 : decode cX10_hollowed 35 = .ok (.iaload, 1) := by decide +kernel
theorem dX10_hollowed_36 : decode cX10_hollowed 36 = .ok (.bipush 12, 2) := by decide +kernel
theorem dX10_hollowed_38 : decode cX10_hollowed 38 = .ok (.if_icmp .lt 5, 3) := by decide +kernel
theorem dX10_hollowed_41 : decode cX10_hollowed 41 = .ok (.iload_n 2, 1) := by decide +kernel
theorem dX10_hollowed_42 : decode cX10_hollowed 42 = .ok (.ireturn, 1) := by decide +kernel
theorem dX10_hollowed_43 : decode cX10_hollowed 43 = .ok (.aload_n 0, 1) := by decide +kernel
theorem dX10_hollowed_44 : decode cX10_hollowed 44 = .ok (.sipush 352, 3) := by decide +kernel
theorem dX10_hollowed_47 : decode cX10_hollowed 47 = .ok (.aload_n 0, 1) := by decide +kernel
theorem dX10_hollowed_48 : decode cX10_hollowed 48 = .ok (.sipush 352, 3) := by decide +kernel
theorem dX10_hollowed_51 : decode cX10_hollowed 51 = .ok (.invokevirtual 259, 3) := by decide +kernel
theorem dX10_hollowed_54 : decode cX10_hollowed 54 = .ok (.invokevirtual 263, 3) := by decide +kernel
theorem dX10_hollowed_57 : decode cX10_hollowed 57 = .ok (.iinc 2 1, 3) := by decide +kernel
theorem dX10_hollowed_60 : decode cX10_hollowed 60 = .ok (.goto (-40), 3) := by decide +kernel
theorem dX10_hollowed_63 : decode cX10_hollowed 63 = .ok (.bipush (-4), 2) := by decide +kernel
theorem dX10_hollowed_65 : decode cX10_hollowed 65 = .ok (.ireturn, 1) := by decide +kernel
theorem dX10_behindStroke_0 : decode cX10_behindStroke 0 = .ok (.aload_n 0, 1) := by decide +kernel
theorem dX10_behindStroke_1 : decode cX10_behindStroke 1 = .ok (.getfield 25, 3) := by decide +kernel
theorem dX10_behindStroke_4 : decode cX10_behindStroke 4 = .ok (.iload_n 1, 1) := by decide +kernel
theorem dX10_behindStroke_5 : decode cX10_behindStroke 5 = .ok (.iaload, 1) := by decide +kernel
theorem dX10_behindStroke_6 : decode cX10_behindStroke 6 = .ok (.iconst 1, 1) := by decide +kernel
theorem dX10_behindStroke_7 : decode cX10_behindStroke 7 = .ok (.if_icmp .ne 24, 3) := by decide +kernel
theorem dX10_behindStroke_10 : decode cX10_behindStroke 10 = .ok (.iload 4, 2) := by decide +kernel
theorem dX10_behindStroke_12 : decode cX10_behindStroke 12 = .ok (.iload_n 2, 1) := by decide +kernel
theorem dX10_behindStroke_13 : decode cX10_behindStroke 13 = .ok (.iconst 1, 1) := by decide +kernel
theorem dX10_behindStroke_14 : decode cX10_behindStroke 14 = .ok (.isub, 1) := by decide +kernel
theorem dX10_behindStroke_15 : decode cX10_behindStroke 15 = .ok (.if_icmp .ne 16, 3) := by decide +kernel
theorem dX10_behindStroke_18 : decode cX10_behindStroke 18 = .ok (.aload_n 0, 1) := by decide +kernel
theorem dX10_behindStroke_19 : decode cX10_behindStroke 19 = .ok (.iload 4, 2) := by decide +kernel
theorem dX10_behindStroke_21 : decode cX10_behindStroke 21 = .ok (.invokevirtual 214, 3) := by decide +kernel
theorem dX10_behindStroke_24 : decode cX10_behindStroke 24 = .ok (.ifCond .eq 7, 3) := by decide +kernel
theorem dX10_behindStroke_27 : decode cX10_behindStroke 27 = .ok (.iconst 1, 1) := by decide +kernel
theorem dX10_behindStroke_28 : decode cX10_behindStroke 28 = .ok (.goto 4, 3) := by decide +kernel
theorem dX10_behindStroke_31 : decode cX10_behindStroke 31 = .ok (.iconst 0, 1) := by decide +kernel
theorem dX10_behindStroke_32 : decode cX10_behindStroke 32 = .ok (.istore 5, 2) := by decide +kernel
theorem dX10_behindStroke_34 : decode cX10_behindStroke 34 = .ok (.iload 4, 2) := by decide +kernel
theorem dX10_behindStroke_36 : decode cX10_behindStroke 36 = .ok (.iload_n 2, 1) := by decide +kernel
theorem dX10_behindStroke_37 : decode cX10_behindStroke 37 = .ok (.if_icmp .ne 14, 3) := by decide +kernel
theorem dX10_behindStroke_40 : decode cX10_behindStroke 40 = .ok (.iload_n 3, 1) := by decide +kernel
theorem dX10_behindStroke_41 : decode cX10_behindStroke 41 = .ok (.aload_n 0, 1) := by decide +kernel
theorem dX10_behindStroke_42 : decode cX10_behindStroke 42 = .ok (.iload_n 1, 1) := by decide +kernel
theorem dX10_behindStroke_43 : decode cX10_behindStroke 43 = .ok (.iload_n 3, 1) := by decide +kernel
theorem dX10_behindStroke_44 : decode cX10_behindStroke 44 = .ok (.invokevirtual 228, 3) := by decide +kernel
theorem dX10_behindStroke_47 : decode cX10_behindStroke 47 = .ok (.isub, 1) := by decide +kernel
theorem dX10_behindStroke_48 : decode cX10_behindStroke 48 = .ok (.goto 26, 3) := by decide +kernel
theorem dX10_behindStroke_51 : decode cX10_behindStroke 51 = .ok (.iload 5, 2) := by decide +kernel
theorem dX10_behindStroke_53 : decode cX10_behindStroke 53 = .ok (.ifCond .eq 20, 3) := by decide +kernel
theorem dX10_behindStroke_56 : decode cX10_behindStroke 56 = .ok (.iconst 0, 1) := by decide +kernel
theorem dX10_behindStroke_57 : decode cX10_behindStroke 57 = .ok (.iload_n 3, 1) := by decide +kernel
theorem dX10_behindStroke_58 : decode cX10_behindStroke 58 = .ok (.aload_n 0, 1) := by decide +kernel
theorem dX10_behindStroke_59 : decode cX10_behindStroke 59 = .ok (.getfield 28, 3) := by decide +kernel
theorem dX10_behindStroke_62 : decode cX10_behindStroke 62 = .ok (.iload_n 1, 1) := by decide +kernel
theorem dX10_behindStroke_63 : decode cX10_behindStroke 63 = .ok (.iaload, 1) := by decide +kernel
theorem dX10_behindStroke_64 : decode cX10_behindStroke 64 = .ok (.iconst 2, 1) := by decide +kernel
theorem dX10_behindStroke_65 : decode cX10_behindStroke 65 = .ok (.idiv, 1) := by decide +kernel
theorem dX10_behindStroke_66 : decode cX10_behindStroke 66 = .ok (.isub, 1) := by decide +kernel
theorem dX10_behindStroke_67 : decode cX10_behindStroke 67 = .ok (.invokestatic 231, 3) := by decide +kernel
theorem dX10_behindStroke_70 : decode cX10_behindStroke 70 = .ok (.goto 4, 3) := by decide +kernel
theorem dX10_behindStroke_73 : decode cX10_behindStroke 73 = .ok (.iload_n 3, 1) := by decide +kernel
theorem dX10_behindStroke_74 : decode cX10_behindStroke 74 = .ok (.ireturn, 1) := by decide +kernel
theorem dX10_smooth_0 : decode cX10_smooth 0 = .ok (.aload_n 0, 1) := by decide +kernel
theorem dX10_smooth_1 : decode cX10_smooth 1 = .ok (.iload_n 1, 1) := by decide +kernel
theorem dX10_smooth_2 : decode cX10_smooth 2 = .ok (.invokevirtual 239, 3) := by decide +kernel
theorem dX10_smooth_5 : decode cX10_smooth 5 = .ok (.ifCond .eq 16, 3) := by decide +kernel
theorem dX10_smooth_8 : decode cX10_smooth 8 = .ok (.aload_n 0, 1) := by decide +kernel
theorem dX10_smooth_9 : decode cX10_smooth 9 = .ok (.iload_n 2, 1) := by decide +kernel
theorem dX10_smooth_10 : decode cX10_smooth 10 = .ok (.invokevirtual 203, 3) := by decide +kernel
theorem dX10_smooth_13 : decode cX10_smooth 13 = .ok (.ifCond .eq 8, 3) := by decide +kernel
theorem dX10_smooth_16 : decode cX10_smooth 16 = .ok (.iload_n 3, 1) := by decide +kernel
theorem dX10_smooth_17 : decode cX10_smooth 17 = .ok (.iconst (-1), 1) := by decide +kernel
theorem dX10_smooth_18 : decode cX10_smooth 18 = .ok (.if_icmp .ge 5, 3) := by decide +kernel
theorem dX10_smooth_21 : decode cX10_smooth 21 = .ok (.iconst (-1), 1) := by decide +kernel
theorem dX10_smooth_22 : decode cX10_smooth 22 = .ok (.ireturn, 1) := by decide +kernel
theorem dX10_smooth_23 : decode cX10_smooth 23 = .ok (.iconst 0, 1) := by decide +kernel
theorem dX10_smooth_24 : decode cX10_smooth 24 = .ok (.istore 4, 2) := by decide +kernel
theorem dX10_smooth_26 : decode cX10_smooth 26 = .ok (.iload 4, 2) := by decide +kernel
theorem dX10_smooth_28 : decode cX10_smooth 28 = .ok (.sipush 984, 3) := by decide +kernel
theorem dX10_smooth_31 : decode cX10_smooth 31 = .ok (.if_icmp .ge 18, 3) := by decide +kernel
theorem dX10_smooth_34 : decode cX10_smooth 34 = .ok (.aload_n 0, 1) := by decide +kernel
theorem dX10_smooth_35 : decode cX10_smooth 35 = .ok (.getfield 74, 3) := by decide +kernel
theorem dX10_smooth_38 : decode cX10_smooth 38 = .ok (.iload 4, 2) := by decide +kernel
theorem dX10_smooth_40 : decode cX10_smooth 40 = .ok (.bipush (-4), 2) := by decide +kernel
theorem dX10_smooth_42 : decode cX10_smooth 42 = .ok (.iastore, 1) := by decide +kernel
theorem dX10_smooth_43 : decode cX10_smooth 43 = .ok (.iinc 4 1, 3) := by decide +kernel
theorem dX10_smooth_46 : decode cX10_smooth 46 = .ok (.goto (-20), 3) := by decide +kernel
theorem dX10_smooth_49 : decode cX10_smooth 49 = .ok (.aload_n 0, 1) := by decide +kernel
theorem dX10_smooth_50 : decode cX10_smooth 50 = .ok (.getfield 80, 3) := by decide +kernel
theorem dX10_smooth_53 : decode cX10_smooth 53 = .ok (.iconst 0, 1) := by decide +kernel
theorem dX10_smooth_54 : decode cX10_smooth 54 = .ok (.bipush 41, 2) := by decide +kernel
theorem dX10_smooth_56 : decode cX10_smooth 56 = .ok (.aload_n 0, 1) := by decide +kernel
theorem dX10_smooth_57 : decode cX10_smooth 57 = .ok (.getfield 61, 3) := by decide +kernel
theorem dX10_smooth_60 : decode cX10_smooth 60 = .ok (.bipush 27, 2) := by decide +kernel
theorem dX10_smooth_62 : decode cX10_smooth 62 = .ok (.iload_n 1, 1) := by decide +kernel
theorem dX10_smooth_63 : decode cX10_smooth 63 = .ok (.iadd, 1) := by decide +kernel
theorem dX10_smooth_64 : decode cX10_smooth 64 = .ok (.iaload, 1) := by decide +kernel
theorem dX10_smooth_65 : decode cX10_smooth 65 = .ok (.imul, 1) := by decide +kernel
theorem dX10_smooth_66 : decode cX10_smooth 66 = .ok (.aload_n 0, 1) := by decide +kernel
theorem dX10_smooth_67 : decode cX10_smooth 67 = .ok (.getfield 61, 3) := by decide +kernel
theorem dX10_smooth_70 : decode cX10_smooth 70 = .ok (.iload_n 2, 1) := by decide +kernel
theorem dX10_smooth_71 : decode cX10_smooth 71 = .ok (.iaload, 1) := by decide +kernel
theorem dX10_smooth_72 : decode cX10_smooth 72 = .ok (.iadd, 1) := by decide +kernel
theorem dX10_smooth_73 : decode cX10_smooth 73 = .ok (.iastore, 1) := by decide +kernel
theorem dX10_smooth_74 : decode cX10_smooth 74 = .ok (.aload_n 0, 1) := by decide +kernel
theorem dX10_smooth_75 : decode cX10_smooth 75 = .ok (.getfield 74, 3) := by decide +kernel
theorem dX10_smooth_78 : decode cX10_smooth 78 = .ok (.aload_n 0, 1) := by decide +kernel
theorem dX10_smooth_79 : decode cX10_smooth 79 = .ok (.getfield 80, 3) := by decide +kernel
theorem dX10_smooth_82 : decode cX10_smooth 82 = .ok (.iconst 0, 1) := by decide +kernel
theorem dX10_smooth_83 : decode cX10_smooth 83 = .ok (.iaload, 1) := by decide +kernel
theorem dX10_smooth_84 : decode cX10_smooth 84 = .ok (.iconst 0, 1) := by decide +kernel
theorem dX10_smooth_85 : decode cX10_smooth 85 = .ok (.iastore, 1) := by decide +kernel
theorem dX10_smooth_86 : decode cX10_smooth 86 = .ok (.aload_n 0, 1) := by decide +kernel
theorem dX10_smooth_87 : decode cX10_smooth 87 = .ok (.iconst 1, 1) := by decide +kernel
theorem dX10_smooth_88 : decode cX10_smooth 88 = .ok (.putfield 269, 3) := by decide +kernel
theorem dX10_smooth_91 : decode cX10_smooth 91 = .ok (.bipush (-4), 2) := by decide +kernel
theorem dX10_smooth_93 : decode cX10_smooth 93 = .ok (.istore 4, 2) := by decide +kernel
theorem dX10_smooth_95 : decode cX10_smooth 95 = .ok (.iconst 0, 1) := by decide +kernel
theorem dX10_smooth_96 : decode cX10_smooth 96 = .ok (.istore 5, 2) := by decide +kernel
theorem dX10_smooth_98 : decode cX10_smooth 98 = .ok (.iload 5, 2) := by decide +kernel
theorem dX10_smooth_100 : decode cX10_smooth 100 = .ok (.aload_n 0, 1) := by decide +kernel
theorem dX10_smooth_101 : decode cX10_smooth 101 = .ok (.getfield 269, 3) := by decide +kernel
theorem dX10_smooth_104 : decode cX10_smooth 104 = .ok (.if_icmp .ge 178, 3) := by decide +kernel
theorem dX10_smooth_107 : decode cX10_smooth 107 = .ok (.iload 4, 2) := by decide +kernel
theorem dX10_smooth_109 : decode cX10_smooth 109 = .ok (.ifCond .ge 173, 3) := by decide +kernel
theorem dX10_smooth_112 : decode cX10_smooth 112 = .ok (.aload_n 0, 1) := by decide +kernel
theorem dX10_smooth_113 : decode cX10_smooth 113 = .ok (.getfield 80, 3) := by decide +kernel
theorem dX10_smooth_116 : decode cX10_smooth 116 = .ok (.iload 5, 2) := by decide +kernel
theorem dX10_smooth_118 : decode cX10_smooth 118 = .ok (.iaload, 1) := by decide +kernel
theorem dX10_smooth_119 : decode cX10_smooth 119 = .ok (.istore 6, 2) := by decide +kernel
theorem dX10_smooth_121 : decode cX10_smooth 121 = .ok (.iload 6, 2) := by decide +kernel
theorem dX10_smooth_123 : decode cX10_smooth 123 = .ok (.bipush 41, 2) := by decide +kernel
theorem dX10_smooth_125 : decode cX10_smooth 125 = .ok (.irem, 1) := by decide +kernel
theorem dX10_smooth_126 : decode cX10_smooth 126 = .ok (.ifCond .ne 8, 3) := by decide +kernel
theorem dX10_smooth_129 : decode cX10_smooth 129 = .ok (.iload 6, 2) := by decide +kernel
theorem dX10_smooth_131 : decode cX10_smooth 131 = .ok (.goto 5, 3) := by decide +kernel
theorem dX10_smooth_134 : decode cX10_smooth 134 = .ok (.bipush (-4), 2) := by decide +kernel
theorem dX10_smooth_136 : decode cX10_smooth 136 = .ok (.istore 4, 2) := by decide +kernel
theorem dX10_smooth_138 : decode cX10_smooth 138 = .ok (.iconst 0, 1) := by decide +kernel
theorem dX10_smooth_139 : decode cX10_smooth 139 = .ok (.istore 7, 2) := by decide +kernel
theorem dX10_smooth_141 : decode cX10_smooth 141 = .ok (.iload 7, 2) := by decide +kernel
theorem dX10_smooth_143 : decode cX10_smooth 143 = .ok (.aload_n 0, 1) := by decide +kernel
theorem dX10_smooth_144 : decode cX10_smooth 144 = .ok (.getfield 121, 3) := by decide +kernel
theorem dX10_smooth_147 : decode cX10_smooth 147 = .ok (.if_icmp .ge 129, 3) := by decide +kernel
theorem dX10_smooth_150 : decode cX10_smooth 150 = .ok (.aload_n 0, 1) := by decide +kernel
theorem dX10_smooth_151 : decode cX10_smooth 151 = .ok (.getfield 74, 3) := by decide +kernel
theorem dX10_smooth_154 : decode cX10_smooth 154 = .ok (.iload 6, 2) := by decide +kernel
theorem dX10_smooth_156 : decode cX10_smooth 156 = .ok (.iaload, 1) := by decide +kernel
theorem dX10_smooth_157 : decode cX10_smooth 157 = .ok (.aload_n 0, 1) := by decide +kernel
theorem dX10_smooth_158 : decode cX10_smooth 158 = .ok (.getfield 61, 3) := by decide +kernel
theorem dX10_smooth_161 : decode cX10_smooth 161 = .ok (.bipush 24, 2) := by decide +kernel
theorem dX10_smooth_163 : decode cX10_smooth 163 = .ok (.iload_n 1, 1) := by decide +kernel
theorem dX10_smooth_164 : decode cX10_smooth 164 = .ok (.iadd, 1) := by decide +kernel
theorem dX10_smooth_165 : decode cX10_smooth 165 = .ok (.iaload, 1) := by decide +kernel
theorem dX10_smooth_166 : decode cX10_smooth 166 = .ok (.if_icmp .ge 110, 3) := by decide +kernel
theorem dX10_smooth_169 : decode cX10_smooth 169 = .ok (.bipush 41, 2) := by decide +kernel
theorem dX10_smooth_171 : decode cX10_smooth 171 = .ok (.iload 7, 2) := by decide +kernel
theorem dX10_smooth_173 : decode cX10_smooth 173 = .ok (.imul, 1) := by decide +kernel
theorem dX10_smooth_174 : decode cX10_smooth 174 = .ok (.aload_n 0, 1) := by decide +kernel
theorem dX10_smooth_175 : decode cX10_smooth 175 = .ok (.iload_n 1, 1) := by decide +kernel
theorem dX10_smooth_176 : decode cX10_smooth 176 = .ok (.iload_n 2, 1) := by decide +kernel
theorem dX10_smooth_177 : decode cX10_smooth 177 = .ok (.iload 6, 2) := by decide +kernel
theorem dX10_smooth_179 : decode cX10_smooth 179 = .ok (.bipush 41, 2) := by decide +kernel
theorem dX10_smooth_181 : decode cX10_smooth 181 = .ok (.irem, 1) := by decide +kernel
theorem dX10_smooth_182 : decode cX10_smooth 182 = .ok (.iload 7, 2) := by decide +kernel
theorem dX10_smooth_184 : decode cX10_smooth 184 = .ok (.invokevirtual 272, 3) := by decide +kernel
theorem dX10_smooth_187 : decode cX10_smooth 187 = .ok (.iadd, 1) := by decide +kernel
theorem dX10_smooth_188 : decode cX10_smooth 188 = .ok (.istore 8, 2) := by decide +kernel
theorem dX10_smooth_190 : decode cX10_smooth 190 = .ok (.iload 6, 2) := by decide +kernel
theorem dX10_smooth_192 : decode cX10_smooth 192 = .ok (.bipush 41, 2) := by decide +kernel
theorem dX10_smooth_194 : decode cX10_smooth 194 = .ok (.idiv, 1) := by decide +kernel
theorem dX10_smooth_195 : decode cX10_smooth 195 = .ok (.iload 7, 2) := by decide +kernel
theorem dX10_smooth_197 : decode cX10_smooth 197 = .ok (.if_icmp .eq 17, 3) := by decide +kernel
theorem dX10_smooth_200 : decode cX10_smooth 200 = .ok (.aload_n 0, 1) := by decide +kernel
theorem dX10_smooth_201 : decode cX10_smooth 201 = .ok (.iload 6, 2) := by decide +kernel
theorem dX10_smooth_203 : decode cX10_smooth 203 = .ok (.bipush 41, 2) := by decide +kernel
theorem dX10_smooth_205 : decode cX10_smooth 205 = .ok (.idiv, 1) := by decide +kernel
theorem dX10_smooth_206 : decode cX10_smooth 206 = .ok (.iload 7, 2) := by decide +kernel
theorem dX10_smooth_208 : decode cX10_smooth 208 = .ok (.invokevirtual 217, 3) := by decide +kernel
theorem dX10_smooth_211 : decode cX10_smooth 211 = .ok (.ifCond .eq 59, 3) := by decide +kernel
theorem dX10_smooth_214 : decode cX10_smooth 214 = .ok (.aload_n 0, 1) := by decide +kernel
theorem dX10_smooth_215 : decode cX10_smooth 215 = .ok (.getfield 74, 3) := by decide +kernel
theorem dX10_smooth_218 : decode cX10_smooth 218 = .ok (.iload 8, 2) := by decide +kernel
theorem dX10_smooth_220 : decode cX10_smooth 220 = .ok (.iaload, 1) := by decide +kernel
theorem dX10_smooth_221 : decode cX10_smooth 221 = .ok (.ifCond .ge 49, 3) := by decide +kernel
theorem dX10_smooth_224 : decode cX10_smooth 224 = .ok (.aload_n 0, 1) := by decide +kernel
theorem dX10_smooth_225 : decode cX10_smooth 225 = .ok (.getfield 74, 3) := by decide +kernel
theorem dX10_smooth_228 : decode cX10_smooth 228 = .ok (.iload 8, 2) := by decide +kernel
theorem dX10_smooth_230 : decode cX10_smooth 230 = .ok (.aload_n 0, 1) := by decide +kernel
theorem dX10_smooth_231 : decode cX10_smooth 231 = .ok (.getfield 74, 3) := by decide +kernel
theorem dX10_smooth_234 : decode cX10_smooth 234 = .ok (.iload 6, 2) := by decide +kernel
theorem dX10_smooth_236 : decode cX10_smooth 236 = .ok (.iaload, 1) := by decide +kernel
theorem dX10_smooth_237 : decode cX10_smooth 237 = .ok (.iconst 1, 1) := by decide +kernel
theorem dX10_smooth_238 : decode cX10_smooth 238 = .ok (.iadd, 1) := by decide +kernel
theorem dX10_smooth_239 : decode cX10_smooth 239 = .ok (.iastore, 1) := by decide +kernel
theorem dX10_smooth_240 : decode cX10_smooth 240 = .ok (.aload_n 0, 1) := by decide +kernel
theorem dX10_smooth_241 : decode cX10_smooth 241 = .ok (.getfield 77, 3) := by decide +kernel
theorem dX10_smooth_244 : decode cX10_smooth 244 = .ok (.iload 8, 2) := by decide +kernel
theorem dX10_smooth_246 : decode cX10_smooth 246 = .ok (.iload 6, 2) := by decide +kernel
theorem dX10_smooth_248 : decode cX10_smooth 248 = .ok (.iastore, 1) := by decide +kernel
theorem dX10_smooth_249 : decode cX10_smooth 249 = .ok (.aload_n 0, 1) := by decide +kernel
theorem dX10_smooth_250 : decode cX10_smooth 250 = .ok (.getfield 80, 3) := by decide +kernel
theorem dX10_smooth_253 : decode cX10_smooth 253 = .ok (.aload_n 0, 1) := by decide +kernel
theorem dX10_smooth_254 : decode cX10_smooth 254 = .ok (.getfield 269, 3) := by decide +kernel
theorem dX10_smooth_257 : decode cX10_smooth 257 = .ok (.iload 8, 2) := by decide +kernel
theorem dX10_smooth_259 : decode cX10_smooth 259 = .ok (.iastore, 1) := by decide +kernel
theorem dX10_smooth_260 : decode cX10_smooth 260 = .ok (.aload_n 0, 1) := by decide +kernel
theorem dX10_smooth_261 : decode cX10_smooth 261 = .ok (.dup, 1) := by decide +kernel
theorem dX10_smooth_262 : decode cX10_smooth 262 = .ok (.getfield 269, 3) := by decide +kernel
theorem dX10_smooth_265 : decode cX10_smooth 265 = .ok (.iconst 1, 1) := by decide +kernel
theorem dX10_smooth_266 : decode cX10_smooth 266 = .ok (.iadd, 1) := by decide +kernel
theorem dX10_smooth_267 : decode cX10_smooth 267 = .ok (.putfield 269, 3) := by decide +kernel
theorem dX10_smooth_270 : decode cX10_smooth 270 = .ok (.iinc 7 1, 3) := by decide +kernel
theorem dX10_smooth_273 : decode cX10_smooth 273 = .ok (.goto (-132), 3) := by decide +kernel
theorem dX10_smooth_276 : decode cX10_smooth 276 = .ok (.iinc 5 1, 3) := by decide +kernel
theorem dX10_smooth_279 : decode cX10_smooth 279 = .ok (.goto (-181), 3) := by decide +kernel
theorem dX10_smooth_282 : decode cX10_smooth 282 = .ok (.iload 4, 2) := by decide +kernel
theorem dX10_smooth_284 : decode cX10_smooth 284 = .ok (.ifCond .lt 7, 3) := by decide +kernel
theorem dX10_smooth_287 : decode cX10_smooth 287 = .ok (.iload_n 3, 1) := by decide +kernel
theorem dX10_smooth_288 : decode cX10_smooth 288 = .ok (.ifCond .ge 21, 3) := by decide +kernel
theorem dX10_smooth_291 : decode cX10_smooth 291 = .ok (.iload 4, 2) := by decide +kernel
theorem dX10_smooth_293 : decode cX10_smooth 293 = .ok (.ifCond .ge 8, 3) := by decide +kernel
theorem dX10_smooth_296 : decode cX10_smooth 296 = .ok (.bipush (-4), 2) := by decide +kernel
theorem dX10_smooth_298 : decode cX10_smooth 298 = .ok (.goto 10, 3) := by decide +kernel
theorem dX10_smooth_301 : decode cX10_smooth 301 = .ok (.aload_n 0, 1) := by decide +kernel
theorem dX10_smooth_302 : decode cX10_smooth 302 = .ok (.getfield 74, 3) := by decide +kernel
theorem dX10_smooth_305 : decode cX10_smooth 305 = .ok (.iload 4, 2) := by decide +kernel
theorem dX10_smooth_307 : decode cX10_smooth 307 = .ok (.iaload, 1) := by decide +kernel
theorem dX10_smooth_308 : decode cX10_smooth 308 = .ok (.ireturn, 1) := by decide +kernel
theorem dX10_smooth_309 : decode cX10_smooth 309 = .ok (.iload_n 3, 1) := by decide +kernel
theorem dX10_smooth_310 : decode cX10_smooth 310 = .ok (.aload_n 0, 1) := by decide +kernel
theorem dX10_smooth_311 : decode cX10_smooth 311 = .ok (.getfield 74, 3) := by decide +kernel
theorem dX10_smooth_314 : decode cX10_smooth 314 = .ok (.iload 4, 2) := by decide +kernel
theorem dX10_smooth_316 : decode cX10_smooth 316 = .ok (.iaload, 1) := by decide +kernel
theorem dX10_smooth_317 : decode cX10_smooth 317 = .ok (.if_icmp .lt 6, 3) := by decide +kernel
theorem dX10_smooth_320 : decode cX10_smooth 320 = .ok (.bipush (-4), 2) := by decide +kernel
theorem dX10_smooth_322 : decode cX10_smooth 322 = .ok (.ireturn, 1) := by decide +kernel
theorem dX10_smooth_323 : decode cX10_smooth 323 = .ok (.iload 4, 2) := by decide +kernel
theorem dX10_smooth_325 : decode cX10_smooth 325 = .ok (.istore 5, 2) := by decide +kernel
theorem dX10_smooth_327 : decode cX10_smooth 327 = .ok (.aload_n 0, 1) := by decide +kernel
theorem dX10_smooth_328 : decode cX10_smooth 328 = .ok (.getfield 74, 3) := by decide +kernel
theorem dX10_smooth_331 : decode cX10_smooth 331 = .ok (.iload 4, 2) := by decide +kernel
theorem dX10_smooth_333 : decode cX10_smooth 333 = .ok (.iaload, 1) := by decide +kernel
theorem dX10_smooth_334 : decode cX10_smooth 334 = .ok (.istore 6, 2) := by decide +kernel
theorem dX10_smooth_336 : decode cX10_smooth 336 = .ok (.iload 6, 2) := by decide +kernel
theorem dX10_smooth_338 : decode cX10_smooth 338 = .ok (.iload_n 3, 1) := by decide +kernel
theorem dX10_smooth_339 : decode cX10_smooth 339 = .ok (.iconst 1, 1) := by decide +kernel
theorem dX10_smooth_340 : decode cX10_smooth 340 = .ok (.iadd, 1) := by decide +kernel
theorem dX10_smooth_341 : decode cX10_smooth 341 = .ok (.if_icmp .le 18, 3) := by decide +kernel
theorem dX10_smooth_344 : decode cX10_smooth 344 = .ok (.aload_n 0, 1) := by decide +kernel
theorem dX10_smooth_345 : decode cX10_smooth 345 = .ok (.getfield 77, 3) := by decide +kernel
theorem dX10_smooth_348 : decode cX10_smooth 348 = .ok (.iload 5, 2) := by decide +kernel
theorem dX10_smooth_350 : decode cX10_smooth 350 = .ok (.iaload, 1) := by decide +kernel
theorem dX10_smooth_351 : decode cX10_smooth 351 = .ok (.istore 5, 2) := by decide +kernel
theorem dX10_smooth_353 : decode cX10_smooth 353 = .ok (.iinc 6 (-1), 3) := by decide +kernel
theorem dX10_smooth_356 : decode cX10_smooth 356 = .ok (.goto (-20), 3) := by decide +kernel
theorem dX10_smooth_359 : decode cX10_smooth 359 = .ok (.iload 5, 2) := by decide +kernel
theorem dX10_smooth_361 : decode cX10_smooth 361 = .ok (.bipush 41, 2) := by decide +kernel
theorem dX10_smooth_363 : decode cX10_smooth 363 = .ok (.idiv, 1) := by decide +kernel
theorem dX10_smooth_364 : decode cX10_smooth 364 = .ok (.ireturn, 1) := by decide +kernel
theorem dX10_sum_0 : decode cX10_sum 0 = .ok (.iconst 0, 1) := by decide +kernel
theorem dX10_sum_1 : decode cX10_sum 1 = .ok (.istore_n 2, 1) := by decide +kernel
theorem dX10_sum_2 : decode cX10_sum 2 = .ok (.iconst 0, 1) := by decide +kernel
theorem dX10_sum_3 : decode cX10_sum 3 = .ok (.istore_n 3, 1) := by decide +kernel
theorem dX10_sum_4 : decode cX10_sum 4 = .ok (.iload_n 3, 1) := by decide +kernel
theorem dX10_sum_5 : decode cX10_sum 5 = .ok (.aload_n 0, 1) := by decide +kernel
theorem dX10_sum_6 : decode cX10_sum 6 = .ok (.getfield 121, 3) := by decide +kernel
theorem dX10_sum_9 : decode cX10_sum 9 = .ok (.if_icmp .ge 20, 3) := by decide +kernel
theorem dX10_sum_12 : decode cX10_sum 12 = .ok (.iload_n 2, 1) := by decide +kernel
theorem dX10_sum_13 : decode cX10_sum 13 = .ok (.aload_n 0, 1) := by decide +kernel
theorem dX10_sum_14 : decode cX10_sum 14 = .ok (.getfield 61, 3) := by decide +kernel
theorem dX10_sum_17 : decode cX10_sum 17 = .ok (.iload_n 1, 1) := by decide +kernel
theorem dX10_sum_18 : decode cX10_sum 18 = .ok (.iload_n 3, 1) := by decide +kernel
theorem dX10_sum_19 : decode cX10_sum 19 = .ok (.iadd, 1) := by decide +kernel
theorem dX10_sum_20 : decode cX10_sum 20 = .ok (.iaload, 1) := by decide +kernel
theorem dX10_sum_21 : decode cX10_sum 21 = .ok (.iadd, 1) := by decide +kernel
theorem dX10_sum_22 : decode cX10_sum 22 = .ok (.istore_n 2, 1) := by decide +kernel
theorem dX10_sum_23 : decode cX10_sum 23 = .ok (.iinc 3 1, 3) := by decide +kernel
theorem dX10_sum_26 : decode cX10_sum 26 = .ok (.goto (-22), 3) := by decide +kernel
theorem dX10_sum_29 : decode cX10_sum 29 = .ok (.iload_n 2, 1) := by decide +kernel
theorem dX10_sum_30 : decode cX10_sum 30 = .ok (.ireturn, 1) := by decide +kernel
theorem dX10_stands_0 : decode cX10_stands 0 = .ok (.aload_n 0, 1) := by decide +kernel
theorem dX10_stands_1 : decode cX10_stands 1 = .ok (.iconst 0, 1) := by decide +kernel
theorem dX10_stands_2 : decode cX10_stands 2 = .ok (.sipush 352, 3) := by decide +kernel
theorem dX10_stands_5 : decode cX10_stands 5 = .ok (.invokevirtual 244, 3) := by decide +kernel
theorem dX10_stands_8 : decode cX10_stands 8 = .ok (.iconst 0, 1) := by decide +kernel
theorem dX10_stands_9 : decode cX10_stands 9 = .ok (.istore_n 3, 1) := by decide +kernel
theorem dX10_stands_10 : decode cX10_stands 10 = .ok (.iload_n 3, 1) := by decide +kernel
theorem dX10_stands_11 : decode cX10_stands 11 = .ok (.iload_n 2, 1) := by decide +kernel
theorem dX10_stands_12 : decode cX10_stands 12 = .ok (.if_icmp .ge 43, 3) := by decide +kernel
theorem dX10_stands_15 : decode cX10_stands 15 = .ok (.aload_n 0, 1) := by decide +kernel
theorem dX10_stands_16 : decode cX10_stands 16 = .ok (.sipush 352, 3) := by decide +kernel
theorem dX10_stands_19 : decode cX10_stands 19 = .ok (.iload_n 1, 1) := by decide +kernel
theorem dX10_stands_20 : decode cX10_stands 20 = .ok (.aload_n 0, 1) := by decide +kernel
theorem dX10_stands_21 : decode cX10_stands 21 = .ok (.getfield 83, 3) := by decide +kernel
theorem dX10_stands_24 : decode cX10_stands 24 = .ok (.iload_n 3, 1) := by decide +kernel
theorem dX10_stands_25 : decode cX10_stands 25 = .ok (.iaload, 1) := by decide +kernel
theorem dX10_stands_26 : decode cX10_stands 26 = .ok (.invokevirtual 247, 3) := by decide +kernel
theorem dX10_stands_29 : decode cX10_stands 29 = .ok (.ifCond .ne 6, 3) := by decide +kernel
theorem dX10_stands_32 : decode cX10_stands 32 = .ok (.bipush (-4), 2) := by decide +kernel
theorem dX10_stands_34 : decode cX10_stands 34 = .ok (.ireturn, 1) := by decide +kernel
theorem dX10_stands_35 : decode cX10_stands 35 = .ok (.aload_n 0, 1) := by decide +kernel
theorem dX10_stands_36 : decode cX10_stands 36 = .ok (.sipush 352, 3) := by decide +kernel
theorem dX10_stands_39 : decode cX10_stands 39 = .ok (.iload_n 1, 1) := by decide +kernel
theorem dX10_stands_40 : decode cX10_stands 40 = .ok (.aload_n 0, 1) := by decide +kernel
theorem dX10_stands_41 : decode cX10_stands 41 = .ok (.getfield 83, 3) := by decide +kernel
theorem dX10_stands_44 : decode cX10_stands 44 = .ok (.iload_n 3, 1) := by decide +kernel
theorem dX10_stands_45 : decode cX10_stands 45 = .ok (.iaload, 1) := by decide +kernel
theorem dX10_stands_46 : decode cX10_stands 46 = .ok (.invokevirtual 254, 3) := by decide +kernel
theorem dX10_stands_49 : decode cX10_stands 49 = .ok (.iinc 3 1, 3) := by decide +kernel
theorem dX10_stands_52 : decode cX10_stands 52 = .ok (.goto (-42), 3) := by decide +kernel
theorem dX10_stands_55 : decode cX10_stands 55 = .ok (.aload_n 0, 1) := by decide +kernel
theorem dX10_stands_56 : decode cX10_stands 56 = .ok (.sipush 352, 3) := by decide +kernel
theorem dX10_stands_59 : decode cX10_stands 59 = .ok (.invokevirtual 276, 3) := by decide +kernel
theorem dX10_stands_62 : decode cX10_stands 62 = .ok (.ireturn, 1) := by decide +kernel
theorem dX10_option_0 : decode cX10_option 0 = .ok (.iload_n 2, 1) := by decide +kernel
theorem dX10_option_1 : decode cX10_option 1 = .ok (.istore_n 3, 1) := by decide +kernel
theorem dX10_option_2 : decode cX10_option 2 = .ok (.iconst 0, 1) := by decide +kernel
theorem dX10_option_3 : decode cX10_option 3 = .ok (.istore 4, 2) := by decide +kernel
theorem dX10_option_5 : decode cX10_option 5 = .ok (.iload 4, 2) := by decide +kernel
theorem dX10_option_7 : decode cX10_option 7 = .ok (.aload_n 0, 1) := by decide +kernel
theorem dX10_option_8 : decode cX10_option 8 = .ok (.getfield 121, 3) := by decide +kernel
theorem dX10_option_11 : decode cX10_option 11 = .ok (.if_icmp .ge 35, 3) := by decide +kernel
theorem dX10_option_14 : decode cX10_option 14 = .ok (.iload 4, 2) := by decide +kernel
theorem dX10_option_16 : decode cX10_option 16 = .ok (.iload_n 1, 1) := by decide +kernel
theorem dX10_option_17 : decode cX10_option 17 = .ok (.if_icmp .eq 13, 3) := by decide +kernel
theorem dX10_option_20 : decode cX10_option 20 = .ok (.aload_n 0, 1) := by decide +kernel
theorem dX10_option_21 : decode cX10_option 21 = .ok (.iload_n 1, 1) := by decide +kernel
theorem dX10_option_22 : decode cX10_option 22 = .ok (.iload 4, 2) := by decide +kernel
theorem dX10_option_24 : decode cX10_option 24 = .ok (.invokevirtual 217, 3) := by decide +kernel
theorem dX10_option_27 : decode cX10_option 27 = .ok (.ifCond .eq 13, 3) := by decide +kernel
theorem dX10_option_30 : decode cX10_option 30 = .ok (.iload_n 3, 1) := by decide +kernel
theorem dX10_option_31 : decode cX10_option 31 = .ok (.ifCond .ne 6, 3) := by decide +kernel
theorem dX10_option_34 : decode cX10_option 34 = .ok (.iload 4, 2) := by decide +kernel
theorem dX10_option_36 : decode cX10_option 36 = .ok (.ireturn, 1) := by decide +kernel
theorem dX10_option_37 : decode cX10_option 37 = .ok (.iinc 3 (-1), 3) := by decide +kernel
theorem dX10_option_40 : decode cX10_option 40 = .ok (.iinc 4 1, 3) := by decide +kernel
theorem dX10_option_43 : decode cX10_option 43 = .ok (.goto (-38), 3) := by decide +kernel
theorem dX10_option_46 : decode cX10_option 46 = .ok (.bipush (-4), 2) := by decide +kernel
theorem dX10_option_48 : decode cX10_option 48 = .ok (.ireturn, 1) := by decide +kernel
theorem dX10_round_0 : decode cX10_round 0 = .ok (.aload_n 0, 1) := by decide +kernel
theorem dX10_round_1 : decode cX10_round 1 = .ok (.iload_n 1, 1) := by decide +kernel
theorem dX10_round_2 : decode cX10_round 2 = .ok (.invokevirtual 239, 3) := by decide +kernel
theorem dX10_round_5 : decode cX10_round 5 = .ok (.ifCond .eq 29, 3) := by decide +kernel
theorem dX10_round_8 : decode cX10_round 8 = .ok (.iload_n 2, 1) := by decide +kernel
theorem dX10_round_9 : decode cX10_round 9 = .ok (.i2l, 1) := by decide +kernel
theorem dX10_round_10 : decode cX10_round 10 = .ok (.lconst 1, 1) := by decide +kernel
theorem dX10_round_11 : decode cX10_round 11 = .ok (.ldc2_w 237, 3) := by decide +kernel
theorem dX10_round_14 : decode cX10_round 14 = .ok (.invokestatic 137, 3) := by decide +kernel
theorem dX10_round_17 : decode cX10_round 17 = .ok (.ifCond .eq 17, 3) := by decide +kernel
theorem dX10_round_20 : decode cX10_round 20 = .ok (.iload_n 3, 1) := by decide +kernel
theorem dX10_round_21 : decode cX10_round 21 = .ok (.i2l, 1) := by decide +kernel
theorem dX10_round_22 : decode cX10_round 22 = .ok (.ldc2_w 279, 3) := by decide +kernel
theorem dX10_round_25 : decode cX10_round 25 = .ok (.ldc2_w 242, 3) := by decide +kernel
theorem dX10_round_28 : decode cX10_round 28 = .ok (.invokestatic 137, 3) := by decide +kernel
theorem dX10_round_31 : decode cX10_round 31 = .ok (.ifCond .ne 5, 3) := by decide +kernel
theorem dX10_round_34 : decode cX10_round 34 = .ok (.iconst (-1), 1) := by decide +kernel
theorem dX10_round_35 : decode cX10_round 35 = .ok (.ireturn, 1) := by decide +kernel
theorem dX10_round_36 : decode cX10_round 36 = .ok (.aload_n 0, 1) := by decide +kernel
theorem dX10_round_37 : decode cX10_round 37 = .ok (.getfield 61, 3) := by decide +kernel
theorem dX10_round_40 : decode cX10_round 40 = .ok (.bipush 24, 2) := by decide +kernel
theorem dX10_round_42 : decode cX10_round 42 = .ok (.iload_n 1, 1) := by decide +kernel
theorem dX10_round_43 : decode cX10_round 43 = .ok (.iadd, 1) := by decide +kernel
theorem dX10_round_44 : decode cX10_round 44 = .ok (.iaload, 1) := by decide +kernel
theorem dX10_round_45 : decode cX10_round 45 = .ok (.iload_n 2, 1) := by decide +kernel
theorem dX10_round_46 : decode cX10_round 46 = .ok (.if_icmp .ge 6, 3) := by decide +kernel
theorem dX10_round_49 : decode cX10_round 49 = .ok (.bipush (-2), 2) := by decide +kernel
theorem dX10_round_51 : decode cX10_round 51 = .ok (.ireturn, 1) := by decide +kernel
theorem dX10_round_52 : decode cX10_round 52 = .ok (.iconst 1, 1) := by decide +kernel
theorem dX10_round_53 : decode cX10_round 53 = .ok (.istore 4, 2) := by decide +kernel
theorem dX10_round_55 : decode cX10_round 55 = .ok (.iconst 0, 1) := by decide +kernel
theorem dX10_round_56 : decode cX10_round 56 = .ok (.istore 5, 2) := by decide +kernel
theorem dX10_round_58 : decode cX10_round 58 = .ok (.iload 5, 2) := by decide +kernel
theorem dX10_round_60 : decode cX10_round 60 = .ok (.iload_n 2, 1) := by decide +kernel
theorem dX10_round_61 : decode cX10_round 61 = .ok (.if_icmp .ge 15, 3) := by decide +kernel
theorem dX10_round_64 : decode cX10_round 64 = .ok (.iload 4, 2) := by decide +kernel
theorem dX10_round_66 : decode cX10_round 66 = .ok (.iconst 5, 1) := by decide +kernel
theorem dX10_round_67 : decode cX10_round 67 = .ok (.imul, 1) := by decide +kernel
theorem dX10_round_68 : decode cX10_round 68 = .ok (.istore 4, 2) := by decide +kernel
theorem dX10_round_70 : decode cX10_round 70 = .ok (.iinc 5 1, 3) := by decide +kernel
theorem dX10_round_73 : decode cX10_round 73 = .ok (.goto (-15), 3) := by decide +kernel
theorem dX10_round_76 : decode cX10_round 76 = .ok (.bipush (-4), 2) := by decide +kernel
theorem dX10_round_78 : decode cX10_round 78 = .ok (.istore 5, 2) := by decide +kernel
theorem dX10_round_80 : decode cX10_round 80 = .ok (.iconst 0, 1) := by decide +kernel
theorem dX10_round_81 : decode cX10_round 81 = .ok (.istore 6, 2) := by decide +kernel
theorem dX10_round_83 : decode cX10_round 83 = .ok (.iload 6, 2) := by decide +kernel
theorem dX10_round_85 : decode cX10_round 85 = .ok (.iload 4, 2) := by decide +kernel
theorem dX10_round_87 : decode cX10_round 87 = .ok (.if_icmp .ge 166, 3) := by decide +kernel
theorem dX10_round_90 : decode cX10_round 90 = .ok (.iload 6, 2) := by decide +kernel
theorem dX10_round_92 : decode cX10_round 92 = .ok (.istore 7, 2) := by decide +kernel
theorem dX10_round_94 : decode cX10_round 94 = .ok (.iload 4, 2) := by decide +kernel
theorem dX10_round_96 : decode cX10_round 96 = .ok (.istore 8, 2) := by decide +kernel
theorem dX10_round_98 : decode cX10_round 98 = .ok (.aload_n 0, 1) := by decide +kernel
theorem dX10_round_99 : decode cX10_round 99 = .ok (.getfield 61, 3) := by decide +kernel
theorem dX10_round_102 : decode cX10_round 102 = .ok (.bipush 27, 2) := by decide +kernel
theorem dX10_round_104 : decode cX10_round 104 = .ok (.iload_n 1, 1) := by decide +kernel
theorem dX10_round_105 : decode cX10_round 105 = .ok (.iadd, 1) := by decide +kernel
theorem dX10_round_106 : decode cX10_round 106 = .ok (.iaload, 1) := by decide +kernel
theorem dX10_round_107 : decode cX10_round 107 = .ok (.istore 9, 2) := by decide +kernel
theorem dX10_round_109 : decode cX10_round 109 = .ok (.iconst 1, 1) := by decide +kernel
theorem dX10_round_110 : decode cX10_round 110 = .ok (.istore 10, 2) := by decide +kernel
theorem dX10_round_112 : decode cX10_round 112 = .ok (.iconst 0, 1) := by decide +kernel
theorem dX10_round_113 : decode cX10_round 113 = .ok (.istore 11, 2) := by decide +kernel
theorem dX10_round_115 : decode cX10_round 115 = .ok (.iload 11, 2) := by decide +kernel
theorem dX10_round_117 : decode cX10_round 117 = .ok (.iload_n 2, 1) := by decide +kernel
theorem dX10_round_118 : decode cX10_round 118 = .ok (.if_icmp .ge 61, 3) := by decide +kernel
theorem dX10_round_121 : decode cX10_round 121 = .ok (.iload 10, 2) := by decide +kernel
theorem dX10_round_123 : decode cX10_round 123 = .ok (.ifCond .eq 56, 3) := by decide +kernel
theorem dX10_round_126 : decode cX10_round 126 = .ok (.iload 8, 2) := by decide +kernel
theorem dX10_round_128 : decode cX10_round 128 = .ok (.iconst 5, 1) := by decide +kernel
theorem dX10_round_129 : decode cX10_round 129 = .ok (.idiv, 1) := by decide +kernel
theorem dX10_round_130 : decode cX10_round 130 = .ok (.istore 8, 2) := by decide +kernel
theorem dX10_round_132 : decode cX10_round 132 = .ok (.aload_n 0, 1) := by decide +kernel
theorem dX10_round_133 : decode cX10_round 133 = .ok (.iload 9, 2) := by decide +kernel
theorem dX10_round_135 : decode cX10_round 135 = .ok (.iload 7, 2) := by decide +kernel
theorem dX10_round_137 : decode cX10_round 137 = .ok (.iload 8, 2) := by decide +kernel
theorem dX10_round_139 : decode cX10_round 139 = .ok (.idiv, 1) := by decide +kernel
theorem dX10_round_140 : decode cX10_round 140 = .ok (.invokevirtual 281, 3) := by decide +kernel
theorem dX10_round_143 : decode cX10_round 143 = .ok (.istore 9, 2) := by decide +kernel
theorem dX10_round_145 : decode cX10_round 145 = .ok (.iload 7, 2) := by decide +kernel
theorem dX10_round_147 : decode cX10_round 147 = .ok (.iload 8, 2) := by decide +kernel
theorem dX10_round_149 : decode cX10_round 149 = .ok (.irem, 1) := by decide +kernel
theorem dX10_round_150 : decode cX10_round 150 = .ok (.istore 7, 2) := by decide +kernel
theorem dX10_round_152 : decode cX10_round 152 = .ok (.aload_n 0, 1) := by decide +kernel
theorem dX10_round_153 : decode cX10_round 153 = .ok (.getfield 83, 3) := by decide +kernel
theorem dX10_round_156 : decode cX10_round 156 = .ok (.iload 11, 2) := by decide +kernel
theorem dX10_round_158 : decode cX10_round 158 = .ok (.iload 9, 2) := by decide +kernel
theorem dX10_round_160 : decode cX10_round 160 = .ok (.iastore, 1) := by decide +kernel
theorem dX10_round_161 : decode cX10_round 161 = .ok (.iload 9, 2) := by decide +kernel
theorem dX10_round_163 : decode cX10_round 163 = .ok (.ifCond .lt 7, 3) := by decide +kernel
theorem dX10_round_166 : decode cX10_round 166 = .ok (.iconst 1, 1) := by decide +kernel
theorem dX10_round_167 : decode cX10_round 167 = .ok (.goto 4, 3) := by decide +kernel
theorem dX10_round_170 : decode cX10_round 170 = .ok (.iconst 0, 1) := by decide +kernel
theorem dX10_round_171 : decode cX10_round 171 = .ok (.istore 10, 2) := by decide +kernel
theorem dX10_round_173 : decode cX10_round 173 = .ok (.iinc 11 1, 3) := by decide +kernel
theorem dX10_round_176 : decode cX10_round 176 = .ok (.goto (-61), 3) := by decide +kernel
theorem dX10_round_179 : decode cX10_round 179 = .ok (.iload 10, 2) := by decide +kernel
theorem dX10_round_181 : decode cX10_round 181 = .ok (.ifCond .eq 12, 3) := by decide +kernel
theorem dX10_round_184 : decode cX10_round 184 = .ok (.aload_n 0, 1) := by decide +kernel
theorem dX10_round_185 : decode cX10_round 185 = .ok (.iload_n 1, 1) := by decide +kernel
theorem dX10_round_186 : decode cX10_round 186 = .ok (.iload_n 2, 1) := by decide +kernel
theorem dX10_round_187 : decode cX10_round 187 = .ok (.invokevirtual 284, 3) := by decide +kernel
theorem dX10_round_190 : decode cX10_round 190 = .ok (.goto 5, 3) := by decide +kernel
theorem dX10_round_193 : decode cX10_round 193 = .ok (.bipush (-4), 2) := by decide +kernel
theorem dX10_round_195 : decode cX10_round 195 = .ok (.istore 11, 2) := by decide +kernel
theorem dX10_round_197 : decode cX10_round 197 = .ok (.iload 11, 2) := by decide +kernel
theorem dX10_round_199 : decode cX10_round 199 = .ok (.ifCond .lt 48, 3) := by decide +kernel
theorem dX10_round_202 : decode cX10_round 202 = .ok (.iload 5, 2) := by decide +kernel
theorem dX10_round_204 : decode cX10_round 204 = .ok (.ifCond .lt 10, 3) := by decide +kernel
theorem dX10_round_207 : decode cX10_round 207 = .ok (.iload 11, 2) := by decide +kernel
theorem dX10_round_209 : decode cX10_round 209 = .ok (.iload 5, 2) := by decide +kernel
theorem dX10_round_211 : decode cX10_round 211 = .ok (.if_icmp .ge 36, 3) := by decide +kernel
theorem dX10_round_214 : decode cX10_round 214 = .ok (.iload 11, 2) := by decide +kernel
theorem dX10_round_216 : decode cX10_round 216 = .ok (.istore 5, 2) := by decide +kernel
theorem dX10_round_218 : decode cX10_round 218 = .ok (.iconst 0, 1) := by decide +kernel
theorem dX10_round_219 : decode cX10_round 219 = .ok (.istore 12, 2) := by decide +kernel
theorem dX10_round_221 : decode cX10_round 221 = .ok (.iload 12, 2) := by decide +kernel
theorem dX10_round_223 : decode cX10_round 223 = .ok (.iload_n 2, 1) := by decide +kernel
theorem dX10_round_224 : decode cX10_round 224 = .ok (.if_icmp .ge 23, 3) := by decide +kernel
theorem dX10_round_227 : decode cX10_round 227 = .ok (.aload_n 0, 1) := by decide +kernel
theorem dX10_round_228 : decode cX10_round 228 = .ok (.getfield 86, 3) := by decide +kernel
theorem dX10_round_231 : decode cX10_round 231 = .ok (.iload 12, 2) := by decide +kernel
theorem dX10_round_233 : decode cX10_round 233 = .ok (.aload_n 0, 1) := by decide +kernel
theorem dX10_round_234 : decode cX10_round 234 = .ok (.getfield 83, 3) := by decide +kernel
theorem dX10_round_237 : decode cX10_round 237 = .ok (.iload 12, 2) := by decide +kernel
theorem dX10_round_239 : decode cX10_round 239 = .ok (.iaload, 1) := by decide +kernel
theorem dX10_round_240 : decode cX10_round 240 = .ok (.iastore, 1) := by decide +kernel
theorem dX10_round_241 : decode cX10_round 241 = .ok (.iinc 12 1, 3) := by decide +kernel
theorem dX10_round_244 : decode cX10_round 244 = .ok (.goto (-23), 3) := by decide +kernel
theorem dX10_round_247 : decode cX10_round 247 = .ok (.iinc 6 1, 3) := by decide +kernel
theorem dX10_round_250 : decode cX10_round 250 = .ok (.goto (-167), 3) := by decide +kernel
theorem dX10_round_253 : decode cX10_round 253 = .ok (.iload_n 3, 1) := by decide +kernel
theorem dX10_round_254 : decode cX10_round 254 = .ok (.ifCond .ge 8, 3) := by decide +kernel
theorem dX10_round_257 : decode cX10_round 257 = .ok (.iload 5, 2) := by decide +kernel
theorem dX10_round_259 : decode cX10_round 259 = .ok (.goto 19, 3) := by decide +kernel
theorem dX10_round_262 : decode cX10_round 262 = .ok (.iload_n 3, 1) := by decide +kernel
theorem dX10_round_263 : decode cX10_round 263 = .ok (.iload_n 2, 1) := by decide +kernel
theorem dX10_round_264 : decode cX10_round 264 = .ok (.if_icmp .ge 12, 3) := by decide +kernel
theorem dX10_round_267 : decode cX10_round 267 = .ok (.aload_n 0, 1) := by decide +kernel
theorem dX10_round_268 : decode cX10_round 268 = .ok (.getfield 86, 3) := by decide +kernel
theorem dX10_round_271 : decode cX10_round 271 = .ok (.iload_n 3, 1) := by decide +kernel
theorem dX10_round_272 : decode cX10_round 272 = .ok (.iaload, 1) := by decide +kernel
theorem dX10_round_273 : decode cX10_round 273 = .ok (.goto 5, 3) := by decide +kernel
theorem dX10_round_276 : decode cX10_round 276 = .ok (.bipush (-4), 2) := by decide +kernel
theorem dX10_round_278 : decode cX10_round 278 = .ok (.ireturn, 1) := by decide +kernel
theorem dX10_chairs_0 : decode cX10_chairs 0 = .ok (.iload_n 1, 1) := by decide +kernel
theorem dX10_chairs_1 : decode cX10_chairs 1 = .ok (.i2l, 1) := by decide +kernel
theorem dX10_chairs_2 : decode cX10_chairs 2 = .ok (.lconst 0, 1) := by decide +kernel
theorem dX10_chairs_3 : decode cX10_chairs 3 = .ok (.ldc2_w 287, 3) := by decide +kernel
theorem dX10_chairs_6 : decode cX10_chairs 6 = .ok (.invokestatic 137, 3) := by decide +kernel
theorem dX10_chairs_9 : decode cX10_chairs 9 = .ok (.ifCond .ne 5, 3) := by decide +kernel
theorem dX10_chairs_12 : decode cX10_chairs 12 = .ok (.iconst (-1), 1) := by decide +kernel
theorem dX10_chairs_13 : decode cX10_chairs 13 = .ok (.ireturn, 1) := by decide +kernel
theorem dX10_chairs_14 : decode cX10_chairs 14 = .ok (.iconst 0, 1) := by decide +kernel
theorem dX10_chairs_15 : decode cX10_chairs 15 = .ok (.istore_n 2, 1) := by decide +kernel
theorem dX10_chairs_16 : decode cX10_chairs 16 = .ok (.iload_n 2, 1) := by decide +kernel
theorem dX10_chairs_17 : decode cX10_chairs 17 = .ok (.bipush 64, 2) := by decide +kernel
theorem dX10_chairs_19 : decode cX10_chairs 19 = .ok (.if_icmp .ge 25, 3) := by decide +kernel
theorem dX10_chairs_22 : decode cX10_chairs 22 = .ok (.aload_n 0, 1) := by decide +kernel
theorem dX10_chairs_23 : decode cX10_chairs 23 = .ok (.getfield 89, 3) := by decide +kernel
theorem dX10_chairs_26 : decode cX10_chairs 26 = .ok (.iload_n 2, 1) := by decide +kernel
theorem dX10_chairs_27 : decode cX10_chairs 27 = .ok (.iload_n 2, 1) := by decide +kernel
theorem dX10_chairs_28 : decode cX10_chairs 28 = .ok (.ifCond .ne 7, 3) := by decide +kernel
theorem dX10_chairs_31 : decode cX10_chairs 31 = .ok (.iconst 0, 1) := by decide +kernel
theorem dX10_chairs_32 : decode cX10_chairs 32 = .ok (.goto 5, 3) := by decide +kernel
theorem dX10_chairs_35 : decode cX10_chairs 35 = .ok (.bipush (-99), 2) := by decide +kernel
theorem dX10_chairs_37 : decode cX10_chairs 37 = .ok (.iastore, 1) := by decide +kernel
theorem dX10_chairs_38 : decode cX10_chairs 38 = .ok (.iinc 2 1, 3) := by decide +kernel
theorem dX10_chairs_41 : decode cX10_chairs 41 = .ok (.goto (-25), 3) := by decide +kernel
theorem dX10_chairs_44 : decode cX10_chairs 44 = .ok (.iconst 0, 1) := by decide +kernel
theorem dX10_chairs_45 : decode cX10_chairs 45 = .ok (.istore_n 2, 1) := by decide +kernel
theorem dX10_chairs_46 : decode cX10_chairs 46 = .ok (.iload_n 2, 1) := by decide +kernel
theorem dX10_chairs_47 : decode cX10_chairs 47 = .ok (.aload_n 0, 1) := by decide +kernel
theorem dX10_chairs_48 : decode cX10_chairs 48 = .ok (.getfield 121, 3) := by decide +kernel
theorem dX10_chairs_51 : decode cX10_chairs 51 = .ok (.if_icmp .ge 207, 3) := by decide +kernel
theorem dX10_chairs_54 : decode cX10_chairs 54 = .ok (.iconst 0, 1) := by decide +kernel
theorem dX10_chairs_55 : decode cX10_chairs 55 = .ok (.istore_n 3, 1) := by decide +kernel
theorem dX10_chairs_56 : decode cX10_chairs 56 = .ok (.iconst 0, 1) := by decide +kernel
theorem dX10_chairs_57 : decode cX10_chairs 57 = .ok (.istore 4, 2) := by decide +kernel
theorem dX10_chairs_59 : decode cX10_chairs 59 = .ok (.iload 4, 2) := by decide +kernel
theorem dX10_chairs_61 : decode cX10_chairs 61 = .ok (.aload_n 0, 1) := by decide +kernel
theorem dX10_chairs_62 : decode cX10_chairs 62 = .ok (.getfield 124, 3) := by decide +kernel
theorem dX10_chairs_65 : decode cX10_chairs 65 = .ok (.if_icmp .ge 33, 3) := by decide +kernel
theorem dX10_chairs_68 : decode cX10_chairs 68 = .ok (.iload_n 3, 1) := by decide +kernel
theorem dX10_chairs_69 : decode cX10_chairs 69 = .ok (.aload_n 0, 1) := by decide +kernel
theorem dX10_chairs_70 : decode cX10_chairs 70 = .ok (.getfield 61, 3) := by decide +kernel
theorem dX10_chairs_73 : decode cX10_chairs 73 = .ok (.iload_n 2, 1) := by decide +kernel
theorem dX10_chairs_74 : decode cX10_chairs 74 = .ok (.iload 4, 2) := by decide +kernel
theorem dX10_chairs_76 : decode cX10_chairs 76 = .ok (.iadd, 1) := by decide +kernel
theorem dX10_chairs_77 : decode cX10_chairs 77 = .ok (.iaload, 1) := by decide +kernel
theorem dX10_chairs_78 : decode cX10_chairs 78 = .ok (.iload_n 1, 1) := by decide +kernel
theorem dX10_chairs_79 : decode cX10_chairs 79 = .ok (.if_icmp .gt 10, 3) := by decide +kernel
theorem dX10_chairs_82 : decode cX10_chairs 82 = .ok (.iconst 1, 1) := by decide +kernel
theorem dX10_chairs_83 : decode cX10_chairs 83 = .ok (.iload 4, 2) := by decide +kernel
theorem dX10_chairs_85 : decode cX10_chairs 85 = .ok (.ishl, 1) := by decide +kernel
theorem dX10_chairs_86 : decode cX10_chairs 86 = .ok (.goto 4, 3) := by decide +kernel
theorem dX10_chairs_89 : decode cX10_chairs 89 = .ok (.iconst 0, 1) := by decide +kernel
theorem dX10_chairs_90 : decode cX10_chairs 90 = .ok (.ior, 1) := by decide +kernel
theorem dX10_chairs_91 : decode cX10_chairs 91 = .ok (.istore_n 3, 1) := by decide +kernel
theorem dX10_chairs_92 : decode cX10_chairs 92 = .ok (.iinc 4 1, 3) := by decide +kernel
theorem dX10_chairs_95 : decode cX10_chairs 95 = .ok (.goto (-36), 3) := by decide +kernel
theorem dX10_chairs_98 : decode cX10_chairs 98 = .ok (.iconst 0, 1) := by decide +kernel
theorem dX10_chairs_99 : decode cX10_chairs 99 = .ok (.istore 4, 2) := by decide +kernel
theorem dX10_chairs_101 : decode cX10_chairs 101 = .ok (.iload 4, 2) := by decide +kernel
theorem dX10_chairs_103 : decode cX10_chairs 103 = .ok (.bipush 64, 2) := by decide +kernel
theorem dX10_chairs_105 : decode cX10_chairs 105 = .ok (.if_icmp .ge 113, 3) := by decide +kernel
theorem dX10_chairs_108 : decode cX10_chairs 108 = .ok (.aload_n 0, 1) := by decide +kernel
theorem dX10_chairs_109 : decode cX10_chairs 109 = .ok (.getfield 92, 3) := by decide +kernel
theorem dX10_chairs_112 : decode cX10_chairs 112 = .ok (.iload 4, 2) := by decide +kernel
theorem dX10_chairs_114 : decode cX10_chairs 114 = .ok (.bipush (-99), 2) := by decide +kernel
theorem dX10_chairs_116 : decode cX10_chairs 116 = .ok (.iastore, 1) := by decide +kernel
theorem dX10_chairs_117 : decode cX10_chairs 117 = .ok (.iconst 0, 1) := by decide +kernel
theorem dX10_chairs_118 : decode cX10_chairs 118 = .ok (.istore 5, 2) := by decide +kernel
theorem dX10_chairs_120 : decode cX10_chairs 120 = .ok (.iload 5, 2) := by decide +kernel
theorem dX10_chairs_122 : decode cX10_chairs 122 = .ok (.bipush 64, 2) := by decide +kernel
theorem dX10_chairs_124 : decode cX10_chairs 124 = .ok (.if_icmp .ge 88, 3) := by decide +kernel
theorem dX10_chairs_127 : decode cX10_chairs 127 = .ok (.iload 4, 2) := by decide +kernel
theorem dX10_chairs_129 : decode cX10_chairs 129 = .ok (.iload_n 3, 1) := by decide +kernel
theorem dX10_chairs_130 : decode cX10_chairs 130 = .ok (.iconst (-1), 1) := by decide +kernel
theorem dX10_chairs_131 : decode cX10_chairs 131 = .ok (.ixor, 1) := by decide +kernel
theorem dX10_chairs_132 : decode cX10_chairs 132 = .ok (.iand, 1) := by decide +kernel
theorem dX10_chairs_133 : decode cX10_chairs 133 = .ok (.ifCond .ne 25, 3) := by decide +kernel
theorem dX10_chairs_136 : decode cX10_chairs 136 = .ok (.iload 4, 2) := by decide +kernel
theorem dX10_chairs_138 : decode cX10_chairs 138 = .ok (.iload 4, 2) := by decide +kernel
theorem dX10_chairs_140 : decode cX10_chairs 140 = .ok (.iconst 1, 1) := by decide +kernel
theorem dX10_chairs_141 : decode cX10_chairs 141 = .ok (.ishr, 1) := by decide +kernel
theorem dX10_chairs_142 : decode cX10_chairs 142 = .ok (.iand, 1) := by decide +kernel
theorem dX10_chairs_143 : decode cX10_chairs 143 = .ok (.ifCond .ne 15, 3) := by decide +kernel
theorem dX10_chairs_146 : decode cX10_chairs 146 = .ok (.iload 4, 2) := by decide +kernel
theorem dX10_chairs_148 : decode cX10_chairs 148 = .ok (.iload 5, 2) := by decide +kernel
theorem dX10_chairs_150 : decode cX10_chairs 150 = .ok (.iand, 1) := by decide +kernel
theorem dX10_chairs_151 : decode cX10_chairs 151 = .ok (.ifCond .ne 7, 3) := by decide +kernel
theorem dX10_chairs_154 : decode cX10_chairs 154 = .ok (.iconst 1, 1) := by decide +kernel
theorem dX10_chairs_155 : decode cX10_chairs 155 = .ok (.goto 4, 3) := by decide +kernel
theorem dX10_chairs_158 : decode cX10_chairs 158 = .ok (.iconst 0, 1) := by decide +kernel
theorem dX10_chairs_159 : decode cX10_chairs 159 = .ok (.istore 6, 2) := by decide +kernel
theorem dX10_chairs_161 : decode cX10_chairs 161 = .ok (.aload_n 0, 1) := by decide +kernel
theorem dX10_chairs_162 : decode cX10_chairs 162 = .ok (.getfield 92, 3) := by decide +kernel
theorem dX10_chairs_165 : decode cX10_chairs 165 = .ok (.iload 4, 2) := by decide +kernel
theorem dX10_chairs_167 : decode cX10_chairs 167 = .ok (.iload 6, 2) := by decide +kernel
theorem dX10_chairs_169 : decode cX10_chairs 169 = .ok (.ifCond .eq 29, 3) := by decide +kernel
theorem dX10_chairs_172 : decode cX10_chairs 172 = .ok (.aload_n 0, 1) := by decide +kernel
theorem dX10_chairs_173 : decode cX10_chairs 173 = .ok (.getfield 92, 3) := by decide +kernel
theorem dX10_chairs_176 : decode cX10_chairs 176 = .ok (.iload 4, 2) := by decide +kernel
theorem dX10_chairs_178 : decode cX10_chairs 178 = .ok (.iaload, 1) := by decide +kernel
theorem dX10_chairs_179 : decode cX10_chairs 179 = .ok (.aload_n 0, 1) := by decide +kernel
theorem dX10_chairs_180 : decode cX10_chairs 180 = .ok (.getfield 89, 3) := by decide +kernel
theorem dX10_chairs_183 : decode cX10_chairs 183 = .ok (.iload 5, 2) := by decide +kernel
theorem dX10_chairs_185 : decode cX10_chairs 185 = .ok (.iaload, 1) := by decide +kernel
theorem dX10_chairs_186 : decode cX10_chairs 186 = .ok (.iload 4, 2) := by decide +kernel
theorem dX10_chairs_188 : decode cX10_chairs 188 = .ok (.invokestatic 266, 3) := by decide +kernel
theorem dX10_chairs_191 : decode cX10_chairs 191 = .ok (.iadd, 1) := by decide +kernel
theorem dX10_chairs_192 : decode cX10_chairs 192 = .ok (.invokestatic 231, 3) := by decide +kernel
theorem dX10_chairs_195 : decode cX10_chairs 195 = .ok (.goto 10, 3) := by decide +kernel
theorem dX10_chairs_198 : decode cX10_chairs 198 = .ok (.aload_n 0, 1) := by decide +kernel
theorem dX10_chairs_199 : decode cX10_chairs 199 = .ok (.getfield 92, 3) := by decide +kernel
theorem dX10_chairs_202 : decode cX10_chairs 202 = .ok (.iload 4, 2) := by decide +kernel
theorem dX10_chairs_204 : decode cX10_chairs 204 = .ok (.iaload, 1) := by decide +kernel
theorem dX10_chairs_205 : decode cX10_chairs 205 = .ok (.iastore, 1) := by decide +kernel
theorem dX10_chairs_206 : decode cX10_chairs 206 = .ok (.iinc 5 1, 3) := by decide +kernel
theorem dX10_chairs_209 : decode cX10_chairs 209 = .ok (.goto (-89), 3) := by decide +kernel
theorem dX10_chairs_212 : decode cX10_chairs 212 = .ok (.iinc 4 1, 3) := by decide +kernel
theorem dX10_chairs_215 : decode cX10_chairs 215 = .ok (.goto (-114), 3) := by decide +kernel
theorem dX10_chairs_218 : decode cX10_chairs 218 = .ok (.iconst 0, 1) := by decide +kernel
theorem dX10_chairs_219 : decode cX10_chairs 219 = .ok (.istore 4, 2) := by decide +kernel
theorem dX10_chairs_221 : decode cX10_chairs 221 = .ok (.iload 4, 2) := by decide +kernel
theorem dX10_chairs_223 : decode cX10_chairs 223 = .ok (.bipush 64, 2) := by decide +kernel
theorem dX10_chairs_225 : decode cX10_chairs 225 = .ok (.if_icmp .ge 23, 3) := by decide +kernel
theorem dX10_chairs_228 : decode cX10_chairs 228 = .ok (.aload_n 0, 1) := by decide +kernel
theorem dX10_chairs_229 : decode cX10_chairs 229 = .ok (.getfield 89, 3) := by decide +kernel
theorem dX10_chairs_232 : decode cX10_chairs 232 = .ok (.iload 4, 2) := by decide +kernel
theorem dX10_chairs_234 : decode cX10_chairs 234 = .ok (.aload_n 0, 1) := by decide +kernel
theorem dX10_chairs_235 : decode cX10_chairs 235 = .ok (.getfield 92, 3) := by decide +kernel
theorem dX10_chairs_238 : decode cX10_chairs 238 = .ok (.iload 4, 2) := by decide +kernel
theorem dX10_chairs_240 : decode cX10_chairs 240 = .ok (.iaload, 1) := by decide +kernel
theorem dX10_chairs_241 : decode cX10_chairs 241 = .ok (.iastore, 1) := by decide +kernel
theorem dX10_chairs_242 : decode cX10_chairs 242 = .ok (.iinc 4 1, 3) := by decide +kernel
theorem dX10_chairs_245 : decode cX10_chairs 245 = .ok (.goto (-24), 3) := by decide +kernel
theorem dX10_chairs_248 : decode cX10_chairs 248 = .ok (.iload_n 2, 1) := by decide +kernel
theorem dX10_chairs_249 : decode cX10_chairs 249 = .ok (.aload_n 0, 1) := by decide +kernel
theorem dX10_chairs_250 : decode cX10_chairs 250 = .ok (.getfield 124, 3) := by decide +kernel
theorem dX10_chairs_253 : decode cX10_chairs 253 = .ok (.iadd, 1) := by decide +kernel
theorem dX10_chairs_254 : decode cX10_chairs 254 = .ok (.istore_n 2, 1) := by decide +kernel
theorem dX10_chairs_255 : decode cX10_chairs 255 = .ok (.goto (-209), 3) := by decide +kernel
theorem dX10_chairs_258 : decode cX10_chairs 258 = .ok (.iconst 0, 1) := by decide +kernel
theorem dX10_chairs_259 : decode cX10_chairs 259 = .ok (.istore_n 2, 1) := by decide +kernel
theorem dX10_chairs_260 : decode cX10_chairs 260 = .ok (.iconst 0, 1) := by decide +kernel
theorem dX10_chairs_261 : decode cX10_chairs 261 = .ok (.istore_n 3, 1) := by decide +kernel
theorem dX10_chairs_262 : decode cX10_chairs 262 = .ok (.iload_n 3, 1) := by decide +kernel
theorem dX10_chairs_263 : decode cX10_chairs 263 = .ok (.bipush 64, 2) := by decide +kernel
theorem dX10_chairs_265 : decode cX10_chairs 265 = .ok (.if_icmp .ge 20, 3) := by decide +kernel
theorem dX10_chairs_268 : decode cX10_chairs 268 = .ok (.iload_n 2, 1) := by decide +kernel
theorem dX10_chairs_269 : decode cX10_chairs 269 = .ok (.aload_n 0, 1) := by decide +kernel
theorem dX10_chairs_270 : decode cX10_chairs 270 = .ok (.getfield 89, 3) := by decide +kernel
theorem dX10_chairs_273 : decode cX10_chairs 273 = .ok (.iload_n 3, 1) := by decide +kernel
theorem dX10_chairs_274 : decode cX10_chairs 274 = .ok (.iaload, 1) := by decide +kernel
theorem dX10_chairs_275 : decode cX10_chairs 275 = .ok (.invokestatic 231, 3) := by decide +kernel
theorem dX10_chairs_278 : decode cX10_chairs 278 = .ok (.istore_n 2, 1) := by decide +kernel
theorem dX10_chairs_279 : decode cX10_chairs 279 = .ok (.iinc 3 1, 3) := by decide +kernel
theorem dX10_chairs_282 : decode cX10_chairs 282 = .ok (.goto (-20), 3) := by decide +kernel
theorem dX10_chairs_285 : decode cX10_chairs 285 = .ok (.iload_n 2, 1) := by decide +kernel
theorem dX10_chairs_286 : decode cX10_chairs 286 = .ok (.ireturn, 1) := by decide +kernel
theorem dX10_standsPardoned_0 : decode cX10_standsPardoned 0 = .ok (.aload_n 0, 1) := by decide +kernel
theorem dX10_standsPardoned_1 : decode cX10_standsPardoned 1 = .ok (.iconst 0, 1) := by decide +kernel
theorem dX10_standsPardoned_2 : decode cX10_standsPardoned 2 = .ok (.sipush 352, 3) := by decide +kernel
theorem dX10_standsPardoned_5 : decode cX10_standsPardoned 5 = .ok (.invokevirtual 244, 3) := by decide +kernel
theorem dX10_standsPardoned_8 : decode cX10_standsPardoned 8 = .ok (.aload_n 0, 1) := by decide +kernel
theorem dX10_standsPardoned_9 : decode cX10_standsPardoned 9 = .ok (.getfield 61, 3) := by decide +kernel
theorem dX10_standsPardoned_12 : decode cX10_standsPardoned 12 = .ok (.sipush 382, 3) := by decide +kernel
theorem dX10_standsPardoned_15 : decode cX10_standsPardoned 15 = .ok (.dup2, 1) := by decide +kernel
theorem dX10_standsPardoned_16 : decode cX10_standsPardoned 16 = .ok (.iaload, 1) := by decide +kernel
theorem dX10_standsPardoned_17 : decode cX10_standsPardoned 17 = .ok (.iconst 1, 1) := by decide +kernel
theorem dX10_standsPardoned_18 : decode cX10_standsPardoned 18 = .ok (.iload_n 1, 1) := by decide +kernel
theorem dX10_standsPardoned_19 : decode cX10_standsPardoned 19 = .ok (.ishl, 1) := by decide +kernel
theorem dX10_standsPardoned_20 : decode cX10_standsPardoned 20 = .ok (.ior, 1) := by decide +kernel
theorem dX10_standsPardoned_21 : decode cX10_standsPardoned 21 = .ok (.iastore, 1) := by decide +kernel
theorem dX10_standsPardoned_22 : decode cX10_standsPardoned 22 = .ok (.iconst 0, 1) := by decide +kernel
theorem dX10_standsPardoned_23 : decode cX10_standsPardoned 23 = .ok (.istore_n 3, 1) := by decide +kernel
theorem dX10_standsPardoned_24 : decode cX10_standsPardoned 24 = .ok (.iload_n 3, 1) := by decide +kernel
theorem dX10_standsPardoned_25 : decode cX10_standsPardoned 25 = .ok (.iload_n 2, 1) := by decide +kernel
theorem dX10_standsPardoned_26 : decode cX10_standsPardoned 26 = .ok (.if_icmp .ge 23, 3) := by decide +kernel
theorem dX10_standsPardoned_29 : decode cX10_standsPardoned 29 = .ok (.aload_n 0, 1) := by decide +kernel
theorem dX10_standsPardoned_30 : decode cX10_standsPardoned 30 = .ok (.sipush 352, 3) := by decide +kernel
theorem dX10_standsPardoned_33 : decode cX10_standsPardoned 33 = .ok (.aload_n 0, 1) := by decide +kernel
theorem dX10_standsPardoned_34 : decode cX10_standsPardoned 34 = .ok (.sipush 352, 3) := by decide +kernel
theorem dX10_standsPardoned_37 : decode cX10_standsPardoned 37 = .ok (.invokevirtual 259, 3) := by decide +kernel
theorem dX10_standsPardoned_40 : decode cX10_standsPardoned 40 = .ok (.invokevirtual 263, 3) := by decide +kernel
theorem dX10_standsPardoned_43 : decode cX10_standsPardoned 43 = .ok (.iinc 3 1, 3) := by decide +kernel
theorem dX10_standsPardoned_46 : decode cX10_standsPardoned 46 = .ok (.goto (-22), 3) := by decide +kernel
theorem dX10_standsPardoned_49 : decode cX10_standsPardoned 49 = .ok (.aload_n 0, 1) := by decide +kernel
theorem dX10_standsPardoned_50 : decode cX10_standsPardoned 50 = .ok (.sipush 352, 3) := by decide +kernel
theorem dX10_standsPardoned_53 : decode cX10_standsPardoned 53 = .ok (.invokevirtual 276, 3) := by decide +kernel
theorem dX10_standsPardoned_56 : decode cX10_standsPardoned 56 = .ok (.ireturn, 1) := by decide +kernel
theorem dX10_pardons_0 : decode cX10_pardons 0 = .ok (.iload_n 1, 1) := by decide +kernel
theorem dX10_pardons_1 : decode cX10_pardons 1 = .ok (.i2l, 1) := by decide +kernel
theorem dX10_pardons_2 : decode cX10_pardons 2 = .ok (.lconst 1, 1) := by decide +kernel
theorem dX10_pardons_3 : decode cX10_pardons 3 = .ok (.ldc2_w 257, 3) := by decide +kernel
theorem dX10_pardons_6 : decode cX10_pardons 6 = .ok (.invokestatic 137, 3) := by decide +kernel
theorem dX10_pardons_9 : decode cX10_pardons 9 = .ok (.ifCond .eq 13, 3) := by decide +kernel
theorem dX10_pardons_12 : decode cX10_pardons 12 = .ok (.iload_n 2, 1) := by decide +kernel
theorem dX10_pardons_13 : decode cX10_pardons 13 = .ok (.i2l, 1) := by decide +kernel
theorem dX10_pardons_14 : decode cX10_pardons 14 = .ok (.lconst 0, 1) := by decide +kernel
theorem dX10_pardons_15 : decode cX10_pardons 15 = .ok (.lconst 1, 1) := by decide +kernel
theorem dX10_pardons_16 : decode cX10_pardons 16 = .ok (.invokestatic 137, 3) := by decide +kernel
theorem dX10_pardons_19 : decode cX10_pardons 19 = .ok (.ifCond .ne 5, 3) := by decide +kernel
theorem dX10_pardons_22 : decode cX10_pardons 22 = .ok (.iconst (-1), 1) := by decide +kernel
theorem dX10_pardons_23 : decode cX10_pardons 23 = .ok (.ireturn, 1) := by decide +kernel
theorem dX10_pardons_24 : decode cX10_pardons 24 = .ok (.bipush (-4), 2) := by decide +kernel
theorem dX10_pardons_26 : decode cX10_pardons 26 = .ok (.istore_n 3, 1) := by decide +kernel
theorem dX10_pardons_27 : decode cX10_pardons 27 = .ok (.sipush 9999, 3) := by decide +kernel
theorem dX10_pardons_30 : decode cX10_pardons 30 = .ok (.istore 4, 2) := by decide +kernel
theorem dX10_pardons_32 : decode cX10_pardons 32 = .ok (.iconst 0, 1) := by decide +kernel
theorem dX10_pardons_33 : decode cX10_pardons 33 = .ok (.istore 5, 2) := by decide +kernel
theorem dX10_pardons_35 : decode cX10_pardons 35 = .ok (.iload 5, 2) := by decide +kernel
theorem dX10_pardons_37 : decode cX10_pardons 37 = .ok (.aload_n 0, 1) := by decide +kernel
theorem dX10_pardons_38 : decode cX10_pardons 38 = .ok (.getfield 127, 3) := by decide +kernel
theorem dX10_pardons_41 : decode cX10_pardons 41 = .ok (.if_icmp .ge 62, 3) := by decide +kernel
theorem dX10_pardons_44 : decode cX10_pardons 44 = .ok (.aload_n 0, 1) := by decide +kernel
theorem dX10_pardons_45 : decode cX10_pardons 45 = .ok (.getfield 61, 3) := by decide +kernel
theorem dX10_pardons_48 : decode cX10_pardons 48 = .ok (.bipush 30, 2) := by decide +kernel
theorem dX10_pardons_50 : decode cX10_pardons 50 = .ok (.iaload, 1) := by decide +kernel
theorem dX10_pardons_51 : decode cX10_pardons 51 = .ok (.iload 5, 2) := by decide +kernel
theorem dX10_pardons_53 : decode cX10_pardons 53 = .ok (.invokestatic 221, 3) := by decide +kernel
theorem dX10_pardons_56 : decode cX10_pardons 56 = .ok (.ifCond .eq 9, 3) := by decide +kernel
theorem dX10_pardons_59 : decode cX10_pardons 59 = .ok (.sipush 9999, 3) := by decide +kernel
theorem dX10_pardons_62 : decode cX10_pardons 62 = .ok (.goto 10, 3) := by decide +kernel
theorem dX10_pardons_65 : decode cX10_pardons 65 = .ok (.aload_n 0, 1) := by decide +kernel
theorem dX10_pardons_66 : decode cX10_pardons 66 = .ok (.iload 5, 2) := by decide +kernel
theorem dX10_pardons_68 : decode cX10_pardons 68 = .ok (.iload_n 1, 1) := by decide +kernel
theorem dX10_pardons_69 : decode cX10_pardons 69 = .ok (.invokevirtual 289, 3) := by decide +kernel
theorem dX10_pardons_72 : decode cX10_pardons 72 = .ok (.istore 6, 2) := by decide +kernel
theorem dX10_pardons_74 : decode cX10_pardons 74 = .ok (.iload 6, 2) := by decide +kernel
theorem dX10_pardons_76 : decode cX10_pardons 76 = .ok (.iload 4, 2) := by decide +kernel
theorem dX10_pardons_78 : decode cX10_pardons 78 = .ok (.if_icmp .ge 8, 3) := by decide +kernel
theorem dX10_pardons_81 : decode cX10_pardons 81 = .ok (.iload 5, 2) := by decide +kernel
theorem dX10_pardons_83 : decode cX10_pardons 83 = .ok (.goto 4, 3) := by decide +kernel
theorem dX10_pardons_86 : decode cX10_pardons 86 = .ok (.iload_n 3, 1) := by decide +kernel
theorem dX10_pardons_87 : decode cX10_pardons 87 = .ok (.istore_n 3, 1) := by decide +kernel
theorem dX10_pardons_88 : decode cX10_pardons 88 = .ok (.iload 6, 2) := by decide +kernel
theorem dX10_pardons_90 : decode cX10_pardons 90 = .ok (.iload 4, 2) := by decide +kernel
theorem dX10_pardons_92 : decode cX10_pardons 92 = .ok (.invokestatic 167, 3) := by decide +kernel
theorem dX10_pardons_95 : decode cX10_pardons 95 = .ok (.istore 4, 2) := by decide +kernel
theorem dX10_pardons_97 : decode cX10_pardons 97 = .ok (.iinc 5 1, 3) := by decide +kernel
theorem dX10_pardons_100 : decode cX10_pardons 100 = .ok (.goto (-65), 3) := by decide +kernel
theorem dX10_pardons_103 : decode cX10_pardons 103 = .ok (.iload_n 3, 1) := by decide +kernel
theorem dX10_pardons_104 : decode cX10_pardons 104 = .ok (.ifCond .lt 7, 3) := by decide +kernel
theorem dX10_pardons_107 : decode cX10_pardons 107 = .ok (.iload_n 2, 1) := by decide +kernel
theorem dX10_pardons_108 : decode cX10_pardons 108 = .ok (.ifCond .ne 7, 3) := by decide +kernel
theorem dX10_pardons_111 : decode cX10_pardons 111 = .ok (.iload_n 3, 1) := by decide +kernel
theorem dX10_pardons_112 : decode cX10_pardons 112 = .ok (.goto 5, 3) := by decide +kernel
theorem dX10_pardons_115 : decode cX10_pardons 115 = .ok (.iload 4, 2) := by decide +kernel
theorem dX10_pardons_117 : decode cX10_pardons 117 = .ok (.ireturn, 1) := by decide +kernel
theorem dX10_see_0 : decode cX10_see 0 = .ok (.aload_n 0, 1) := by decide +kernel
theorem dX10_see_1 : decode cX10_see 1 = .ok (.iload_n 1, 1) := by decide +kernel
theorem dX10_see_2 : decode cX10_see 2 = .ok (.invokevirtual 203, 3) := by decide +kernel
theorem dX10_see_5 : decode cX10_see 5 = .ok (.ifCond .eq 15, 3) := by decide +kernel
theorem dX10_see_8 : decode cX10_see 8 = .ok (.iload_n 2, 1) := by decide +kernel
theorem dX10_see_9 : decode cX10_see 9 = .ok (.i2l, 1) := by decide +kernel
theorem dX10_see_10 : decode cX10_see 10 = .ok (.lconst 0, 1) := by decide +kernel
theorem dX10_see_11 : decode cX10_see 11 = .ok (.ldc2_w 287, 3) := by decide +kernel
theorem dX10_see_14 : decode cX10_see 14 = .ok (.invokestatic 137, 3) := by decide +kernel
theorem dX10_see_17 : decode cX10_see 17 = .ok (.ifCond .ne 5, 3) := by decide +kernel
theorem dX10_see_20 : decode cX10_see 20 = .ok (.iconst (-1), 1) := by decide +kernel
theorem dX10_see_21 : decode cX10_see 21 = .ok (.ireturn, 1) := by decide +kernel
theorem dX10_see_22 : decode cX10_see 22 = .ok (.aload_n 0, 1) := by decide +kernel
theorem dX10_see_23 : decode cX10_see 23 = .ok (.getfield 200, 3) := by decide +kernel
theorem dX10_see_26 : decode cX10_see 26 = .ok (.bipush 8, 2) := by decide +kernel
theorem dX10_see_28 : decode cX10_see 28 = .ok (.if_icmp .ne 6, 3) := by decide +kernel
theorem dX10_see_31 : decode cX10_see 31 = .ok (.bipush (-3), 2) := by decide +kernel
theorem dX10_see_33 : decode cX10_see 33 = .ok (.ireturn, 1) := by decide +kernel
theorem dX10_see_34 : decode cX10_see 34 = .ok (.aload_n 0, 1) := by decide +kernel
theorem dX10_see_35 : decode cX10_see 35 = .ok (.getfield 68, 3) := by decide +kernel
theorem dX10_see_38 : decode cX10_see 38 = .ok (.aload_n 0, 1) := by decide +kernel
theorem dX10_see_39 : decode cX10_see 39 = .ok (.getfield 200, 3) := by decide +kernel
theorem dX10_see_42 : decode cX10_see 42 = .ok (.iload_n 1, 1) := by decide +kernel
theorem dX10_see_43 : decode cX10_see 43 = .ok (.iastore, 1) := by decide +kernel
theorem dX10_see_44 : decode cX10_see 44 = .ok (.aload_n 0, 1) := by decide +kernel
theorem dX10_see_45 : decode cX10_see 45 = .ok (.getfield 71, 3) := by decide +kernel
theorem dX10_see_48 : decode cX10_see 48 = .ok (.aload_n 0, 1) := by decide +kernel
theorem dX10_see_49 : decode cX10_see 49 = .ok (.getfield 200, 3) := by decide +kernel
theorem dX10_see_52 : decode cX10_see 52 = .ok (.iload_n 2, 1) := by decide +kernel
theorem dX10_see_53 : decode cX10_see 53 = .ok (.iastore, 1) := by decide +kernel
theorem dX10_see_54 : decode cX10_see 54 = .ok (.aload_n 0, 1) := by decide +kernel
theorem dX10_see_55 : decode cX10_see 55 = .ok (.dup, 1) := by decide +kernel
theorem dX10_see_56 : decode cX10_see 56 = .ok (.getfield 200, 3) := by decide +kernel
theorem dX10_see_59 : decode cX10_see 59 = .ok (.iconst 1, 1) := by decide +kernel
theorem dX10_see_60 : decode cX10_see 60 = .ok (.iadd, 1) := by decide +kernel
theorem dX10_see_61 : decode cX10_see 61 = .ok (.putfield 200, 3) := by decide +kernel
theorem dX10_see_64 : decode cX10_see 64 = .ok (.aload_n 0, 1) := by decide +kernel
theorem dX10_see_65 : decode cX10_see 65 = .ok (.getfield 200, 3) := by decide +kernel
theorem dX10_see_68 : decode cX10_see 68 = .ok (.ireturn, 1) := by decide +kernel
theorem dX10_forget_0 : decode cX10_forget 0 = .ok (.aload_n 0, 1) := by decide +kernel
theorem dX10_forget_1 : decode cX10_forget 1 = .ok (.getfield 200, 3) := by decide +kernel
theorem dX10_forget_4 : decode cX10_forget 4 = .ok (.istore_n 1, 1) := by decide +kernel
theorem dX10_forget_5 : decode cX10_forget 5 = .ok (.aload_n 0, 1) := by decide +kernel
theorem dX10_forget_6 : decode cX10_forget 6 = .ok (.iconst 0, 1) := by decide +kernel
theorem dX10_forget_7 : decode cX10_forget 7 = .ok (.putfield 200, 3) := by decide +kernel
theorem dX10_forget_10 : decode cX10_forget 10 = .ok (.iload_n 1, 1) := by decide +kernel
theorem dX10_forget_11 : decode cX10_forget 11 = .ok (.ireturn, 1) := by decide +kernel
theorem dX10_isSo_0 : decode cX10_isSo 0 = .ok (.aload_n 0, 1) := by decide +kernel
theorem dX10_isSo_1 : decode cX10_isSo 1 = .ok (.sipush 352, 3) := by decide +kernel
theorem dX10_isSo_4 : decode cX10_isSo 4 = .ok (.invokevirtual 133, 3) := by decide +kernel
theorem dX10_isSo_7 : decode cX10_isSo 7 = .ok (.iconst 0, 1) := by decide +kernel
theorem dX10_isSo_8 : decode cX10_isSo 8 = .ok (.istore_n 3, 1) := by decide +kernel
theorem dX10_isSo_9 : decode cX10_isSo 9 = .ok (.iload_n 3, 1) := by decide +kernel
theorem dX10_isSo_10 : decode cX10_isSo 10 = .ok (.iload_n 2, 1) := by decide +kernel
theorem dX10_isSo_11 : decode cX10_isSo 11 = .ok (.if_icmp .ge 17, 3) := by decide +kernel
theorem dX10_isSo_14 : decode cX10_isSo 14 = .ok (.aload_n 0, 1) := by decide +kernel
theorem dX10_isSo_15 : decode cX10_isSo 15 = .ok (.sipush 352, 3) := by decide +kernel
theorem dX10_isSo_18 : decode cX10_isSo 18 = .ok (.iload_n 1, 1) := by decide +kernel
theorem dX10_isSo_19 : decode cX10_isSo 19 = .ok (.invokevirtual 263, 3) := by decide +kernel
theorem dX10_isSo_22 : decode cX10_isSo 22 = .ok (.iinc 3 1, 3) := by decide +kernel
theorem dX10_isSo_25 : decode cX10_isSo 25 = .ok (.goto (-16), 3) := by decide +kernel
theorem dX10_isSo_28 : decode cX10_isSo 28 = .ok (.iconst 1, 1) := by decide +kernel
theorem dX10_isSo_29 : decode cX10_isSo 29 = .ok (.istore_n 3, 1) := by decide +kernel
theorem dX10_isSo_30 : decode cX10_isSo 30 = .ok (.iconst 0, 1) := by decide +kernel
theorem dX10_isSo_31 : decode cX10_isSo 31 = .ok (.istore 4, 2) := by decide +kernel
theorem dX10_isSo_33 : decode cX10_isSo 33 = .ok (.iload 4, 2) := by decide +kernel
theorem dX10_isSo_35 : decode cX10_isSo 35 = .ok (.aload_n 0, 1) := by decide +kernel
theorem dX10_isSo_36 : decode cX10_isSo 36 = .ok (.getfield 200, 3) := by decide +kernel
theorem dX10_isSo_39 : decode cX10_isSo 39 = .ok (.if_icmp .ge 45, 3) := by decide +kernel
theorem dX10_isSo_42 : decode cX10_isSo 42 = .ok (.iload_n 3, 1) := by decide +kernel
theorem dX10_isSo_43 : decode cX10_isSo 43 = .ok (.ifCond .eq 33, 3) := by decide +kernel
theorem dX10_isSo_46 : decode cX10_isSo 46 = .ok (.aload_n 0, 1) := by decide +kernel
theorem dX10_isSo_47 : decode cX10_isSo 47 = .ok (.getfield 61, 3) := by decide +kernel
theorem dX10_isSo_50 : decode cX10_isSo 50 = .ok (.sipush 352, 3) := by decide +kernel
theorem dX10_isSo_53 : decode cX10_isSo 53 = .ok (.aload_n 0, 1) := by decide +kernel
theorem dX10_isSo_54 : decode cX10_isSo 54 = .ok (.getfield 68, 3) := by decide +kernel
theorem dX10_isSo_57 : decode cX10_isSo 57 = .ok (.iload 4, 2) := by decide +kernel
theorem dX10_isSo_59 : decode cX10_isSo 59 = .ok (.iaload, 1) := by decide +kernel
theorem dX10_isSo_60 : decode cX10_isSo 60 = .ok (.iadd, 1) := by decide +kernel
theorem dX10_isSo_61 : decode cX10_isSo 61 = .ok (.iaload, 1) := by decide +kernel
theorem dX10_isSo_62 : decode cX10_isSo 62 = .ok (.aload_n 0, 1) := by decide +kernel
theorem dX10_isSo_63 : decode cX10_isSo 63 = .ok (.getfield 71, 3) := by decide +kernel
theorem dX10_isSo_66 : decode cX10_isSo 66 = .ok (.iload 4, 2) := by decide +kernel
theorem dX10_isSo_68 : decode cX10_isSo 68 = .ok (.iaload, 1) := by decide +kernel
theorem dX10_isSo_69 : decode cX10_isSo 69 = .ok (.if_icmp .ne 7, 3) := by decide +kernel
theorem dX10_isSo_72 : decode cX10_isSo 72 = .ok (.iconst 1, 1) := by decide +kernel
theorem dX10_isSo_73 : decode cX10_isSo 73 = .ok (.goto 4, 3) := by decide +kernel
theorem dX10_isSo_76 : decode cX10_isSo 76 = .ok (.iconst 0, 1) := by decide +kernel
theorem dX10_isSo_77 : decode cX10_isSo 77 = .ok (.istore_n 3, 1) := by decide +kernel
theorem dX10_isSo_78 : decode cX10_isSo 78 = .ok (.iinc 4 1, 3) := by decide +kernel
theorem dX10_isSo_81 : decode cX10_isSo 81 = .ok (.goto (-48), 3) := by decide +kernel
theorem dX10_isSo_84 : decode cX10_isSo 84 = .ok (.iload_n 3, 1) := by decide +kernel
theorem dX10_isSo_85 : decode cX10_isSo 85 = .ok (.ireturn, 1) := by decide +kernel
theorem dX10_mind_0 : decode cX10_mind 0 = .ok (.iload_n 1, 1) := by decide +kernel
theorem dX10_mind_1 : decode cX10_mind 1 = .ok (.i2l, 1) := by decide +kernel
theorem dX10_mind_2 : decode cX10_mind 2 = .ok (.lconst 1, 1) := by decide +kernel
theorem dX10_mind_3 : decode cX10_mind 3 = .ok (.ldc2_w 257, 3) := by decide +kernel
theorem dX10_mind_6 : decode cX10_mind 6 = .ok (.invokestatic 137, 3) := by decide +kernel
theorem dX10_mind_9 : decode cX10_mind 9 = .ok (.ifCond .eq 13, 3) := by decide +kernel
theorem dX10_mind_12 : decode cX10_mind 12 = .ok (.iload_n 2, 1) := by decide +kernel
theorem dX10_mind_13 : decode cX10_mind 13 = .ok (.i2l, 1) := by decide +kernel
theorem dX10_mind_14 : decode cX10_mind 14 = .ok (.lconst 0, 1) := by decide +kernel
theorem dX10_mind_15 : decode cX10_mind 15 = .ok (.lconst 1, 1) := by decide +kernel
theorem dX10_mind_16 : decode cX10_mind 16 = .ok (.invokestatic 137, 3) := by decide +kernel
theorem dX10_mind_19 : decode cX10_mind 19 = .ok (.ifCond .ne 5, 3) := by decide +kernel
theorem dX10_mind_22 : decode cX10_mind 22 = .ok (.iconst (-1), 1) := by decide +kernel
theorem dX10_mind_23 : decode cX10_mind 23 = .ok (.ireturn, 1) := by decide +kernel
theorem dX10_mind_24 : decode cX10_mind 24 = .ok (.iconst 0, 1) := by decide +kernel
theorem dX10_mind_25 : decode cX10_mind 25 = .ok (.istore_n 3, 1) := by decide +kernel
theorem dX10_mind_26 : decode cX10_mind 26 = .ok (.bipush (-4), 2) := by decide +kernel
theorem dX10_mind_28 : decode cX10_mind 28 = .ok (.istore 4, 2) := by decide +kernel
theorem dX10_mind_30 : decode cX10_mind 30 = .ok (.iconst 1, 1) := by decide +kernel
theorem dX10_mind_31 : decode cX10_mind 31 = .ok (.aload_n 0, 1) := by decide +kernel
theorem dX10_mind_32 : decode cX10_mind 32 = .ok (.getfield 127, 3) := by decide +kernel
theorem dX10_mind_35 : decode cX10_mind 35 = .ok (.ishl, 1) := by decide +kernel
theorem dX10_mind_36 : decode cX10_mind 36 = .ok (.iconst 1, 1) := by decide +kernel
theorem dX10_mind_37 : decode cX10_mind 37 = .ok (.isub, 1) := by decide +kernel
theorem dX10_mind_38 : decode cX10_mind 38 = .ok (.istore 5, 2) := by decide +kernel
theorem dX10_mind_40 : decode cX10_mind 40 = .ok (.iload 5, 2) := by decide +kernel
theorem dX10_mind_42 : decode cX10_mind 42 = .ok (.ifCond .lt 45, 3) := by decide +kernel
theorem dX10_mind_45 : decode cX10_mind 45 = .ok (.aload_n 0, 1) := by decide +kernel
theorem dX10_mind_46 : decode cX10_mind 46 = .ok (.iload 5, 2) := by decide +kernel
theorem dX10_mind_48 : decode cX10_mind 48 = .ok (.iload_n 1, 1) := by decide +kernel
theorem dX10_mind_49 : decode cX10_mind 49 = .ok (.invokevirtual 292, 3) := by decide +kernel
theorem dX10_mind_52 : decode cX10_mind 52 = .ok (.istore 6, 2) := by decide +kernel
theorem dX10_mind_54 : decode cX10_mind 54 = .ok (.iload_n 3, 1) := by decide +kernel
theorem dX10_mind_55 : decode cX10_mind 55 = .ok (.iload 6, 2) := by decide +kernel
theorem dX10_mind_57 : decode cX10_mind 57 = .ok (.ifCond .eq 7, 3) := by decide +kernel
theorem dX10_mind_60 : decode cX10_mind 60 = .ok (.iconst 1, 1) := by decide +kernel
theorem dX10_mind_61 : decode cX10_mind 61 = .ok (.goto 4, 3) := by decide +kernel
theorem dX10_mind_64 : decode cX10_mind 64 = .ok (.iconst 0, 1) := by decide +kernel
theorem dX10_mind_65 : decode cX10_mind 65 = .ok (.iadd, 1) := by decide +kernel
theorem dX10_mind_66 : decode cX10_mind 66 = .ok (.istore_n 3, 1) := by decide +kernel
theorem dX10_mind_67 : decode cX10_mind 67 = .ok (.iload 6, 2) := by decide +kernel
theorem dX10_mind_69 : decode cX10_mind 69 = .ok (.ifCond .eq 8, 3) := by decide +kernel
theorem dX10_mind_72 : decode cX10_mind 72 = .ok (.iload 5, 2) := by decide +kernel
theorem dX10_mind_74 : decode cX10_mind 74 = .ok (.goto 5, 3) := by decide +kernel
theorem dX10_mind_77 : decode cX10_mind 77 = .ok (.iload 4, 2) := by decide +kernel
theorem dX10_mind_79 : decode cX10_mind 79 = .ok (.istore 4, 2) := by decide +kernel
theorem dX10_mind_81 : decode cX10_mind 81 = .ok (.iinc 5 (-1), 3) := by decide +kernel
theorem dX10_mind_84 : decode cX10_mind 84 = .ok (.goto (-44), 3) := by decide +kernel
theorem dX10_mind_87 : decode cX10_mind 87 = .ok (.iload_n 2, 1) := by decide +kernel
theorem dX10_mind_88 : decode cX10_mind 88 = .ok (.ifCond .ne 7, 3) := by decide +kernel
theorem dX10_mind_91 : decode cX10_mind 91 = .ok (.iload_n 3, 1) := by decide +kernel
theorem dX10_mind_92 : decode cX10_mind 92 = .ok (.goto 5, 3) := by decide +kernel
theorem dX10_mind_95 : decode cX10_mind 95 = .ok (.iload 4, 2) := by decide +kernel
theorem dX10_mind_97 : decode cX10_mind 97 = .ok (.ireturn, 1) := by decide +kernel
theorem dX10_deep_0 : decode cX10_deep 0 = .ok (.aload_n 0, 1) := by decide +kernel
theorem dX10_deep_1 : decode cX10_deep 1 = .ok (.iload_n 1, 1) := by decide +kernel
theorem dX10_deep_2 : decode cX10_deep 2 = .ok (.invokevirtual 234, 3) := by decide +kernel
theorem dX10_deep_5 : decode cX10_deep 5 = .ok (.ifCond .eq 25, 3) := by decide +kernel
theorem dX10_deep_8 : decode cX10_deep 8 = .ok (.iload_n 2, 1) := by decide +kernel
theorem dX10_deep_9 : decode cX10_deep 9 = .ok (.i2l, 1) := by decide +kernel
theorem dX10_deep_10 : decode cX10_deep 10 = .ok (.lconst 1, 1) := by decide +kernel
theorem dX10_deep_11 : decode cX10_deep 11 = .ok (.ldc2_w 257, 3) := by decide +kernel
theorem dX10_deep_14 : decode cX10_deep 14 = .ok (.invokestatic 137, 3) := by decide +kernel
theorem dX10_deep_17 : decode cX10_deep 17 = .ok (.ifCond .eq 13, 3) := by decide +kernel
theorem dX10_deep_20 : decode cX10_deep 20 = .ok (.iload_n 3, 1) := by decide +kernel
theorem dX10_deep_21 : decode cX10_deep 21 = .ok (.i2l, 1) := by decide +kernel
theorem dX10_deep_22 : decode cX10_deep 22 = .ok (.lconst 0, 1) := by decide +kernel
theorem dX10_deep_23 : decode cX10_deep 23 = .ok (.lconst 1, 1) := by decide +kernel
theorem dX10_deep_24 : decode cX10_deep 24 = .ok (.invokestatic 137, 3) := by decide +kernel
theorem dX10_deep_27 : decode cX10_deep 27 = .ok (.ifCond .ne 5, 3) := by decide +kernel
theorem dX10_deep_30 : decode cX10_deep 30 = .ok (.iconst (-1), 1) := by decide +kernel
theorem dX10_deep_31 : decode cX10_deep 31 = .ok (.ireturn, 1) := by decide +kernel
theorem dX10_deep_32 : decode cX10_deep 32 = .ok (.aload_n 0, 1) := by decide +kernel
theorem dX10_deep_33 : decode cX10_deep 33 = .ok (.getfield 19, 3) := by decide +kernel
theorem dX10_deep_36 : decode cX10_deep 36 = .ok (.iload_n 1, 1) := by decide +kernel
theorem dX10_deep_37 : decode cX10_deep 37 = .ok (.iaload, 1) := by decide +kernel
theorem dX10_deep_38 : decode cX10_deep 38 = .ok (.istore 4, 2) := by decide +kernel
theorem dX10_deep_40 : decode cX10_deep 40 = .ok (.iconst 0, 1) := by decide +kernel
theorem dX10_deep_41 : decode cX10_deep 41 = .ok (.istore 5, 2) := by decide +kernel
theorem dX10_deep_43 : decode cX10_deep 43 = .ok (.bipush (-4), 2) := by decide +kernel
theorem dX10_deep_45 : decode cX10_deep 45 = .ok (.istore 6, 2) := by decide +kernel
theorem dX10_deep_47 : decode cX10_deep 47 = .ok (.bipush 9, 2) := by decide +kernel
theorem dX10_deep_49 : decode cX10_deep 49 = .ok (.istore 7, 2) := by decide +kernel
theorem dX10_deep_51 : decode cX10_deep 51 = .ok (.iload 7, 2) := by decide +kernel
theorem dX10_deep_53 : decode cX10_deep 53 = .ok (.ifCond .le 61, 3) := by decide +kernel
theorem dX10_deep_56 : decode cX10_deep 56 = .ok (.aload_n 0, 1) := by decide +kernel
theorem dX10_deep_57 : decode cX10_deep 57 = .ok (.getfield 19, 3) := by decide +kernel
theorem dX10_deep_60 : decode cX10_deep 60 = .ok (.iload_n 1, 1) := by decide +kernel
theorem dX10_deep_61 : decode cX10_deep 61 = .ok (.iload 7, 2) := by decide +kernel
theorem dX10_deep_63 : decode cX10_deep 63 = .ok (.iastore, 1) := by decide +kernel
theorem dX10_deep_64 : decode cX10_deep 64 = .ok (.aload_n 0, 1) := by decide +kernel
theorem dX10_deep_65 : decode cX10_deep 65 = .ok (.iconst 1, 1) := by decide +kernel
theorem dX10_deep_66 : decode cX10_deep 66 = .ok (.aload_n 0, 1) := by decide +kernel
theorem dX10_deep_67 : decode cX10_deep 67 = .ok (.getfield 127, 3) := by decide +kernel
theorem dX10_deep_70 : decode cX10_deep 70 = .ok (.ishl, 1) := by decide +kernel
theorem dX10_deep_71 : decode cX10_deep 71 = .ok (.iconst 1, 1) := by decide +kernel
theorem dX10_deep_72 : decode cX10_deep 72 = .ok (.isub, 1) := by decide +kernel
theorem dX10_deep_73 : decode cX10_deep 73 = .ok (.iload_n 2, 1) := by decide +kernel
theorem dX10_deep_74 : decode cX10_deep 74 = .ok (.invokevirtual 292, 3) := by decide +kernel
theorem dX10_deep_77 : decode cX10_deep 77 = .ok (.istore 8, 2) := by decide +kernel
theorem dX10_deep_79 : decode cX10_deep 79 = .ok (.iload 5, 2) := by decide +kernel
theorem dX10_deep_81 : decode cX10_deep 81 = .ok (.iload 8, 2) := by decide +kernel
theorem dX10_deep_83 : decode cX10_deep 83 = .ok (.ifCond .eq 7, 3) := by decide +kernel
theorem dX10_deep_86 : decode cX10_deep 86 = .ok (.iconst 1, 1) := by decide +kernel
theorem dX10_deep_87 : decode cX10_deep 87 = .ok (.goto 4, 3) := by decide +kernel
theorem dX10_deep_90 : decode cX10_deep 90 = .ok (.iconst 0, 1) := by decide +kernel
theorem dX10_deep_91 : decode cX10_deep 91 = .ok (.iadd, 1) := by decide +kernel
theorem dX10_deep_92 : decode cX10_deep 92 = .ok (.istore 5, 2) := by decide +kernel
theorem dX10_deep_94 : decode cX10_deep 94 = .ok (.iload 8, 2) := by decide +kernel
theorem dX10_deep_96 : decode cX10_deep 96 = .ok (.ifCond .eq 8, 3) := by decide +kernel
theorem dX10_deep_99 : decode cX10_deep 99 = .ok (.iload 7, 2) := by decide +kernel
theorem dX10_deep_101 : decode cX10_deep 101 = .ok (.goto 5, 3) := by decide +kernel
theorem dX10_deep_104 : decode cX10_deep 104 = .ok (.iload 6, 2) := by decide +kernel
theorem dX10_deep_106 : decode cX10_deep 106 = .ok (.istore 6, 2) := by decide +kernel
theorem dX10_deep_108 : decode cX10_deep 108 = .ok (.iinc 7 (-1), 3) := by decide +kernel
theorem dX10_deep_111 : decode cX10_deep 111 = .ok (.goto (-60), 3) := by decide +kernel
theorem dX10_deep_114 : decode cX10_deep 114 = .ok (.aload_n 0, 1) := by decide +kernel
theorem dX10_deep_115 : decode cX10_deep 115 = .ok (.getfield 19, 3) := by decide +kernel
theorem dX10_deep_118 : decode cX10_deep 118 = .ok (.iload_n 1, 1) := by decide +kernel
theorem dX10_deep_119 : decode cX10_deep 119 = .ok (.iload 4, 2) := by decide +kernel
theorem dX10_deep_121 : decode cX10_deep 121 = .ok (.iastore, 1) := by decide +kernel
theorem dX10_deep_122 : decode cX10_deep 122 = .ok (.iload_n 3, 1) := by decide +kernel
theorem dX10_deep_123 : decode cX10_deep 123 = .ok (.ifCond .ne 8, 3) := by decide +kernel
theorem dX10_deep_126 : decode cX10_deep 126 = .ok (.iload 5, 2) := by decide +kernel
theorem dX10_deep_128 : decode cX10_deep 128 = .ok (.goto 5, 3) := by decide +kernel
theorem dX10_deep_131 : decode cX10_deep 131 = .ok (.iload 6, 2) := by decide +kernel
theorem dX10_deep_133 : decode cX10_deep 133 = .ok (.ireturn, 1) := by decide +kernel
theorem dX10_slip_0 : decode cX10_slip 0 = .ok (.aload_n 0, 1) := by decide +kernel
theorem dX10_slip_1 : decode cX10_slip 1 = .ok (.iload_n 1, 1) := by decide +kernel
theorem dX10_slip_2 : decode cX10_slip 2 = .ok (.invokevirtual 239, 3) := by decide +kernel
theorem dX10_slip_5 : decode cX10_slip 5 = .ok (.ifCond .eq 47, 3) := by decide +kernel
theorem dX10_slip_8 : decode cX10_slip 8 = .ok (.aload_n 0, 1) := by decide +kernel
theorem dX10_slip_9 : decode cX10_slip 9 = .ok (.iload_n 2, 1) := by decide +kernel
theorem dX10_slip_10 : decode cX10_slip 10 = .ok (.invokevirtual 203, 3) := by decide +kernel
theorem dX10_slip_13 : decode cX10_slip 13 = .ok (.ifCond .eq 39, 3) := by decide +kernel
theorem dX10_slip_16 : decode cX10_slip 16 = .ok (.iload_n 3, 1) := by decide +kernel
theorem dX10_slip_17 : decode cX10_slip 17 = .ok (.i2l, 1) := by decide +kernel
theorem dX10_slip_18 : decode cX10_slip 18 = .ok (.lconst 0, 1) := by decide +kernel
theorem dX10_slip_19 : decode cX10_slip 19 = .ok (.ldc2_w 295, 3) := by decide +kernel
theorem dX10_slip_22 : decode cX10_slip 22 = .ok (.invokestatic 137, 3) := by decide +kernel
theorem dX10_slip_25 : decode cX10_slip 25 = .ok (.ifCond .eq 27, 3) := by decide +kernel
theorem dX10_slip_28 : decode cX10_slip 28 = .ok (.iload 4, 2) := by decide +kernel
theorem dX10_slip_30 : decode cX10_slip 30 = .ok (.i2l, 1) := by decide +kernel
theorem dX10_slip_31 : decode cX10_slip 31 = .ok (.lconst 0, 1) := by decide +kernel
theorem dX10_slip_32 : decode cX10_slip 32 = .ok (.ldc2_w 297, 3) := by decide +kernel
theorem dX10_slip_35 : decode cX10_slip 35 = .ok (.invokestatic 137, 3) := by decide +kernel
theorem dX10_slip_38 : decode cX10_slip 38 = .ok (.ifCond .eq 14, 3) := by decide +kernel
theorem dX10_slip_41 : decode cX10_slip 41 = .ok (.iload 5, 2) := by decide +kernel
theorem dX10_slip_43 : decode cX10_slip 43 = .ok (.i2l, 1) := by decide +kernel
theorem dX10_slip_44 : decode cX10_slip 44 = .ok (.lconst 0, 1) := by decide +kernel
theorem dX10_slip_45 : decode cX10_slip 45 = .ok (.lconst 1, 1) := by decide +kernel
theorem dX10_slip_46 : decode cX10_slip 46 = .ok (.invokestatic 137, 3) := by decide +kernel
theorem dX10_slip_49 : decode cX10_slip 49 = .ok (.ifCond .ne 5, 3) := by decide +kernel
theorem dX10_slip_52 : decode cX10_slip 52 = .ok (.iconst (-1), 1) := by decide +kernel
theorem dX10_slip_53 : decode cX10_slip 53 = .ok (.ireturn, 1) := by decide +kernel
theorem dX10_slip_54 : decode cX10_slip 54 = .ok (.iconst 0, 1) := by decide +kernel
theorem dX10_slip_55 : decode cX10_slip 55 = .ok (.istore 6, 2) := by decide +kernel
theorem dX10_slip_57 : decode cX10_slip 57 = .ok (.iconst 0, 1) := by decide +kernel
theorem dX10_slip_58 : decode cX10_slip 58 = .ok (.istore 7, 2) := by decide +kernel
theorem dX10_slip_60 : decode cX10_slip 60 = .ok (.iconst 0, 1) := by decide +kernel
theorem dX10_slip_61 : decode cX10_slip 61 = .ok (.istore 8, 2) := by decide +kernel
theorem dX10_slip_63 : decode cX10_slip 63 = .ok (.iload 8, 2) := by decide +kernel
theorem dX10_slip_65 : decode cX10_slip 65 = .ok (.iconst 1, 1) := by decide +kernel
theorem dX10_slip_66 : decode cX10_slip 66 = .ok (.iload_n 3, 1) := by decide +kernel
theorem dX10_slip_67 : decode cX10_slip 67 = .ok (.ishl, 1) := by decide +kernel
theorem dX10_slip_68 : decode cX10_slip 68 = .ok (.if_icmp .ge 109, 3) := by decide +kernel
theorem dX10_slip_71 : decode cX10_slip 71 = .ok (.iconst 1, 1) := by decide +kernel
theorem dX10_slip_72 : decode cX10_slip 72 = .ok (.istore 9, 2) := by decide +kernel
theorem dX10_slip_74 : decode cX10_slip 74 = .ok (.aload_n 0, 1) := by decide +kernel
theorem dX10_slip_75 : decode cX10_slip 75 = .ok (.getfield 61, 3) := by decide +kernel
theorem dX10_slip_78 : decode cX10_slip 78 = .ok (.iload_n 2, 1) := by decide +kernel
theorem dX10_slip_79 : decode cX10_slip 79 = .ok (.iaload, 1) := by decide +kernel
theorem dX10_slip_80 : decode cX10_slip 80 = .ok (.istore 10, 2) := by decide +kernel
theorem dX10_slip_82 : decode cX10_slip 82 = .ok (.iconst 0, 1) := by decide +kernel
theorem dX10_slip_83 : decode cX10_slip 83 = .ok (.istore 11, 2) := by decide +kernel
theorem dX10_slip_85 : decode cX10_slip 85 = .ok (.iload 11, 2) := by decide +kernel
theorem dX10_slip_87 : decode cX10_slip 87 = .ok (.iload_n 3, 1) := by decide +kernel
theorem dX10_slip_88 : decode cX10_slip 88 = .ok (.if_icmp .ge 60, 3) := by decide +kernel
theorem dX10_slip_91 : decode cX10_slip 91 = .ok (.iload 9, 2) := by decide +kernel
theorem dX10_slip_93 : decode cX10_slip 93 = .ok (.iload 8, 2) := by decide +kernel
theorem dX10_slip_95 : decode cX10_slip 95 = .ok (.iload 11, 2) := by decide +kernel
theorem dX10_slip_97 : decode cX10_slip 97 = .ok (.invokestatic 221, 3) := by decide +kernel
theorem dX10_slip_100 : decode cX10_slip 100 = .ok (.ifCond .eq 8, 3) := by decide +kernel
theorem dX10_slip_103 : decode cX10_slip 103 = .ok (.iload 4, 2) := by decide +kernel
theorem dX10_slip_105 : decode cX10_slip 105 = .ok (.goto 8, 3) := by decide +kernel
theorem dX10_slip_108 : decode cX10_slip 108 = .ok (.bipush 10, 2) := by decide +kernel
theorem dX10_slip_110 : decode cX10_slip 110 = .ok (.iload 4, 2) := by decide +kernel
theorem dX10_slip_112 : decode cX10_slip 112 = .ok (.isub, 1) := by decide +kernel
theorem dX10_slip_113 : decode cX10_slip 113 = .ok (.imul, 1) := by decide +kernel
theorem dX10_slip_114 : decode cX10_slip 114 = .ok (.istore 9, 2) := by decide +kernel
theorem dX10_slip_116 : decode cX10_slip 116 = .ok (.iload 10, 2) := by decide +kernel
theorem dX10_slip_118 : decode cX10_slip 118 = .ok (.iload 8, 2) := by decide +kernel
theorem dX10_slip_120 : decode cX10_slip 120 = .ok (.iload 11, 2) := by decide +kernel
theorem dX10_slip_122 : decode cX10_slip 122 = .ok (.invokestatic 221, 3) := by decide +kernel
theorem dX10_slip_125 : decode cX10_slip 125 = .ok (.ifCond .eq 7, 3) := by decide +kernel
theorem dX10_slip_128 : decode cX10_slip 128 = .ok (.iconst 0, 1) := by decide +kernel
theorem dX10_slip_129 : decode cX10_slip 129 = .ok (.goto 10, 3) := by decide +kernel
theorem dX10_slip_132 : decode cX10_slip 132 = .ok (.aload_n 0, 1) := by decide +kernel
theorem dX10_slip_133 : decode cX10_slip 133 = .ok (.iload_n 1, 1) := by decide +kernel
theorem dX10_slip_134 : decode cX10_slip 134 = .ok (.iload 10, 2) := by decide +kernel
theorem dX10_slip_136 : decode cX10_slip 136 = .ok (.invokevirtual 228, 3) := by decide +kernel
theorem dX10_slip_139 : decode cX10_slip 139 = .ok (.isub, 1) := by decide +kernel
theorem dX10_slip_140 : decode cX10_slip 140 = .ok (.istore 10, 2) := by decide +kernel
theorem dX10_slip_142 : decode cX10_slip 142 = .ok (.iinc 11 1, 3) := by decide +kernel
theorem dX10_slip_145 : decode cX10_slip 145 = .ok (.goto (-60), 3) := by decide +kernel
theorem dX10_slip_148 : decode cX10_slip 148 = .ok (.iload 7, 2) := by decide +kernel
theorem dX10_slip_150 : decode cX10_slip 150 = .ok (.iload 9, 2) := by decide +kernel
theorem dX10_slip_152 : decode cX10_slip 152 = .ok (.iadd, 1) := by decide +kernel
theorem dX10_slip_153 : decode cX10_slip 153 = .ok (.istore 7, 2) := by decide +kernel
theorem dX10_slip_155 : decode cX10_slip 155 = .ok (.iload 6, 2) := by decide +kernel
theorem dX10_slip_157 : decode cX10_slip 157 = .ok (.iload 10, 2) := by decide +kernel
theorem dX10_slip_159 : decode cX10_slip 159 = .ok (.ifCond .ne 8, 3) := by decide +kernel
theorem dX10_slip_162 : decode cX10_slip 162 = .ok (.iload 9, 2) := by decide +kernel
theorem dX10_slip_164 : decode cX10_slip 164 = .ok (.goto 4, 3) := by decide +kernel
theorem dX10_slip_167 : decode cX10_slip 167 = .ok (.iconst 0, 1) := by decide +kernel
theorem dX10_slip_168 : decode cX10_slip 168 = .ok (.iadd, 1) := by decide +kernel
theorem dX10_slip_169 : decode cX10_slip 169 = .ok (.istore 6, 2) := by decide +kernel
theorem dX10_slip_171 : decode cX10_slip 171 = .ok (.iinc 8 1, 3) := by decide +kernel
theorem dX10_slip_174 : decode cX10_slip 174 = .ok (.goto (-111), 3) := by decide +kernel
theorem dX10_slip_177 : decode cX10_slip 177 = .ok (.iload 6, 2) := by decide +kernel
theorem dX10_slip_179 : decode cX10_slip 179 = .ok (.istore 8, 2) := by decide +kernel
theorem dX10_slip_181 : decode cX10_slip 181 = .ok (.iload 7, 2) := by decide +kernel
theorem dX10_slip_183 : decode cX10_slip 183 = .ok (.istore 9, 2) := by decide +kernel
theorem dX10_slip_185 : decode cX10_slip 185 = .ok (.iload 9, 2) := by decide +kernel
theorem dX10_slip_187 : decode cX10_slip 187 = .ok (.ifCond .eq 21, 3) := by decide +kernel
theorem dX10_slip_190 : decode cX10_slip 190 = .ok (.iload 8, 2) := by decide +kernel
theorem dX10_slip_192 : decode cX10_slip 192 = .ok (.iload 9, 2) := by decide +kernel
theorem dX10_slip_194 : decode cX10_slip 194 = .ok (.irem, 1) := by decide +kernel
theorem dX10_slip_195 : decode cX10_slip 195 = .ok (.istore 10, 2) := by decide +kernel
theorem dX10_slip_197 : decode cX10_slip 197 = .ok (.iload 9, 2) := by decide +kernel
theorem dX10_slip_199 : decode cX10_slip 199 = .ok (.istore 8, 2) := by decide +kernel
theorem dX10_slip_201 : decode cX10_slip 201 = .ok (.iload 10, 2) := by decide +kernel
theorem dX10_slip_203 : decode cX10_slip 203 = .ok (.istore 9, 2) := by decide +kernel
theorem dX10_slip_205 : decode cX10_slip 205 = .ok (.goto (-20), 3) := by decide +kernel
theorem dX10_slip_208 : decode cX10_slip 208 = .ok (.iload 5, 2) := by decide +kernel
theorem dX10_slip_210 : decode cX10_slip 210 = .ok (.ifCond .ne 11, 3) := by decide +kernel
theorem dX10_slip_213 : decode cX10_slip 213 = .ok (.iload 6, 2) := by decide +kernel
theorem dX10_slip_215 : decode cX10_slip 215 = .ok (.iload 8, 2) := by decide +kernel
theorem dX10_slip_217 : decode cX10_slip 217 = .ok (.idiv, 1) := by decide +kernel
theorem dX10_slip_218 : decode cX10_slip 218 = .ok (.goto 8, 3) := by decide +kernel
theorem dX10_slip_221 : decode cX10_slip 221 = .ok (.iload 7, 2) := by decide +kernel
theorem dX10_slip_223 : decode cX10_slip 223 = .ok (.iload 8, 2) := by decide +kernel
theorem dX10_slip_225 : decode cX10_slip 225 = .ok (.idiv, 1) := by decide +kernel
theorem dX10_slip_226 : decode cX10_slip 226 = .ok (.ireturn, 1) := by decide +kernel
theorem dX10_does_0 : decode cX10_does 0 = .ok (.iload_n 2, 1) := by decide +kernel
theorem dX10_does_1 : decode cX10_does 1 = .ok (.bipush 8, 2) := by decide +kernel
theorem dX10_does_3 : decode cX10_does 3 = .ok (.irem, 1) := by decide +kernel
theorem dX10_does_4 : decode cX10_does 4 = .ok (.istore_n 3, 1) := by decide +kernel
theorem dX10_does_5 : decode cX10_does 5 = .ok (.iload_n 3, 1) := by decide +kernel
theorem dX10_does_6 : decode cX10_does 6 = .ok (.bipush 7, 2) := by decide +kernel
theorem dX10_does_8 : decode cX10_does 8 = .ok (.if_icmp .ne 31, 3) := by decide +kernel
theorem dX10_does_11 : decode cX10_does 11 = .ok (.aload_n 0, 1) := by decide +kernel
theorem dX10_does_12 : decode cX10_does 12 = .ok (.getfield 61, 3) := by decide +kernel
theorem dX10_does_15 : decode cX10_does 15 = .ok (.iload_n 1, 1) := by decide +kernel
theorem dX10_does_16 : decode cX10_does 16 = .ok (.bipush 31, 2) := by decide +kernel
theorem dX10_does_18 : decode cX10_does 18 = .ok (.iadd, 1) := by decide +kernel
theorem dX10_does_19 : decode cX10_does 19 = .ok (.iaload, 1) := by decide +kernel
theorem dX10_does_20 : decode cX10_does 20 = .ok (.sipush 999, 3) := by decide +kernel
theorem dX10_does_23 : decode cX10_does 23 = .ok (.if_icmp .ge 16, 3) := by decide +kernel
theorem dX10_does_26 : decode cX10_does 26 = .ok (.aload_n 0, 1) := by decide +kernel
theorem dX10_does_27 : decode cX10_does 27 = .ok (.iload_n 1, 1) := by decide +kernel
theorem dX10_does_28 : decode cX10_does 28 = .ok (.aload_n 0, 1) := by decide +kernel
theorem dX10_does_29 : decode cX10_does 29 = .ok (.iload_n 1, 1) := by decide +kernel
theorem dX10_does_30 : decode cX10_does 30 = .ok (.invokevirtual 259, 3) := by decide +kernel
theorem dX10_does_33 : decode cX10_does 33 = .ok (.invokevirtual 263, 3) := by decide +kernel
theorem dX10_does_36 : decode cX10_does 36 = .ok (.goto 104, 3) := by decide +kernel
theorem dX10_does_39 : decode cX10_does 39 = .ok (.iload_n 3, 1) := by decide +kernel
theorem dX10_does_40 : decode cX10_does 40 = .ok (.bipush 6, 2) := by decide +kernel
theorem dX10_does_42 : decode cX10_does 42 = .ok (.if_icmp .ne 36, 3) := by decide +kernel
theorem dX10_does_45 : decode cX10_does 45 = .ok (.aload_n 0, 1) := by decide +kernel
theorem dX10_does_46 : decode cX10_does 46 = .ok (.getfield 127, 3) := by decide +kernel
theorem dX10_does_49 : decode cX10_does 49 = .ok (.ifCond .le 29, 3) := by decide +kernel
theorem dX10_does_52 : decode cX10_does 52 = .ok (.aload_n 0, 1) := by decide +kernel
theorem dX10_does_53 : decode cX10_does 53 = .ok (.getfield 61, 3) := by decide +kernel
theorem dX10_does_56 : decode cX10_does 56 = .ok (.iload_n 1, 1) := by decide +kernel
theorem dX10_does_57 : decode cX10_does 57 = .ok (.bipush 30, 2) := by decide +kernel
theorem dX10_does_59 : decode cX10_does 59 = .ok (.iadd, 1) := by decide +kernel
theorem dX10_does_60 : decode cX10_does 60 = .ok (.dup2, 1) := by decide +kernel
theorem dX10_does_61 : decode cX10_does 61 = .ok (.iaload, 1) := by decide +kernel
theorem dX10_does_62 : decode cX10_does 62 = .ok (.iconst 1, 1) := by decide +kernel
theorem dX10_does_63 : decode cX10_does 63 = .ok (.iload_n 2, 1) := by decide +kernel
theorem dX10_does_64 : decode cX10_does 64 = .ok (.bipush 8, 2) := by decide +kernel
theorem dX10_does_66 : decode cX10_does 66 = .ok (.idiv, 1) := by decide +kernel
theorem dX10_does_67 : decode cX10_does 67 = .ok (.aload_n 0, 1) := by decide +kernel
theorem dX10_does_68 : decode cX10_does 68 = .ok (.getfield 127, 3) := by decide +kernel
theorem dX10_does_71 : decode cX10_does 71 = .ok (.irem, 1) := by decide +kernel
theorem dX10_does_72 : decode cX10_does 72 = .ok (.ishl, 1) := by decide +kernel
theorem dX10_does_73 : decode cX10_does 73 = .ok (.ior, 1) := by decide +kernel
theorem dX10_does_74 : decode cX10_does 74 = .ok (.iastore, 1) := by decide +kernel
theorem dX10_does_75 : decode cX10_does 75 = .ok (.goto 65, 3) := by decide +kernel
theorem dX10_does_78 : decode cX10_does 78 = .ok (.iload_n 3, 1) := by decide +kernel
theorem dX10_does_79 : decode cX10_does 79 = .ok (.bipush 6, 2) := by decide +kernel
theorem dX10_does_81 : decode cX10_does 81 = .ok (.if_icmp .ge 59, 3) := by decide +kernel
theorem dX10_does_84 : decode cX10_does 84 = .ok (.aload_n 0, 1) := by decide +kernel
theorem dX10_does_85 : decode cX10_does 85 = .ok (.getfield 130, 3) := by decide +kernel
theorem dX10_does_88 : decode cX10_does 88 = .ok (.ifCond .le 52, 3) := by decide +kernel
theorem dX10_does_91 : decode cX10_does 91 = .ok (.aload_n 0, 1) := by decide +kernel
theorem dX10_does_92 : decode cX10_does 92 = .ok (.iload_n 1, 1) := by decide +kernel
theorem dX10_does_93 : decode cX10_does 93 = .ok (.iload_n 2, 1) := by decide +kernel
theorem dX10_does_94 : decode cX10_does 94 = .ok (.bipush 8, 2) := by decide +kernel
theorem dX10_does_96 : decode cX10_does 96 = .ok (.idiv, 1) := by decide +kernel
theorem dX10_does_97 : decode cX10_does 97 = .ok (.aload_n 0, 1) := by decide +kernel
theorem dX10_does_98 : decode cX10_does 98 = .ok (.getfield 130, 3) := by decide +kernel
theorem dX10_does_101 : decode cX10_does 101 = .ok (.irem, 1) := by decide +kernel
theorem dX10_does_102 : decode cX10_does 102 = .ok (.iload_n 2, 1) := by decide +kernel
theorem dX10_does_103 : decode cX10_does 103 = .ok (.bipush 64, 2) := by decide +kernel
theorem dX10_does_105 : decode cX10_does 105 = .ok (.idiv, 1) := by decide +kernel
theorem dX10_does_106 : decode cX10_does 106 = .ok (.aload_n 0, 1) := by decide +kernel
theorem dX10_does_107 : decode cX10_does 107 = .ok (.getfield 121, 3) := by decide +kernel
theorem dX10_does_110 : decode cX10_does 110 = .ok (.irem, 1) := by decide +kernel
theorem dX10_does_111 : decode cX10_does 111 = .ok (.invokevirtual 247, 3) := by decide +kernel
theorem dX10_does_114 : decode cX10_does 114 = .ok (.ifCond .eq 26, 3) := by decide +kernel
theorem dX10_does_117 : decode cX10_does 117 = .ok (.aload_n 0, 1) := by decide +kernel
theorem dX10_does_118 : decode cX10_does 118 = .ok (.iload_n 1, 1) := by decide +kernel
theorem dX10_does_119 : decode cX10_does 119 = .ok (.iload_n 2, 1) := by decide +kernel
theorem dX10_does_120 : decode cX10_does 120 = .ok (.bipush 8, 2) := by decide +kernel
theorem dX10_does_122 : decode cX10_does 122 = .ok (.idiv, 1) := by decide +kernel
theorem dX10_does_123 : decode cX10_does 123 = .ok (.aload_n 0, 1) := by decide +kernel
theorem dX10_does_124 : decode cX10_does 124 = .ok (.getfield 130, 3) := by decide +kernel
theorem dX10_does_127 : decode cX10_does 127 = .ok (.irem, 1) := by decide +kernel
theorem dX10_does_128 : decode cX10_does 128 = .ok (.iload_n 2, 1) := by decide +kernel
theorem dX10_does_129 : decode cX10_does 129 = .ok (.bipush 64, 2) := by decide +kernel
theorem dX10_does_131 : decode cX10_does 131 = .ok (.idiv, 1) := by decide +kernel
theorem dX10_does_132 : decode cX10_does 132 = .ok (.aload_n 0, 1) := by decide +kernel
theorem dX10_does_133 : decode cX10_does 133 = .ok (.getfield 121, 3) := by decide +kernel
theorem dX10_does_136 : decode cX10_does 136 = .ok (.irem, 1) := by decide +kernel
theorem dX10_does_137 : decode cX10_does 137 = .ok (.invokevirtual 254, 3) := by decide +kernel
theorem dX10_does_140 : decode cX10_does 140 = .ok (.return_, 1) := by decide +kernel
theorem dX10_hollows_0 : decode cX10_hollows 0 = .ok (.iconst 0, 1) := by decide +kernel
theorem dX10_hollows_1 : decode cX10_hollows 1 = .ok (.istore_n 2, 1) := by decide +kernel
theorem dX10_hollows_2 : decode cX10_hollows 2 = .ok (.iconst 0, 1) := by decide +kernel
theorem dX10_hollows_3 : decode cX10_hollows 3 = .ok (.istore_n 3, 1) := by decide +kernel
theorem dX10_hollows_4 : decode cX10_hollows 4 = .ok (.iload_n 3, 1) := by decide +kernel
theorem dX10_hollows_5 : decode cX10_hollows 5 = .ok (.aload_n 0, 1) := by decide +kernel
theorem dX10_hollows_6 : decode cX10_hollows 6 = .ok (.getfield 121, 3) := by decide +kernel
theorem dX10_hollows_9 : decode cX10_hollows 9 = .ok (.if_icmp .ge 30, 3) := by decide +kernel
theorem dX10_hollows_12 : decode cX10_hollows 12 = .ok (.iload_n 2, 1) := by decide +kernel
theorem dX10_hollows_13 : decode cX10_hollows 13 = .ok (.aload_n 0, 1) := by decide +kernel
theorem dX10_hollows_14 : decode cX10_hollows 14 = .ok (.getfield 61, 3) := by decide +kernel
theorem dX10_hollows_17 : decode cX10_hollows 17 = .ok (.iload_n 1, 1) := by decide +kernel
theorem dX10_hollows_18 : decode cX10_hollows 18 = .ok (.iload_n 3, 1) := by decide +kernel
theorem dX10_hollows_19 : decode cX10_hollows 19 = .ok (.iadd, 1) := by decide +kernel
theorem dX10_hollows_20 : decode cX10_hollows 20 = .ok (.iaload, 1) := by decide +kernel
theorem dX10_hollows_21 : decode cX10_hollows 21 = .ok (.bipush 12, 2) := by decide +kernel
theorem dX10_hollows_23 : decode cX10_hollows 23 = .ok (.if_icmp .lt 7, 3) := by decide +kernel
theorem dX10_hollows_26 : decode cX10_hollows 26 = .ok (.iconst 1, 1) := by decide +kernel
theorem dX10_hollows_27 : decode cX10_hollows 27 = .ok (.goto 4, 3) := by decide +kernel
theorem dX10_hollows_30 : decode cX10_hollows 30 = .ok (.iconst 0, 1) := by decide +kernel
theorem dX10_hollows_31 : decode cX10_hollows 31 = .ok (.iadd, 1) := by decide +kernel
theorem dX10_hollows_32 : decode cX10_hollows 32 = .ok (.istore_n 2, 1) := by decide +kernel
theorem dX10_hollows_33 : decode cX10_hollows 33 = .ok (.iinc 3 1, 3) := by decide +kernel
theorem dX10_hollows_36 : decode cX10_hollows 36 = .ok (.goto (-32), 3) := by decide +kernel
theorem dX10_hollows_39 : decode cX10_hollows 39 = .ok (.iload_n 2, 1) := by decide +kernel
theorem dX10_hollows_40 : decode cX10_hollows 40 = .ok (.ireturn, 1) := by decide +kernel
theorem dX10_evening_0 : decode cX10_evening 0 = .ok (.iload_n 1, 1) := by decide +kernel
theorem dX10_evening_1 : decode cX10_evening 1 = .ok (.i2l, 1) := by decide +kernel
theorem dX10_evening_2 : decode cX10_evening 2 = .ok (.lconst 0, 1) := by decide +kernel
theorem dX10_evening_3 : decode cX10_evening 3 = .ok (.ldc2_w 299, 3) := by decide +kernel
theorem dX10_evening_6 : decode cX10_evening 6 = .ok (.invokestatic 137, 3) := by decide +kernel
theorem dX10_evening_9 : decode cX10_evening 9 = .ok (.ifCond .eq 25, 3) := by decide +kernel
theorem dX10_evening_12 : decode cX10_evening 12 = .ok (.iload_n 2, 1) := by decide +kernel
theorem dX10_evening_13 : decode cX10_evening 13 = .ok (.i2l, 1) := by decide +kernel
theorem dX10_evening_14 : decode cX10_evening 14 = .ok (.lconst 1, 1) := by decide +kernel
theorem dX10_evening_15 : decode cX10_evening 15 = .ok (.ldc2_w 301, 3) := by decide +kernel
theorem dX10_evening_18 : decode cX10_evening 18 = .ok (.invokestatic 137, 3) := by decide +kernel
theorem dX10_evening_21 : decode cX10_evening 21 = .ok (.ifCond .eq 13, 3) := by decide +kernel
theorem dX10_evening_24 : decode cX10_evening 24 = .ok (.iload_n 3, 1) := by decide +kernel
theorem dX10_evening_25 : decode cX10_evening 25 = .ok (.i2l, 1) := by decide +kernel
theorem dX10_evening_26 : decode cX10_evening 26 = .ok (.lconst 0, 1) := by decide +kernel
theorem dX10_evening_27 : decode cX10_evening 27 = .ok (.lconst 1, 1) := by decide +kernel
theorem dX10_evening_28 : decode cX10_evening 28 = .ok (.invokestatic 137, 3) := by decide +kernel
theorem dX10_evening_31 : decode cX10_evening 31 = .ok (.ifCond .ne 5, 3) := by decide +kernel
theorem dX10_evening_34 : decode cX10_evening 34 = .ok (.iconst (-1), 1) := by decide +kernel
theorem dX10_evening_35 : decode cX10_evening 35 = .ok (.ireturn, 1) := by decide +kernel
theorem dX10_evening_36 : decode cX10_evening 36 = .ok (.aload_n 0, 1) := by decide +kernel
theorem dX10_evening_37 : decode cX10_evening 37 = .ok (.iconst 0, 1) := by decide +kernel
theorem dX10_evening_38 : decode cX10_evening 38 = .ok (.sipush 352, 3) := by decide +kernel
theorem dX10_evening_41 : decode cX10_evening 41 = .ok (.invokevirtual 244, 3) := by decide +kernel
theorem dX10_evening_44 : decode cX10_evening 44 = .ok (.iconst 0, 1) := by decide +kernel
theorem dX10_evening_45 : decode cX10_evening 45 = .ok (.istore 4, 2) := by decide +kernel
theorem dX10_evening_47 : decode cX10_evening 47 = .ok (.iload 4, 2) := by decide +kernel
theorem dX10_evening_49 : decode cX10_evening 49 = .ok (.iload_n 2, 1) := by decide +kernel
theorem dX10_evening_50 : decode cX10_evening 50 = .ok (.if_icmp .ge 44, 3) := by decide +kernel
theorem dX10_evening_53 : decode cX10_evening 53 = .ok (.ldc2_w 303, 3) := by decide +kernel
theorem dX10_evening_56 : decode cX10_evening 56 = .ok (.iload_n 1, 1) := by decide +kernel
theorem dX10_evening_57 : decode cX10_evening 57 = .ok (.i2l, 1) := by decide +kernel
theorem dX10_evening_58 : decode cX10_evening 58 = .ok (.lmul, 1) := by decide +kernel
theorem dX10_evening_59 : decode cX10_evening 59 = .ok (.ldc2_w 305, 3) := by decide +kernel
theorem dX10_evening_62 : decode cX10_evening 62 = .ok (.iload 4, 2) := by decide +kernel
theorem dX10_evening_64 : decode cX10_evening 64 = .ok (.i2l, 1) := by decide +kernel
theorem dX10_evening_65 : decode cX10_evening 65 = .ok (.lmul, 1) := by decide +kernel
theorem dX10_evening_66 : decode cX10_evening 66 = .ok (.ladd, 1) := by decide +kernel
theorem dX10_evening_67 : decode cX10_evening 67 = .ok (.lconst 1, 1) := by decide +kernel
theorem dX10_evening_68 : decode cX10_evening 68 = .ok (.ladd, 1) := by decide +kernel
theorem dX10_evening_69 : decode cX10_evening 69 = .ok (.lstore 5, 2) := by decide +kernel
theorem dX10_evening_71 : decode cX10_evening 71 = .ok (.aload_n 0, 1) := by decide +kernel
theorem dX10_evening_72 : decode cX10_evening 72 = .ok (.sipush 352, 3) := by decide +kernel
theorem dX10_evening_75 : decode cX10_evening 75 = .ok (.lload 5, 2) := by decide +kernel
theorem dX10_evening_77 : decode cX10_evening 77 = .ok (.lload 5, 2) := by decide +kernel
theorem dX10_evening_79 : decode cX10_evening 79 = .ok (.lmul, 1) := by decide +kernel
theorem dX10_evening_80 : decode cX10_evening 80 = .ok (.ldc2_w 307, 3) := by decide +kernel
theorem dX10_evening_83 : decode cX10_evening 83 = .ok (.lrem, 1) := by decide +kernel
theorem dX10_evening_84 : decode cX10_evening 84 = .ok (.l2i, 1) := by decide +kernel
theorem dX10_evening_85 : decode cX10_evening 85 = .ok (.invokevirtual 309, 3) := by decide +kernel
theorem dX10_evening_88 : decode cX10_evening 88 = .ok (.iinc 4 1, 3) := by decide +kernel
theorem dX10_evening_91 : decode cX10_evening 91 = .ok (.goto (-44), 3) := by decide +kernel
theorem dX10_evening_94 : decode cX10_evening 94 = .ok (.iload_n 3, 1) := by decide +kernel
theorem dX10_evening_95 : decode cX10_evening 95 = .ok (.ifCond .ne 13, 3) := by decide +kernel
theorem dX10_evening_98 : decode cX10_evening 98 = .ok (.aload_n 0, 1) := by decide +kernel
theorem dX10_evening_99 : decode cX10_evening 99 = .ok (.sipush 352, 3) := by decide +kernel
theorem dX10_evening_102 : decode cX10_evening 102 = .ok (.invokevirtual 276, 3) := by decide +kernel
theorem dX10_evening_105 : decode cX10_evening 105 = .ok (.goto 10, 3) := by decide +kernel
theorem dX10_evening_108 : decode cX10_evening 108 = .ok (.aload_n 0, 1) := by decide +kernel
theorem dX10_evening_109 : decode cX10_evening 109 = .ok (.sipush 352, 3) := by decide +kernel
theorem dX10_evening_112 : decode cX10_evening 112 = .ok (.invokevirtual 312, 3) := by decide +kernel
theorem dX10_evening_115 : decode cX10_evening 115 = .ok (.ireturn, 1) := by decide +kernel
theorem dX10_keep_0 : decode cX10_keep 0 = .ok (.aload_n 0, 1) := by decide +kernel
theorem dX10_keep_1 : decode cX10_keep 1 = .ok (.getfield 197, 3) := by decide +kernel
theorem dX10_keep_4 : decode cX10_keep 4 = .ok (.iconst 2, 1) := by decide +kernel
theorem dX10_keep_5 : decode cX10_keep 5 = .ok (.if_icmp .ne 6, 3) := by decide +kernel
theorem dX10_keep_8 : decode cX10_keep 8 = .ok (.bipush (-3), 2) := by decide +kernel
theorem dX10_keep_10 : decode cX10_keep 10 = .ok (.ireturn, 1) := by decide +kernel
theorem dX10_keep_11 : decode cX10_keep 11 = .ok (.aload_n 0, 1) := by decide +kernel
theorem dX10_keep_12 : decode cX10_keep 12 = .ok (.iconst 0, 1) := by decide +kernel
theorem dX10_keep_13 : decode cX10_keep 13 = .ok (.bipush 9, 2) := by decide +kernel
theorem dX10_keep_15 : decode cX10_keep 15 = .ok (.aload_n 0, 1) := by decide +kernel
theorem dX10_keep_16 : decode cX10_keep 16 = .ok (.getfield 197, 3) := by decide +kernel
theorem dX10_keep_19 : decode cX10_keep 19 = .ok (.iadd, 1) := by decide +kernel
theorem dX10_keep_20 : decode cX10_keep 20 = .ok (.bipush 32, 2) := by decide +kernel
theorem dX10_keep_22 : decode cX10_keep 22 = .ok (.imul, 1) := by decide +kernel
theorem dX10_keep_23 : decode cX10_keep 23 = .ok (.invokevirtual 244, 3) := by decide +kernel
theorem dX10_keep_26 : decode cX10_keep 26 = .ok (.aload_n 0, 1) := by decide +kernel
theorem dX10_keep_27 : decode cX10_keep 27 = .ok (.dup, 1) := by decide +kernel
theorem dX10_keep_28 : decode cX10_keep 28 = .ok (.getfield 197, 3) := by decide +kernel
theorem dX10_keep_31 : decode cX10_keep 31 = .ok (.iconst 1, 1) := by decide +kernel
theorem dX10_keep_32 : decode cX10_keep 32 = .ok (.iadd, 1) := by decide +kernel
theorem dX10_keep_33 : decode cX10_keep 33 = .ok (.putfield 197, 3) := by decide +kernel
theorem dX10_keep_36 : decode cX10_keep 36 = .ok (.aload_n 0, 1) := by decide +kernel
theorem dX10_keep_37 : decode cX10_keep 37 = .ok (.getfield 197, 3) := by decide +kernel
theorem dX10_keep_40 : decode cX10_keep 40 = .ok (.ireturn, 1) := by decide +kernel
theorem dX10_back_0 : decode cX10_back 0 = .ok (.aload_n 0, 1) := by decide +kernel
theorem dX10_back_1 : decode cX10_back 1 = .ok (.getfield 197, 3) := by decide +kernel
theorem dX10_back_4 : decode cX10_back 4 = .ok (.ifCond .ne 6, 3) := by decide +kernel
theorem dX10_back_7 : decode cX10_back 7 = .ok (.bipush (-2), 2) := by decide +kernel
theorem dX10_back_9 : decode cX10_back 9 = .ok (.ireturn, 1) := by decide +kernel
theorem dX10_back_10 : decode cX10_back 10 = .ok (.aload_n 0, 1) := by decide +kernel
theorem dX10_back_11 : decode cX10_back 11 = .ok (.dup, 1) := by decide +kernel
theorem dX10_back_12 : decode cX10_back 12 = .ok (.getfield 197, 3) := by decide +kernel
theorem dX10_back_15 : decode cX10_back 15 = .ok (.iconst 1, 1) := by decide +kernel
theorem dX10_back_16 : decode cX10_back 16 = .ok (.isub, 1) := by decide +kernel
theorem dX10_back_17 : decode cX10_back 17 = .ok (.putfield 197, 3) := by decide +kernel
theorem dX10_back_20 : decode cX10_back 20 = .ok (.aload_n 0, 1) := by decide +kernel
theorem dX10_back_21 : decode cX10_back 21 = .ok (.bipush 9, 2) := by decide +kernel
theorem dX10_back_23 : decode cX10_back 23 = .ok (.aload_n 0, 1) := by decide +kernel
theorem dX10_back_24 : decode cX10_back 24 = .ok (.getfield 197, 3) := by decide +kernel
theorem dX10_back_27 : decode cX10_back 27 = .ok (.iadd, 1) := by decide +kernel
theorem dX10_back_28 : decode cX10_back 28 = .ok (.bipush 32, 2) := by decide +kernel
theorem dX10_back_30 : decode cX10_back 30 = .ok (.imul, 1) := by decide +kernel
theorem dX10_back_31 : decode cX10_back 31 = .ok (.iconst 0, 1) := by decide +kernel
theorem dX10_back_32 : decode cX10_back 32 = .ok (.invokevirtual 244, 3) := by decide +kernel
theorem dX10_back_35 : decode cX10_back 35 = .ok (.aload_n 0, 1) := by decide +kernel
theorem dX10_back_36 : decode cX10_back 36 = .ok (.iconst 0, 1) := by decide +kernel
theorem dX10_back_37 : decode cX10_back 37 = .ok (.putfield 194, 3) := by decide +kernel
theorem dX10_back_40 : decode cX10_back 40 = .ok (.aload_n 0, 1) := by decide +kernel
theorem dX10_back_41 : decode cX10_back 41 = .ok (.getfield 197, 3) := by decide +kernel
theorem dX10_back_44 : decode cX10_back 44 = .ok (.ireturn, 1) := by decide +kernel
theorem dX10_allStrokes_0 : decode cX10_allStrokes 0 = .ok (.iconst 0, 1) := by decide +kernel
theorem dX10_allStrokes_1 : decode cX10_allStrokes 1 = .ok (.istore_n 1, 1) := by decide +kernel
theorem dX10_allStrokes_2 : decode cX10_allStrokes 2 = .ok (.iconst 0, 1) := by decide +kernel
theorem dX10_allStrokes_3 : decode cX10_allStrokes 3 = .ok (.istore_n 2, 1) := by decide +kernel
theorem dX10_allStrokes_4 : decode cX10_allStrokes 4 = .ok (.iload_n 2, 1) := by decide +kernel
theorem dX10_allStrokes_5 : decode cX10_allStrokes 5 = .ok (.aload_n 0, 1) := by decide +kernel
theorem dX10_allStrokes_6 : decode cX10_allStrokes 6 = .ok (.getfield 130, 3) := by decide +kernel
theorem dX10_allStrokes_9 : decode cX10_allStrokes 9 = .ok (.if_icmp .ge 21, 3) := by decide +kernel
theorem dX10_allStrokes_12 : decode cX10_allStrokes 12 = .ok (.iload_n 1, 1) := by decide +kernel
theorem dX10_allStrokes_13 : decode cX10_allStrokes 13 = .ok (.aload_n 0, 1) := by decide +kernel
theorem dX10_allStrokes_14 : decode cX10_allStrokes 14 = .ok (.getfield 61, 3) := by decide +kernel
theorem dX10_allStrokes_17 : decode cX10_allStrokes 17 = .ok (.bipush 24, 2) := by decide +kernel
theorem dX10_allStrokes_19 : decode cX10_allStrokes 19 = .ok (.iload_n 2, 1) := by decide +kernel
theorem dX10_allStrokes_20 : decode cX10_allStrokes 20 = .ok (.iadd, 1) := by decide +kernel
theorem dX10_allStrokes_21 : decode cX10_allStrokes 21 = .ok (.iaload, 1) := by decide +kernel
theorem dX10_allStrokes_22 : decode cX10_allStrokes 22 = .ok (.iadd, 1) := by decide +kernel
theorem dX10_allStrokes_23 : decode cX10_allStrokes 23 = .ok (.istore_n 1, 1) := by decide +kernel
theorem dX10_allStrokes_24 : decode cX10_allStrokes 24 = .ok (.iinc 2 1, 3) := by decide +kernel
theorem dX10_allStrokes_27 : decode cX10_allStrokes 27 = .ok (.goto (-23), 3) := by decide +kernel
theorem dX10_allStrokes_30 : decode cX10_allStrokes 30 = .ok (.iload_n 1, 1) := by decide +kernel
theorem dX10_allStrokes_31 : decode cX10_allStrokes 31 = .ok (.ireturn, 1) := by decide +kernel
theorem dX10_count_0 : decode cX10_count 0 = .ok (.iload_n 1, 1) := by decide +kernel
theorem dX10_count_1 : decode cX10_count 1 = .ok (.ifCond .ne 10, 3) := by decide +kernel
theorem dX10_count_4 : decode cX10_count 4 = .ok (.aload_n 0, 1) := by decide +kernel
theorem dX10_count_5 : decode cX10_count 5 = .ok (.getfield 121, 3) := by decide +kernel
theorem dX10_count_8 : decode cX10_count 8 = .ok (.goto 164, 3) := by decide +kernel
theorem dX10_count_11 : decode cX10_count 11 = .ok (.iload_n 1, 1) := by decide +kernel
theorem dX10_count_12 : decode cX10_count 12 = .ok (.iconst 1, 1) := by decide +kernel
theorem dX10_count_13 : decode cX10_count 13 = .ok (.if_icmp .ne 10, 3) := by decide +kernel
theorem dX10_count_16 : decode cX10_count 16 = .ok (.aload_n 0, 1) := by decide +kernel
theorem dX10_count_17 : decode cX10_count 17 = .ok (.getfield 124, 3) := by decide +kernel
theorem dX10_count_20 : decode cX10_count 20 = .ok (.goto 152, 3) := by decide +kernel
theorem dX10_count_23 : decode cX10_count 23 = .ok (.iload_n 1, 1) := by decide +kernel
theorem dX10_count_24 : decode cX10_count 24 = .ok (.iconst 2, 1) := by decide +kernel
theorem dX10_count_25 : decode cX10_count 25 = .ok (.if_icmp .ne 10, 3) := by decide +kernel
theorem dX10_count_28 : decode cX10_count 28 = .ok (.aload_n 0, 1) := by decide +kernel
theorem dX10_count_29 : decode cX10_count 29 = .ok (.getfield 127, 3) := by decide +kernel
theorem dX10_count_32 : decode cX10_count 32 = .ok (.goto 140, 3) := by decide +kernel
theorem dX10_count_35 : decode cX10_count 35 = .ok (.iload_n 1, 1) := by decide +kernel
theorem dX10_count_36 : decode cX10_count 36 = .ok (.iconst 3, 1) := by decide +kernel
theorem dX10_count_37 : decode cX10_count 37 = .ok (.if_icmp .ne 10, 3) := by decide +kernel
theorem dX10_count_40 : decode cX10_count 40 = .ok (.aload_n 0, 1) := by decide +kernel
theorem dX10_count_41 : decode cX10_count 41 = .ok (.getfield 130, 3) := by decide +kernel
theorem dX10_count_44 : decode cX10_count 44 = .ok (.goto 128, 3) := by decide +kernel
theorem dX10_count_47 : decode cX10_count 47 = .ok (.iload_n 1, 1) := by decide +kernel
theorem dX10_count_48 : decode cX10_count 48 = .ok (.iconst 4, 1) := by decide +kernel
theorem dX10_count_49 : decode cX10_count 49 = .ok (.if_icmp .ne 13, 3) := by decide +kernel
theorem dX10_count_52 : decode cX10_count 52 = .ok (.aload_n 0, 1) := by decide +kernel
theorem dX10_count_53 : decode cX10_count 53 = .ok (.getfield 61, 3) := by decide +kernel
theorem dX10_count_56 : decode cX10_count 56 = .ok (.bipush 31, 2) := by decide +kernel
theorem dX10_count_58 : decode cX10_count 58 = .ok (.iaload, 1) := by decide +kernel
theorem dX10_count_59 : decode cX10_count 59 = .ok (.goto 113, 3) := by decide +kernel
theorem dX10_count_62 : decode cX10_count 62 = .ok (.iload_n 1, 1) := by decide +kernel
theorem dX10_count_63 : decode cX10_count 63 = .ok (.iconst 5, 1) := by decide +kernel
theorem dX10_count_64 : decode cX10_count 64 = .ok (.if_icmp .ne 11, 3) := by decide +kernel
theorem dX10_count_67 : decode cX10_count 67 = .ok (.aload_n 0, 1) := by decide +kernel
theorem dX10_count_68 : decode cX10_count 68 = .ok (.iconst 0, 1) := by decide +kernel
theorem dX10_count_69 : decode cX10_count 69 = .ok (.invokevirtual 276, 3) := by decide +kernel
theorem dX10_count_72 : decode cX10_count 72 = .ok (.goto 100, 3) := by decide +kernel
theorem dX10_count_75 : decode cX10_count 75 = .ok (.iload_n 1, 1) := by decide +kernel
theorem dX10_count_76 : decode cX10_count 76 = .ok (.bipush 6, 2) := by decide +kernel
theorem dX10_count_78 : decode cX10_count 78 = .ok (.if_icmp .ne 11, 3) := by decide +kernel
theorem dX10_count_81 : decode cX10_count 81 = .ok (.aload_n 0, 1) := by decide +kernel
theorem dX10_count_82 : decode cX10_count 82 = .ok (.iconst 0, 1) := by decide +kernel
theorem dX10_count_83 : decode cX10_count 83 = .ok (.invokevirtual 312, 3) := by decide +kernel
theorem dX10_count_86 : decode cX10_count 86 = .ok (.goto 86, 3) := by decide +kernel
theorem dX10_count_89 : decode cX10_count 89 = .ok (.iload_n 1, 1) := by decide +kernel
theorem dX10_count_90 : decode cX10_count 90 = .ok (.bipush 7, 2) := by decide +kernel
theorem dX10_count_92 : decode cX10_count 92 = .ok (.if_icmp .ne 14, 3) := by decide +kernel
theorem dX10_count_95 : decode cX10_count 95 = .ok (.aload_n 0, 1) := by decide +kernel
theorem dX10_count_96 : decode cX10_count 96 = .ok (.iconst 0, 1) := by decide +kernel
theorem dX10_count_97 : decode cX10_count 97 = .ok (.invokevirtual 259, 3) := by decide +kernel
theorem dX10_count_100 : decode cX10_count 100 = .ok (.invokestatic 266, 3) := by decide +kernel
theorem dX10_count_103 : decode cX10_count 103 = .ok (.goto 69, 3) := by decide +kernel
theorem dX10_count_106 : decode cX10_count 106 = .ok (.iload_n 1, 1) := by decide +kernel
theorem dX10_count_107 : decode cX10_count 107 = .ok (.bipush 8, 2) := by decide +kernel
theorem dX10_count_109 : decode cX10_count 109 = .ok (.if_icmp .ne 10, 3) := by decide +kernel
theorem dX10_count_112 : decode cX10_count 112 = .ok (.aload_n 0, 1) := by decide +kernel
theorem dX10_count_113 : decode cX10_count 113 = .ok (.invokevirtual 315, 3) := by decide +kernel
theorem dX10_count_116 : decode cX10_count 116 = .ok (.goto 56, 3) := by decide +kernel
theorem dX10_count_119 : decode cX10_count 119 = .ok (.iload_n 1, 1) := by decide +kernel
theorem dX10_count_120 : decode cX10_count 120 = .ok (.bipush 9, 2) := by decide +kernel
theorem dX10_count_122 : decode cX10_count 122 = .ok (.if_icmp .ne 10, 3) := by decide +kernel
theorem dX10_count_125 : decode cX10_count 125 = .ok (.aload_n 0, 1) := by decide +kernel
theorem dX10_count_126 : decode cX10_count 126 = .ok (.getfield 200, 3) := by decide +kernel
theorem dX10_count_129 : decode cX10_count 129 = .ok (.goto 43, 3) := by decide +kernel
theorem dX10_count_132 : decode cX10_count 132 = .ok (.iload_n 1, 1) := by decide +kernel
theorem dX10_count_133 : decode cX10_count 133 = .ok (.bipush 10, 2) := by decide +kernel
theorem dX10_count_135 : decode cX10_count 135 = .ok (.if_icmp .ne 10, 3) := by decide +kernel
theorem dX10_count_138 : decode cX10_count 138 = .ok (.aload_n 0, 1) := by decide +kernel
theorem dX10_count_139 : decode cX10_count 139 = .ok (.getfield 194, 3) := by decide +kernel
theorem dX10_count_142 : decode cX10_count 142 = .ok (.goto 30, 3) := by decide +kernel
theorem dX10_count_145 : decode cX10_count 145 = .ok (.iload_n 1, 1) := by decide +kernel
theorem dX10_count_146 : decode cX10_count 146 = .ok (.bipush 11, 2) := by decide +kernel
theorem dX10_count_148 : decode cX10_count 148 = .ok (.if_icmp .ne 10, 3) := by decide +kernel
theorem dX10_count_151 : decode cX10_count 151 = .ok (.aload_n 0, 1) := by decide +kernel
theorem dX10_count_152 : decode cX10_count 152 = .ok (.getfield 197, 3) := by decide +kernel
theorem dX10_count_155 : decode cX10_count 155 = .ok (.goto 17, 3) := by decide +kernel
theorem dX10_count_158 : decode cX10_count 158 = .ok (.iload_n 1, 1) := by decide +kernel
theorem dX10_count_159 : decode cX10_count 159 = .ok (.bipush 12, 2) := by decide +kernel
theorem dX10_count_161 : decode cX10_count 161 = .ok (.if_icmp .ne 10, 3) := by decide +kernel
theorem dX10_count_164 : decode cX10_count 164 = .ok (.aload_n 0, 1) := by decide +kernel
theorem dX10_count_165 : decode cX10_count 165 = .ok (.getfield 145, 3) := by decide +kernel
theorem dX10_count_168 : decode cX10_count 168 = .ok (.goto 4, 3) := by decide +kernel
theorem dX10_count_171 : decode cX10_count 171 = .ok (.iconst (-1), 1) := by decide +kernel
theorem dX10_count_172 : decode cX10_count 172 = .ok (.ireturn, 1) := by decide +kernel
