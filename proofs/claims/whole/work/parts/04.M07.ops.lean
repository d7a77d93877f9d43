-- TwinHostModel.step(I)I: 239 instructions, depth 7, calls Mo_pending Mo_add Mo_trap Mo_access Mo_special Mo_calculate Mo_put Mo_retire Mo_data
theorem d_Mo_step_0 : decode b_Mo_step 0 = .ok (.bipush 12, 2) := by decide +kernel
theorem d_Mo_step_2 : decode b_Mo_step 2 = .ok (.iload_n 1, 1) := by decide +kernel
theorem d_Mo_step_3 : decode b_Mo_step 3 = .ok (.imul, 1) := by decide +kernel
theorem d_Mo_step_4 : decode b_Mo_step 4 = .ok (.istore_n 2, 1) := by decide +kernel
theorem d_Mo_step_5 : decode b_Mo_step 5 = .ok (.aload_n 0, 1) := by decide +kernel
theorem d_Mo_step_6 : decode b_Mo_step 6 = .ok (.getfield 16, 3) := by decide +kernel
theorem d_Mo_step_9 : decode b_Mo_step 9 = .ok (.iload_n 2, 1) := by decide +kernel
theorem d_Mo_step_10 : decode b_Mo_step 10 = .ok (.bipush 7, 2) := by decide +kernel
theorem d_Mo_step_12 : decode b_Mo_step 12 = .ok (.iadd, 1) := by decide +kernel
theorem d_Mo_step_13 : decode b_Mo_step 13 = .ok (.iaload, 1) := by decide +kernel
theorem d_Mo_step_14 : decode b_Mo_step 14 = .ok (.aload_n 0, 1) := by decide +kernel
theorem d_Mo_step_15 : decode b_Mo_step 15 = .ok (.iload_n 1, 1) := by decide +kernel
theorem d_Mo_step_16 : decode b_Mo_step 16 = .ok (.invokevirtual 86, 3) := by decide +kernel
theorem d_Mo_step_19 : decode b_Mo_step 19 = .ok (.iand, 1) := by decide +kernel
theorem d_Mo_step_20 : decode b_Mo_step 20 = .ok (.istore_n 3, 1) := by decide +kernel
theorem d_Mo_step_21 : decode b_Mo_step 21 = .ok (.iload_n 3, 1) := by decide +kernel
theorem d_Mo_step_22 : decode b_Mo_step 22 = .ok (.ifCond .eq 54, 3) := by decide +kernel
theorem d_Mo_step_25 : decode b_Mo_step 25 = .ok (.aload_n 0, 1) := by decide +kernel
theorem d_Mo_step_26 : decode b_Mo_step 26 = .ok (.getfield 22, 3) := by decide +kernel
theorem d_Mo_step_29 : decode b_Mo_step 29 = .ok (.iload_n 1, 1) := by decide +kernel
theorem d_Mo_step_30 : decode b_Mo_step 30 = .ok (.baload, 1) := by decide +kernel
theorem d_Mo_step_31 : decode b_Mo_step 31 = .ok (.ifCond .ne 14, 3) := by decide +kernel
theorem d_Mo_step_34 : decode b_Mo_step 34 = .ok (.aload_n 0, 1) := by decide +kernel
theorem d_Mo_step_35 : decode b_Mo_step 35 = .ok (.getfield 16, 3) := by decide +kernel
theorem d_Mo_step_38 : decode b_Mo_step 38 = .ok (.iload_n 2, 1) := by decide +kernel
theorem d_Mo_step_39 : decode b_Mo_step 39 = .ok (.iaload, 1) := by decide +kernel
theorem d_Mo_step_40 : decode b_Mo_step 40 = .ok (.iconst 1, 1) := by decide +kernel
theorem d_Mo_step_41 : decode b_Mo_step 41 = .ok (.iand, 1) := by decide +kernel
theorem d_Mo_step_42 : decode b_Mo_step 42 = .ok (.ifCond .eq 34, 3) := by decide +kernel
theorem d_Mo_step_45 : decode b_Mo_step 45 = .ok (.aload_n 0, 1) := by decide +kernel
theorem d_Mo_step_46 : decode b_Mo_step 46 = .ok (.iload_n 1, 1) := by decide +kernel
theorem d_Mo_step_47 : decode b_Mo_step 47 = .ok (.bipush 6, 2) := by decide +kernel
theorem d_Mo_step_49 : decode b_Mo_step 49 = .ok (.iconst 1, 1) := by decide +kernel
theorem d_Mo_step_50 : decode b_Mo_step 50 = .ok (.invokevirtual 58, 3) := by decide +kernel
theorem d_Mo_step_53 : decode b_Mo_step 53 = .ok (.aload_n 0, 1) := by decide +kernel
theorem d_Mo_step_54 : decode b_Mo_step 54 = .ok (.iload_n 1, 1) := by decide +kernel
theorem d_Mo_step_55 : decode b_Mo_step 55 = .ok (.ldc 128, 2) := by decide +kernel
theorem d_Mo_step_57 : decode b_Mo_step 57 = .ok (.iload_n 3, 1) := by decide +kernel
theorem d_Mo_step_58 : decode b_Mo_step 58 = .ok (.iconst 2, 1) := by decide +kernel
theorem d_Mo_step_59 : decode b_Mo_step 59 = .ok (.iand, 1) := by decide +kernel
theorem d_Mo_step_60 : decode b_Mo_step 60 = .ok (.ifCond .eq 8, 3) := by decide +kernel
theorem d_Mo_step_63 : decode b_Mo_step 63 = .ok (.bipush 9, 2) := by decide +kernel
theorem d_Mo_step_65 : decode b_Mo_step 65 = .ok (.goto 4, 3) := by decide +kernel
theorem d_Mo_step_68 : decode b_Mo_step 68 = .ok (.iconst 5, 1) := by decide +kernel
theorem d_Mo_step_69 : decode b_Mo_step 69 = .ok (.iadd, 1) := by decide +kernel
theorem d_Mo_step_70 : decode b_Mo_step 70 = .ok (.iconst 0, 1) := by decide +kernel
theorem d_Mo_step_71 : decode b_Mo_step 71 = .ok (.invokevirtual 90, 3) := by decide +kernel
theorem d_Mo_step_74 : decode b_Mo_step 74 = .ok (.iconst 0, 1) := by decide +kernel
theorem d_Mo_step_75 : decode b_Mo_step 75 = .ok (.ireturn, 1) := by decide +kernel
theorem d_Mo_step_76 : decode b_Mo_step 76 = .ok (.aload_n 0, 1) := by decide +kernel
theorem d_Mo_step_77 : decode b_Mo_step 77 = .ok (.iload_n 1, 1) := by decide +kernel
theorem d_Mo_step_78 : decode b_Mo_step 78 = .ok (.aload_n 0, 1) := by decide +kernel
theorem d_Mo_step_79 : decode b_Mo_step 79 = .ok (.getfield 19, 3) := by decide +kernel
theorem d_Mo_step_82 : decode b_Mo_step 82 = .ok (.iload_n 1, 1) := by decide +kernel
theorem d_Mo_step_83 : decode b_Mo_step 83 = .ok (.iaload, 1) := by decide +kernel
theorem d_Mo_step_84 : decode b_Mo_step 84 = .ok (.iconst 0, 1) := by decide +kernel
theorem d_Mo_step_85 : decode b_Mo_step 85 = .ok (.invokevirtual 129, 3) := by decide +kernel
theorem d_Mo_step_88 : decode b_Mo_step 88 = .ok (.istore 4, 2) := by decide +kernel
theorem d_Mo_step_90 : decode b_Mo_step 90 = .ok (.iload 4, 2) := by decide +kernel
theorem d_Mo_step_92 : decode b_Mo_step 92 = .ok (.ifCond .ge 5, 3) := by decide +kernel
theorem d_Mo_step_95 : decode b_Mo_step 95 = .ok (.iconst 0, 1) := by decide +kernel
theorem d_Mo_step_96 : decode b_Mo_step 96 = .ok (.ireturn, 1) := by decide +kernel
theorem d_Mo_step_97 : decode b_Mo_step 97 = .ok (.aload_n 0, 1) := by decide +kernel
theorem d_Mo_step_98 : decode b_Mo_step 98 = .ok (.getfield 7, 3) := by decide +kernel
theorem d_Mo_step_101 : decode b_Mo_step 101 = .ok (.sipush 128, 3) := by decide +kernel
theorem d_Mo_step_104 : decode b_Mo_step 104 = .ok (.iload_n 1, 1) := by decide +kernel
theorem d_Mo_step_105 : decode b_Mo_step 105 = .ok (.imul, 1) := by decide +kernel
theorem d_Mo_step_106 : decode b_Mo_step 106 = .ok (.iload 4, 2) := by decide +kernel
theorem d_Mo_step_108 : decode b_Mo_step 108 = .ok (.iadd, 1) := by decide +kernel
theorem d_Mo_step_109 : decode b_Mo_step 109 = .ok (.iaload, 1) := by decide +kernel
theorem d_Mo_step_110 : decode b_Mo_step 110 = .ok (.istore 5, 2) := by decide +kernel
theorem d_Mo_step_112 : decode b_Mo_step 112 = .ok (.iload 5, 2) := by decide +kernel
theorem d_Mo_step_114 : decode b_Mo_step 114 = .ok (.bipush 31, 2) := by decide +kernel
theorem d_Mo_step_116 : decode b_Mo_step 116 = .ok (.iand, 1) := by decide +kernel
theorem d_Mo_step_117 : decode b_Mo_step 117 = .ok (.istore 6, 2) := by decide +kernel
theorem d_Mo_step_119 : decode b_Mo_step 119 = .ok (.iload 6, 2) := by decide +kernel
theorem d_Mo_step_121 : decode b_Mo_step 121 = .ok (.bipush 17, 2) := by decide +kernel
theorem d_Mo_step_123 : decode b_Mo_step 123 = .ok (.if_icmp .lt 21, 3) := by decide +kernel
theorem d_Mo_step_126 : decode b_Mo_step 126 = .ok (.aload_n 0, 1) := by decide +kernel
theorem d_Mo_step_127 : decode b_Mo_step 127 = .ok (.iload_n 1, 1) := by decide +kernel
theorem d_Mo_step_128 : decode b_Mo_step 128 = .ok (.iconst 0, 1) := by decide +kernel
theorem d_Mo_step_129 : decode b_Mo_step 129 = .ok (.iconst 1, 1) := by decide +kernel
theorem d_Mo_step_130 : decode b_Mo_step 130 = .ok (.invokevirtual 58, 3) := by decide +kernel
theorem d_Mo_step_133 : decode b_Mo_step 133 = .ok (.aload_n 0, 1) := by decide +kernel
theorem d_Mo_step_134 : decode b_Mo_step 134 = .ok (.iload_n 1, 1) := by decide +kernel
theorem d_Mo_step_135 : decode b_Mo_step 135 = .ok (.iload 5, 2) := by decide +kernel
theorem d_Mo_step_137 : decode b_Mo_step 137 = .ok (.iload 6, 2) := by decide +kernel
theorem d_Mo_step_139 : decode b_Mo_step 139 = .ok (.iload_n 3, 1) := by decide +kernel
theorem d_Mo_step_140 : decode b_Mo_step 140 = .ok (.invokevirtual 132, 3) := by decide +kernel
theorem d_Mo_step_143 : decode b_Mo_step 143 = .ok (.ireturn, 1) := by decide +kernel
theorem d_Mo_step_144 : decode b_Mo_step 144 = .ok (.aload_n 0, 1) := by decide +kernel
theorem d_Mo_step_145 : decode b_Mo_step 145 = .ok (.getfield 13, 3) := by decide +kernel
theorem d_Mo_step_148 : decode b_Mo_step 148 = .ok (.bipush 8, 2) := by decide +kernel
theorem d_Mo_step_150 : decode b_Mo_step 150 = .ok (.iload_n 1, 1) := by decide +kernel
theorem d_Mo_step_151 : decode b_Mo_step 151 = .ok (.imul, 1) := by decide +kernel
theorem d_Mo_step_152 : decode b_Mo_step 152 = .ok (.iload 5, 2) := by decide +kernel
theorem d_Mo_step_154 : decode b_Mo_step 154 = .ok (.bipush 8, 2) := by decide +kernel
theorem d_Mo_step_156 : decode b_Mo_step 156 = .ok (.ishr, 1) := by decide +kernel
theorem d_Mo_step_157 : decode b_Mo_step 157 = .ok (.bipush 7, 2) := by decide +kernel
theorem d_Mo_step_159 : decode b_Mo_step 159 = .ok (.iand, 1) := by decide +kernel
theorem d_Mo_step_160 : decode b_Mo_step 160 = .ok (.iadd, 1) := by decide +kernel
theorem d_Mo_step_161 : decode b_Mo_step 161 = .ok (.iaload, 1) := by decide +kernel
theorem d_Mo_step_162 : decode b_Mo_step 162 = .ok (.istore 7, 2) := by decide +kernel
theorem d_Mo_step_164 : decode b_Mo_step 164 = .ok (.aload_n 0, 1) := by decide +kernel
theorem d_Mo_step_165 : decode b_Mo_step 165 = .ok (.getfield 13, 3) := by decide +kernel
theorem d_Mo_step_168 : decode b_Mo_step 168 = .ok (.bipush 8, 2) := by decide +kernel
theorem d_Mo_step_170 : decode b_Mo_step 170 = .ok (.iload_n 1, 1) := by decide +kernel
theorem d_Mo_step_171 : decode b_Mo_step 171 = .ok (.imul, 1) := by decide +kernel
theorem d_Mo_step_172 : decode b_Mo_step 172 = .ok (.iload 5, 2) := by decide +kernel
theorem d_Mo_step_174 : decode b_Mo_step 174 = .ok (.bipush 11, 2) := by decide +kernel
theorem d_Mo_step_176 : decode b_Mo_step 176 = .ok (.ishr, 1) := by decide +kernel
theorem d_Mo_step_177 : decode b_Mo_step 177 = .ok (.bipush 7, 2) := by decide +kernel
theorem d_Mo_step_179 : decode b_Mo_step 179 = .ok (.iand, 1) := by decide +kernel
theorem d_Mo_step_180 : decode b_Mo_step 180 = .ok (.iadd, 1) := by decide +kernel
theorem d_Mo_step_181 : decode b_Mo_step 181 = .ok (.iaload, 1) := by decide +kernel
theorem d_Mo_step_182 : decode b_Mo_step 182 = .ok (.istore 8, 2) := by decide +kernel
theorem d_Mo_step_184 : decode b_Mo_step 184 = .ok (.iload 5, 2) := by decide +kernel
theorem d_Mo_step_186 : decode b_Mo_step 186 = .ok (.bipush 16, 2) := by decide +kernel
theorem d_Mo_step_188 : decode b_Mo_step 188 = .ok (.ishr, 1) := by decide +kernel
theorem d_Mo_step_189 : decode b_Mo_step 189 = .ok (.istore 9, 2) := by decide +kernel
theorem d_Mo_step_191 : decode b_Mo_step 191 = .ok (.iload 5, 2) := by decide +kernel
theorem d_Mo_step_193 : decode b_Mo_step 193 = .ok (.iconst 5, 1) := by decide +kernel
theorem d_Mo_step_194 : decode b_Mo_step 194 = .ok (.ishr, 1) := by decide +kernel
theorem d_Mo_step_195 : decode b_Mo_step 195 = .ok (.bipush 7, 2) := by decide +kernel
theorem d_Mo_step_197 : decode b_Mo_step 197 = .ok (.iand, 1) := by decide +kernel
theorem d_Mo_step_198 : decode b_Mo_step 198 = .ok (.istore 10, 2) := by decide +kernel
theorem d_Mo_step_200 : decode b_Mo_step 200 = .ok (.iload 6, 2) := by decide +kernel
theorem d_Mo_step_202 : decode b_Mo_step 202 = .ok (.bipush 10, 2) := by decide +kernel
theorem d_Mo_step_204 : decode b_Mo_step 204 = .ok (.if_icmp .ge 39, 3) := by decide +kernel
theorem d_Mo_step_207 : decode b_Mo_step 207 = .ok (.iload 6, 2) := by decide +kernel
theorem d_Mo_step_209 : decode b_Mo_step 209 = .ok (.iload 7, 2) := by decide +kernel
theorem d_Mo_step_211 : decode b_Mo_step 211 = .ok (.iload 8, 2) := by decide +kernel
theorem d_Mo_step_213 : decode b_Mo_step 213 = .ok (.iload 9, 2) := by decide +kernel
theorem d_Mo_step_215 : decode b_Mo_step 215 = .ok (.invokestatic 135, 3) := by decide +kernel
theorem d_Mo_step_218 : decode b_Mo_step 218 = .ok (.istore 11, 2) := by decide +kernel
theorem d_Mo_step_220 : decode b_Mo_step 220 = .ok (.aload_n 0, 1) := by decide +kernel
theorem d_Mo_step_221 : decode b_Mo_step 221 = .ok (.iload_n 1, 1) := by decide +kernel
theorem d_Mo_step_222 : decode b_Mo_step 222 = .ok (.iload 10, 2) := by decide +kernel
theorem d_Mo_step_224 : decode b_Mo_step 224 = .ok (.iload 11, 2) := by decide +kernel
theorem d_Mo_step_226 : decode b_Mo_step 226 = .ok (.invokevirtual 70, 3) := by decide +kernel
theorem d_Mo_step_229 : decode b_Mo_step 229 = .ok (.aload_n 0, 1) := by decide +kernel
theorem d_Mo_step_230 : decode b_Mo_step 230 = .ok (.iload_n 1, 1) := by decide +kernel
theorem d_Mo_step_231 : decode b_Mo_step 231 = .ok (.aload_n 0, 1) := by decide +kernel
theorem d_Mo_step_232 : decode b_Mo_step 232 = .ok (.getfield 19, 3) := by decide +kernel
theorem d_Mo_step_235 : decode b_Mo_step 235 = .ok (.iload_n 1, 1) := by decide +kernel
theorem d_Mo_step_236 : decode b_Mo_step 236 = .ok (.iaload, 1) := by decide +kernel
theorem d_Mo_step_237 : decode b_Mo_step 237 = .ok (.iconst 1, 1) := by decide +kernel
theorem d_Mo_step_238 : decode b_Mo_step 238 = .ok (.iadd, 1) := by decide +kernel
theorem d_Mo_step_239 : decode b_Mo_step 239 = .ok (.invokevirtual 138, 3) := by decide +kernel
theorem d_Mo_step_242 : decode b_Mo_step 242 = .ok (.ireturn, 1) := by decide +kernel
theorem d_Mo_step_243 : decode b_Mo_step 243 = .ok (.iload 6, 2) := by decide +kernel
theorem d_Mo_step_245 : decode b_Mo_step 245 = .ok (.bipush 12, 2) := by decide +kernel
theorem d_Mo_step_247 : decode b_Mo_step 247 = .ok (.if_icmp .ge 20, 3) := by decide +kernel
theorem d_Mo_step_250 : decode b_Mo_step 250 = .ok (.aload_n 0, 1) := by decide +kernel
theorem d_Mo_step_251 : decode b_Mo_step 251 = .ok (.iload_n 1, 1) := by decide +kernel
theorem d_Mo_step_252 : decode b_Mo_step 252 = .ok (.iload 6, 2) := by decide +kernel
theorem d_Mo_step_254 : decode b_Mo_step 254 = .ok (.iload 10, 2) := by decide +kernel
theorem d_Mo_step_256 : decode b_Mo_step 256 = .ok (.iload 7, 2) := by decide +kernel
theorem d_Mo_step_258 : decode b_Mo_step 258 = .ok (.iload 9, 2) := by decide +kernel
theorem d_Mo_step_260 : decode b_Mo_step 260 = .ok (.iadd, 1) := by decide +kernel
theorem d_Mo_step_261 : decode b_Mo_step 261 = .ok (.iload 8, 2) := by decide +kernel
theorem d_Mo_step_263 : decode b_Mo_step 263 = .ok (.invokevirtual 142, 3) := by decide +kernel
theorem d_Mo_step_266 : decode b_Mo_step 266 = .ok (.ireturn, 1) := by decide +kernel
theorem d_Mo_step_267 : decode b_Mo_step 267 = .ok (.iload 6, 2) := by decide +kernel
theorem d_Mo_step_269 : decode b_Mo_step 269 = .ok (.bipush 15, 2) := by decide +kernel
theorem d_Mo_step_271 : decode b_Mo_step 271 = .ok (.if_icmp .ge 92, 3) := by decide +kernel
theorem d_Mo_step_274 : decode b_Mo_step 274 = .ok (.iload 6, 2) := by decide +kernel
theorem d_Mo_step_276 : decode b_Mo_step 276 = .ok (.bipush 12, 2) := by decide +kernel
theorem d_Mo_step_278 : decode b_Mo_step 278 = .ok (.if_icmp .ne 18, 3) := by decide +kernel
theorem d_Mo_step_281 : decode b_Mo_step 281 = .ok (.iload 7, 2) := by decide +kernel
theorem d_Mo_step_283 : decode b_Mo_step 283 = .ok (.iload 8, 2) := by decide +kernel
theorem d_Mo_step_285 : decode b_Mo_step 285 = .ok (.if_icmp .ne 7, 3) := by decide +kernel
theorem d_Mo_step_288 : decode b_Mo_step 288 = .ok (.iconst 1, 1) := by decide +kernel
theorem d_Mo_step_289 : decode b_Mo_step 289 = .ok (.goto 41, 3) := by decide +kernel
theorem d_Mo_step_292 : decode b_Mo_step 292 = .ok (.iconst 0, 1) := by decide +kernel
theorem d_Mo_step_293 : decode b_Mo_step 293 = .ok (.goto 37, 3) := by decide +kernel
theorem d_Mo_step_296 : decode b_Mo_step 296 = .ok (.iload 6, 2) := by decide +kernel
theorem d_Mo_step_298 : decode b_Mo_step 298 = .ok (.bipush 13, 2) := by decide +kernel
theorem d_Mo_step_300 : decode b_Mo_step 300 = .ok (.if_icmp .ne 18, 3) := by decide +kernel
theorem d_Mo_step_303 : decode b_Mo_step 303 = .ok (.iload 7, 2) := by decide +kernel
theorem d_Mo_step_305 : decode b_Mo_step 305 = .ok (.iload 8, 2) := by decide +kernel
theorem d_Mo_step_307 : decode b_Mo_step 307 = .ok (.if_icmp .eq 7, 3) := by decide +kernel
theorem d_Mo_step_310 : decode b_Mo_step 310 = .ok (.iconst 1, 1) := by decide +kernel
theorem d_Mo_step_311 : decode b_Mo_step 311 = .ok (.goto 19, 3) := by decide +kernel
theorem d_Mo_step_314 : decode b_Mo_step 314 = .ok (.iconst 0, 1) := by decide +kernel
theorem d_Mo_step_315 : decode b_Mo_step 315 = .ok (.goto 15, 3) := by decide +kernel
theorem d_Mo_step_318 : decode b_Mo_step 318 = .ok (.iload 7, 2) := by decide +kernel
theorem d_Mo_step_320 : decode b_Mo_step 320 = .ok (.iload 8, 2) := by decide +kernel
theorem d_Mo_step_322 : decode b_Mo_step 322 = .ok (.if_icmp .ge 7, 3) := by decide +kernel
theorem d_Mo_step_325 : decode b_Mo_step 325 = .ok (.iconst 1, 1) := by decide +kernel
theorem d_Mo_step_326 : decode b_Mo_step 326 = .ok (.goto 4, 3) := by decide +kernel
theorem d_Mo_step_329 : decode b_Mo_step 329 = .ok (.iconst 0, 1) := by decide +kernel
theorem d_Mo_step_330 : decode b_Mo_step 330 = .ok (.istore 11, 2) := by decide +kernel
theorem d_Mo_step_332 : decode b_Mo_step 332 = .ok (.aload_n 0, 1) := by decide +kernel
theorem d_Mo_step_333 : decode b_Mo_step 333 = .ok (.iload_n 1, 1) := by decide +kernel
theorem d_Mo_step_334 : decode b_Mo_step 334 = .ok (.iload 11, 2) := by decide +kernel
theorem d_Mo_step_336 : decode b_Mo_step 336 = .ok (.ifCond .eq 15, 3) := by decide +kernel
theorem d_Mo_step_339 : decode b_Mo_step 339 = .ok (.aload_n 0, 1) := by decide +kernel
theorem d_Mo_step_340 : decode b_Mo_step 340 = .ok (.getfield 19, 3) := by decide +kernel
theorem d_Mo_step_343 : decode b_Mo_step 343 = .ok (.iload_n 1, 1) := by decide +kernel
theorem d_Mo_step_344 : decode b_Mo_step 344 = .ok (.iaload, 1) := by decide +kernel
theorem d_Mo_step_345 : decode b_Mo_step 345 = .ok (.iload 9, 2) := by decide +kernel
theorem d_Mo_step_347 : decode b_Mo_step 347 = .ok (.iadd, 1) := by decide +kernel
theorem d_Mo_step_348 : decode b_Mo_step 348 = .ok (.goto 11, 3) := by decide +kernel
theorem d_Mo_step_351 : decode b_Mo_step 351 = .ok (.aload_n 0, 1) := by decide +kernel
theorem d_Mo_step_352 : decode b_Mo_step 352 = .ok (.getfield 19, 3) := by decide +kernel
theorem d_Mo_step_355 : decode b_Mo_step 355 = .ok (.iload_n 1, 1) := by decide +kernel
theorem d_Mo_step_356 : decode b_Mo_step 356 = .ok (.iaload, 1) := by decide +kernel
theorem d_Mo_step_357 : decode b_Mo_step 357 = .ok (.iconst 1, 1) := by decide +kernel
theorem d_Mo_step_358 : decode b_Mo_step 358 = .ok (.iadd, 1) := by decide +kernel
theorem d_Mo_step_359 : decode b_Mo_step 359 = .ok (.invokevirtual 138, 3) := by decide +kernel
theorem d_Mo_step_362 : decode b_Mo_step 362 = .ok (.ireturn, 1) := by decide +kernel
theorem d_Mo_step_363 : decode b_Mo_step 363 = .ok (.aload_n 0, 1) := by decide +kernel
theorem d_Mo_step_364 : decode b_Mo_step 364 = .ok (.iload_n 1, 1) := by decide +kernel
theorem d_Mo_step_365 : decode b_Mo_step 365 = .ok (.iload 10, 2) := by decide +kernel
theorem d_Mo_step_367 : decode b_Mo_step 367 = .ok (.aload_n 0, 1) := by decide +kernel
theorem d_Mo_step_368 : decode b_Mo_step 368 = .ok (.getfield 19, 3) := by decide +kernel
theorem d_Mo_step_371 : decode b_Mo_step 371 = .ok (.iload_n 1, 1) := by decide +kernel
theorem d_Mo_step_372 : decode b_Mo_step 372 = .ok (.iaload, 1) := by decide +kernel
theorem d_Mo_step_373 : decode b_Mo_step 373 = .ok (.iconst 1, 1) := by decide +kernel
theorem d_Mo_step_374 : decode b_Mo_step 374 = .ok (.iadd, 1) := by decide +kernel
theorem d_Mo_step_375 : decode b_Mo_step 375 = .ok (.invokevirtual 70, 3) := by decide +kernel
theorem d_Mo_step_378 : decode b_Mo_step 378 = .ok (.aload_n 0, 1) := by decide +kernel
theorem d_Mo_step_379 : decode b_Mo_step 379 = .ok (.iload_n 1, 1) := by decide +kernel
theorem d_Mo_step_380 : decode b_Mo_step 380 = .ok (.iload 6, 2) := by decide +kernel
theorem d_Mo_step_382 : decode b_Mo_step 382 = .ok (.bipush 15, 2) := by decide +kernel
theorem d_Mo_step_384 : decode b_Mo_step 384 = .ok (.if_icmp .ne 15, 3) := by decide +kernel
theorem d_Mo_step_387 : decode b_Mo_step 387 = .ok (.aload_n 0, 1) := by decide +kernel
theorem d_Mo_step_388 : decode b_Mo_step 388 = .ok (.getfield 19, 3) := by decide +kernel
theorem d_Mo_step_391 : decode b_Mo_step 391 = .ok (.iload_n 1, 1) := by decide +kernel
theorem d_Mo_step_392 : decode b_Mo_step 392 = .ok (.iaload, 1) := by decide +kernel
theorem d_Mo_step_393 : decode b_Mo_step 393 = .ok (.iload 9, 2) := by decide +kernel
theorem d_Mo_step_395 : decode b_Mo_step 395 = .ok (.iadd, 1) := by decide +kernel
theorem d_Mo_step_396 : decode b_Mo_step 396 = .ok (.goto 8, 3) := by decide +kernel
theorem d_Mo_step_399 : decode b_Mo_step 399 = .ok (.iload 7, 2) := by decide +kernel
theorem d_Mo_step_401 : decode b_Mo_step 401 = .ok (.iload 9, 2) := by decide +kernel
theorem d_Mo_step_403 : decode b_Mo_step 403 = .ok (.iadd, 1) := by decide +kernel
theorem d_Mo_step_404 : decode b_Mo_step 404 = .ok (.invokevirtual 138, 3) := by decide +kernel
theorem d_Mo_step_407 : decode b_Mo_step 407 = .ok (.ireturn, 1) := by decide +kernel
noncomputable def pr_Mo_step : List (Nat × tw_Op) := [(0, tw_ic (12)), (2, tw_il 1), (3, tw_bin (· * ·)), (4, tw_is 2), (5, tw_al 0), (6, tw_gr 22 25), (9, tw_il 2), (10, tw_ic (7)), (12, tw_bin (· + ·)), (13, tw_ia), (14, tw_al 0), (15, tw_il 1), (16, tw_cv 1 22 fn_Mo_pending), (19, tw_bin (· &&& ·)), (20, tw_is 3), (21, tw_il 3), (22, tw_ifeq 76), (25, tw_al 0), (26, tw_gr 22 27), (29, tw_il 1), (30, tw_za), (31, tw_ifne 45), (34, tw_al 0), (35, tw_gr 22 25), (38, tw_il 2), (39, tw_ia), (40, tw_ic 1), (41, tw_bin (· &&& ·)), (42, tw_ifeq 76), (45, tw_al 0), (46, tw_il 1), (47, tw_ic (6)), (49, tw_ic 1), (50, tw_cv 3 22 fn_Mo_add), (53, tw_al 0), (54, tw_il 1), (55, tw_ic (-2147483648)), (57, tw_il 3), (58, tw_ic 2), (59, tw_bin (· &&& ·)), (60, tw_ifeq 68), (63, tw_ic (9)), (65, tw_jmp 69), (68, tw_ic 5), (69, tw_bin (· + ·)), (70, tw_ic 0), (71, tw_cv 3 22 fn_Mo_trap), (74, tw_ic 0), (75, tw_ri), (76, tw_al 0), (77, tw_il 1), (78, tw_al 0), (79, tw_gr 22 26), (82, tw_il 1), (83, tw_ia), (84, tw_ic 0), (85, tw_cv 3 22 fn_Mo_access), (88, tw_is 4), (90, tw_il 4), (92, tw_ifge 97), (95, tw_ic 0), (96, tw_ri), (97, tw_al 0), (98, tw_gr 22 23), (101, tw_ic (128)), (104, tw_il 1), (105, tw_bin (· * ·)), (106, tw_il 4), (108, tw_bin (· + ·)), (109, tw_ia), (110, tw_is 5), (112, tw_il 5), (114, tw_ic (31)), (116, tw_bin (· &&& ·)), (117, tw_is 6), (119, tw_il 6), (121, tw_ic (17)), (123, tw_clt 144), (126, tw_al 0), (127, tw_il 1), (128, tw_ic 0), (129, tw_ic 1), (130, tw_cv 3 22 fn_Mo_add), (133, tw_al 0), (134, tw_il 1), (135, tw_il 5), (137, tw_il 6), (139, tw_il 3), (140, tw_cv 4 22 fn_Mo_special), (143, tw_ri), (144, tw_al 0), (145, tw_gr 22 24), (148, tw_ic (8)), (150, tw_il 1), (151, tw_bin (· * ·)), (152, tw_il 5), (154, tw_ic (8)), (156, tw_bin (fun x y => x >>> (y &&& 31))), (157, tw_ic (7)), (159, tw_bin (· &&& ·)), (160, tw_bin (· + ·)), (161, tw_ia), (162, tw_is 7), (164, tw_al 0), (165, tw_gr 22 24), (168, tw_ic (8)), (170, tw_il 1), (171, tw_bin (· * ·)), (172, tw_il 5), (174, tw_ic (11)), (176, tw_bin (fun x y => x >>> (y &&& 31))), (177, tw_ic (7)), (179, tw_bin (· &&& ·)), (180, tw_bin (· + ·)), (181, tw_ia), (182, tw_is 8), (184, tw_il 5), (186, tw_ic (16)), (188, tw_bin (fun x y => x >>> (y &&& 31))), (189, tw_is 9), (191, tw_il 5), (193, tw_ic 5), (194, tw_bin (fun x y => x >>> (y &&& 31))), (195, tw_ic (7)), (197, tw_bin (· &&& ·)), (198, tw_is 10), (200, tw_il 6), (202, tw_ic (10)), (204, tw_cge 243), (207, tw_il 6), (209, tw_il 7), (211, tw_il 8), (213, tw_il 9), (215, tw_cs 4 fn_Mo_calculate), (218, tw_is 11), (220, tw_al 0), (221, tw_il 1), (222, tw_il 10), (224, tw_il 11), (226, tw_cv 3 22 fn_Mo_put), (229, tw_al 0), (230, tw_il 1), (231, tw_al 0), (232, tw_gr 22 26), (235, tw_il 1), (236, tw_ia), (237, tw_ic 1), (238, tw_bin (· + ·)), (239, tw_cv 2 22 fn_Mo_retire), (242, tw_ri), (243, tw_il 6), (245, tw_ic (12)), (247, tw_cge 267), (250, tw_al 0), (251, tw_il 1), (252, tw_il 6), (254, tw_il 10), (256, tw_il 7), (258, tw_il 9), (260, tw_bin (· + ·)), (261, tw_il 8), (263, tw_cv 5 22 fn_Mo_data), (266, tw_ri), (267, tw_il 6), (269, tw_ic (15)), (271, tw_cge 363), (274, tw_il 6), (276, tw_ic (12)), (278, tw_cne 296), (281, tw_il 7), (283, tw_il 8), (285, tw_cne 292), (288, tw_ic 1), (289, tw_jmp 330), (292, tw_ic 0), (293, tw_jmp 330), (296, tw_il 6), (298, tw_ic (13)), (300, tw_cne 318), (303, tw_il 7), (305, tw_il 8), (307, tw_ceq 314), (310, tw_ic 1), (311, tw_jmp 330), (314, tw_ic 0), (315, tw_jmp 330), (318, tw_il 7), (320, tw_il 8), (322, tw_cge 329), (325, tw_ic 1), (326, tw_jmp 330), (329, tw_ic 0), (330, tw_is 11), (332, tw_al 0), (333, tw_il 1), (334, tw_il 11), (336, tw_ifeq 351), (339, tw_al 0), (340, tw_gr 22 26), (343, tw_il 1), (344, tw_ia), (345, tw_il 9), (347, tw_bin (· + ·)), (348, tw_jmp 359), (351, tw_al 0), (352, tw_gr 22 26), (355, tw_il 1), (356, tw_ia), (357, tw_ic 1), (358, tw_bin (· + ·)), (359, tw_cv 2 22 fn_Mo_retire), (362, tw_ri), (363, tw_al 0), (364, tw_il 1), (365, tw_il 10), (367, tw_al 0), (368, tw_gr 22 26), (371, tw_il 1), (372, tw_ia), (373, tw_ic 1), (374, tw_bin (· + ·)), (375, tw_cv 3 22 fn_Mo_put), (378, tw_al 0), (379, tw_il 1), (380, tw_il 6), (382, tw_ic (15)), (384, tw_cne 399), (387, tw_al 0), (388, tw_gr 22 26), (391, tw_il 1), (392, tw_ia), (393, tw_il 9), (395, tw_bin (· + ·)), (396, tw_jmp 404), (399, tw_il 7), (401, tw_il 9), (403, tw_bin (· + ·)), (404, tw_cv 2 22 fn_Mo_retire), (407, tw_ri)]
set_option maxRecDepth 100000 in
set_option maxHeartbeats 4000000 in
theorem ok_Mo_step {p : Program} {l : Launch} {e : Env} {s : State} {m : MethodId} {args : Array Value} {below : List Frame} {meth : Method} {c : Code} {E : tw_E} {D : va_G} {ρ : tw_R} (hC : tw_Cx p s m args meth c b_Mo_step 12 (some .int) "TwinHostModel" E D) : tw_Ok p l e (tw_rmd 7) s m args below meth c 0 0 (MQ below (tw_Qc E D ρ) args s 0 0 (tw_A E)) 12 E D ρ pr_Mo_step :=
  ⟨ts_bipush hC d_Mo_step_0 (by decide),
   ts_iload_n hC d_Mo_step_2 rfl,
   ts_imul hC d_Mo_step_3,
   ts_istore_n hC d_Mo_step_4 rfl (by decide),
   ts_aload_n hC d_Mo_step_5 rfl,
   ts_gr (j := 5) (C := R_Mo) (T := T_Mo) hC rfl rfl rfl (by decide) u_Mo wd_461 rfl d_Mo_step_6,
   ts_iload_n hC d_Mo_step_9 rfl,
   ts_bipush hC d_Mo_step_10 (by decide),
   ts_iadd hC d_Mo_step_12,
   ts_iaload hC d_Mo_step_13,
   ts_aload_n hC d_Mo_step_14 rfl,
   ts_iload_n hC d_Mo_step_15 rfl,
   ts_callv (C := R_Mo) (T := T_Mo) hC con_Mo_pending wd_583 wd_30 (by decide +kernel) ⟨by decide, by decide⟩ ⟨Nat.zero_le _, Nat.zero_le _⟩ wd_580 rfl rfl wd_582 wd_7 d_Mo_step_16,
   ts_iand hC d_Mo_step_19,
   ts_istore_n hC d_Mo_step_20 rfl (by decide),
   ts_iload_n hC d_Mo_step_21 rfl,
   ts_ifeq hC d_Mo_step_22 (by decide),
   ts_aload_n hC d_Mo_step_25 rfl,
   ts_gr (j := 7) (C := R_Mo) (T := T_Mo) hC rfl rfl rfl (by decide) u_Mo wd_463 rfl d_Mo_step_26,
   ts_iload_n hC d_Mo_step_29 rfl,
   ts_baload hC d_Mo_step_30,
   ts_ifne hC d_Mo_step_31 (by decide),
   ts_aload_n hC d_Mo_step_34 rfl,
   ts_gr (j := 5) (C := R_Mo) (T := T_Mo) hC rfl rfl rfl (by decide) u_Mo wd_461 rfl d_Mo_step_35,
   ts_iload_n hC d_Mo_step_38 rfl,
   ts_iaload hC d_Mo_step_39,
   ts_iconst hC d_Mo_step_40 (by decide),
   ts_iand hC d_Mo_step_41,
   ts_ifeq hC d_Mo_step_42 (by decide),
   ts_aload_n hC d_Mo_step_45 rfl,
   ts_iload_n hC d_Mo_step_46 rfl,
   ts_bipush hC d_Mo_step_47 (by decide),
   ts_iconst hC d_Mo_step_49 (by decide),
   ts_callv (C := R_Mo) (T := T_Mo) hC con_Mo_add wd_540 wd_30 (by decide +kernel) ⟨by decide, by decide⟩ ⟨Nat.zero_le _, Nat.zero_le _⟩ wd_537 rfl rfl wd_539 wd_2 d_Mo_step_50,
   ts_aload_n hC d_Mo_step_53 rfl,
   ts_iload_n hC d_Mo_step_54 rfl,
   ts_ldc hC wd_608 d_Mo_step_55,
   ts_iload_n hC d_Mo_step_57 rfl,
   ts_iconst hC d_Mo_step_58 (by decide),
   ts_iand hC d_Mo_step_59,
   ts_ifeq hC d_Mo_step_60 (by decide),
   ts_bipush hC d_Mo_step_63 (by decide),
   ts_goto hC d_Mo_step_65 (by decide),
   ts_iconst hC d_Mo_step_68 (by decide),
   ts_iadd hC d_Mo_step_69,
   ts_iconst hC d_Mo_step_70 (by decide),
   ts_callv (C := R_Mo) (T := T_Mo) hC con_Mo_trap wd_612 wd_30 (by decide +kernel) ⟨by decide, by decide⟩ ⟨Nat.zero_le _, Nat.zero_le _⟩ wd_609 rfl rfl wd_611 wd_9 d_Mo_step_71,
   ts_iconst hC d_Mo_step_74 (by decide),
   ts_iret hC rfl d_Mo_step_75,
   ts_aload_n hC d_Mo_step_76 rfl,
   ts_iload_n hC d_Mo_step_77 rfl,
   ts_aload_n hC d_Mo_step_78 rfl,
   ts_gr (j := 6) (C := R_Mo) (T := T_Mo) hC rfl rfl rfl (by decide) u_Mo wd_462 rfl d_Mo_step_79,
   ts_iload_n hC d_Mo_step_82 rfl,
   ts_iaload hC d_Mo_step_83,
   ts_iconst hC d_Mo_step_84 (by decide),
   ts_callv (C := R_Mo) (T := T_Mo) hC con_Mo_access wd_616 wd_30 (by decide +kernel) ⟨by decide, by decide⟩ ⟨Nat.zero_le _, Nat.zero_le _⟩ wd_613 rfl rfl wd_615 wd_10 d_Mo_step_85,
   ts_istore hC d_Mo_step_88 (by decide),
   ts_iload hC d_Mo_step_90,
   ts_ifge hC d_Mo_step_92 (by decide),
   ts_iconst hC d_Mo_step_95 (by decide),
   ts_iret hC rfl d_Mo_step_96,
   ts_aload_n hC d_Mo_step_97 rfl,
   ts_gr (j := 3) (C := R_Mo) (T := T_Mo) hC rfl rfl rfl (by decide) u_Mo wd_459 rfl d_Mo_step_98,
   ts_sipush hC d_Mo_step_101 (by decide),
   ts_iload_n hC d_Mo_step_104 rfl,
   ts_imul hC d_Mo_step_105,
   ts_iload hC d_Mo_step_106,
   ts_iadd hC d_Mo_step_108,
   ts_iaload hC d_Mo_step_109,
   ts_istore hC d_Mo_step_110 (by decide),
   ts_iload hC d_Mo_step_112,
   ts_bipush hC d_Mo_step_114 (by decide),
   ts_iand hC d_Mo_step_116,
   ts_istore hC d_Mo_step_117 (by decide),
   ts_iload hC d_Mo_step_119,
   ts_bipush hC d_Mo_step_121 (by decide),
   ts_clt hC d_Mo_step_123 (by decide),
   ts_aload_n hC d_Mo_step_126 rfl,
   ts_iload_n hC d_Mo_step_127 rfl,
   ts_iconst hC d_Mo_step_128 (by decide),
   ts_iconst hC d_Mo_step_129 (by decide),
   ts_callv (C := R_Mo) (T := T_Mo) hC con_Mo_add wd_540 wd_30 (by decide +kernel) ⟨by decide, by decide⟩ ⟨Nat.zero_le _, Nat.zero_le _⟩ wd_537 rfl rfl wd_539 wd_2 d_Mo_step_130,
   ts_aload_n hC d_Mo_step_133 rfl,
   ts_iload_n hC d_Mo_step_134 rfl,
   ts_iload hC d_Mo_step_135,
   ts_iload hC d_Mo_step_137,
   ts_iload_n hC d_Mo_step_139 rfl,
   ts_callv (C := R_Mo) (T := T_Mo) hC con_Mo_special wd_647 wd_30 (by decide +kernel) ⟨by decide, by decide⟩ ⟨Nat.zero_le _, Nat.zero_le _⟩ wd_644 rfl rfl wd_646 wd_17 d_Mo_step_140,
   ts_iret hC rfl d_Mo_step_143,
   ts_aload_n hC d_Mo_step_144 rfl,
   ts_gr (j := 4) (C := R_Mo) (T := T_Mo) hC rfl rfl rfl (by decide) u_Mo wd_460 rfl d_Mo_step_145,
   ts_bipush hC d_Mo_step_148 (by decide),
   ts_iload_n hC d_Mo_step_150 rfl,
   ts_imul hC d_Mo_step_151,
   ts_iload hC d_Mo_step_152,
   ts_bipush hC d_Mo_step_154 (by decide),
   ts_ishr hC d_Mo_step_156,
   ts_bipush hC d_Mo_step_157 (by decide),
   ts_iand hC d_Mo_step_159,
   ts_iadd hC d_Mo_step_160,
   ts_iaload hC d_Mo_step_161,
   ts_istore hC d_Mo_step_162 (by decide),
   ts_aload_n hC d_Mo_step_164 rfl,
   ts_gr (j := 4) (C := R_Mo) (T := T_Mo) hC rfl rfl rfl (by decide) u_Mo wd_460 rfl d_Mo_step_165,
   ts_bipush hC d_Mo_step_168 (by decide),
   ts_iload_n hC d_Mo_step_170 rfl,
   ts_imul hC d_Mo_step_171,
   ts_iload hC d_Mo_step_172,
   ts_bipush hC d_Mo_step_174 (by decide),
   ts_ishr hC d_Mo_step_176,
   ts_bipush hC d_Mo_step_177 (by decide),
   ts_iand hC d_Mo_step_179,
   ts_iadd hC d_Mo_step_180,
   ts_iaload hC d_Mo_step_181,
   ts_istore hC d_Mo_step_182 (by decide),
   ts_iload hC d_Mo_step_184,
   ts_bipush hC d_Mo_step_186 (by decide),
   ts_ishr hC d_Mo_step_188,
   ts_istore hC d_Mo_step_189 (by decide),
   ts_iload hC d_Mo_step_191,
   ts_iconst hC d_Mo_step_193 (by decide),
   ts_ishr hC d_Mo_step_194,
   ts_bipush hC d_Mo_step_195 (by decide),
   ts_iand hC d_Mo_step_197,
   ts_istore hC d_Mo_step_198 (by decide),
   ts_iload hC d_Mo_step_200,
   ts_bipush hC d_Mo_step_202 (by decide),
   ts_cge hC d_Mo_step_204 (by decide),
   ts_iload hC d_Mo_step_207,
   ts_iload hC d_Mo_step_209,
   ts_iload hC d_Mo_step_211,
   ts_iload hC d_Mo_step_213,
   ts_calls hC con_Mo_calculate wd_667 wd_30 (by decide +kernel) ⟨by decide, by decide⟩ ⟨Nat.zero_le _, Nat.zero_le _⟩ wd_665 wd_666 d_Mo_step_215,
   ts_istore hC d_Mo_step_218 (by decide),
   ts_aload_n hC d_Mo_step_220 rfl,
   ts_iload_n hC d_Mo_step_221 rfl,
   ts_iload hC d_Mo_step_222,
   ts_iload hC d_Mo_step_224,
   ts_callv (C := R_Mo) (T := T_Mo) hC con_Mo_put wd_552 wd_30 (by decide +kernel) ⟨by decide, by decide⟩ ⟨Nat.zero_le _, Nat.zero_le _⟩ wd_549 rfl rfl wd_551 wd_3 d_Mo_step_226,
   ts_aload_n hC d_Mo_step_229 rfl,
   ts_iload_n hC d_Mo_step_230 rfl,
   ts_aload_n hC d_Mo_step_231 rfl,
   ts_gr (j := 6) (C := R_Mo) (T := T_Mo) hC rfl rfl rfl (by decide) u_Mo wd_462 rfl d_Mo_step_232,
   ts_iload_n hC d_Mo_step_235 rfl,
   ts_iaload hC d_Mo_step_236,
   ts_iconst hC d_Mo_step_237 (by decide),
   ts_iadd hC d_Mo_step_238,
   ts_callv (C := R_Mo) (T := T_Mo) hC con_Mo_retire wd_664 wd_30 (by decide +kernel) ⟨by decide, by decide⟩ ⟨Nat.zero_le _, Nat.zero_le _⟩ wd_661 rfl rfl wd_663 wd_21 d_Mo_step_239,
   ts_iret hC rfl d_Mo_step_242,
   ts_iload hC d_Mo_step_243,
   ts_bipush hC d_Mo_step_245 (by decide),
   ts_cge hC d_Mo_step_247 (by decide),
   ts_aload_n hC d_Mo_step_250 rfl,
   ts_iload_n hC d_Mo_step_251 rfl,
   ts_iload hC d_Mo_step_252,
   ts_iload hC d_Mo_step_254,
   ts_iload hC d_Mo_step_256,
   ts_iload hC d_Mo_step_258,
   ts_iadd hC d_Mo_step_260,
   ts_iload hC d_Mo_step_261,
   ts_callv (C := R_Mo) (T := T_Mo) hC con_Mo_data wd_671 wd_30 (by decide +kernel) ⟨by decide, by decide⟩ ⟨Nat.zero_le _, Nat.zero_le _⟩ wd_668 rfl rfl wd_670 wd_22 d_Mo_step_263,
   ts_iret hC rfl d_Mo_step_266,
   ts_iload hC d_Mo_step_267,
   ts_bipush hC d_Mo_step_269 (by decide),
   ts_cge hC d_Mo_step_271 (by decide),
   ts_iload hC d_Mo_step_274,
   ts_bipush hC d_Mo_step_276 (by decide),
   ts_cne hC d_Mo_step_278 (by decide),
   ts_iload hC d_Mo_step_281,
   ts_iload hC d_Mo_step_283,
   ts_cne hC d_Mo_step_285 (by decide),
   ts_iconst hC d_Mo_step_288 (by decide),
   ts_goto hC d_Mo_step_289 (by decide),
   ts_iconst hC d_Mo_step_292 (by decide),
   ts_goto hC d_Mo_step_293 (by decide),
   ts_iload hC d_Mo_step_296,
   ts_bipush hC d_Mo_step_298 (by decide),
   ts_cne hC d_Mo_step_300 (by decide),
   ts_iload hC d_Mo_step_303,
   ts_iload hC d_Mo_step_305,
   ts_ceq hC d_Mo_step_307 (by decide),
   ts_iconst hC d_Mo_step_310 (by decide),
   ts_goto hC d_Mo_step_311 (by decide),
   ts_iconst hC d_Mo_step_314 (by decide),
   ts_goto hC d_Mo_step_315 (by decide),
   ts_iload hC d_Mo_step_318,
   ts_iload hC d_Mo_step_320,
   ts_cge hC d_Mo_step_322 (by decide),
   ts_iconst hC d_Mo_step_325 (by decide),
   ts_goto hC d_Mo_step_326 (by decide),
   ts_iconst hC d_Mo_step_329 (by decide),
   ts_istore hC d_Mo_step_330 (by decide),
   ts_aload_n hC d_Mo_step_332 rfl,
   ts_iload_n hC d_Mo_step_333 rfl,
   ts_iload hC d_Mo_step_334,
   ts_ifeq hC d_Mo_step_336 (by decide),
   ts_aload_n hC d_Mo_step_339 rfl,
   ts_gr (j := 6) (C := R_Mo) (T := T_Mo) hC rfl rfl rfl (by decide) u_Mo wd_462 rfl d_Mo_step_340,
   ts_iload_n hC d_Mo_step_343 rfl,
   ts_iaload hC d_Mo_step_344,
   ts_iload hC d_Mo_step_345,
   ts_iadd hC d_Mo_step_347,
   ts_goto hC d_Mo_step_348 (by decide),
   ts_aload_n hC d_Mo_step_351 rfl,
   ts_gr (j := 6) (C := R_Mo) (T := T_Mo) hC rfl rfl rfl (by decide) u_Mo wd_462 rfl d_Mo_step_352,
   ts_iload_n hC d_Mo_step_355 rfl,
   ts_iaload hC d_Mo_step_356,
   ts_iconst hC d_Mo_step_357 (by decide),
   ts_iadd hC d_Mo_step_358,
   ts_callv (C := R_Mo) (T := T_Mo) hC con_Mo_retire wd_664 wd_30 (by decide +kernel) ⟨by decide, by decide⟩ ⟨Nat.zero_le _, Nat.zero_le _⟩ wd_661 rfl rfl wd_663 wd_21 d_Mo_step_359,
   ts_iret hC rfl d_Mo_step_362,
   ts_aload_n hC d_Mo_step_363 rfl,
   ts_iload_n hC d_Mo_step_364 rfl,
   ts_iload hC d_Mo_step_365,
   ts_aload_n hC d_Mo_step_367 rfl,
   ts_gr (j := 6) (C := R_Mo) (T := T_Mo) hC rfl rfl rfl (by decide) u_Mo wd_462 rfl d_Mo_step_368,
   ts_iload_n hC d_Mo_step_371 rfl,
   ts_iaload hC d_Mo_step_372,
   ts_iconst hC d_Mo_step_373 (by decide),
   ts_iadd hC d_Mo_step_374,
   ts_callv (C := R_Mo) (T := T_Mo) hC con_Mo_put wd_552 wd_30 (by decide +kernel) ⟨by decide, by decide⟩ ⟨Nat.zero_le _, Nat.zero_le _⟩ wd_549 rfl rfl wd_551 wd_3 d_Mo_step_375,
   ts_aload_n hC d_Mo_step_378 rfl,
   ts_iload_n hC d_Mo_step_379 rfl,
   ts_iload hC d_Mo_step_380,
   ts_bipush hC d_Mo_step_382 (by decide),
   ts_cne hC d_Mo_step_384 (by decide),
   ts_aload_n hC d_Mo_step_387 rfl,
   ts_gr (j := 6) (C := R_Mo) (T := T_Mo) hC rfl rfl rfl (by decide) u_Mo wd_462 rfl d_Mo_step_388,
   ts_iload_n hC d_Mo_step_391 rfl,
   ts_iaload hC d_Mo_step_392,
   ts_iload hC d_Mo_step_393,
   ts_iadd hC d_Mo_step_395,
   ts_goto hC d_Mo_step_396 (by decide),
   ts_iload hC d_Mo_step_399,
   ts_iload hC d_Mo_step_401,
   ts_iadd hC d_Mo_step_403,
   ts_callv (C := R_Mo) (T := T_Mo) hC con_Mo_retire wd_664 wd_30 (by decide +kernel) ⟨by decide, by decide⟩ ⟨Nat.zero_le _, Nat.zero_le _⟩ wd_661 rfl rfl wd_663 wd_21 d_Mo_step_404,
   ts_iret hC rfl d_Mo_step_407,
   trivial⟩
noncomputable def fn_Mo_step : tw_Fn := tw_fl 2 12 241 pr_Mo_step
theorem con_Mo_step : tw_Con y_Mo_step b_Mo_step 12 (some .int) 7 fn_Mo_step := tw_met (by decide +kernel) (tw_fl_len (n := 2) (by decide)) (fun p l e s m args below meth c E D vs σ ρ hC h => tw_sound (ok_Mo_step hC) 241 pr_Mo_step (ok_Mo_step hC) _ _ _ (tw_fl_get h))
