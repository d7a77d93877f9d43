/-! The law's loop. -/
theorem wd_177 : Cond.methodLink "TwinHostLaw" 21 y_TH_poke ∈ tw_Tb := tw_in 177 (by decide +kernel) (by decide +kernel)
theorem wd_178 : Cond.instanceMethod y_TH_poke ∈ tw_Tb := tw_in 178 (by decide +kernel) (by decide +kernel)
theorem wd_179 : Cond.selects R_TH y_TH_poke y_TH_poke ∈ tw_Tb := tw_in 179 (by decide +kernel) (by decide +kernel)
theorem wd_180 : Cond.code y_TH_poke b_TH_poke 4 (some .int) ∈ tw_Tb := tw_in 180 (by decide +kernel) (by decide +kernel)
theorem wd_195 : Cond.methodLink "TwinHostLaw" 26 y_TH_peek ∈ tw_Tb := tw_in 195 (by decide +kernel) (by decide +kernel)
theorem wd_196 : Cond.instanceMethod y_TH_peek ∈ tw_Tb := tw_in 196 (by decide +kernel) (by decide +kernel)
theorem wd_197 : Cond.selects R_TH y_TH_peek y_TH_peek ∈ tw_Tb := tw_in 197 (by decide +kernel) (by decide +kernel)
theorem wd_198 : Cond.code y_TH_peek b_TH_peek 3 (some .int) ∈ tw_Tb := tw_in 198 (by decide +kernel) (by decide +kernel)
theorem wd_199 : Cond.methodLink "TwinHostLaw" 31 y_TH_give ∈ tw_Tb := tw_in 199 (by decide +kernel) (by decide +kernel)
theorem wd_200 : Cond.instanceMethod y_TH_give ∈ tw_Tb := tw_in 200 (by decide +kernel) (by decide +kernel)
theorem wd_201 : Cond.selects R_TH y_TH_give y_TH_give ∈ tw_Tb := tw_in 201 (by decide +kernel) (by decide +kernel)
theorem wd_202 : Cond.code y_TH_give b_TH_give 4 (some .boolean) ∈ tw_Tb := tw_in 202 (by decide +kernel) (by decide +kernel)
theorem wd_210 : Cond.methodLink "TwinHostLaw" 36 y_TH_register ∈ tw_Tb := tw_in 210 (by decide +kernel) (by decide +kernel)
theorem wd_211 : Cond.instanceMethod y_TH_register ∈ tw_Tb := tw_in 211 (by decide +kernel) (by decide +kernel)
theorem wd_212 : Cond.selects R_TH y_TH_register y_TH_register ∈ tw_Tb := tw_in 212 (by decide +kernel) (by decide +kernel)
theorem wd_213 : Cond.code y_TH_register b_TH_register 3 (some .int) ∈ tw_Tb := tw_in 213 (by decide +kernel) (by decide +kernel)
theorem wd_214 : Cond.methodLink "TwinHostLaw" 40 y_TH_command ∈ tw_Tb := tw_in 214 (by decide +kernel) (by decide +kernel)
theorem wd_215 : Cond.instanceMethod y_TH_command ∈ tw_Tb := tw_in 215 (by decide +kernel) (by decide +kernel)
theorem wd_216 : Cond.selects R_TH y_TH_command y_TH_command ∈ tw_Tb := tw_in 216 (by decide +kernel) (by decide +kernel)
theorem wd_217 : Cond.code y_TH_command b_TH_command 4 (some .boolean) ∈ tw_Tb := tw_in 217 (by decide +kernel) (by decide +kernel)
theorem wd_240 : Cond.methodLink "TwinHostLaw" 44 y_TH_control ∈ tw_Tb := tw_in 240 (by decide +kernel) (by decide +kernel)
theorem wd_241 : Cond.instanceMethod y_TH_control ∈ tw_Tb := tw_in 241 (by decide +kernel) (by decide +kernel)
theorem wd_242 : Cond.selects R_TH y_TH_control y_TH_control ∈ tw_Tb := tw_in 242 (by decide +kernel) (by decide +kernel)
theorem wd_243 : Cond.code y_TH_control b_TH_control 3 (some .int) ∈ tw_Tb := tw_in 243 (by decide +kernel) (by decide +kernel)
theorem wd_257 : Cond.methodLink "TwinHostLaw" 48 y_TH_place ∈ tw_Tb := tw_in 257 (by decide +kernel) (by decide +kernel)
theorem wd_258 : Cond.instanceMethod y_TH_place ∈ tw_Tb := tw_in 258 (by decide +kernel) (by decide +kernel)
theorem wd_259 : Cond.selects R_TH y_TH_place y_TH_place ∈ tw_Tb := tw_in 259 (by decide +kernel) (by decide +kernel)
theorem wd_260 : Cond.code y_TH_place b_TH_place 4 (some .boolean) ∈ tw_Tb := tw_in 260 (by decide +kernel) (by decide +kernel)
theorem wd_261 : Cond.methodLink "TwinHostLaw" 53 y_TH_pc ∈ tw_Tb := tw_in 261 (by decide +kernel) (by decide +kernel)
theorem wd_262 : Cond.instanceMethod y_TH_pc ∈ tw_Tb := tw_in 262 (by decide +kernel) (by decide +kernel)
theorem wd_263 : Cond.selects R_TH y_TH_pc y_TH_pc ∈ tw_Tb := tw_in 263 (by decide +kernel) (by decide +kernel)
theorem wd_264 : Cond.code y_TH_pc b_TH_pc 2 (some .int) ∈ tw_Tb := tw_in 264 (by decide +kernel) (by decide +kernel)
theorem wd_265 : Cond.methodLink "TwinHostLaw" 58 y_TH_user ∈ tw_Tb := tw_in 265 (by decide +kernel) (by decide +kernel)
theorem wd_266 : Cond.instanceMethod y_TH_user ∈ tw_Tb := tw_in 266 (by decide +kernel) (by decide +kernel)
theorem wd_267 : Cond.selects R_TH y_TH_user y_TH_user ∈ tw_Tb := tw_in 267 (by decide +kernel) (by decide +kernel)
theorem wd_268 : Cond.code y_TH_user b_TH_user 2 (some .boolean) ∈ tw_Tb := tw_in 268 (by decide +kernel) (by decide +kernel)
theorem wd_269 : Cond.methodLink "TwinHostLaw" 63 y_TH_input ∈ tw_Tb := tw_in 269 (by decide +kernel) (by decide +kernel)
theorem wd_270 : Cond.instanceMethod y_TH_input ∈ tw_Tb := tw_in 270 (by decide +kernel) (by decide +kernel)
theorem wd_271 : Cond.selects R_TH y_TH_input y_TH_input ∈ tw_Tb := tw_in 271 (by decide +kernel) (by decide +kernel)
theorem wd_272 : Cond.code y_TH_input b_TH_input 4 (some .boolean) ∈ tw_Tb := tw_in 272 (by decide +kernel) (by decide +kernel)
theorem wd_277 : Cond.methodLink "TwinHostLaw" 67 y_TH_run ∈ tw_Tb := tw_in 277 (by decide +kernel) (by decide +kernel)
theorem wd_278 : Cond.instanceMethod y_TH_run ∈ tw_Tb := tw_in 278 (by decide +kernel) (by decide +kernel)
theorem wd_279 : Cond.selects R_TH y_TH_run y_TH_run ∈ tw_Tb := tw_in 279 (by decide +kernel) (by decide +kernel)
theorem wd_280 : Cond.code y_TH_run b_TH_run 5 (some .int) ∈ tw_Tb := tw_in 280 (by decide +kernel) (by decide +kernel)
theorem wd_425 : Cond.methodLink "TwinHostLaw" 71 y_TH_turn ∈ tw_Tb := tw_in 425 (by decide +kernel) (by decide +kernel)
theorem wd_426 : Cond.instanceMethod y_TH_turn ∈ tw_Tb := tw_in 426 (by decide +kernel) (by decide +kernel)
theorem wd_427 : Cond.selects R_TH y_TH_turn y_TH_turn ∈ tw_Tb := tw_in 427 (by decide +kernel) (by decide +kernel)
theorem wd_428 : Cond.code y_TH_turn b_TH_turn 1 (some .int) ∈ tw_Tb := tw_in 428 (by decide +kernel) (by decide +kernel)
theorem wd_429 : Cond.methodLink "TwinHostLaw" 76 y_TH_shadow ∈ tw_Tb := tw_in 429 (by decide +kernel) (by decide +kernel)
theorem wd_430 : Cond.instanceMethod y_TH_shadow ∈ tw_Tb := tw_in 430 (by decide +kernel) (by decide +kernel)
theorem wd_431 : Cond.selects R_TH y_TH_shadow y_TH_shadow ∈ tw_Tb := tw_in 431 (by decide +kernel) (by decide +kernel)
theorem wd_432 : Cond.code y_TH_shadow b_TH_shadow 3 (some .int) ∈ tw_Tb := tw_in 432 (by decide +kernel) (by decide +kernel)
theorem wd_437 : Cond.methodLink "TwinHostLaw" 80 y_TH_traced ∈ tw_Tb := tw_in 437 (by decide +kernel) (by decide +kernel)
theorem wd_438 : Cond.instanceMethod y_TH_traced ∈ tw_Tb := tw_in 438 (by decide +kernel) (by decide +kernel)
theorem wd_439 : Cond.selects R_TH y_TH_traced y_TH_traced ∈ tw_Tb := tw_in 439 (by decide +kernel) (by decide +kernel)
theorem wd_440 : Cond.code y_TH_traced b_TH_traced 3 (some .boolean) ∈ tw_Tb := tw_in 440 (by decide +kernel) (by decide +kernel)
theorem wd_442 : Cond.methodLink "TwinHostLaw" 85 y_TH_count ∈ tw_Tb := tw_in 442 (by decide +kernel) (by decide +kernel)
theorem wd_443 : Cond.instanceMethod y_TH_count ∈ tw_Tb := tw_in 443 (by decide +kernel) (by decide +kernel)
theorem wd_444 : Cond.selects R_TH y_TH_count y_TH_count ∈ tw_Tb := tw_in 444 (by decide +kernel) (by decide +kernel)
theorem wd_445 : Cond.code y_TH_count b_TH_count 3 (some .int) ∈ tw_Tb := tw_in 445 (by decide +kernel) (by decide +kernel)
theorem wd_518 : Cond.methodLink "TwinHostLaw" 79 y_Mo_shadow ∈ tw_Tb := tw_in 518 (by decide +kernel) (by decide +kernel)
theorem wd_519 : Cond.instanceMethod y_Mo_shadow ∈ tw_Tb := tw_in 519 (by decide +kernel) (by decide +kernel)
theorem wd_520 : Cond.selects R_Mo y_Mo_shadow y_Mo_shadow ∈ tw_Tb := tw_in 520 (by decide +kernel) (by decide +kernel)
theorem wd_521 : Cond.code y_Mo_shadow b_Mo_shadow 4 (some .int) ∈ tw_Tb := tw_in 521 (by decide +kernel) (by decide +kernel)
theorem wd_525 : Cond.methodLink "TwinHostLaw" 84 y_Mo_traced ∈ tw_Tb := tw_in 525 (by decide +kernel) (by decide +kernel)
theorem wd_529 : Cond.methodLink "TwinHostLaw" 25 y_Mo_poke ∈ tw_Tb := tw_in 529 (by decide +kernel) (by decide +kernel)
theorem wd_530 : Cond.instanceMethod y_Mo_poke ∈ tw_Tb := tw_in 530 (by decide +kernel) (by decide +kernel)
theorem wd_531 : Cond.selects R_Mo y_Mo_poke y_Mo_poke ∈ tw_Tb := tw_in 531 (by decide +kernel) (by decide +kernel)
theorem wd_532 : Cond.code y_Mo_poke b_Mo_poke 5 (some .int) ∈ tw_Tb := tw_in 532 (by decide +kernel) (by decide +kernel)
theorem wd_541 : Cond.methodLink "TwinHostLaw" 30 y_Mo_peek ∈ tw_Tb := tw_in 541 (by decide +kernel) (by decide +kernel)
theorem wd_542 : Cond.instanceMethod y_Mo_peek ∈ tw_Tb := tw_in 542 (by decide +kernel) (by decide +kernel)
theorem wd_543 : Cond.selects R_Mo y_Mo_peek y_Mo_peek ∈ tw_Tb := tw_in 543 (by decide +kernel) (by decide +kernel)
theorem wd_544 : Cond.code y_Mo_peek b_Mo_peek 3 (some .int) ∈ tw_Tb := tw_in 544 (by decide +kernel) (by decide +kernel)
theorem wd_545 : Cond.methodLink "TwinHostLaw" 35 y_Mo_give ∈ tw_Tb := tw_in 545 (by decide +kernel) (by decide +kernel)
theorem wd_546 : Cond.instanceMethod y_Mo_give ∈ tw_Tb := tw_in 546 (by decide +kernel) (by decide +kernel)
theorem wd_547 : Cond.selects R_Mo y_Mo_give y_Mo_give ∈ tw_Tb := tw_in 547 (by decide +kernel) (by decide +kernel)
theorem wd_548 : Cond.code y_Mo_give b_Mo_give 4 (some .boolean) ∈ tw_Tb := tw_in 548 (by decide +kernel) (by decide +kernel)
theorem wd_553 : Cond.methodLink "TwinHostLaw" 39 y_Mo_register ∈ tw_Tb := tw_in 553 (by decide +kernel) (by decide +kernel)
theorem wd_554 : Cond.instanceMethod y_Mo_register ∈ tw_Tb := tw_in 554 (by decide +kernel) (by decide +kernel)
theorem wd_555 : Cond.selects R_Mo y_Mo_register y_Mo_register ∈ tw_Tb := tw_in 555 (by decide +kernel) (by decide +kernel)
theorem wd_556 : Cond.code y_Mo_register b_Mo_register 3 (some .int) ∈ tw_Tb := tw_in 556 (by decide +kernel) (by decide +kernel)
theorem wd_557 : Cond.methodLink "TwinHostLaw" 43 y_Mo_command ∈ tw_Tb := tw_in 557 (by decide +kernel) (by decide +kernel)
theorem wd_558 : Cond.instanceMethod y_Mo_command ∈ tw_Tb := tw_in 558 (by decide +kernel) (by decide +kernel)
theorem wd_559 : Cond.selects R_Mo y_Mo_command y_Mo_command ∈ tw_Tb := tw_in 559 (by decide +kernel) (by decide +kernel)
theorem wd_560 : Cond.code y_Mo_command b_Mo_command 4 (some .boolean) ∈ tw_Tb := tw_in 560 (by decide +kernel) (by decide +kernel)
theorem wd_572 : Cond.methodLink "TwinHostLaw" 47 y_Mo_control ∈ tw_Tb := tw_in 572 (by decide +kernel) (by decide +kernel)
theorem wd_584 : Cond.methodLink "TwinHostLaw" 52 y_Mo_place ∈ tw_Tb := tw_in 584 (by decide +kernel) (by decide +kernel)
theorem wd_585 : Cond.instanceMethod y_Mo_place ∈ tw_Tb := tw_in 585 (by decide +kernel) (by decide +kernel)
theorem wd_586 : Cond.selects R_Mo y_Mo_place y_Mo_place ∈ tw_Tb := tw_in 586 (by decide +kernel) (by decide +kernel)
theorem wd_587 : Cond.code y_Mo_place b_Mo_place 4 (some .boolean) ∈ tw_Tb := tw_in 587 (by decide +kernel) (by decide +kernel)
theorem wd_588 : Cond.methodLink "TwinHostLaw" 57 y_Mo_pc ∈ tw_Tb := tw_in 588 (by decide +kernel) (by decide +kernel)
theorem wd_589 : Cond.instanceMethod y_Mo_pc ∈ tw_Tb := tw_in 589 (by decide +kernel) (by decide +kernel)
theorem wd_590 : Cond.selects R_Mo y_Mo_pc y_Mo_pc ∈ tw_Tb := tw_in 590 (by decide +kernel) (by decide +kernel)
theorem wd_591 : Cond.code y_Mo_pc b_Mo_pc 2 (some .int) ∈ tw_Tb := tw_in 591 (by decide +kernel) (by decide +kernel)
theorem wd_592 : Cond.methodLink "TwinHostLaw" 62 y_Mo_user ∈ tw_Tb := tw_in 592 (by decide +kernel) (by decide +kernel)
theorem wd_593 : Cond.instanceMethod y_Mo_user ∈ tw_Tb := tw_in 593 (by decide +kernel) (by decide +kernel)
theorem wd_594 : Cond.selects R_Mo y_Mo_user y_Mo_user ∈ tw_Tb := tw_in 594 (by decide +kernel) (by decide +kernel)
theorem wd_595 : Cond.code y_Mo_user b_Mo_user 2 (some .boolean) ∈ tw_Tb := tw_in 595 (by decide +kernel) (by decide +kernel)
theorem wd_596 : Cond.methodLink "TwinHostLaw" 66 y_Mo_input ∈ tw_Tb := tw_in 596 (by decide +kernel) (by decide +kernel)
theorem wd_597 : Cond.instanceMethod y_Mo_input ∈ tw_Tb := tw_in 597 (by decide +kernel) (by decide +kernel)
theorem wd_598 : Cond.selects R_Mo y_Mo_input y_Mo_input ∈ tw_Tb := tw_in 598 (by decide +kernel) (by decide +kernel)
theorem wd_599 : Cond.code y_Mo_input b_Mo_input 4 (some .boolean) ∈ tw_Tb := tw_in 599 (by decide +kernel) (by decide +kernel)
theorem wd_600 : Cond.methodLink "TwinHostLaw" 70 y_Mo_run ∈ tw_Tb := tw_in 600 (by decide +kernel) (by decide +kernel)
theorem wd_601 : Cond.instanceMethod y_Mo_run ∈ tw_Tb := tw_in 601 (by decide +kernel) (by decide +kernel)
theorem wd_602 : Cond.selects R_Mo y_Mo_run y_Mo_run ∈ tw_Tb := tw_in 602 (by decide +kernel) (by decide +kernel)
theorem wd_603 : Cond.code y_Mo_run b_Mo_run 6 (some .int) ∈ tw_Tb := tw_in 603 (by decide +kernel) (by decide +kernel)
theorem wd_673 : Cond.methodLink "TwinHostLaw" 75 y_Mo_turn ∈ tw_Tb := tw_in 673 (by decide +kernel) (by decide +kernel)
theorem wd_674 : Cond.instanceMethod y_Mo_turn ∈ tw_Tb := tw_in 674 (by decide +kernel) (by decide +kernel)
theorem wd_675 : Cond.selects R_Mo y_Mo_turn y_Mo_turn ∈ tw_Tb := tw_in 675 (by decide +kernel) (by decide +kernel)
theorem wd_676 : Cond.code y_Mo_turn b_Mo_turn 1 (some .int) ∈ tw_Tb := tw_in 676 (by decide +kernel) (by decide +kernel)
theorem wd_677 : Cond.methodLink "TwinHostLaw" 88 y_Mo_count ∈ tw_Tb := tw_in 677 (by decide +kernel) (by decide +kernel)
theorem wd_678 : Cond.instanceMethod y_Mo_count ∈ tw_Tb := tw_in 678 (by decide +kernel) (by decide +kernel)
theorem wd_679 : Cond.selects R_Mo y_Mo_count y_Mo_count ∈ tw_Tb := tw_in 679 (by decide +kernel) (by decide +kernel)
theorem wd_680 : Cond.code y_Mo_count b_Mo_count 3 (some .int) ∈ tw_Tb := tw_in 680 (by decide +kernel) (by decide +kernel)
theorem d_law_28 : decode code 28 = .ok (.iload_n 3, 1) := by decide +kernel
theorem d_law_29 : decode code 29 = .ok (.aload_n 0, 1) := by decide +kernel
theorem d_law_30 : decode code 30 = .ok (.arraylength, 1) := by decide +kernel
theorem d_law_31 : decode code 31 = .ok (.iconst 4, 1) := by decide +kernel
theorem d_law_32 : decode code 32 = .ok (.isub, 1) := by decide +kernel
theorem d_law_33 : decode code 33 = .ok (.if_icmp .gt 600, 3) := by decide +kernel
theorem d_law_36 : decode code 36 = .ok (.aload_n 0, 1) := by decide +kernel
theorem d_law_37 : decode code 37 = .ok (.iload_n 3, 1) := by decide +kernel
theorem d_law_38 : decode code 38 = .ok (.iaload, 1) := by decide +kernel
theorem d_law_39 : decode code 39 = .ok (.bipush 15, 2) := by decide +kernel
theorem d_law_41 : decode code 41 = .ok (.iand, 1) := by decide +kernel
theorem d_law_42 : decode code 42 = .ok (.tableswitch 585 0 14 #[74, 117, 150, 193, 226, 269, 302, 361, 384, 407, 450, 473, 486, 519, 552], 74) := by decide +kernel
theorem d_law_116 : decode code 116 = .ok (.aload_n 1, 1) := by decide +kernel
theorem d_law_117 : decode code 117 = .ok (.aload_n 0, 1) := by decide +kernel
theorem d_law_118 : decode code 118 = .ok (.iload_n 3, 1) := by decide +kernel
theorem d_law_119 : decode code 119 = .ok (.iconst 1, 1) := by decide +kernel
theorem d_law_120 : decode code 120 = .ok (.iadd, 1) := by decide +kernel
theorem d_law_121 : decode code 121 = .ok (.iaload, 1) := by decide +kernel
theorem d_law_122 : decode code 122 = .ok (.aload_n 0, 1) := by decide +kernel
theorem d_law_123 : decode code 123 = .ok (.iload_n 3, 1) := by decide +kernel
theorem d_law_124 : decode code 124 = .ok (.iconst 2, 1) := by decide +kernel
theorem d_law_125 : decode code 125 = .ok (.iadd, 1) := by decide +kernel
theorem d_law_126 : decode code 126 = .ok (.iaload, 1) := by decide +kernel
theorem d_law_127 : decode code 127 = .ok (.aload_n 0, 1) := by decide +kernel
theorem d_law_128 : decode code 128 = .ok (.iload_n 3, 1) := by decide +kernel
theorem d_law_129 : decode code 129 = .ok (.iconst 3, 1) := by decide +kernel
theorem d_law_130 : decode code 130 = .ok (.iadd, 1) := by decide +kernel
theorem d_law_131 : decode code 131 = .ok (.iaload, 1) := by decide +kernel
theorem d_law_132 : decode code 132 = .ok (.invokevirtual 21, 3) := by decide +kernel
theorem d_law_135 : decode code 135 = .ok (.aload_n 2, 1) := by decide +kernel
theorem d_law_136 : decode code 136 = .ok (.aload_n 0, 1) := by decide +kernel
theorem d_law_137 : decode code 137 = .ok (.iload_n 3, 1) := by decide +kernel
theorem d_law_138 : decode code 138 = .ok (.iconst 1, 1) := by decide +kernel
theorem d_law_139 : decode code 139 = .ok (.iadd, 1) := by decide +kernel
theorem d_law_140 : decode code 140 = .ok (.iaload, 1) := by decide +kernel
theorem d_law_141 : decode code 141 = .ok (.aload_n 0, 1) := by decide +kernel
theorem d_law_142 : decode code 142 = .ok (.iload_n 3, 1) := by decide +kernel
theorem d_law_143 : decode code 143 = .ok (.iconst 2, 1) := by decide +kernel
theorem d_law_144 : decode code 144 = .ok (.iadd, 1) := by decide +kernel
theorem d_law_145 : decode code 145 = .ok (.iaload, 1) := by decide +kernel
theorem d_law_146 : decode code 146 = .ok (.aload_n 0, 1) := by decide +kernel
theorem d_law_147 : decode code 147 = .ok (.iload_n 3, 1) := by decide +kernel
theorem d_law_148 : decode code 148 = .ok (.iconst 3, 1) := by decide +kernel
theorem d_law_149 : decode code 149 = .ok (.iadd, 1) := by decide +kernel
theorem d_law_150 : decode code 150 = .ok (.iaload, 1) := by decide +kernel
theorem d_law_151 : decode code 151 = .ok (.invokevirtual 25, 3) := by decide +kernel
theorem d_law_154 : decode code 154 = .ok (.if_icmp .eq 473, 3) := by decide +kernel
theorem d_law_157 : decode code 157 = .ok (.iconst 0, 1) := by decide +kernel
theorem d_law_158 : decode code 158 = .ok (.ireturn, 1) := by decide +kernel
theorem d_law_159 : decode code 159 = .ok (.aload_n 1, 1) := by decide +kernel
theorem d_law_160 : decode code 160 = .ok (.aload_n 0, 1) := by decide +kernel
theorem d_law_161 : decode code 161 = .ok (.iload_n 3, 1) := by decide +kernel
theorem d_law_162 : decode code 162 = .ok (.iconst 1, 1) := by decide +kernel
theorem d_law_163 : decode code 163 = .ok (.iadd, 1) := by decide +kernel
theorem d_law_164 : decode code 164 = .ok (.iaload, 1) := by decide +kernel
theorem d_law_165 : decode code 165 = .ok (.aload_n 0, 1) := by decide +kernel
theorem d_law_166 : decode code 166 = .ok (.iload_n 3, 1) := by decide +kernel
theorem d_law_167 : decode code 167 = .ok (.iconst 2, 1) := by decide +kernel
theorem d_law_168 : decode code 168 = .ok (.iadd, 1) := by decide +kernel
theorem d_law_169 : decode code 169 = .ok (.iaload, 1) := by decide +kernel
theorem d_law_170 : decode code 170 = .ok (.invokevirtual 26, 3) := by decide +kernel
theorem d_law_173 : decode code 173 = .ok (.aload_n 2, 1) := by decide +kernel
theorem d_law_174 : decode code 174 = .ok (.aload_n 0, 1) := by decide +kernel
theorem d_law_175 : decode code 175 = .ok (.iload_n 3, 1) := by decide +kernel
theorem d_law_176 : decode code 176 = .ok (.iconst 1, 1) := by decide +kernel
theorem d_law_177 : decode code 177 = .ok (.iadd, 1) := by decide +kernel
theorem d_law_178 : decode code 178 = .ok (.iaload, 1) := by decide +kernel
theorem d_law_179 : decode code 179 = .ok (.aload_n 0, 1) := by decide +kernel
theorem d_law_180 : decode code 180 = .ok (.iload_n 3, 1) := by decide +kernel
theorem d_law_181 : decode code 181 = .ok (.iconst 2, 1) := by decide +kernel
theorem d_law_182 : decode code 182 = .ok (.iadd, 1) := by decide +kernel
theorem d_law_183 : decode code 183 = .ok (.iaload, 1) := by decide +kernel
theorem d_law_184 : decode code 184 = .ok (.invokevirtual 30, 3) := by decide +kernel
theorem d_law_187 : decode code 187 = .ok (.if_icmp .eq 440, 3) := by decide +kernel
theorem d_law_190 : decode code 190 = .ok (.iconst 0, 1) := by decide +kernel
theorem d_law_191 : decode code 191 = .ok (.ireturn, 1) := by decide +kernel
theorem d_law_192 : decode code 192 = .ok (.aload_n 1, 1) := by decide +kernel
theorem d_law_193 : decode code 193 = .ok (.aload_n 0, 1) := by decide +kernel
theorem d_law_194 : decode code 194 = .ok (.iload_n 3, 1) := by decide +kernel
theorem d_law_195 : decode code 195 = .ok (.iconst 1, 1) := by decide +kernel
theorem d_law_196 : decode code 196 = .ok (.iadd, 1) := by decide +kernel
theorem d_law_197 : decode code 197 = .ok (.iaload, 1) := by decide +kernel
theorem d_law_198 : decode code 198 = .ok (.aload_n 0, 1) := by decide +kernel
theorem d_law_199 : decode code 199 = .ok (.iload_n 3, 1) := by decide +kernel
theorem d_law_200 : decode code 200 = .ok (.iconst 2, 1) := by decide +kernel
theorem d_law_201 : decode code 201 = .ok (.iadd, 1) := by decide +kernel
theorem d_law_202 : decode code 202 = .ok (.iaload, 1) := by decide +kernel
theorem d_law_203 : decode code 203 = .ok (.aload_n 0, 1) := by decide +kernel
theorem d_law_204 : decode code 204 = .ok (.iload_n 3, 1) := by decide +kernel
theorem d_law_205 : decode code 205 = .ok (.iconst 3, 1) := by decide +kernel
theorem d_law_206 : decode code 206 = .ok (.iadd, 1) := by decide +kernel
theorem d_law_207 : decode code 207 = .ok (.iaload, 1) := by decide +kernel
theorem d_law_208 : decode code 208 = .ok (.invokevirtual 31, 3) := by decide +kernel
theorem d_law_211 : decode code 211 = .ok (.aload_n 2, 1) := by decide +kernel
theorem d_law_212 : decode code 212 = .ok (.aload_n 0, 1) := by decide +kernel
theorem d_law_213 : decode code 213 = .ok (.iload_n 3, 1) := by decide +kernel
theorem d_law_214 : decode code 214 = .ok (.iconst 1, 1) := by decide +kernel
theorem d_law_215 : decode code 215 = .ok (.iadd, 1) := by decide +kernel
theorem d_law_216 : decode code 216 = .ok (.iaload, 1) := by decide +kernel
theorem d_law_217 : decode code 217 = .ok (.aload_n 0, 1) := by decide +kernel
theorem d_law_218 : decode code 218 = .ok (.iload_n 3, 1) := by decide +kernel
theorem d_law_219 : decode code 219 = .ok (.iconst 2, 1) := by decide +kernel
theorem d_law_220 : decode code 220 = .ok (.iadd, 1) := by decide +kernel
theorem d_law_221 : decode code 221 = .ok (.iaload, 1) := by decide +kernel
theorem d_law_222 : decode code 222 = .ok (.aload_n 0, 1) := by decide +kernel
theorem d_law_223 : decode code 223 = .ok (.iload_n 3, 1) := by decide +kernel
theorem d_law_224 : decode code 224 = .ok (.iconst 3, 1) := by decide +kernel
theorem d_law_225 : decode code 225 = .ok (.iadd, 1) := by decide +kernel
theorem d_law_226 : decode code 226 = .ok (.iaload, 1) := by decide +kernel
theorem d_law_227 : decode code 227 = .ok (.invokevirtual 35, 3) := by decide +kernel
theorem d_law_230 : decode code 230 = .ok (.if_icmp .eq 397, 3) := by decide +kernel
theorem d_law_233 : decode code 233 = .ok (.iconst 0, 1) := by decide +kernel
theorem d_law_234 : decode code 234 = .ok (.ireturn, 1) := by decide +kernel
theorem d_law_235 : decode code 235 = .ok (.aload_n 1, 1) := by decide +kernel
theorem d_law_236 : decode code 236 = .ok (.aload_n 0, 1) := by decide +kernel
theorem d_law_237 : decode code 237 = .ok (.iload_n 3, 1) := by decide +kernel
theorem d_law_238 : decode code 238 = .ok (.iconst 1, 1) := by decide +kernel
theorem d_law_239 : decode code 239 = .ok (.iadd, 1) := by decide +kernel
theorem d_law_240 : decode code 240 = .ok (.iaload, 1) := by decide +kernel
theorem d_law_241 : decode code 241 = .ok (.aload_n 0, 1) := by decide +kernel
theorem d_law_242 : decode code 242 = .ok (.iload_n 3, 1) := by decide +kernel
theorem d_law_243 : decode code 243 = .ok (.iconst 2, 1) := by decide +kernel
theorem d_law_244 : decode code 244 = .ok (.iadd, 1) := by decide +kernel
theorem d_law_245 : decode code 245 = .ok (.iaload, 1) := by decide +kernel
theorem d_law_246 : decode code 246 = .ok (.invokevirtual 36, 3) := by decide +kernel
theorem d_law_249 : decode code 249 = .ok (.aload_n 2, 1) := by decide +kernel
theorem d_law_250 : decode code 250 = .ok (.aload_n 0, 1) := by decide +kernel
theorem d_law_251 : decode code 251 = .ok (.iload_n 3, 1) := by decide +kernel
theorem d_law_252 : decode code 252 = .ok (.iconst 1, 1) := by decide +kernel
theorem d_law_253 : decode code 253 = .ok (.iadd, 1) := by decide +kernel
theorem d_law_254 : decode code 254 = .ok (.iaload, 1) := by decide +kernel
theorem d_law_255 : decode code 255 = .ok (.aload_n 0, 1) := by decide +kernel
theorem d_law_256 : decode code 256 = .ok (.iload_n 3, 1) := by decide +kernel
theorem d_law_257 : decode code 257 = .ok (.iconst 2, 1) := by decide +kernel
theorem d_law_258 : decode code 258 = .ok (.iadd, 1) := by decide +kernel
theorem d_law_259 : decode code 259 = .ok (.iaload, 1) := by decide +kernel
theorem d_law_260 : decode code 260 = .ok (.invokevirtual 39, 3) := by decide +kernel
theorem d_law_263 : decode code 263 = .ok (.if_icmp .eq 364, 3) := by decide +kernel
theorem d_law_266 : decode code 266 = .ok (.iconst 0, 1) := by decide +kernel
theorem d_law_267 : decode code 267 = .ok (.ireturn, 1) := by decide +kernel
theorem d_law_268 : decode code 268 = .ok (.aload_n 1, 1) := by decide +kernel
theorem d_law_269 : decode code 269 = .ok (.aload_n 0, 1) := by decide +kernel
theorem d_law_270 : decode code 270 = .ok (.iload_n 3, 1) := by decide +kernel
theorem d_law_271 : decode code 271 = .ok (.iconst 1, 1) := by decide +kernel
theorem d_law_272 : decode code 272 = .ok (.iadd, 1) := by decide +kernel
theorem d_law_273 : decode code 273 = .ok (.iaload, 1) := by decide +kernel
theorem d_law_274 : decode code 274 = .ok (.aload_n 0, 1) := by decide +kernel
theorem d_law_275 : decode code 275 = .ok (.iload_n 3, 1) := by decide +kernel
theorem d_law_276 : decode code 276 = .ok (.iconst 2, 1) := by decide +kernel
theorem d_law_277 : decode code 277 = .ok (.iadd, 1) := by decide +kernel
theorem d_law_278 : decode code 278 = .ok (.iaload, 1) := by decide +kernel
theorem d_law_279 : decode code 279 = .ok (.aload_n 0, 1) := by decide +kernel
theorem d_law_280 : decode code 280 = .ok (.iload_n 3, 1) := by decide +kernel
theorem d_law_281 : decode code 281 = .ok (.iconst 3, 1) := by decide +kernel
theorem d_law_282 : decode code 282 = .ok (.iadd, 1) := by decide +kernel
theorem d_law_283 : decode code 283 = .ok (.iaload, 1) := by decide +kernel
theorem d_law_284 : decode code 284 = .ok (.invokevirtual 40, 3) := by decide +kernel
theorem d_law_287 : decode code 287 = .ok (.aload_n 2, 1) := by decide +kernel
theorem d_law_288 : decode code 288 = .ok (.aload_n 0, 1) := by decide +kernel
theorem d_law_289 : decode code 289 = .ok (.iload_n 3, 1) := by decide +kernel
theorem d_law_290 : decode code 290 = .ok (.iconst 1, 1) := by decide +kernel
theorem d_law_291 : decode code 291 = .ok (.iadd, 1) := by decide +kernel
theorem d_law_292 : decode code 292 = .ok (.iaload, 1) := by decide +kernel
theorem d_law_293 : decode code 293 = .ok (.aload_n 0, 1) := by decide +kernel
theorem d_law_294 : decode code 294 = .ok (.iload_n 3, 1) := by decide +kernel
theorem d_law_295 : decode code 295 = .ok (.iconst 2, 1) := by decide +kernel
theorem d_law_296 : decode code 296 = .ok (.iadd, 1) := by decide +kernel
theorem d_law_297 : decode code 297 = .ok (.iaload, 1) := by decide +kernel
theorem d_law_298 : decode code 298 = .ok (.aload_n 0, 1) := by decide +kernel
theorem d_law_299 : decode code 299 = .ok (.iload_n 3, 1) := by decide +kernel
theorem d_law_300 : decode code 300 = .ok (.iconst 3, 1) := by decide +kernel
theorem d_law_301 : decode code 301 = .ok (.iadd, 1) := by decide +kernel
theorem d_law_302 : decode code 302 = .ok (.iaload, 1) := by decide +kernel
theorem d_law_303 : decode code 303 = .ok (.invokevirtual 43, 3) := by decide +kernel
theorem d_law_306 : decode code 306 = .ok (.if_icmp .eq 321, 3) := by decide +kernel
theorem d_law_309 : decode code 309 = .ok (.iconst 0, 1) := by decide +kernel
theorem d_law_310 : decode code 310 = .ok (.ireturn, 1) := by decide +kernel
theorem d_law_311 : decode code 311 = .ok (.aload_n 1, 1) := by decide +kernel
theorem d_law_312 : decode code 312 = .ok (.aload_n 0, 1) := by decide +kernel
theorem d_law_313 : decode code 313 = .ok (.iload_n 3, 1) := by decide +kernel
theorem d_law_314 : decode code 314 = .ok (.iconst 1, 1) := by decide +kernel
theorem d_law_315 : decode code 315 = .ok (.iadd, 1) := by decide +kernel
theorem d_law_316 : decode code 316 = .ok (.iaload, 1) := by decide +kernel
theorem d_law_317 : decode code 317 = .ok (.aload_n 0, 1) := by decide +kernel
theorem d_law_318 : decode code 318 = .ok (.iload_n 3, 1) := by decide +kernel
theorem d_law_319 : decode code 319 = .ok (.iconst 2, 1) := by decide +kernel
theorem d_law_320 : decode code 320 = .ok (.iadd, 1) := by decide +kernel
theorem d_law_321 : decode code 321 = .ok (.iaload, 1) := by decide +kernel
theorem d_law_322 : decode code 322 = .ok (.invokevirtual 44, 3) := by decide +kernel
theorem d_law_325 : decode code 325 = .ok (.aload_n 2, 1) := by decide +kernel
theorem d_law_326 : decode code 326 = .ok (.aload_n 0, 1) := by decide +kernel
theorem d_law_327 : decode code 327 = .ok (.iload_n 3, 1) := by decide +kernel
theorem d_law_328 : decode code 328 = .ok (.iconst 1, 1) := by decide +kernel
theorem d_law_329 : decode code 329 = .ok (.iadd, 1) := by decide +kernel
theorem d_law_330 : decode code 330 = .ok (.iaload, 1) := by decide +kernel
theorem d_law_331 : decode code 331 = .ok (.aload_n 0, 1) := by decide +kernel
theorem d_law_332 : decode code 332 = .ok (.iload_n 3, 1) := by decide +kernel
theorem d_law_333 : decode code 333 = .ok (.iconst 2, 1) := by decide +kernel
theorem d_law_334 : decode code 334 = .ok (.iadd, 1) := by decide +kernel
theorem d_law_335 : decode code 335 = .ok (.iaload, 1) := by decide +kernel
theorem d_law_336 : decode code 336 = .ok (.invokevirtual 47, 3) := by decide +kernel
theorem d_law_339 : decode code 339 = .ok (.if_icmp .eq 288, 3) := by decide +kernel
theorem d_law_342 : decode code 342 = .ok (.iconst 0, 1) := by decide +kernel
theorem d_law_343 : decode code 343 = .ok (.ireturn, 1) := by decide +kernel
theorem d_law_344 : decode code 344 = .ok (.aload_n 1, 1) := by decide +kernel
theorem d_law_345 : decode code 345 = .ok (.aload_n 0, 1) := by decide +kernel
theorem d_law_346 : decode code 346 = .ok (.iload_n 3, 1) := by decide +kernel
theorem d_law_347 : decode code 347 = .ok (.iconst 1, 1) := by decide +kernel
theorem d_law_348 : decode code 348 = .ok (.iadd, 1) := by decide +kernel
theorem d_law_349 : decode code 349 = .ok (.iaload, 1) := by decide +kernel
theorem d_law_350 : decode code 350 = .ok (.aload_n 0, 1) := by decide +kernel
theorem d_law_351 : decode code 351 = .ok (.iload_n 3, 1) := by decide +kernel
theorem d_law_352 : decode code 352 = .ok (.iconst 2, 1) := by decide +kernel
theorem d_law_353 : decode code 353 = .ok (.iadd, 1) := by decide +kernel
theorem d_law_354 : decode code 354 = .ok (.iaload, 1) := by decide +kernel
theorem d_law_355 : decode code 355 = .ok (.aload_n 0, 1) := by decide +kernel
theorem d_law_356 : decode code 356 = .ok (.iload_n 3, 1) := by decide +kernel
theorem d_law_357 : decode code 357 = .ok (.iconst 3, 1) := by decide +kernel
theorem d_law_358 : decode code 358 = .ok (.iadd, 1) := by decide +kernel
theorem d_law_359 : decode code 359 = .ok (.iaload, 1) := by decide +kernel
theorem d_law_360 : decode code 360 = .ok (.ifCond .eq 7, 3) := by decide +kernel
theorem d_law_363 : decode code 363 = .ok (.iconst 1, 1) := by decide +kernel
theorem d_law_364 : decode code 364 = .ok (.goto 4, 3) := by decide +kernel
theorem d_law_367 : decode code 367 = .ok (.iconst 0, 1) := by decide +kernel
theorem d_law_368 : decode code 368 = .ok (.invokevirtual 48, 3) := by decide +kernel
theorem d_law_371 : decode code 371 = .ok (.aload_n 2, 1) := by decide +kernel
theorem d_law_372 : decode code 372 = .ok (.aload_n 0, 1) := by decide +kernel
theorem d_law_373 : decode code 373 = .ok (.iload_n 3, 1) := by decide +kernel
theorem d_law_374 : decode code 374 = .ok (.iconst 1, 1) := by decide +kernel
theorem d_law_375 : decode code 375 = .ok (.iadd, 1) := by decide +kernel
theorem d_law_376 : decode code 376 = .ok (.iaload, 1) := by decide +kernel
theorem d_law_377 : decode code 377 = .ok (.aload_n 0, 1) := by decide +kernel
theorem d_law_378 : decode code 378 = .ok (.iload_n 3, 1) := by decide +kernel
theorem d_law_379 : decode code 379 = .ok (.iconst 2, 1) := by decide +kernel
theorem d_law_380 : decode code 380 = .ok (.iadd, 1) := by decide +kernel
theorem d_law_381 : decode code 381 = .ok (.iaload, 1) := by decide +kernel
theorem d_law_382 : decode code 382 = .ok (.aload_n 0, 1) := by decide +kernel
theorem d_law_383 : decode code 383 = .ok (.iload_n 3, 1) := by decide +kernel
theorem d_law_384 : decode code 384 = .ok (.iconst 3, 1) := by decide +kernel
theorem d_law_385 : decode code 385 = .ok (.iadd, 1) := by decide +kernel
theorem d_law_386 : decode code 386 = .ok (.iaload, 1) := by decide +kernel
theorem d_law_387 : decode code 387 = .ok (.ifCond .eq 7, 3) := by decide +kernel
theorem d_law_390 : decode code 390 = .ok (.iconst 1, 1) := by decide +kernel
theorem d_law_391 : decode code 391 = .ok (.goto 4, 3) := by decide +kernel
theorem d_law_394 : decode code 394 = .ok (.iconst 0, 1) := by decide +kernel
theorem d_law_395 : decode code 395 = .ok (.invokevirtual 52, 3) := by decide +kernel
theorem d_law_398 : decode code 398 = .ok (.if_icmp .eq 229, 3) := by decide +kernel
theorem d_law_401 : decode code 401 = .ok (.iconst 0, 1) := by decide +kernel
theorem d_law_402 : decode code 402 = .ok (.ireturn, 1) := by decide +kernel
theorem d_law_403 : decode code 403 = .ok (.aload_n 1, 1) := by decide +kernel
theorem d_law_404 : decode code 404 = .ok (.aload_n 0, 1) := by decide +kernel
theorem d_law_405 : decode code 405 = .ok (.iload_n 3, 1) := by decide +kernel
theorem d_law_406 : decode code 406 = .ok (.iconst 1, 1) := by decide +kernel
theorem d_law_407 : decode code 407 = .ok (.iadd, 1) := by decide +kernel
theorem d_law_408 : decode code 408 = .ok (.iaload, 1) := by decide +kernel
theorem d_law_409 : decode code 409 = .ok (.invokevirtual 53, 3) := by decide +kernel
theorem d_law_412 : decode code 412 = .ok (.aload_n 2, 1) := by decide +kernel
theorem d_law_413 : decode code 413 = .ok (.aload_n 0, 1) := by decide +kernel
theorem d_law_414 : decode code 414 = .ok (.iload_n 3, 1) := by decide +kernel
theorem d_law_415 : decode code 415 = .ok (.iconst 1, 1) := by decide +kernel
theorem d_law_416 : decode code 416 = .ok (.iadd, 1) := by decide +kernel
theorem d_law_417 : decode code 417 = .ok (.iaload, 1) := by decide +kernel
theorem d_law_418 : decode code 418 = .ok (.invokevirtual 57, 3) := by decide +kernel
theorem d_law_421 : decode code 421 = .ok (.if_icmp .eq 206, 3) := by decide +kernel
theorem d_law_424 : decode code 424 = .ok (.iconst 0, 1) := by decide +kernel
theorem d_law_425 : decode code 425 = .ok (.ireturn, 1) := by decide +kernel
theorem d_law_426 : decode code 426 = .ok (.aload_n 1, 1) := by decide +kernel
theorem d_law_427 : decode code 427 = .ok (.aload_n 0, 1) := by decide +kernel
theorem d_law_428 : decode code 428 = .ok (.iload_n 3, 1) := by decide +kernel
theorem d_law_429 : decode code 429 = .ok (.iconst 1, 1) := by decide +kernel
theorem d_law_430 : decode code 430 = .ok (.iadd, 1) := by decide +kernel
theorem d_law_431 : decode code 431 = .ok (.iaload, 1) := by decide +kernel
theorem d_law_432 : decode code 432 = .ok (.invokevirtual 58, 3) := by decide +kernel
theorem d_law_435 : decode code 435 = .ok (.aload_n 2, 1) := by decide +kernel
theorem d_law_436 : decode code 436 = .ok (.aload_n 0, 1) := by decide +kernel
theorem d_law_437 : decode code 437 = .ok (.iload_n 3, 1) := by decide +kernel
theorem d_law_438 : decode code 438 = .ok (.iconst 1, 1) := by decide +kernel
theorem d_law_439 : decode code 439 = .ok (.iadd, 1) := by decide +kernel
theorem d_law_440 : decode code 440 = .ok (.iaload, 1) := by decide +kernel
theorem d_law_441 : decode code 441 = .ok (.invokevirtual 62, 3) := by decide +kernel
theorem d_law_444 : decode code 444 = .ok (.if_icmp .eq 183, 3) := by decide +kernel
theorem d_law_447 : decode code 447 = .ok (.iconst 0, 1) := by decide +kernel
theorem d_law_448 : decode code 448 = .ok (.ireturn, 1) := by decide +kernel
theorem d_law_449 : decode code 449 = .ok (.aload_n 1, 1) := by decide +kernel
theorem d_law_450 : decode code 450 = .ok (.aload_n 0, 1) := by decide +kernel
theorem d_law_451 : decode code 451 = .ok (.iload_n 3, 1) := by decide +kernel
theorem d_law_452 : decode code 452 = .ok (.iconst 1, 1) := by decide +kernel
theorem d_law_453 : decode code 453 = .ok (.iadd, 1) := by decide +kernel
theorem d_law_454 : decode code 454 = .ok (.iaload, 1) := by decide +kernel
theorem d_law_455 : decode code 455 = .ok (.aload_n 0, 1) := by decide +kernel
theorem d_law_456 : decode code 456 = .ok (.iload_n 3, 1) := by decide +kernel
theorem d_law_457 : decode code 457 = .ok (.iconst 2, 1) := by decide +kernel
theorem d_law_458 : decode code 458 = .ok (.iadd, 1) := by decide +kernel
theorem d_law_459 : decode code 459 = .ok (.iaload, 1) := by decide +kernel
theorem d_law_460 : decode code 460 = .ok (.aload_n 0, 1) := by decide +kernel
theorem d_law_461 : decode code 461 = .ok (.iload_n 3, 1) := by decide +kernel
theorem d_law_462 : decode code 462 = .ok (.iconst 3, 1) := by decide +kernel
theorem d_law_463 : decode code 463 = .ok (.iadd, 1) := by decide +kernel
theorem d_law_464 : decode code 464 = .ok (.iaload, 1) := by decide +kernel
theorem d_law_465 : decode code 465 = .ok (.invokevirtual 63, 3) := by decide +kernel
theorem d_law_468 : decode code 468 = .ok (.aload_n 2, 1) := by decide +kernel
theorem d_law_469 : decode code 469 = .ok (.aload_n 0, 1) := by decide +kernel
theorem d_law_470 : decode code 470 = .ok (.iload_n 3, 1) := by decide +kernel
theorem d_law_471 : decode code 471 = .ok (.iconst 1, 1) := by decide +kernel
theorem d_law_472 : decode code 472 = .ok (.iadd, 1) := by decide +kernel
theorem d_law_473 : decode code 473 = .ok (.iaload, 1) := by decide +kernel
theorem d_law_474 : decode code 474 = .ok (.aload_n 0, 1) := by decide +kernel
theorem d_law_475 : decode code 475 = .ok (.iload_n 3, 1) := by decide +kernel
theorem d_law_476 : decode code 476 = .ok (.iconst 2, 1) := by decide +kernel
theorem d_law_477 : decode code 477 = .ok (.iadd, 1) := by decide +kernel
theorem d_law_478 : decode code 478 = .ok (.iaload, 1) := by decide +kernel
theorem d_law_479 : decode code 479 = .ok (.aload_n 0, 1) := by decide +kernel
theorem d_law_480 : decode code 480 = .ok (.iload_n 3, 1) := by decide +kernel
theorem d_law_481 : decode code 481 = .ok (.iconst 3, 1) := by decide +kernel
theorem d_law_482 : decode code 482 = .ok (.iadd, 1) := by decide +kernel
theorem d_law_483 : decode code 483 = .ok (.iaload, 1) := by decide +kernel
theorem d_law_484 : decode code 484 = .ok (.invokevirtual 66, 3) := by decide +kernel
theorem d_law_487 : decode code 487 = .ok (.if_icmp .eq 140, 3) := by decide +kernel
theorem d_law_490 : decode code 490 = .ok (.iconst 0, 1) := by decide +kernel
theorem d_law_491 : decode code 491 = .ok (.ireturn, 1) := by decide +kernel
theorem d_law_492 : decode code 492 = .ok (.aload_n 1, 1) := by decide +kernel
theorem d_law_493 : decode code 493 = .ok (.aload_n 0, 1) := by decide +kernel
theorem d_law_494 : decode code 494 = .ok (.iload_n 3, 1) := by decide +kernel
theorem d_law_495 : decode code 495 = .ok (.iconst 1, 1) := by decide +kernel
theorem d_law_496 : decode code 496 = .ok (.iadd, 1) := by decide +kernel
theorem d_law_497 : decode code 497 = .ok (.iaload, 1) := by decide +kernel
theorem d_law_498 : decode code 498 = .ok (.invokevirtual 67, 3) := by decide +kernel
theorem d_law_501 : decode code 501 = .ok (.aload_n 2, 1) := by decide +kernel
theorem d_law_502 : decode code 502 = .ok (.aload_n 0, 1) := by decide +kernel
theorem d_law_503 : decode code 503 = .ok (.iload_n 3, 1) := by decide +kernel
theorem d_law_504 : decode code 504 = .ok (.iconst 1, 1) := by decide +kernel
theorem d_law_505 : decode code 505 = .ok (.iadd, 1) := by decide +kernel
theorem d_law_506 : decode code 506 = .ok (.iaload, 1) := by decide +kernel
theorem d_law_507 : decode code 507 = .ok (.invokevirtual 70, 3) := by decide +kernel
theorem d_law_510 : decode code 510 = .ok (.if_icmp .eq 117, 3) := by decide +kernel
theorem d_law_513 : decode code 513 = .ok (.iconst 0, 1) := by decide +kernel
theorem d_law_514 : decode code 514 = .ok (.ireturn, 1) := by decide +kernel
theorem d_law_515 : decode code 515 = .ok (.aload_n 1, 1) := by decide +kernel
theorem d_law_516 : decode code 516 = .ok (.invokevirtual 71, 3) := by decide +kernel
theorem d_law_519 : decode code 519 = .ok (.aload_n 2, 1) := by decide +kernel
theorem d_law_520 : decode code 520 = .ok (.invokevirtual 75, 3) := by decide +kernel
theorem d_law_523 : decode code 523 = .ok (.if_icmp .eq 104, 3) := by decide +kernel
theorem d_law_526 : decode code 526 = .ok (.iconst 0, 1) := by decide +kernel
theorem d_law_527 : decode code 527 = .ok (.ireturn, 1) := by decide +kernel
theorem d_law_528 : decode code 528 = .ok (.aload_n 1, 1) := by decide +kernel
theorem d_law_529 : decode code 529 = .ok (.aload_n 0, 1) := by decide +kernel
theorem d_law_530 : decode code 530 = .ok (.iload_n 3, 1) := by decide +kernel
theorem d_law_531 : decode code 531 = .ok (.iconst 1, 1) := by decide +kernel
theorem d_law_532 : decode code 532 = .ok (.iadd, 1) := by decide +kernel
theorem d_law_533 : decode code 533 = .ok (.iaload, 1) := by decide +kernel
theorem d_law_534 : decode code 534 = .ok (.aload_n 0, 1) := by decide +kernel
theorem d_law_535 : decode code 535 = .ok (.iload_n 3, 1) := by decide +kernel
theorem d_law_536 : decode code 536 = .ok (.iconst 2, 1) := by decide +kernel
theorem d_law_537 : decode code 537 = .ok (.iadd, 1) := by decide +kernel
theorem d_law_538 : decode code 538 = .ok (.iaload, 1) := by decide +kernel
theorem d_law_539 : decode code 539 = .ok (.invokevirtual 76, 3) := by decide +kernel
theorem d_law_542 : decode code 542 = .ok (.aload_n 2, 1) := by decide +kernel
theorem d_law_543 : decode code 543 = .ok (.aload_n 0, 1) := by decide +kernel
theorem d_law_544 : decode code 544 = .ok (.iload_n 3, 1) := by decide +kernel
theorem d_law_545 : decode code 545 = .ok (.iconst 1, 1) := by decide +kernel
theorem d_law_546 : decode code 546 = .ok (.iadd, 1) := by decide +kernel
theorem d_law_547 : decode code 547 = .ok (.iaload, 1) := by decide +kernel
theorem d_law_548 : decode code 548 = .ok (.aload_n 0, 1) := by decide +kernel
theorem d_law_549 : decode code 549 = .ok (.iload_n 3, 1) := by decide +kernel
theorem d_law_550 : decode code 550 = .ok (.iconst 2, 1) := by decide +kernel
theorem d_law_551 : decode code 551 = .ok (.iadd, 1) := by decide +kernel
theorem d_law_552 : decode code 552 = .ok (.iaload, 1) := by decide +kernel
theorem d_law_553 : decode code 553 = .ok (.invokevirtual 79, 3) := by decide +kernel
theorem d_law_556 : decode code 556 = .ok (.if_icmp .eq 71, 3) := by decide +kernel
theorem d_law_559 : decode code 559 = .ok (.iconst 0, 1) := by decide +kernel
theorem d_law_560 : decode code 560 = .ok (.ireturn, 1) := by decide +kernel
theorem d_law_561 : decode code 561 = .ok (.aload_n 1, 1) := by decide +kernel
theorem d_law_562 : decode code 562 = .ok (.aload_n 0, 1) := by decide +kernel
theorem d_law_563 : decode code 563 = .ok (.iload_n 3, 1) := by decide +kernel
theorem d_law_564 : decode code 564 = .ok (.iconst 1, 1) := by decide +kernel
theorem d_law_565 : decode code 565 = .ok (.iadd, 1) := by decide +kernel
theorem d_law_566 : decode code 566 = .ok (.iaload, 1) := by decide +kernel
theorem d_law_567 : decode code 567 = .ok (.aload_n 0, 1) := by decide +kernel
theorem d_law_568 : decode code 568 = .ok (.iload_n 3, 1) := by decide +kernel
theorem d_law_569 : decode code 569 = .ok (.iconst 2, 1) := by decide +kernel
theorem d_law_570 : decode code 570 = .ok (.iadd, 1) := by decide +kernel
theorem d_law_571 : decode code 571 = .ok (.iaload, 1) := by decide +kernel
theorem d_law_572 : decode code 572 = .ok (.invokevirtual 80, 3) := by decide +kernel
theorem d_law_575 : decode code 575 = .ok (.aload_n 2, 1) := by decide +kernel
theorem d_law_576 : decode code 576 = .ok (.aload_n 0, 1) := by decide +kernel
theorem d_law_577 : decode code 577 = .ok (.iload_n 3, 1) := by decide +kernel
theorem d_law_578 : decode code 578 = .ok (.iconst 1, 1) := by decide +kernel
theorem d_law_579 : decode code 579 = .ok (.iadd, 1) := by decide +kernel
theorem d_law_580 : decode code 580 = .ok (.iaload, 1) := by decide +kernel
theorem d_law_581 : decode code 581 = .ok (.aload_n 0, 1) := by decide +kernel
theorem d_law_582 : decode code 582 = .ok (.iload_n 3, 1) := by decide +kernel
theorem d_law_583 : decode code 583 = .ok (.iconst 2, 1) := by decide +kernel
theorem d_law_584 : decode code 584 = .ok (.iadd, 1) := by decide +kernel
theorem d_law_585 : decode code 585 = .ok (.iaload, 1) := by decide +kernel
theorem d_law_586 : decode code 586 = .ok (.invokevirtual 84, 3) := by decide +kernel
theorem d_law_589 : decode code 589 = .ok (.if_icmp .eq 38, 3) := by decide +kernel
theorem d_law_592 : decode code 592 = .ok (.iconst 0, 1) := by decide +kernel
theorem d_law_593 : decode code 593 = .ok (.ireturn, 1) := by decide +kernel
theorem d_law_594 : decode code 594 = .ok (.aload_n 1, 1) := by decide +kernel
theorem d_law_595 : decode code 595 = .ok (.aload_n 0, 1) := by decide +kernel
theorem d_law_596 : decode code 596 = .ok (.iload_n 3, 1) := by decide +kernel
theorem d_law_597 : decode code 597 = .ok (.iconst 1, 1) := by decide +kernel
theorem d_law_598 : decode code 598 = .ok (.iadd, 1) := by decide +kernel
theorem d_law_599 : decode code 599 = .ok (.iaload, 1) := by decide +kernel
theorem d_law_600 : decode code 600 = .ok (.aload_n 0, 1) := by decide +kernel
theorem d_law_601 : decode code 601 = .ok (.iload_n 3, 1) := by decide +kernel
theorem d_law_602 : decode code 602 = .ok (.iconst 2, 1) := by decide +kernel
theorem d_law_603 : decode code 603 = .ok (.iadd, 1) := by decide +kernel
theorem d_law_604 : decode code 604 = .ok (.iaload, 1) := by decide +kernel
theorem d_law_605 : decode code 605 = .ok (.invokevirtual 85, 3) := by decide +kernel
theorem d_law_608 : decode code 608 = .ok (.aload_n 2, 1) := by decide +kernel
theorem d_law_609 : decode code 609 = .ok (.aload_n 0, 1) := by decide +kernel
theorem d_law_610 : decode code 610 = .ok (.iload_n 3, 1) := by decide +kernel
theorem d_law_611 : decode code 611 = .ok (.iconst 1, 1) := by decide +kernel
theorem d_law_612 : decode code 612 = .ok (.iadd, 1) := by decide +kernel
theorem d_law_613 : decode code 613 = .ok (.iaload, 1) := by decide +kernel
theorem d_law_614 : decode code 614 = .ok (.aload_n 0, 1) := by decide +kernel
theorem d_law_615 : decode code 615 = .ok (.iload_n 3, 1) := by decide +kernel
theorem d_law_616 : decode code 616 = .ok (.iconst 2, 1) := by decide +kernel
theorem d_law_617 : decode code 617 = .ok (.iadd, 1) := by decide +kernel
theorem d_law_618 : decode code 618 = .ok (.iaload, 1) := by decide +kernel
theorem d_law_619 : decode code 619 = .ok (.invokevirtual 88, 3) := by decide +kernel
theorem d_law_622 : decode code 622 = .ok (.if_icmp .eq 5, 3) := by decide +kernel
theorem d_law_625 : decode code 625 = .ok (.iconst 0, 1) := by decide +kernel
theorem d_law_626 : decode code 626 = .ok (.ireturn, 1) := by decide +kernel
theorem d_law_627 : decode code 627 = .ok (.iinc 3 4, 3) := by decide +kernel
theorem d_law_630 : decode code 630 = .ok (.goto (-602), 3) := by decide +kernel
theorem d_law_633 : decode code 633 = .ok (.iconst 1, 1) := by decide +kernel
theorem d_law_634 : decode code 634 = .ok (.ireturn, 1) := by decide +kernel
