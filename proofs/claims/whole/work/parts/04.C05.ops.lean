-- TwinHost$Guest.doOrdinary(I)LTwinHost$Outcome;: 123 instructions, depth 5, calls Gu_load Gu_store Gu_retireAt Gu_link Gu_compute Gu_setRegister
theorem d_Gu_doOrdinary_0 : decode b_Gu_doOrdinary 0 = .ok (.iload_n 1, 1) := by decide +kernel
theorem d_Gu_doOrdinary_1 : decode b_Gu_doOrdinary 1 = .ok (.iconst 5, 1) := by decide +kernel
theorem d_Gu_doOrdinary_2 : decode b_Gu_doOrdinary 2 = .ok (.ishr, 1) := by decide +kernel
theorem d_Gu_doOrdinary_3 : decode b_Gu_doOrdinary 3 = .ok (.bipush 7, 2) := by decide +kernel
theorem d_Gu_doOrdinary_5 : decode b_Gu_doOrdinary 5 = .ok (.iand, 1) := by decide +kernel
theorem d_Gu_doOrdinary_6 : decode b_Gu_doOrdinary 6 = .ok (.istore_n 2, 1) := by decide +kernel
theorem d_Gu_doOrdinary_7 : decode b_Gu_doOrdinary 7 = .ok (.aload_n 0, 1) := by decide +kernel
theorem d_Gu_doOrdinary_8 : decode b_Gu_doOrdinary 8 = .ok (.getfield 15, 3) := by decide +kernel
theorem d_Gu_doOrdinary_11 : decode b_Gu_doOrdinary 11 = .ok (.iload_n 1, 1) := by decide +kernel
theorem d_Gu_doOrdinary_12 : decode b_Gu_doOrdinary 12 = .ok (.bipush 8, 2) := by decide +kernel
theorem d_Gu_doOrdinary_14 : decode b_Gu_doOrdinary 14 = .ok (.ishr, 1) := by decide +kernel
theorem d_Gu_doOrdinary_15 : decode b_Gu_doOrdinary 15 = .ok (.bipush 7, 2) := by decide +kernel
theorem d_Gu_doOrdinary_17 : decode b_Gu_doOrdinary 17 = .ok (.iand, 1) := by decide +kernel
theorem d_Gu_doOrdinary_18 : decode b_Gu_doOrdinary 18 = .ok (.iaload, 1) := by decide +kernel
theorem d_Gu_doOrdinary_19 : decode b_Gu_doOrdinary 19 = .ok (.istore_n 3, 1) := by decide +kernel
theorem d_Gu_doOrdinary_20 : decode b_Gu_doOrdinary 20 = .ok (.aload_n 0, 1) := by decide +kernel
theorem d_Gu_doOrdinary_21 : decode b_Gu_doOrdinary 21 = .ok (.getfield 15, 3) := by decide +kernel
theorem d_Gu_doOrdinary_24 : decode b_Gu_doOrdinary 24 = .ok (.iload_n 1, 1) := by decide +kernel
theorem d_Gu_doOrdinary_25 : decode b_Gu_doOrdinary 25 = .ok (.bipush 11, 2) := by decide +kernel
theorem d_Gu_doOrdinary_27 : decode b_Gu_doOrdinary 27 = .ok (.ishr, 1) := by decide +kernel
theorem d_Gu_doOrdinary_28 : decode b_Gu_doOrdinary 28 = .ok (.bipush 7, 2) := by decide +kernel
theorem d_Gu_doOrdinary_30 : decode b_Gu_doOrdinary 30 = .ok (.iand, 1) := by decide +kernel
theorem d_Gu_doOrdinary_31 : decode b_Gu_doOrdinary 31 = .ok (.iaload, 1) := by decide +kernel
theorem d_Gu_doOrdinary_32 : decode b_Gu_doOrdinary 32 = .ok (.istore 4, 2) := by decide +kernel
theorem d_Gu_doOrdinary_34 : decode b_Gu_doOrdinary 34 = .ok (.iload_n 1, 1) := by decide +kernel
theorem d_Gu_doOrdinary_35 : decode b_Gu_doOrdinary 35 = .ok (.bipush 16, 2) := by decide +kernel
theorem d_Gu_doOrdinary_37 : decode b_Gu_doOrdinary 37 = .ok (.ishr, 1) := by decide +kernel
theorem d_Gu_doOrdinary_38 : decode b_Gu_doOrdinary 38 = .ok (.istore 5, 2) := by decide +kernel
theorem d_Gu_doOrdinary_40 : decode b_Gu_doOrdinary 40 = .ok (.iload_n 1, 1) := by decide +kernel
theorem d_Gu_doOrdinary_41 : decode b_Gu_doOrdinary 41 = .ok (.bipush 31, 2) := by decide +kernel
theorem d_Gu_doOrdinary_43 : decode b_Gu_doOrdinary 43 = .ok (.iand, 1) := by decide +kernel
theorem d_Gu_doOrdinary_44 : decode b_Gu_doOrdinary 44 = .ok (.tableswitch 169 10 16 #[44, 54, 65, 92, 119, 146, 159], 44) := by decide +kernel
theorem d_Gu_doOrdinary_88 : decode b_Gu_doOrdinary 88 = .ok (.aload_n 0, 1) := by decide +kernel
theorem d_Gu_doOrdinary_89 : decode b_Gu_doOrdinary 89 = .ok (.iload_n 2, 1) := by decide +kernel
theorem d_Gu_doOrdinary_90 : decode b_Gu_doOrdinary 90 = .ok (.iload_n 3, 1) := by decide +kernel
theorem d_Gu_doOrdinary_91 : decode b_Gu_doOrdinary 91 = .ok (.iload 5, 2) := by decide +kernel
theorem d_Gu_doOrdinary_93 : decode b_Gu_doOrdinary 93 = .ok (.iadd, 1) := by decide +kernel
theorem d_Gu_doOrdinary_94 : decode b_Gu_doOrdinary 94 = .ok (.invokevirtual 86, 3) := by decide +kernel
theorem d_Gu_doOrdinary_97 : decode b_Gu_doOrdinary 97 = .ok (.areturn, 1) := by decide +kernel
theorem d_Gu_doOrdinary_98 : decode b_Gu_doOrdinary 98 = .ok (.aload_n 0, 1) := by decide +kernel
theorem d_Gu_doOrdinary_99 : decode b_Gu_doOrdinary 99 = .ok (.iload_n 3, 1) := by decide +kernel
theorem d_Gu_doOrdinary_100 : decode b_Gu_doOrdinary 100 = .ok (.iload 5, 2) := by decide +kernel
theorem d_Gu_doOrdinary_102 : decode b_Gu_doOrdinary 102 = .ok (.iadd, 1) := by decide +kernel
theorem d_Gu_doOrdinary_103 : decode b_Gu_doOrdinary 103 = .ok (.iload 4, 2) := by decide +kernel
theorem d_Gu_doOrdinary_105 : decode b_Gu_doOrdinary 105 = .ok (.invokevirtual 89, 3) := by decide +kernel
theorem d_Gu_doOrdinary_108 : decode b_Gu_doOrdinary 108 = .ok (.areturn, 1) := by decide +kernel
theorem d_Gu_doOrdinary_109 : decode b_Gu_doOrdinary 109 = .ok (.aload_n 0, 1) := by decide +kernel
theorem d_Gu_doOrdinary_110 : decode b_Gu_doOrdinary 110 = .ok (.iload_n 3, 1) := by decide +kernel
theorem d_Gu_doOrdinary_111 : decode b_Gu_doOrdinary 111 = .ok (.iload 4, 2) := by decide +kernel
theorem d_Gu_doOrdinary_113 : decode b_Gu_doOrdinary 113 = .ok (.if_icmp .ne 13, 3) := by decide +kernel
theorem d_Gu_doOrdinary_116 : decode b_Gu_doOrdinary 116 = .ok (.aload_n 0, 1) := by decide +kernel
theorem d_Gu_doOrdinary_117 : decode b_Gu_doOrdinary 117 = .ok (.getfield 62, 3) := by decide +kernel
theorem d_Gu_doOrdinary_120 : decode b_Gu_doOrdinary 120 = .ok (.iload 5, 2) := by decide +kernel
theorem d_Gu_doOrdinary_122 : decode b_Gu_doOrdinary 122 = .ok (.iadd, 1) := by decide +kernel
theorem d_Gu_doOrdinary_123 : decode b_Gu_doOrdinary 123 = .ok (.goto 9, 3) := by decide +kernel
theorem d_Gu_doOrdinary_126 : decode b_Gu_doOrdinary 126 = .ok (.aload_n 0, 1) := by decide +kernel
theorem d_Gu_doOrdinary_127 : decode b_Gu_doOrdinary 127 = .ok (.getfield 62, 3) := by decide +kernel
theorem d_Gu_doOrdinary_130 : decode b_Gu_doOrdinary 130 = .ok (.iconst 1, 1) := by decide +kernel
theorem d_Gu_doOrdinary_131 : decode b_Gu_doOrdinary 131 = .ok (.iadd, 1) := by decide +kernel
theorem d_Gu_doOrdinary_132 : decode b_Gu_doOrdinary 132 = .ok (.invokevirtual 92, 3) := by decide +kernel
theorem d_Gu_doOrdinary_135 : decode b_Gu_doOrdinary 135 = .ok (.areturn, 1) := by decide +kernel
theorem d_Gu_doOrdinary_136 : decode b_Gu_doOrdinary 136 = .ok (.aload_n 0, 1) := by decide +kernel
theorem d_Gu_doOrdinary_137 : decode b_Gu_doOrdinary 137 = .ok (.iload_n 3, 1) := by decide +kernel
theorem d_Gu_doOrdinary_138 : decode b_Gu_doOrdinary 138 = .ok (.iload 4, 2) := by decide +kernel
theorem d_Gu_doOrdinary_140 : decode b_Gu_doOrdinary 140 = .ok (.if_icmp .eq 13, 3) := by decide +kernel
theorem d_Gu_doOrdinary_143 : decode b_Gu_doOrdinary 143 = .ok (.aload_n 0, 1) := by decide +kernel
theorem d_Gu_doOrdinary_144 : decode b_Gu_doOrdinary 144 = .ok (.getfield 62, 3) := by decide +kernel
theorem d_Gu_doOrdinary_147 : decode b_Gu_doOrdinary 147 = .ok (.iload 5, 2) := by decide +kernel
theorem d_Gu_doOrdinary_149 : decode b_Gu_doOrdinary 149 = .ok (.iadd, 1) := by decide +kernel
theorem d_Gu_doOrdinary_150 : decode b_Gu_doOrdinary 150 = .ok (.goto 9, 3) := by decide +kernel
theorem d_Gu_doOrdinary_153 : decode b_Gu_doOrdinary 153 = .ok (.aload_n 0, 1) := by decide +kernel
theorem d_Gu_doOrdinary_154 : decode b_Gu_doOrdinary 154 = .ok (.getfield 62, 3) := by decide +kernel
theorem d_Gu_doOrdinary_157 : decode b_Gu_doOrdinary 157 = .ok (.iconst 1, 1) := by decide +kernel
theorem d_Gu_doOrdinary_158 : decode b_Gu_doOrdinary 158 = .ok (.iadd, 1) := by decide +kernel
theorem d_Gu_doOrdinary_159 : decode b_Gu_doOrdinary 159 = .ok (.invokevirtual 92, 3) := by decide +kernel
theorem d_Gu_doOrdinary_162 : decode b_Gu_doOrdinary 162 = .ok (.areturn, 1) := by decide +kernel
theorem d_Gu_doOrdinary_163 : decode b_Gu_doOrdinary 163 = .ok (.aload_n 0, 1) := by decide +kernel
theorem d_Gu_doOrdinary_164 : decode b_Gu_doOrdinary 164 = .ok (.iload_n 3, 1) := by decide +kernel
theorem d_Gu_doOrdinary_165 : decode b_Gu_doOrdinary 165 = .ok (.iload 4, 2) := by decide +kernel
theorem d_Gu_doOrdinary_167 : decode b_Gu_doOrdinary 167 = .ok (.if_icmp .ge 13, 3) := by decide +kernel
theorem d_Gu_doOrdinary_170 : decode b_Gu_doOrdinary 170 = .ok (.aload_n 0, 1) := by decide +kernel
theorem d_Gu_doOrdinary_171 : decode b_Gu_doOrdinary 171 = .ok (.getfield 62, 3) := by decide +kernel
theorem d_Gu_doOrdinary_174 : decode b_Gu_doOrdinary 174 = .ok (.iload 5, 2) := by decide +kernel
theorem d_Gu_doOrdinary_176 : decode b_Gu_doOrdinary 176 = .ok (.iadd, 1) := by decide +kernel
theorem d_Gu_doOrdinary_177 : decode b_Gu_doOrdinary 177 = .ok (.goto 9, 3) := by decide +kernel
theorem d_Gu_doOrdinary_180 : decode b_Gu_doOrdinary 180 = .ok (.aload_n 0, 1) := by decide +kernel
theorem d_Gu_doOrdinary_181 : decode b_Gu_doOrdinary 181 = .ok (.getfield 62, 3) := by decide +kernel
theorem d_Gu_doOrdinary_184 : decode b_Gu_doOrdinary 184 = .ok (.iconst 1, 1) := by decide +kernel
theorem d_Gu_doOrdinary_185 : decode b_Gu_doOrdinary 185 = .ok (.iadd, 1) := by decide +kernel
theorem d_Gu_doOrdinary_186 : decode b_Gu_doOrdinary 186 = .ok (.invokevirtual 92, 3) := by decide +kernel
theorem d_Gu_doOrdinary_189 : decode b_Gu_doOrdinary 189 = .ok (.areturn, 1) := by decide +kernel
theorem d_Gu_doOrdinary_190 : decode b_Gu_doOrdinary 190 = .ok (.aload_n 0, 1) := by decide +kernel
theorem d_Gu_doOrdinary_191 : decode b_Gu_doOrdinary 191 = .ok (.iload_n 2, 1) := by decide +kernel
theorem d_Gu_doOrdinary_192 : decode b_Gu_doOrdinary 192 = .ok (.aload_n 0, 1) := by decide +kernel
theorem d_Gu_doOrdinary_193 : decode b_Gu_doOrdinary 193 = .ok (.getfield 62, 3) := by decide +kernel
theorem d_Gu_doOrdinary_196 : decode b_Gu_doOrdinary 196 = .ok (.iload 5, 2) := by decide +kernel
theorem d_Gu_doOrdinary_198 : decode b_Gu_doOrdinary 198 = .ok (.iadd, 1) := by decide +kernel
theorem d_Gu_doOrdinary_199 : decode b_Gu_doOrdinary 199 = .ok (.invokevirtual 95, 3) := by decide +kernel
theorem d_Gu_doOrdinary_202 : decode b_Gu_doOrdinary 202 = .ok (.areturn, 1) := by decide +kernel
theorem d_Gu_doOrdinary_203 : decode b_Gu_doOrdinary 203 = .ok (.aload_n 0, 1) := by decide +kernel
theorem d_Gu_doOrdinary_204 : decode b_Gu_doOrdinary 204 = .ok (.iload_n 2, 1) := by decide +kernel
theorem d_Gu_doOrdinary_205 : decode b_Gu_doOrdinary 205 = .ok (.iload_n 3, 1) := by decide +kernel
theorem d_Gu_doOrdinary_206 : decode b_Gu_doOrdinary 206 = .ok (.iload 5, 2) := by decide +kernel
theorem d_Gu_doOrdinary_208 : decode b_Gu_doOrdinary 208 = .ok (.iadd, 1) := by decide +kernel
theorem d_Gu_doOrdinary_209 : decode b_Gu_doOrdinary 209 = .ok (.invokevirtual 95, 3) := by decide +kernel
theorem d_Gu_doOrdinary_212 : decode b_Gu_doOrdinary 212 = .ok (.areturn, 1) := by decide +kernel
theorem d_Gu_doOrdinary_213 : decode b_Gu_doOrdinary 213 = .ok (.aload_n 0, 1) := by decide +kernel
theorem d_Gu_doOrdinary_214 : decode b_Gu_doOrdinary 214 = .ok (.iload_n 2, 1) := by decide +kernel
theorem d_Gu_doOrdinary_215 : decode b_Gu_doOrdinary 215 = .ok (.iload_n 1, 1) := by decide +kernel
theorem d_Gu_doOrdinary_216 : decode b_Gu_doOrdinary 216 = .ok (.bipush 31, 2) := by decide +kernel
theorem d_Gu_doOrdinary_218 : decode b_Gu_doOrdinary 218 = .ok (.iand, 1) := by decide +kernel
theorem d_Gu_doOrdinary_219 : decode b_Gu_doOrdinary 219 = .ok (.iload_n 3, 1) := by decide +kernel
theorem d_Gu_doOrdinary_220 : decode b_Gu_doOrdinary 220 = .ok (.iload 4, 2) := by decide +kernel
theorem d_Gu_doOrdinary_222 : decode b_Gu_doOrdinary 222 = .ok (.iload 5, 2) := by decide +kernel
theorem d_Gu_doOrdinary_224 : decode b_Gu_doOrdinary 224 = .ok (.invokestatic 98, 3) := by decide +kernel
theorem d_Gu_doOrdinary_227 : decode b_Gu_doOrdinary 227 = .ok (.invokevirtual 102, 3) := by decide +kernel
theorem d_Gu_doOrdinary_230 : decode b_Gu_doOrdinary 230 = .ok (.aload_n 0, 1) := by decide +kernel
theorem d_Gu_doOrdinary_231 : decode b_Gu_doOrdinary 231 = .ok (.aload_n 0, 1) := by decide +kernel
theorem d_Gu_doOrdinary_232 : decode b_Gu_doOrdinary 232 = .ok (.getfield 62, 3) := by decide +kernel
theorem d_Gu_doOrdinary_235 : decode b_Gu_doOrdinary 235 = .ok (.iconst 1, 1) := by decide +kernel
theorem d_Gu_doOrdinary_236 : decode b_Gu_doOrdinary 236 = .ok (.iadd, 1) := by decide +kernel
theorem d_Gu_doOrdinary_237 : decode b_Gu_doOrdinary 237 = .ok (.invokevirtual 92, 3) := by decide +kernel
theorem d_Gu_doOrdinary_240 : decode b_Gu_doOrdinary 240 = .ok (.areturn, 1) := by decide +kernel
noncomputable def pr_Gu_doOrdinary : List (Nat × tw_Op) := [(0, tw_il 1), (1, tw_ic 5), (2, tw_bin (fun x y => x >>> (y &&& 31))), (3, tw_ic (7)), (5, tw_bin (· &&& ·)), (6, tw_is 2), (7, tw_al 0), (8, tw_gr 0 2), (11, tw_il 1), (12, tw_ic (8)), (14, tw_bin (fun x y => x >>> (y &&& 31))), (15, tw_ic (7)), (17, tw_bin (· &&& ·)), (18, tw_ia), (19, tw_is 3), (20, tw_al 0), (21, tw_gr 0 2), (24, tw_il 1), (25, tw_ic (11)), (27, tw_bin (fun x y => x >>> (y &&& 31))), (28, tw_ic (7)), (30, tw_bin (· &&& ·)), (31, tw_ia), (32, tw_is 4), (34, tw_il 1), (35, tw_ic (16)), (37, tw_bin (fun x y => x >>> (y &&& 31))), (38, tw_is 5), (40, tw_il 1), (41, tw_ic (31)), (43, tw_bin (· &&& ·)), (44, tw_sw [(10, 88), (11, 98), (12, 109), (13, 136), (14, 163), (15, 190), (16, 203)] 213), (88, tw_al 0), (89, tw_il 2), (90, tw_il 3), (91, tw_il 5), (93, tw_bin (· + ·)), (94, tw_cv 2 0 fn_Gu_load), (97, tw_ra), (98, tw_al 0), (99, tw_il 3), (100, tw_il 5), (102, tw_bin (· + ·)), (103, tw_il 4), (105, tw_cv 2 0 fn_Gu_store), (108, tw_ra), (109, tw_al 0), (110, tw_il 3), (111, tw_il 4), (113, tw_cne 126), (116, tw_al 0), (117, tw_gi 0 6), (120, tw_il 5), (122, tw_bin (· + ·)), (123, tw_jmp 132), (126, tw_al 0), (127, tw_gi 0 6), (130, tw_ic 1), (131, tw_bin (· + ·)), (132, tw_cv 1 0 fn_Gu_retireAt), (135, tw_ra), (136, tw_al 0), (137, tw_il 3), (138, tw_il 4), (140, tw_ceq 153), (143, tw_al 0), (144, tw_gi 0 6), (147, tw_il 5), (149, tw_bin (· + ·)), (150, tw_jmp 159), (153, tw_al 0), (154, tw_gi 0 6), (157, tw_ic 1), (158, tw_bin (· + ·)), (159, tw_cv 1 0 fn_Gu_retireAt), (162, tw_ra), (163, tw_al 0), (164, tw_il 3), (165, tw_il 4), (167, tw_cge 180), (170, tw_al 0), (171, tw_gi 0 6), (174, tw_il 5), (176, tw_bin (· + ·)), (177, tw_jmp 186), (180, tw_al 0), (181, tw_gi 0 6), (184, tw_ic 1), (185, tw_bin (· + ·)), (186, tw_cv 1 0 fn_Gu_retireAt), (189, tw_ra), (190, tw_al 0), (191, tw_il 2), (192, tw_al 0), (193, tw_gi 0 6), (196, tw_il 5), (198, tw_bin (· + ·)), (199, tw_cv 2 0 fn_Gu_link), (202, tw_ra), (203, tw_al 0), (204, tw_il 2), (205, tw_il 3), (206, tw_il 5), (208, tw_bin (· + ·)), (209, tw_cv 2 0 fn_Gu_link), (212, tw_ra), (213, tw_al 0), (214, tw_il 2), (215, tw_il 1), (216, tw_ic (31)), (218, tw_bin (· &&& ·)), (219, tw_il 3), (220, tw_il 4), (222, tw_il 5), (224, tw_cs 4 fn_Gu_compute), (227, tw_cv 2 0 fn_Gu_setRegister), (230, tw_al 0), (231, tw_al 0), (232, tw_gi 0 6), (235, tw_ic 1), (236, tw_bin (· + ·)), (237, tw_cv 1 0 fn_Gu_retireAt), (240, tw_ra)]
set_option maxRecDepth 100000 in
set_option maxHeartbeats 4000000 in
theorem ok_Gu_doOrdinary {p : Program} {l : Launch} {e : Env} {s : State} {m : MethodId} {args : Array Value} {below : List Frame} {meth : Method} {c : Code} {E : tw_E} {D : va_G} {ρ : tw_R} (hC : tw_Cx p s m args meth c b_Gu_doOrdinary 6 (some (.object "TwinHost$Outcome")) "TwinHost$Guest" E D) : tw_Ok p l e (tw_rmd 5) s m args below meth c 0 0 (MQ below (tw_Qc E D ρ) args s 0 0 (tw_A E)) 6 E D ρ pr_Gu_doOrdinary :=
  ⟨ts_iload_n hC d_Gu_doOrdinary_0 rfl,
   ts_iconst hC d_Gu_doOrdinary_1 (by decide),
   ts_ishr hC d_Gu_doOrdinary_2,
   ts_bipush hC d_Gu_doOrdinary_3 (by decide),
   ts_iand hC d_Gu_doOrdinary_5,
   ts_istore_n hC d_Gu_doOrdinary_6 rfl (by decide),
   ts_aload_n hC d_Gu_doOrdinary_7 rfl,
   ts_gr (j := 1) (C := R_Gu) (T := T_Gu) hC rfl rfl rfl (by decide) u_Gu wd_134 rfl d_Gu_doOrdinary_8,
   ts_iload_n hC d_Gu_doOrdinary_11 rfl,
   ts_bipush hC d_Gu_doOrdinary_12 (by decide),
   ts_ishr hC d_Gu_doOrdinary_14,
   ts_bipush hC d_Gu_doOrdinary_15 (by decide),
   ts_iand hC d_Gu_doOrdinary_17,
   ts_iaload hC d_Gu_doOrdinary_18,
   ts_istore_n hC d_Gu_doOrdinary_19 rfl (by decide),
   ts_aload_n hC d_Gu_doOrdinary_20 rfl,
   ts_gr (j := 1) (C := R_Gu) (T := T_Gu) hC rfl rfl rfl (by decide) u_Gu wd_134 rfl d_Gu_doOrdinary_21,
   ts_iload_n hC d_Gu_doOrdinary_24 rfl,
   ts_bipush hC d_Gu_doOrdinary_25 (by decide),
   ts_ishr hC d_Gu_doOrdinary_27,
   ts_bipush hC d_Gu_doOrdinary_28 (by decide),
   ts_iand hC d_Gu_doOrdinary_30,
   ts_iaload hC d_Gu_doOrdinary_31,
   ts_istore hC d_Gu_doOrdinary_32 (by decide),
   ts_iload_n hC d_Gu_doOrdinary_34 rfl,
   ts_bipush hC d_Gu_doOrdinary_35 (by decide),
   ts_ishr hC d_Gu_doOrdinary_37,
   ts_istore hC d_Gu_doOrdinary_38 (by decide),
   ts_iload_n hC d_Gu_doOrdinary_40 rfl,
   ts_bipush hC d_Gu_doOrdinary_41 (by decide),
   ts_iand hC d_Gu_doOrdinary_43,
   ts_table (n := 6) hC _ d_Gu_doOrdinary_44 (by decide) (by decide) (by decide +kernel) (by decide +kernel),
   ts_aload_n hC d_Gu_doOrdinary_88 rfl,
   ts_iload_n hC d_Gu_doOrdinary_89 rfl,
   ts_iload_n hC d_Gu_doOrdinary_90 rfl,
   ts_iload hC d_Gu_doOrdinary_91,
   ts_iadd hC d_Gu_doOrdinary_93,
   ts_callv (C := R_Gu) (T := T_Gu) hC con_Gu_load wd_361 wd_25 (by decide +kernel) ⟨by decide, by decide⟩ ⟨Nat.zero_le _, Nat.zero_le _⟩ wd_358 rfl rfl wd_359 wd_360 d_Gu_doOrdinary_94,
   ts_aret hC rfl d_Gu_doOrdinary_97,
   ts_aload_n hC d_Gu_doOrdinary_98 rfl,
   ts_iload_n hC d_Gu_doOrdinary_99 rfl,
   ts_iload hC d_Gu_doOrdinary_100,
   ts_iadd hC d_Gu_doOrdinary_102,
   ts_iload hC d_Gu_doOrdinary_103,
   ts_callv (C := R_Gu) (T := T_Gu) hC con_Gu_store wd_374 wd_25 (by decide +kernel) ⟨by decide, by decide⟩ ⟨Nat.zero_le _, Nat.zero_le _⟩ wd_371 rfl rfl wd_372 wd_373 d_Gu_doOrdinary_105,
   ts_aret hC rfl d_Gu_doOrdinary_108,
   ts_aload_n hC d_Gu_doOrdinary_109 rfl,
   ts_iload_n hC d_Gu_doOrdinary_110 rfl,
   ts_iload hC d_Gu_doOrdinary_111,
   ts_cne hC d_Gu_doOrdinary_113 (by decide),
   ts_aload_n hC d_Gu_doOrdinary_116 rfl,
   ts_gi (j := 6) (C := R_Gu) (T := T_Gu) hC rfl rfl rfl (by decide) u_Gu wd_143 rfl d_Gu_doOrdinary_117,
   ts_iload hC d_Gu_doOrdinary_120,
   ts_iadd hC d_Gu_doOrdinary_122,
   ts_goto hC d_Gu_doOrdinary_123 (by decide),
   ts_aload_n hC d_Gu_doOrdinary_126 rfl,
   ts_gi (j := 6) (C := R_Gu) (T := T_Gu) hC rfl rfl rfl (by decide) u_Gu wd_143 rfl d_Gu_doOrdinary_127,
   ts_iconst hC d_Gu_doOrdinary_130 (by decide),
   ts_iadd hC d_Gu_doOrdinary_131,
   ts_callv (C := R_Gu) (T := T_Gu) hC con_Gu_retireAt wd_368 wd_25 (by decide +kernel) ⟨by decide, by decide⟩ ⟨Nat.zero_le _, Nat.zero_le _⟩ wd_365 rfl rfl wd_366 wd_367 d_Gu_doOrdinary_132,
   ts_aret hC rfl d_Gu_doOrdinary_135,
   ts_aload_n hC d_Gu_doOrdinary_136 rfl,
   ts_iload_n hC d_Gu_doOrdinary_137 rfl,
   ts_iload hC d_Gu_doOrdinary_138,
   ts_ceq hC d_Gu_doOrdinary_140 (by decide),
   ts_aload_n hC d_Gu_doOrdinary_143 rfl,
   ts_gi (j := 6) (C := R_Gu) (T := T_Gu) hC rfl rfl rfl (by decide) u_Gu wd_143 rfl d_Gu_doOrdinary_144,
   ts_iload hC d_Gu_doOrdinary_147,
   ts_iadd hC d_Gu_doOrdinary_149,
   ts_goto hC d_Gu_doOrdinary_150 (by decide),
   ts_aload_n hC d_Gu_doOrdinary_153 rfl,
   ts_gi (j := 6) (C := R_Gu) (T := T_Gu) hC rfl rfl rfl (by decide) u_Gu wd_143 rfl d_Gu_doOrdinary_154,
   ts_iconst hC d_Gu_doOrdinary_157 (by decide),
   ts_iadd hC d_Gu_doOrdinary_158,
   ts_callv (C := R_Gu) (T := T_Gu) hC con_Gu_retireAt wd_368 wd_25 (by decide +kernel) ⟨by decide, by decide⟩ ⟨Nat.zero_le _, Nat.zero_le _⟩ wd_365 rfl rfl wd_366 wd_367 d_Gu_doOrdinary_159,
   ts_aret hC rfl d_Gu_doOrdinary_162,
   ts_aload_n hC d_Gu_doOrdinary_163 rfl,
   ts_iload_n hC d_Gu_doOrdinary_164 rfl,
   ts_iload hC d_Gu_doOrdinary_165,
   ts_cge hC d_Gu_doOrdinary_167 (by decide),
   ts_aload_n hC d_Gu_doOrdinary_170 rfl,
   ts_gi (j := 6) (C := R_Gu) (T := T_Gu) hC rfl rfl rfl (by decide) u_Gu wd_143 rfl d_Gu_doOrdinary_171,
   ts_iload hC d_Gu_doOrdinary_174,
   ts_iadd hC d_Gu_doOrdinary_176,
   ts_goto hC d_Gu_doOrdinary_177 (by decide),
   ts_aload_n hC d_Gu_doOrdinary_180 rfl,
   ts_gi (j := 6) (C := R_Gu) (T := T_Gu) hC rfl rfl rfl (by decide) u_Gu wd_143 rfl d_Gu_doOrdinary_181,
   ts_iconst hC d_Gu_doOrdinary_184 (by decide),
   ts_iadd hC d_Gu_doOrdinary_185,
   ts_callv (C := R_Gu) (T := T_Gu) hC con_Gu_retireAt wd_368 wd_25 (by decide +kernel) ⟨by decide, by decide⟩ ⟨Nat.zero_le _, Nat.zero_le _⟩ wd_365 rfl rfl wd_366 wd_367 d_Gu_doOrdinary_186,
   ts_aret hC rfl d_Gu_doOrdinary_189,
   ts_aload_n hC d_Gu_doOrdinary_190 rfl,
   ts_iload_n hC d_Gu_doOrdinary_191 rfl,
   ts_aload_n hC d_Gu_doOrdinary_192 rfl,
   ts_gi (j := 6) (C := R_Gu) (T := T_Gu) hC rfl rfl rfl (by decide) u_Gu wd_143 rfl d_Gu_doOrdinary_193,
   ts_iload hC d_Gu_doOrdinary_196,
   ts_iadd hC d_Gu_doOrdinary_198,
   ts_callv (C := R_Gu) (T := T_Gu) hC con_Gu_link wd_386 wd_25 (by decide +kernel) ⟨by decide, by decide⟩ ⟨Nat.zero_le _, Nat.zero_le _⟩ wd_383 rfl rfl wd_384 wd_385 d_Gu_doOrdinary_199,
   ts_aret hC rfl d_Gu_doOrdinary_202,
   ts_aload_n hC d_Gu_doOrdinary_203 rfl,
   ts_iload_n hC d_Gu_doOrdinary_204 rfl,
   ts_iload_n hC d_Gu_doOrdinary_205 rfl,
   ts_iload hC d_Gu_doOrdinary_206,
   ts_iadd hC d_Gu_doOrdinary_208,
   ts_callv (C := R_Gu) (T := T_Gu) hC con_Gu_link wd_386 wd_25 (by decide +kernel) ⟨by decide, by decide⟩ ⟨Nat.zero_le _, Nat.zero_le _⟩ wd_383 rfl rfl wd_384 wd_385 d_Gu_doOrdinary_209,
   ts_aret hC rfl d_Gu_doOrdinary_212,
   ts_aload_n hC d_Gu_doOrdinary_213 rfl,
   ts_iload_n hC d_Gu_doOrdinary_214 rfl,
   ts_iload_n hC d_Gu_doOrdinary_215 rfl,
   ts_bipush hC d_Gu_doOrdinary_216 (by decide),
   ts_iand hC d_Gu_doOrdinary_218,
   ts_iload_n hC d_Gu_doOrdinary_219 rfl,
   ts_iload hC d_Gu_doOrdinary_220,
   ts_iload hC d_Gu_doOrdinary_222,
   ts_calls hC con_Gu_compute wd_389 wd_25 (by decide +kernel) ⟨by decide, by decide⟩ ⟨Nat.zero_le _, Nat.zero_le _⟩ wd_387 wd_388 d_Gu_doOrdinary_224,
   ts_callv (C := R_Gu) (T := T_Gu) hC con_Gu_setRegister wd_209 wd_25 (by decide +kernel) ⟨by decide, by decide⟩ ⟨Nat.zero_le _, Nat.zero_le _⟩ wd_364 rfl rfl wd_207 wd_208 d_Gu_doOrdinary_227,
   ts_aload_n hC d_Gu_doOrdinary_230 rfl,
   ts_aload_n hC d_Gu_doOrdinary_231 rfl,
   ts_gi (j := 6) (C := R_Gu) (T := T_Gu) hC rfl rfl rfl (by decide) u_Gu wd_143 rfl d_Gu_doOrdinary_232,
   ts_iconst hC d_Gu_doOrdinary_235 (by decide),
   ts_iadd hC d_Gu_doOrdinary_236,
   ts_callv (C := R_Gu) (T := T_Gu) hC con_Gu_retireAt wd_368 wd_25 (by decide +kernel) ⟨by decide, by decide⟩ ⟨Nat.zero_le _, Nat.zero_le _⟩ wd_365 rfl rfl wd_366 wd_367 d_Gu_doOrdinary_237,
   ts_aret hC rfl d_Gu_doOrdinary_240,
   trivial⟩
noncomputable def fn_Gu_doOrdinary : tw_Fn := tw_fl 2 6 125 pr_Gu_doOrdinary
theorem con_Gu_doOrdinary : tw_Con y_Gu_doOrdinary b_Gu_doOrdinary 6 (some (.object "TwinHost$Outcome")) 5 fn_Gu_doOrdinary := tw_met (by decide +kernel) (tw_fl_len (n := 2) (by decide)) (fun p l e s m args below meth c E D vs σ ρ hC h => tw_sound (ok_Gu_doOrdinary hC) 125 pr_Gu_doOrdinary (ok_Gu_doOrdinary hC) _ _ _ (tw_fl_get h))

-- TwinHost$Guest.doSystem(I)LTwinHost$Outcome;: 85 instructions, depth 5, calls Gu_trap Co_leaveTrap Gu_retireAt Gu_flush Co_dueBits Gu_changeControl
theorem d_Gu_doSystem_0 : decode b_Gu_doSystem 0 = .ok (.aload_n 0, 1) := by decide +kernel
theorem d_Gu_doSystem_1 : decode b_Gu_doSystem 1 = .ok (.getfield 20, 3) := by decide +kernel
theorem d_Gu_doSystem_4 : decode b_Gu_doSystem 4 = .ok (.iconst 0, 1) := by decide +kernel
theorem d_Gu_doSystem_5 : decode b_Gu_doSystem 5 = .ok (.dup2, 1) := by decide +kernel
theorem d_Gu_doSystem_6 : decode b_Gu_doSystem 6 = .ok (.iaload, 1) := by decide +kernel
theorem d_Gu_doSystem_7 : decode b_Gu_doSystem 7 = .ok (.iconst 1, 1) := by decide +kernel
theorem d_Gu_doSystem_8 : decode b_Gu_doSystem 8 = .ok (.iadd, 1) := by decide +kernel
theorem d_Gu_doSystem_9 : decode b_Gu_doSystem 9 = .ok (.iastore, 1) := by decide +kernel
theorem d_Gu_doSystem_10 : decode b_Gu_doSystem 10 = .ok (.iload_n 1, 1) := by decide +kernel
theorem d_Gu_doSystem_11 : decode b_Gu_doSystem 11 = .ok (.bipush 31, 2) := by decide +kernel
theorem d_Gu_doSystem_13 : decode b_Gu_doSystem 13 = .ok (.iand, 1) := by decide +kernel
theorem d_Gu_doSystem_14 : decode b_Gu_doSystem 14 = .ok (.istore_n 2, 1) := by decide +kernel
theorem d_Gu_doSystem_15 : decode b_Gu_doSystem 15 = .ok (.iload_n 2, 1) := by decide +kernel
theorem d_Gu_doSystem_16 : decode b_Gu_doSystem 16 = .ok (.bipush 17, 2) := by decide +kernel
theorem d_Gu_doSystem_18 : decode b_Gu_doSystem 18 = .ok (.if_icmp .ne 23, 3) := by decide +kernel
theorem d_Gu_doSystem_21 : decode b_Gu_doSystem 21 = .ok (.aload_n 0, 1) := by decide +kernel
theorem d_Gu_doSystem_22 : decode b_Gu_doSystem 22 = .ok (.aload_n 0, 1) := by decide +kernel
theorem d_Gu_doSystem_23 : decode b_Gu_doSystem 23 = .ok (.getfield 48, 3) := by decide +kernel
theorem d_Gu_doSystem_26 : decode b_Gu_doSystem 26 = .ok (.ifCond .eq 8, 3) := by decide +kernel
theorem d_Gu_doSystem_29 : decode b_Gu_doSystem 29 = .ok (.bipush 8, 2) := by decide +kernel
theorem d_Gu_doSystem_31 : decode b_Gu_doSystem 31 = .ok (.goto 5, 3) := by decide +kernel
theorem d_Gu_doSystem_34 : decode b_Gu_doSystem 34 = .ok (.bipush 9, 2) := by decide +kernel
theorem d_Gu_doSystem_36 : decode b_Gu_doSystem 36 = .ok (.iconst 0, 1) := by decide +kernel
theorem d_Gu_doSystem_37 : decode b_Gu_doSystem 37 = .ok (.invokevirtual 58, 3) := by decide +kernel
theorem d_Gu_doSystem_40 : decode b_Gu_doSystem 40 = .ok (.areturn, 1) := by decide +kernel
theorem d_Gu_doSystem_41 : decode b_Gu_doSystem 41 = .ok (.iload_n 2, 1) := by decide +kernel
theorem d_Gu_doSystem_42 : decode b_Gu_doSystem 42 = .ok (.bipush 18, 2) := by decide +kernel
theorem d_Gu_doSystem_44 : decode b_Gu_doSystem 44 = .ok (.if_icmp .ne 10, 3) := by decide +kernel
theorem d_Gu_doSystem_47 : decode b_Gu_doSystem 47 = .ok (.aload_n 0, 1) := by decide +kernel
theorem d_Gu_doSystem_48 : decode b_Gu_doSystem 48 = .ok (.iconst 3, 1) := by decide +kernel
theorem d_Gu_doSystem_49 : decode b_Gu_doSystem 49 = .ok (.iconst 0, 1) := by decide +kernel
theorem d_Gu_doSystem_50 : decode b_Gu_doSystem 50 = .ok (.invokevirtual 58, 3) := by decide +kernel
theorem d_Gu_doSystem_53 : decode b_Gu_doSystem 53 = .ok (.areturn, 1) := by decide +kernel
theorem d_Gu_doSystem_54 : decode b_Gu_doSystem 54 = .ok (.aload_n 0, 1) := by decide +kernel
theorem d_Gu_doSystem_55 : decode b_Gu_doSystem 55 = .ok (.getfield 48, 3) := by decide +kernel
theorem d_Gu_doSystem_58 : decode b_Gu_doSystem 58 = .ok (.ifCond .ne 9, 3) := by decide +kernel
theorem d_Gu_doSystem_61 : decode b_Gu_doSystem 61 = .ok (.iload_n 2, 1) := by decide +kernel
theorem d_Gu_doSystem_62 : decode b_Gu_doSystem 62 = .ok (.bipush 24, 2) := by decide +kernel
theorem d_Gu_doSystem_64 : decode b_Gu_doSystem 64 = .ok (.if_icmp .le 10, 3) := by decide +kernel
theorem d_Gu_doSystem_67 : decode b_Gu_doSystem 67 = .ok (.aload_n 0, 1) := by decide +kernel
theorem d_Gu_doSystem_68 : decode b_Gu_doSystem 68 = .ok (.iconst 2, 1) := by decide +kernel
theorem d_Gu_doSystem_69 : decode b_Gu_doSystem 69 = .ok (.iload_n 1, 1) := by decide +kernel
theorem d_Gu_doSystem_70 : decode b_Gu_doSystem 70 = .ok (.invokevirtual 58, 3) := by decide +kernel
theorem d_Gu_doSystem_73 : decode b_Gu_doSystem 73 = .ok (.areturn, 1) := by decide +kernel
theorem d_Gu_doSystem_74 : decode b_Gu_doSystem 74 = .ok (.iload_n 2, 1) := by decide +kernel
theorem d_Gu_doSystem_75 : decode b_Gu_doSystem 75 = .ok (.tableswitch 92 22 24 #[25, 50, 65], 25) := by decide +kernel
theorem d_Gu_doSystem_100 : decode b_Gu_doSystem 100 = .ok (.aload_n 0, 1) := by decide +kernel
theorem d_Gu_doSystem_101 : decode b_Gu_doSystem 101 = .ok (.aload_n 0, 1) := by decide +kernel
theorem d_Gu_doSystem_102 : decode b_Gu_doSystem 102 = .ok (.getfield 26, 3) := by decide +kernel
theorem d_Gu_doSystem_105 : decode b_Gu_doSystem 105 = .ok (.invokevirtual 119, 3) := by decide +kernel
theorem d_Gu_doSystem_108 : decode b_Gu_doSystem 108 = .ok (.putfield 48, 3) := by decide +kernel
theorem d_Gu_doSystem_111 : decode b_Gu_doSystem 111 = .ok (.aload_n 0, 1) := by decide +kernel
theorem d_Gu_doSystem_112 : decode b_Gu_doSystem 112 = .ok (.aload_n 0, 1) := by decide +kernel
theorem d_Gu_doSystem_113 : decode b_Gu_doSystem 113 = .ok (.getfield 26, 3) := by decide +kernel
theorem d_Gu_doSystem_116 : decode b_Gu_doSystem 116 = .ok (.getfield 123, 3) := by decide +kernel
theorem d_Gu_doSystem_119 : decode b_Gu_doSystem 119 = .ok (.iconst 2, 1) := by decide +kernel
theorem d_Gu_doSystem_120 : decode b_Gu_doSystem 120 = .ok (.iaload, 1) := by decide +kernel
theorem d_Gu_doSystem_121 : decode b_Gu_doSystem 121 = .ok (.invokevirtual 92, 3) := by decide +kernel
theorem d_Gu_doSystem_124 : decode b_Gu_doSystem 124 = .ok (.areturn, 1) := by decide +kernel
theorem d_Gu_doSystem_125 : decode b_Gu_doSystem 125 = .ok (.aload_n 0, 1) := by decide +kernel
theorem d_Gu_doSystem_126 : decode b_Gu_doSystem 126 = .ok (.invokevirtual 126, 3) := by decide +kernel
theorem d_Gu_doSystem_129 : decode b_Gu_doSystem 129 = .ok (.aload_n 0, 1) := by decide +kernel
theorem d_Gu_doSystem_130 : decode b_Gu_doSystem 130 = .ok (.aload_n 0, 1) := by decide +kernel
theorem d_Gu_doSystem_131 : decode b_Gu_doSystem 131 = .ok (.getfield 62, 3) := by decide +kernel
theorem d_Gu_doSystem_134 : decode b_Gu_doSystem 134 = .ok (.iconst 1, 1) := by decide +kernel
theorem d_Gu_doSystem_135 : decode b_Gu_doSystem 135 = .ok (.iadd, 1) := by decide +kernel
theorem d_Gu_doSystem_136 : decode b_Gu_doSystem 136 = .ok (.invokevirtual 92, 3) := by decide +kernel
theorem d_Gu_doSystem_139 : decode b_Gu_doSystem 139 = .ok (.areturn, 1) := by decide +kernel
theorem d_Gu_doSystem_140 : decode b_Gu_doSystem 140 = .ok (.aload_n 0, 1) := by decide +kernel
theorem d_Gu_doSystem_141 : decode b_Gu_doSystem 141 = .ok (.getfield 26, 3) := by decide +kernel
theorem d_Gu_doSystem_144 : decode b_Gu_doSystem 144 = .ok (.invokevirtual 44, 3) := by decide +kernel
theorem d_Gu_doSystem_147 : decode b_Gu_doSystem 147 = .ok (.ifCond .ne 9, 3) := by decide +kernel
theorem d_Gu_doSystem_150 : decode b_Gu_doSystem 150 = .ok (.getstatic 129, 3) := by decide +kernel
theorem d_Gu_doSystem_153 : decode b_Gu_doSystem 153 = .ok (.goto 13, 3) := by decide +kernel
theorem d_Gu_doSystem_156 : decode b_Gu_doSystem 156 = .ok (.aload_n 0, 1) := by decide +kernel
theorem d_Gu_doSystem_157 : decode b_Gu_doSystem 157 = .ok (.aload_n 0, 1) := by decide +kernel
theorem d_Gu_doSystem_158 : decode b_Gu_doSystem 158 = .ok (.getfield 62, 3) := by decide +kernel
theorem d_Gu_doSystem_161 : decode b_Gu_doSystem 161 = .ok (.iconst 1, 1) := by decide +kernel
theorem d_Gu_doSystem_162 : decode b_Gu_doSystem 162 = .ok (.iadd, 1) := by decide +kernel
theorem d_Gu_doSystem_163 : decode b_Gu_doSystem 163 = .ok (.invokevirtual 92, 3) := by decide +kernel
theorem d_Gu_doSystem_166 : decode b_Gu_doSystem 166 = .ok (.areturn, 1) := by decide +kernel
theorem d_Gu_doSystem_167 : decode b_Gu_doSystem 167 = .ok (.aload_n 0, 1) := by decide +kernel
theorem d_Gu_doSystem_168 : decode b_Gu_doSystem 168 = .ok (.iload_n 1, 1) := by decide +kernel
theorem d_Gu_doSystem_169 : decode b_Gu_doSystem 169 = .ok (.invokevirtual 135, 3) := by decide +kernel
theorem d_Gu_doSystem_172 : decode b_Gu_doSystem 172 = .ok (.areturn, 1) := by decide +kernel
noncomputable def pr_Gu_doSystem : List (Nat × tw_Op) := [(0, tw_al 0), (1, tw_gr 0 3), (4, tw_ic 0), (5, tw_d2), (6, tw_ia), (7, tw_ic 1), (8, tw_bin (· + ·)), (9, tw_ias 0 22), (10, tw_il 1), (11, tw_ic (31)), (13, tw_bin (· &&& ·)), (14, tw_is 2), (15, tw_il 2), (16, tw_ic (17)), (18, tw_cne 41), (21, tw_al 0), (22, tw_al 0), (23, tw_gi 0 7), (26, tw_ifeq 34), (29, tw_ic (8)), (31, tw_jmp 36), (34, tw_ic (9)), (36, tw_ic 0), (37, tw_cv 2 0 fn_Gu_trap), (40, tw_ra), (41, tw_il 2), (42, tw_ic (18)), (44, tw_cne 54), (47, tw_al 0), (48, tw_ic 3), (49, tw_ic 0), (50, tw_cv 2 0 fn_Gu_trap), (53, tw_ra), (54, tw_al 0), (55, tw_gi 0 7), (58, tw_ifne 67), (61, tw_il 2), (62, tw_ic (24)), (64, tw_cle 74), (67, tw_al 0), (68, tw_ic 2), (69, tw_il 1), (70, tw_cv 2 0 fn_Gu_trap), (73, tw_ra), (74, tw_il 2), (75, tw_sw [(22, 100), (23, 125), (24, 140)] 167), (100, tw_al 0), (101, tw_al 0), (102, tw_gr 0 4), (105, tw_cv 0 4 fn_Co_leaveTrap), (108, tw_pz 0 7), (111, tw_al 0), (112, tw_al 0), (113, tw_gr 0 4), (116, tw_gr 4 5), (119, tw_ic 2), (120, tw_ia), (121, tw_cv 1 0 fn_Gu_retireAt), (124, tw_ra), (125, tw_al 0), (126, tw_cv 0 0 fn_Gu_flush), (129, tw_al 0), (130, tw_al 0), (131, tw_gi 0 6), (134, tw_ic 1), (135, tw_bin (· + ·)), (136, tw_cv 1 0 fn_Gu_retireAt), (139, tw_ra), (140, tw_al 0), (141, tw_gr 0 4), (144, tw_cv 0 4 fn_Co_dueBits), (147, tw_ifne 156), (150, tw_en 62), (153, tw_jmp 166), (156, tw_al 0), (157, tw_al 0), (158, tw_gi 0 6), (161, tw_ic 1), (162, tw_bin (· + ·)), (163, tw_cv 1 0 fn_Gu_retireAt), (166, tw_ra), (167, tw_al 0), (168, tw_il 1), (169, tw_cv 1 0 fn_Gu_changeControl), (172, tw_ra)]
set_option maxRecDepth 100000 in
set_option maxHeartbeats 4000000 in
theorem ok_Gu_doSystem {p : Program} {l : Launch} {e : Env} {s : State} {m : MethodId} {args : Array Value} {below : List Frame} {meth : Method} {c : Code} {E : tw_E} {D : va_G} {ρ : tw_R} (hC : tw_Cx p s m args meth c b_Gu_doSystem 3 (some (.object "TwinHost$Outcome")) "TwinHost$Guest" E D) : tw_Ok p l e (tw_rmd 5) s m args below meth c 0 0 (MQ below (tw_Qc E D ρ) args s 0 0 (tw_A E)) 3 E D ρ pr_Gu_doSystem :=
  ⟨ts_aload_n hC d_Gu_doSystem_0 rfl,
   ts_gr (j := 2) (C := R_Gu) (T := T_Gu) hC rfl rfl rfl (by decide) u_Gu wd_136 rfl d_Gu_doSystem_1,
   ts_iconst hC d_Gu_doSystem_4 (by decide),
   ts_dup2 hC d_Gu_doSystem_5,
   ts_iaload hC d_Gu_doSystem_6,
   ts_iconst hC d_Gu_doSystem_7 (by decide),
   ts_iadd hC d_Gu_doSystem_8,
   ts_iastore hC d_Gu_doSystem_9,
   ts_iload_n hC d_Gu_doSystem_10 rfl,
   ts_bipush hC d_Gu_doSystem_11 (by decide),
   ts_iand hC d_Gu_doSystem_13,
   ts_istore_n hC d_Gu_doSystem_14 rfl (by decide),
   ts_iload_n hC d_Gu_doSystem_15 rfl,
   ts_bipush hC d_Gu_doSystem_16 (by decide),
   ts_cne hC d_Gu_doSystem_18 (by decide),
   ts_aload_n hC d_Gu_doSystem_21 rfl,
   ts_aload_n hC d_Gu_doSystem_22 rfl,
   ts_gi (j := 7) (C := R_Gu) (T := T_Gu) hC rfl rfl rfl (by decide) u_Gu wd_145 rfl d_Gu_doSystem_23,
   ts_ifeq hC d_Gu_doSystem_26 (by decide),
   ts_bipush hC d_Gu_doSystem_29 (by decide),
   ts_goto hC d_Gu_doSystem_31 (by decide),
   ts_bipush hC d_Gu_doSystem_34 (by decide),
   ts_iconst hC d_Gu_doSystem_36 (by decide),
   ts_callv (C := R_Gu) (T := T_Gu) hC con_Gu_trap wd_298 wd_25 (by decide +kernel) ⟨by decide, by decide⟩ ⟨Nat.zero_le _, Nat.zero_le _⟩ wd_295 rfl rfl wd_296 wd_297 d_Gu_doSystem_37,
   ts_aret hC rfl d_Gu_doSystem_40,
   ts_iload_n hC d_Gu_doSystem_41 rfl,
   ts_bipush hC d_Gu_doSystem_42 (by decide),
   ts_cne hC d_Gu_doSystem_44 (by decide),
   ts_aload_n hC d_Gu_doSystem_47 rfl,
   ts_iconst hC d_Gu_doSystem_48 (by decide),
   ts_iconst hC d_Gu_doSystem_49 (by decide),
   ts_callv (C := R_Gu) (T := T_Gu) hC con_Gu_trap wd_298 wd_25 (by decide +kernel) ⟨by decide, by decide⟩ ⟨Nat.zero_le _, Nat.zero_le _⟩ wd_295 rfl rfl wd_296 wd_297 d_Gu_doSystem_50,
   ts_aret hC rfl d_Gu_doSystem_53,
   ts_aload_n hC d_Gu_doSystem_54 rfl,
   ts_gi (j := 7) (C := R_Gu) (T := T_Gu) hC rfl rfl rfl (by decide) u_Gu wd_145 rfl d_Gu_doSystem_55,
   ts_ifne hC d_Gu_doSystem_58 (by decide),
   ts_iload_n hC d_Gu_doSystem_61 rfl,
   ts_bipush hC d_Gu_doSystem_62 (by decide),
   ts_cle hC d_Gu_doSystem_64 (by decide),
   ts_aload_n hC d_Gu_doSystem_67 rfl,
   ts_iconst hC d_Gu_doSystem_68 (by decide),
   ts_iload_n hC d_Gu_doSystem_69 rfl,
   ts_callv (C := R_Gu) (T := T_Gu) hC con_Gu_trap wd_298 wd_25 (by decide +kernel) ⟨by decide, by decide⟩ ⟨Nat.zero_le _, Nat.zero_le _⟩ wd_295 rfl rfl wd_296 wd_297 d_Gu_doSystem_70,
   ts_aret hC rfl d_Gu_doSystem_73,
   ts_iload_n hC d_Gu_doSystem_74 rfl,
   ts_table (n := 2) hC _ d_Gu_doSystem_75 (by decide) (by decide) (by decide +kernel) (by decide +kernel),
   ts_aload_n hC d_Gu_doSystem_100 rfl,
   ts_aload_n hC d_Gu_doSystem_101 rfl,
   ts_gr (j := 3) (C := R_Gu) (T := T_Gu) hC rfl rfl rfl (by decide) u_Gu wd_138 rfl d_Gu_doSystem_102,
   ts_callv (C := R_Co) (T := T_Co) hC con_Co_leaveTrap wd_397 wd_26 (by decide +kernel) ⟨by decide, by decide⟩ ⟨Nat.zero_le _, Nat.zero_le _⟩ wd_394 rfl rfl wd_395 wd_396 d_Gu_doSystem_105,
   ts_pz (j := 7) (C := R_Gu) (T := T_Gu) hC rfl rfl rfl (by decide) u_Gu wd_145 rfl t_Gu_ok n_Gu rfl (by decide +kernel) d_Gu_doSystem_108,
   ts_aload_n hC d_Gu_doSystem_111 rfl,
   ts_aload_n hC d_Gu_doSystem_112 rfl,
   ts_gr (j := 3) (C := R_Gu) (T := T_Gu) hC rfl rfl rfl (by decide) u_Gu wd_138 rfl d_Gu_doSystem_113,
   ts_gr (j := 0) (C := R_Co) (T := T_Co) hC rfl rfl rfl (by decide) u_Co wd_76 rfl d_Gu_doSystem_116,
   ts_iconst hC d_Gu_doSystem_119 (by decide),
   ts_iaload hC d_Gu_doSystem_120,
   ts_callv (C := R_Gu) (T := T_Gu) hC con_Gu_retireAt wd_368 wd_25 (by decide +kernel) ⟨by decide, by decide⟩ ⟨Nat.zero_le _, Nat.zero_le _⟩ wd_365 rfl rfl wd_366 wd_367 d_Gu_doSystem_121,
   ts_aret hC rfl d_Gu_doSystem_124,
   ts_aload_n hC d_Gu_doSystem_125 rfl,
   ts_callv (C := R_Gu) (T := T_Gu) hC con_Gu_flush wd_238 wd_25 (by decide +kernel) ⟨by decide, by decide⟩ ⟨Nat.zero_le _, Nat.zero_le _⟩ wd_235 rfl rfl wd_236 wd_237 d_Gu_doSystem_126,
   ts_aload_n hC d_Gu_doSystem_129 rfl,
   ts_aload_n hC d_Gu_doSystem_130 rfl,
   ts_gi (j := 6) (C := R_Gu) (T := T_Gu) hC rfl rfl rfl (by decide) u_Gu wd_143 rfl d_Gu_doSystem_131,
   ts_iconst hC d_Gu_doSystem_134 (by decide),
   ts_iadd hC d_Gu_doSystem_135,
   ts_callv (C := R_Gu) (T := T_Gu) hC con_Gu_retireAt wd_368 wd_25 (by decide +kernel) ⟨by decide, by decide⟩ ⟨Nat.zero_le _, Nat.zero_le _⟩ wd_365 rfl rfl wd_366 wd_367 d_Gu_doSystem_136,
   ts_aret hC rfl d_Gu_doSystem_139,
   ts_aload_n hC d_Gu_doSystem_140 rfl,
   ts_gr (j := 3) (C := R_Gu) (T := T_Gu) hC rfl rfl rfl (by decide) u_Gu wd_138 rfl d_Gu_doSystem_141,
   ts_callv (C := R_Co) (T := T_Co) hC con_Co_dueBits wd_288 wd_26 (by decide +kernel) ⟨by decide, by decide⟩ ⟨Nat.zero_le _, Nat.zero_le _⟩ wd_285 rfl rfl wd_286 wd_287 d_Gu_doSystem_144,
   ts_ifne hC d_Gu_doSystem_147 (by decide),
   ts_getO (i := 2) hC (by decide) rfl wd_398 d_Gu_doSystem_150,
   ts_goto hC d_Gu_doSystem_153 (by decide),
   ts_aload_n hC d_Gu_doSystem_156 rfl,
   ts_aload_n hC d_Gu_doSystem_157 rfl,
   ts_gi (j := 6) (C := R_Gu) (T := T_Gu) hC rfl rfl rfl (by decide) u_Gu wd_143 rfl d_Gu_doSystem_158,
   ts_iconst hC d_Gu_doSystem_161 (by decide),
   ts_iadd hC d_Gu_doSystem_162,
   ts_callv (C := R_Gu) (T := T_Gu) hC con_Gu_retireAt wd_368 wd_25 (by decide +kernel) ⟨by decide, by decide⟩ ⟨Nat.zero_le _, Nat.zero_le _⟩ wd_365 rfl rfl wd_366 wd_367 d_Gu_doSystem_163,
   ts_aret hC rfl d_Gu_doSystem_166,
   ts_aload_n hC d_Gu_doSystem_167 rfl,
   ts_iload_n hC d_Gu_doSystem_168 rfl,
   ts_callv (C := R_Gu) (T := T_Gu) hC con_Gu_changeControl wd_403 wd_25 (by decide +kernel) ⟨by decide, by decide⟩ ⟨Nat.zero_le _, Nat.zero_le _⟩ wd_400 rfl rfl wd_401 wd_402 d_Gu_doSystem_169,
   ts_aret hC rfl d_Gu_doSystem_172,
   trivial⟩
noncomputable def fn_Gu_doSystem : tw_Fn := tw_fl 2 3 87 pr_Gu_doSystem
theorem con_Gu_doSystem : tw_Con y_Gu_doSystem b_Gu_doSystem 3 (some (.object "TwinHost$Outcome")) 5 fn_Gu_doSystem := tw_met (by decide +kernel) (tw_fl_len (n := 2) (by decide)) (fun p l e s m args below meth c E D vs σ ρ hC h => tw_sound (ok_Gu_doSystem hC) 87 pr_Gu_doSystem (ok_Gu_doSystem hC) _ _ _ (tw_fl_get h))
