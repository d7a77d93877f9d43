-- TwinHostModel.special(IIII)I: 122 instructions, depth 4, calls Mo_trap Mo_illegal Mo_controls Mo_retire Mo_flush
theorem d_Mo_special_0 : decode b_Mo_special 0 = .ok (.bipush 12, 2) := by decide +kernel
theorem d_Mo_special_2 : decode b_Mo_special 2 = .ok (.iload_n 1, 1) := by decide +kernel
theorem d_Mo_special_3 : decode b_Mo_special 3 = .ok (.imul, 1) := by decide +kernel
theorem d_Mo_special_4 : decode b_Mo_special 4 = .ok (.istore 5, 2) := by decide +kernel
theorem d_Mo_special_6 : decode b_Mo_special 6 = .ok (.iload_n 3, 1) := by decide +kernel
theorem d_Mo_special_7 : decode b_Mo_special 7 = .ok (.bipush 17, 2) := by decide +kernel
theorem d_Mo_special_9 : decode b_Mo_special 9 = .ok (.if_icmp .eq 9, 3) := by decide +kernel
theorem d_Mo_special_12 : decode b_Mo_special 12 = .ok (.iload_n 3, 1) := by decide +kernel
theorem d_Mo_special_13 : decode b_Mo_special 13 = .ok (.bipush 18, 2) := by decide +kernel
theorem d_Mo_special_15 : decode b_Mo_special 15 = .ok (.if_icmp .ne 37, 3) := by decide +kernel
theorem d_Mo_special_18 : decode b_Mo_special 18 = .ok (.aload_n 0, 1) := by decide +kernel
theorem d_Mo_special_19 : decode b_Mo_special 19 = .ok (.iload_n 1, 1) := by decide +kernel
theorem d_Mo_special_20 : decode b_Mo_special 20 = .ok (.iload_n 3, 1) := by decide +kernel
theorem d_Mo_special_21 : decode b_Mo_special 21 = .ok (.bipush 18, 2) := by decide +kernel
theorem d_Mo_special_23 : decode b_Mo_special 23 = .ok (.if_icmp .ne 7, 3) := by decide +kernel
theorem d_Mo_special_26 : decode b_Mo_special 26 = .ok (.iconst 3, 1) := by decide +kernel
theorem d_Mo_special_27 : decode b_Mo_special 27 = .ok (.goto 19, 3) := by decide +kernel
theorem d_Mo_special_30 : decode b_Mo_special 30 = .ok (.aload_n 0, 1) := by decide +kernel
theorem d_Mo_special_31 : decode b_Mo_special 31 = .ok (.getfield 22, 3) := by decide +kernel
theorem d_Mo_special_34 : decode b_Mo_special 34 = .ok (.iload_n 1, 1) := by decide +kernel
theorem d_Mo_special_35 : decode b_Mo_special 35 = .ok (.baload, 1) := by decide +kernel
theorem d_Mo_special_36 : decode b_Mo_special 36 = .ok (.ifCond .eq 8, 3) := by decide +kernel
theorem d_Mo_special_39 : decode b_Mo_special 39 = .ok (.bipush 8, 2) := by decide +kernel
theorem d_Mo_special_41 : decode b_Mo_special 41 = .ok (.goto 5, 3) := by decide +kernel
theorem d_Mo_special_44 : decode b_Mo_special 44 = .ok (.bipush 9, 2) := by decide +kernel
theorem d_Mo_special_46 : decode b_Mo_special 46 = .ok (.iconst 0, 1) := by decide +kernel
theorem d_Mo_special_47 : decode b_Mo_special 47 = .ok (.invokevirtual 90, 3) := by decide +kernel
theorem d_Mo_special_50 : decode b_Mo_special 50 = .ok (.iconst 0, 1) := by decide +kernel
theorem d_Mo_special_51 : decode b_Mo_special 51 = .ok (.ireturn, 1) := by decide +kernel
theorem d_Mo_special_52 : decode b_Mo_special 52 = .ok (.iload_n 3, 1) := by decide +kernel
theorem d_Mo_special_53 : decode b_Mo_special 53 = .ok (.bipush 24, 2) := by decide +kernel
theorem d_Mo_special_55 : decode b_Mo_special 55 = .ok (.if_icmp .gt 12, 3) := by decide +kernel
theorem d_Mo_special_58 : decode b_Mo_special 58 = .ok (.aload_n 0, 1) := by decide +kernel
theorem d_Mo_special_59 : decode b_Mo_special 59 = .ok (.getfield 22, 3) := by decide +kernel
theorem d_Mo_special_62 : decode b_Mo_special 62 = .ok (.iload_n 1, 1) := by decide +kernel
theorem d_Mo_special_63 : decode b_Mo_special 63 = .ok (.baload, 1) := by decide +kernel
theorem d_Mo_special_64 : decode b_Mo_special 64 = .ok (.ifCond .eq 10, 3) := by decide +kernel
theorem d_Mo_special_67 : decode b_Mo_special 67 = .ok (.aload_n 0, 1) := by decide +kernel
theorem d_Mo_special_68 : decode b_Mo_special 68 = .ok (.iload_n 1, 1) := by decide +kernel
theorem d_Mo_special_69 : decode b_Mo_special 69 = .ok (.iload_n 2, 1) := by decide +kernel
theorem d_Mo_special_70 : decode b_Mo_special 70 = .ok (.invokevirtual 150, 3) := by decide +kernel
theorem d_Mo_special_73 : decode b_Mo_special 73 = .ok (.ireturn, 1) := by decide +kernel
theorem d_Mo_special_74 : decode b_Mo_special 74 = .ok (.iload_n 3, 1) := by decide +kernel
theorem d_Mo_special_75 : decode b_Mo_special 75 = .ok (.bipush 22, 2) := by decide +kernel
theorem d_Mo_special_77 : decode b_Mo_special 77 = .ok (.if_icmp .ge 11, 3) := by decide +kernel
theorem d_Mo_special_80 : decode b_Mo_special 80 = .ok (.aload_n 0, 1) := by decide +kernel
theorem d_Mo_special_81 : decode b_Mo_special 81 = .ok (.iload_n 1, 1) := by decide +kernel
theorem d_Mo_special_82 : decode b_Mo_special 82 = .ok (.iload_n 2, 1) := by decide +kernel
theorem d_Mo_special_83 : decode b_Mo_special 83 = .ok (.iload_n 3, 1) := by decide +kernel
theorem d_Mo_special_84 : decode b_Mo_special 84 = .ok (.invokevirtual 153, 3) := by decide +kernel
theorem d_Mo_special_87 : decode b_Mo_special 87 = .ok (.ireturn, 1) := by decide +kernel
theorem d_Mo_special_88 : decode b_Mo_special 88 = .ok (.iload_n 3, 1) := by decide +kernel
theorem d_Mo_special_89 : decode b_Mo_special 89 = .ok (.bipush 22, 2) := by decide +kernel
theorem d_Mo_special_91 : decode b_Mo_special 91 = .ok (.if_icmp .ne 72, 3) := by decide +kernel
theorem d_Mo_special_94 : decode b_Mo_special 94 = .ok (.aload_n 0, 1) := by decide +kernel
theorem d_Mo_special_95 : decode b_Mo_special 95 = .ok (.getfield 22, 3) := by decide +kernel
theorem d_Mo_special_98 : decode b_Mo_special 98 = .ok (.iload_n 1, 1) := by decide +kernel
theorem d_Mo_special_99 : decode b_Mo_special 99 = .ok (.aload_n 0, 1) := by decide +kernel
theorem d_Mo_special_100 : decode b_Mo_special 100 = .ok (.getfield 16, 3) := by decide +kernel
theorem d_Mo_special_103 : decode b_Mo_special 103 = .ok (.iload 5, 2) := by decide +kernel
theorem d_Mo_special_105 : decode b_Mo_special 105 = .ok (.iaload, 1) := by decide +kernel
theorem d_Mo_special_106 : decode b_Mo_special 106 = .ok (.iconst 4, 1) := by decide +kernel
theorem d_Mo_special_107 : decode b_Mo_special 107 = .ok (.iand, 1) := by decide +kernel
theorem d_Mo_special_108 : decode b_Mo_special 108 = .ok (.ifCond .ne 7, 3) := by decide +kernel
theorem d_Mo_special_111 : decode b_Mo_special 111 = .ok (.iconst 1, 1) := by decide +kernel
theorem d_Mo_special_112 : decode b_Mo_special 112 = .ok (.goto 4, 3) := by decide +kernel
theorem d_Mo_special_115 : decode b_Mo_special 115 = .ok (.iconst 0, 1) := by decide +kernel
theorem d_Mo_special_116 : decode b_Mo_special 116 = .ok (.bastore, 1) := by decide +kernel
theorem d_Mo_special_117 : decode b_Mo_special 117 = .ok (.aload_n 0, 1) := by decide +kernel
theorem d_Mo_special_118 : decode b_Mo_special 118 = .ok (.getfield 16, 3) := by decide +kernel
theorem d_Mo_special_121 : decode b_Mo_special 121 = .ok (.iload 5, 2) := by decide +kernel
theorem d_Mo_special_123 : decode b_Mo_special 123 = .ok (.aload_n 0, 1) := by decide +kernel
theorem d_Mo_special_124 : decode b_Mo_special 124 = .ok (.getfield 16, 3) := by decide +kernel
theorem d_Mo_special_127 : decode b_Mo_special 127 = .ok (.iload 5, 2) := by decide +kernel
theorem d_Mo_special_129 : decode b_Mo_special 129 = .ok (.iaload, 1) := by decide +kernel
theorem d_Mo_special_130 : decode b_Mo_special 130 = .ok (.bipush 8, 2) := by decide +kernel
theorem d_Mo_special_132 : decode b_Mo_special 132 = .ok (.iand, 1) := by decide +kernel
theorem d_Mo_special_133 : decode b_Mo_special 133 = .ok (.iconst 2, 1) := by decide +kernel
theorem d_Mo_special_134 : decode b_Mo_special 134 = .ok (.ior, 1) := by decide +kernel
theorem d_Mo_special_135 : decode b_Mo_special 135 = .ok (.aload_n 0, 1) := by decide +kernel
theorem d_Mo_special_136 : decode b_Mo_special 136 = .ok (.getfield 16, 3) := by decide +kernel
theorem d_Mo_special_139 : decode b_Mo_special 139 = .ok (.iload 5, 2) := by decide +kernel
theorem d_Mo_special_141 : decode b_Mo_special 141 = .ok (.iaload, 1) := by decide +kernel
theorem d_Mo_special_142 : decode b_Mo_special 142 = .ok (.iconst 1, 1) := by decide +kernel
theorem d_Mo_special_143 : decode b_Mo_special 143 = .ok (.ishr, 1) := by decide +kernel
theorem d_Mo_special_144 : decode b_Mo_special 144 = .ok (.iconst 1, 1) := by decide +kernel
theorem d_Mo_special_145 : decode b_Mo_special 145 = .ok (.iand, 1) := by decide +kernel
theorem d_Mo_special_146 : decode b_Mo_special 146 = .ok (.ior, 1) := by decide +kernel
theorem d_Mo_special_147 : decode b_Mo_special 147 = .ok (.iastore, 1) := by decide +kernel
theorem d_Mo_special_148 : decode b_Mo_special 148 = .ok (.aload_n 0, 1) := by decide +kernel
theorem d_Mo_special_149 : decode b_Mo_special 149 = .ok (.iload_n 1, 1) := by decide +kernel
theorem d_Mo_special_150 : decode b_Mo_special 150 = .ok (.aload_n 0, 1) := by decide +kernel
theorem d_Mo_special_151 : decode b_Mo_special 151 = .ok (.getfield 16, 3) := by decide +kernel
theorem d_Mo_special_154 : decode b_Mo_special 154 = .ok (.iload 5, 2) := by decide +kernel
theorem d_Mo_special_156 : decode b_Mo_special 156 = .ok (.iconst 2, 1) := by decide +kernel
theorem d_Mo_special_157 : decode b_Mo_special 157 = .ok (.iadd, 1) := by decide +kernel
theorem d_Mo_special_158 : decode b_Mo_special 158 = .ok (.iaload, 1) := by decide +kernel
theorem d_Mo_special_159 : decode b_Mo_special 159 = .ok (.invokevirtual 138, 3) := by decide +kernel
theorem d_Mo_special_162 : decode b_Mo_special 162 = .ok (.ireturn, 1) := by decide +kernel
theorem d_Mo_special_163 : decode b_Mo_special 163 = .ok (.iload_n 3, 1) := by decide +kernel
theorem d_Mo_special_164 : decode b_Mo_special 164 = .ok (.bipush 23, 2) := by decide +kernel
theorem d_Mo_special_166 : decode b_Mo_special 166 = .ok (.if_icmp .ne 8, 3) := by decide +kernel
theorem d_Mo_special_169 : decode b_Mo_special 169 = .ok (.aload_n 0, 1) := by decide +kernel
theorem d_Mo_special_170 : decode b_Mo_special 170 = .ok (.iload_n 1, 1) := by decide +kernel
theorem d_Mo_special_171 : decode b_Mo_special 171 = .ok (.invokevirtual 73, 3) := by decide +kernel
theorem d_Mo_special_174 : decode b_Mo_special 174 = .ok (.iload_n 3, 1) := by decide +kernel
theorem d_Mo_special_175 : decode b_Mo_special 175 = .ok (.bipush 24, 2) := by decide +kernel
theorem d_Mo_special_177 : decode b_Mo_special 177 = .ok (.if_icmp .ne 12, 3) := by decide +kernel
theorem d_Mo_special_180 : decode b_Mo_special 180 = .ok (.iload 4, 2) := by decide +kernel
theorem d_Mo_special_182 : decode b_Mo_special 182 = .ok (.ifCond .ne 7, 3) := by decide +kernel
theorem d_Mo_special_185 : decode b_Mo_special 185 = .ok (.iconst 2, 1) := by decide +kernel
theorem d_Mo_special_186 : decode b_Mo_special 186 = .ok (.goto 16, 3) := by decide +kernel
theorem d_Mo_special_189 : decode b_Mo_special 189 = .ok (.aload_n 0, 1) := by decide +kernel
theorem d_Mo_special_190 : decode b_Mo_special 190 = .ok (.iload_n 1, 1) := by decide +kernel
theorem d_Mo_special_191 : decode b_Mo_special 191 = .ok (.aload_n 0, 1) := by decide +kernel
theorem d_Mo_special_192 : decode b_Mo_special 192 = .ok (.getfield 19, 3) := by decide +kernel
theorem d_Mo_special_195 : decode b_Mo_special 195 = .ok (.iload_n 1, 1) := by decide +kernel
theorem d_Mo_special_196 : decode b_Mo_special 196 = .ok (.iaload, 1) := by decide +kernel
theorem d_Mo_special_197 : decode b_Mo_special 197 = .ok (.iconst 1, 1) := by decide +kernel
theorem d_Mo_special_198 : decode b_Mo_special 198 = .ok (.iadd, 1) := by decide +kernel
theorem d_Mo_special_199 : decode b_Mo_special 199 = .ok (.invokevirtual 138, 3) := by decide +kernel
theorem d_Mo_special_202 : decode b_Mo_special 202 = .ok (.ireturn, 1) := by decide +kernel
noncomputable def pr_Mo_special : List (Nat × tw_Op) := [(0, tw_ic (12)), (2, tw_il 1), (3, tw_bin (· * ·)), (4, tw_is 5), (6, tw_il 3), (7, tw_ic (17)), (9, tw_ceq 18), (12, tw_il 3), (13, tw_ic (18)), (15, tw_cne 52), (18, tw_al 0), (19, tw_il 1), (20, tw_il 3), (21, tw_ic (18)), (23, tw_cne 30), (26, tw_ic 3), (27, tw_jmp 46), (30, tw_al 0), (31, tw_gr 22 27), (34, tw_il 1), (35, tw_za), (36, tw_ifeq 44), (39, tw_ic (8)), (41, tw_jmp 46), (44, tw_ic (9)), (46, tw_ic 0), (47, tw_cv 3 22 fn_Mo_trap), (50, tw_ic 0), (51, tw_ri), (52, tw_il 3), (53, tw_ic (24)), (55, tw_cgt 67), (58, tw_al 0), (59, tw_gr 22 27), (62, tw_il 1), (63, tw_za), (64, tw_ifeq 74), (67, tw_al 0), (68, tw_il 1), (69, tw_il 2), (70, tw_cv 2 22 fn_Mo_illegal), (73, tw_ri), (74, tw_il 3), (75, tw_ic (22)), (77, tw_cge 88), (80, tw_al 0), (81, tw_il 1), (82, tw_il 2), (83, tw_il 3), (84, tw_cv 3 22 fn_Mo_controls), (87, tw_ri), (88, tw_il 3), (89, tw_ic (22)), (91, tw_cne 163), (94, tw_al 0), (95, tw_gr 22 27), (98, tw_il 1), (99, tw_al 0), (100, tw_gr 22 25), (103, tw_il 5), (105, tw_ia), (106, tw_ic 4), (107, tw_bin (· &&& ·)), (108, tw_ifne 115), (111, tw_ic 1), (112, tw_jmp 116), (115, tw_ic 0), (116, tw_zas 22 37), (117, tw_al 0), (118, tw_gr 22 25), (121, tw_il 5), (123, tw_al 0), (124, tw_gr 22 25), (127, tw_il 5), (129, tw_ia), (130, tw_ic (8)), (132, tw_bin (· &&& ·)), (133, tw_ic 2), (134, tw_bin (· ||| ·)), (135, tw_al 0), (136, tw_gr 22 25), (139, tw_il 5), (141, tw_ia), (142, tw_ic 1), (143, tw_bin (fun x y => x >>> (y &&& 31))), (144, tw_ic 1), (145, tw_bin (· &&& ·)), (146, tw_bin (· ||| ·)), (147, tw_ias 22 37), (148, tw_al 0), (149, tw_il 1), (150, tw_al 0), (151, tw_gr 22 25), (154, tw_il 5), (156, tw_ic 2), (157, tw_bin (· + ·)), (158, tw_ia), (159, tw_cv 2 22 fn_Mo_retire), (162, tw_ri), (163, tw_il 3), (164, tw_ic (23)), (166, tw_cne 174), (169, tw_al 0), (170, tw_il 1), (171, tw_cv 1 22 fn_Mo_flush), (174, tw_il 3), (175, tw_ic (24)), (177, tw_cne 189), (180, tw_il 4), (182, tw_ifne 189), (185, tw_ic 2), (186, tw_jmp 202), (189, tw_al 0), (190, tw_il 1), (191, tw_al 0), (192, tw_gr 22 26), (195, tw_il 1), (196, tw_ia), (197, tw_ic 1), (198, tw_bin (· + ·)), (199, tw_cv 2 22 fn_Mo_retire), (202, tw_ri)]
set_option maxRecDepth 100000 in
set_option maxHeartbeats 4000000 in
theorem ok_Mo_special {p : Program} {l : Launch} {e : Env} {s : State} {m : MethodId} {args : Array Value} {below : List Frame} {meth : Method} {c : Code} {E : tw_E} {D : va_G} {ρ : tw_R} (hC : tw_Cx p s m args meth c b_Mo_special 6 (some .int) "TwinHostModel" E D) : tw_Ok p l e (tw_rmd 4) s m args below meth c 0 0 (MQ below (tw_Qc E D ρ) args s 0 0 (tw_A E)) 6 E D ρ pr_Mo_special :=
  ⟨ts_bipush hC d_Mo_special_0 (by decide),
   ts_iload_n hC d_Mo_special_2 rfl,
   ts_imul hC d_Mo_special_3,
   ts_istore hC d_Mo_special_4 (by decide),
   ts_iload_n hC d_Mo_special_6 rfl,
   ts_bipush hC d_Mo_special_7 (by decide),
   ts_ceq hC d_Mo_special_9 (by decide),
   ts_iload_n hC d_Mo_special_12 rfl,
   ts_bipush hC d_Mo_special_13 (by decide),
   ts_cne hC d_Mo_special_15 (by decide),
   ts_aload_n hC d_Mo_special_18 rfl,
   ts_iload_n hC d_Mo_special_19 rfl,
   ts_iload_n hC d_Mo_special_20 rfl,
   ts_bipush hC d_Mo_special_21 (by decide),
   ts_cne hC d_Mo_special_23 (by decide),
   ts_iconst hC d_Mo_special_26 (by decide),
   ts_goto hC d_Mo_special_27 (by decide),
   ts_aload_n hC d_Mo_special_30 rfl,
   ts_gr (j := 7) (C := R_Mo) (T := T_Mo) hC rfl rfl rfl (by decide) u_Mo wd_463 rfl d_Mo_special_31,
   ts_iload_n hC d_Mo_special_34 rfl,
   ts_baload hC d_Mo_special_35,
   ts_ifeq hC d_Mo_special_36 (by decide),
   ts_bipush hC d_Mo_special_39 (by decide),
   ts_goto hC d_Mo_special_41 (by decide),
   ts_bipush hC d_Mo_special_44 (by decide),
   ts_iconst hC d_Mo_special_46 (by decide),
   ts_callv (C := R_Mo) (T := T_Mo) hC con_Mo_trap wd_612 wd_30 (by decide +kernel) ⟨by decide, by decide⟩ ⟨Nat.zero_le _, Nat.zero_le _⟩ wd_609 rfl rfl wd_611 wd_9 d_Mo_special_47,
   ts_iconst hC d_Mo_special_50 (by decide),
   ts_iret hC rfl d_Mo_special_51,
   ts_iload_n hC d_Mo_special_52 rfl,
   ts_bipush hC d_Mo_special_53 (by decide),
   ts_cgt hC d_Mo_special_55 (by decide),
   ts_aload_n hC d_Mo_special_58 rfl,
   ts_gr (j := 7) (C := R_Mo) (T := T_Mo) hC rfl rfl rfl (by decide) u_Mo wd_463 rfl d_Mo_special_59,
   ts_iload_n hC d_Mo_special_62 rfl,
   ts_baload hC d_Mo_special_63,
   ts_ifeq hC d_Mo_special_64 (by decide),
   ts_aload_n hC d_Mo_special_67 rfl,
   ts_iload_n hC d_Mo_special_68 rfl,
   ts_iload_n hC d_Mo_special_69 rfl,
   ts_callv (C := R_Mo) (T := T_Mo) hC con_Mo_illegal wd_651 wd_30 (by decide +kernel) ⟨by decide, by decide⟩ ⟨Nat.zero_le _, Nat.zero_le _⟩ wd_648 rfl rfl wd_650 wd_18 d_Mo_special_70,
   ts_iret hC rfl d_Mo_special_73,
   ts_iload_n hC d_Mo_special_74 rfl,
   ts_bipush hC d_Mo_special_75 (by decide),
   ts_cge hC d_Mo_special_77 (by decide),
   ts_aload_n hC d_Mo_special_80 rfl,
   ts_iload_n hC d_Mo_special_81 rfl,
   ts_iload_n hC d_Mo_special_82 rfl,
   ts_iload_n hC d_Mo_special_83 rfl,
   ts_callv (C := R_Mo) (T := T_Mo) hC con_Mo_controls wd_655 wd_30 (by decide +kernel) ⟨by decide, by decide⟩ ⟨Nat.zero_le _, Nat.zero_le _⟩ wd_652 rfl rfl wd_654 wd_19 d_Mo_special_84,
   ts_iret hC rfl d_Mo_special_87,
   ts_iload_n hC d_Mo_special_88 rfl,
   ts_bipush hC d_Mo_special_89 (by decide),
   ts_cne hC d_Mo_special_91 (by decide),
   ts_aload_n hC d_Mo_special_94 rfl,
   ts_gr (j := 7) (C := R_Mo) (T := T_Mo) hC rfl rfl rfl (by decide) u_Mo wd_463 rfl d_Mo_special_95,
   ts_iload_n hC d_Mo_special_98 rfl,
   ts_aload_n hC d_Mo_special_99 rfl,
   ts_gr (j := 5) (C := R_Mo) (T := T_Mo) hC rfl rfl rfl (by decide) u_Mo wd_461 rfl d_Mo_special_100,
   ts_iload hC d_Mo_special_103,
   ts_iaload hC d_Mo_special_105,
   ts_iconst hC d_Mo_special_106 (by decide),
   ts_iand hC d_Mo_special_107,
   ts_ifne hC d_Mo_special_108 (by decide),
   ts_iconst hC d_Mo_special_111 (by decide),
   ts_goto hC d_Mo_special_112 (by decide),
   ts_iconst hC d_Mo_special_115 (by decide),
   ts_bastore hC d_Mo_special_116,
   ts_aload_n hC d_Mo_special_117 rfl,
   ts_gr (j := 5) (C := R_Mo) (T := T_Mo) hC rfl rfl rfl (by decide) u_Mo wd_461 rfl d_Mo_special_118,
   ts_iload hC d_Mo_special_121,
   ts_aload_n hC d_Mo_special_123 rfl,
   ts_gr (j := 5) (C := R_Mo) (T := T_Mo) hC rfl rfl rfl (by decide) u_Mo wd_461 rfl d_Mo_special_124,
   ts_iload hC d_Mo_special_127,
   ts_iaload hC d_Mo_special_129,
   ts_bipush hC d_Mo_special_130 (by decide),
   ts_iand hC d_Mo_special_132,
   ts_iconst hC d_Mo_special_133 (by decide),
   ts_ior hC d_Mo_special_134,
   ts_aload_n hC d_Mo_special_135 rfl,
   ts_gr (j := 5) (C := R_Mo) (T := T_Mo) hC rfl rfl rfl (by decide) u_Mo wd_461 rfl d_Mo_special_136,
   ts_iload hC d_Mo_special_139,
   ts_iaload hC d_Mo_special_141,
   ts_iconst hC d_Mo_special_142 (by decide),
   ts_ishr hC d_Mo_special_143,
   ts_iconst hC d_Mo_special_144 (by decide),
   ts_iand hC d_Mo_special_145,
   ts_ior hC d_Mo_special_146,
   ts_iastore hC d_Mo_special_147,
   ts_aload_n hC d_Mo_special_148 rfl,
   ts_iload_n hC d_Mo_special_149 rfl,
   ts_aload_n hC d_Mo_special_150 rfl,
   ts_gr (j := 5) (C := R_Mo) (T := T_Mo) hC rfl rfl rfl (by decide) u_Mo wd_461 rfl d_Mo_special_151,
   ts_iload hC d_Mo_special_154,
   ts_iconst hC d_Mo_special_156 (by decide),
   ts_iadd hC d_Mo_special_157,
   ts_iaload hC d_Mo_special_158,
   ts_callv (C := R_Mo) (T := T_Mo) hC con_Mo_retire wd_664 wd_30 (by decide +kernel) ⟨by decide, by decide⟩ ⟨Nat.zero_le _, Nat.zero_le _⟩ wd_661 rfl rfl wd_663 wd_21 d_Mo_special_159,
   ts_iret hC rfl d_Mo_special_162,
   ts_iload_n hC d_Mo_special_163 rfl,
   ts_bipush hC d_Mo_special_164 (by decide),
   ts_cne hC d_Mo_special_166 (by decide),
   ts_aload_n hC d_Mo_special_169 rfl,
   ts_iload_n hC d_Mo_special_170 rfl,
   ts_callv (C := R_Mo) (T := T_Mo) hC con_Mo_flush wd_571 wd_30 (by decide +kernel) ⟨by decide, by decide⟩ ⟨Nat.zero_le _, Nat.zero_le _⟩ wd_568 rfl rfl wd_570 wd_5 d_Mo_special_171,
   ts_iload_n hC d_Mo_special_174 rfl,
   ts_bipush hC d_Mo_special_175 (by decide),
   ts_cne hC d_Mo_special_177 (by decide),
   ts_iload hC d_Mo_special_180,
   ts_ifne hC d_Mo_special_182 (by decide),
   ts_iconst hC d_Mo_special_185 (by decide),
   ts_goto hC d_Mo_special_186 (by decide),
   ts_aload_n hC d_Mo_special_189 rfl,
   ts_iload_n hC d_Mo_special_190 rfl,
   ts_aload_n hC d_Mo_special_191 rfl,
   ts_gr (j := 6) (C := R_Mo) (T := T_Mo) hC rfl rfl rfl (by decide) u_Mo wd_462 rfl d_Mo_special_192,
   ts_iload_n hC d_Mo_special_195 rfl,
   ts_iaload hC d_Mo_special_196,
   ts_iconst hC d_Mo_special_197 (by decide),
   ts_iadd hC d_Mo_special_198,
   ts_callv (C := R_Mo) (T := T_Mo) hC con_Mo_retire wd_664 wd_30 (by decide +kernel) ⟨by decide, by decide⟩ ⟨Nat.zero_le _, Nat.zero_le _⟩ wd_661 rfl rfl wd_663 wd_21 d_Mo_special_199,
   ts_iret hC rfl d_Mo_special_202,
   trivial⟩
noncomputable def fn_Mo_special : tw_Fn := tw_fl 5 6 124 pr_Mo_special
theorem con_Mo_special : tw_Con y_Mo_special b_Mo_special 6 (some .int) 4 fn_Mo_special := tw_met (by decide +kernel) (tw_fl_len (n := 5) (by decide)) (fun p l e s m args below meth c E D vs σ ρ hC h => tw_sound (ok_Mo_special hC) 124 pr_Mo_special (ok_Mo_special hC) _ _ _ (tw_fl_get h))

-- TwinHostModel.walk(III)I: 139 instructions, depth 4, calls Mo_outside Mo_broken Mo_fault Mo_reach
theorem d_Mo_walk_0 : decode b_Mo_walk 0 = .ok (.aload_n 0, 1) := by decide +kernel
theorem d_Mo_walk_1 : decode b_Mo_walk 1 = .ok (.getfield 16, 3) := by decide +kernel
theorem d_Mo_walk_4 : decode b_Mo_walk 4 = .ok (.bipush 12, 2) := by decide +kernel
theorem d_Mo_walk_6 : decode b_Mo_walk 6 = .ok (.iload_n 1, 1) := by decide +kernel
theorem d_Mo_walk_7 : decode b_Mo_walk 7 = .ok (.imul, 1) := by decide +kernel
theorem d_Mo_walk_8 : decode b_Mo_walk 8 = .ok (.bipush 6, 2) := by decide +kernel
theorem d_Mo_walk_10 : decode b_Mo_walk 10 = .ok (.iadd, 1) := by decide +kernel
theorem d_Mo_walk_11 : decode b_Mo_walk 11 = .ok (.iaload, 1) := by decide +kernel
theorem d_Mo_walk_12 : decode b_Mo_walk 12 = .ok (.bipush 15, 2) := by decide +kernel
theorem d_Mo_walk_14 : decode b_Mo_walk 14 = .ok (.iand, 1) := by decide +kernel
theorem d_Mo_walk_15 : decode b_Mo_walk 15 = .ok (.istore 4, 2) := by decide +kernel
theorem d_Mo_walk_17 : decode b_Mo_walk 17 = .ok (.iload 4, 2) := by decide +kernel
theorem d_Mo_walk_19 : decode b_Mo_walk 19 = .ok (.bipush 8, 2) := by decide +kernel
theorem d_Mo_walk_21 : decode b_Mo_walk 21 = .ok (.if_icmp .lt 11, 3) := by decide +kernel
theorem d_Mo_walk_24 : decode b_Mo_walk 24 = .ok (.aload_n 0, 1) := by decide +kernel
theorem d_Mo_walk_25 : decode b_Mo_walk 25 = .ok (.iload_n 1, 1) := by decide +kernel
theorem d_Mo_walk_26 : decode b_Mo_walk 26 = .ok (.iload_n 2, 1) := by decide +kernel
theorem d_Mo_walk_27 : decode b_Mo_walk 27 = .ok (.iload_n 3, 1) := by decide +kernel
theorem d_Mo_walk_28 : decode b_Mo_walk 28 = .ok (.invokevirtual 93, 3) := by decide +kernel
theorem d_Mo_walk_31 : decode b_Mo_walk 31 = .ok (.ireturn, 1) := by decide +kernel
theorem d_Mo_walk_32 : decode b_Mo_walk 32 = .ok (.aload_n 0, 1) := by decide +kernel
theorem d_Mo_walk_33 : decode b_Mo_walk 33 = .ok (.bipush 16, 2) := by decide +kernel
theorem d_Mo_walk_35 : decode b_Mo_walk 35 = .ok (.iload 4, 2) := by decide +kernel
theorem d_Mo_walk_37 : decode b_Mo_walk 37 = .ok (.imul, 1) := by decide +kernel
theorem d_Mo_walk_38 : decode b_Mo_walk 38 = .ok (.iload_n 2, 1) := by decide +kernel
theorem d_Mo_walk_39 : decode b_Mo_walk 39 = .ok (.bipush 6, 2) := by decide +kernel
theorem d_Mo_walk_41 : decode b_Mo_walk 41 = .ok (.ishr, 1) := by decide +kernel
theorem d_Mo_walk_42 : decode b_Mo_walk 42 = .ok (.iadd, 1) := by decide +kernel
theorem d_Mo_walk_43 : decode b_Mo_walk 43 = .ok (.putfield 111, 3) := by decide +kernel
theorem d_Mo_walk_46 : decode b_Mo_walk 46 = .ok (.aload_n 0, 1) := by decide +kernel
theorem d_Mo_walk_47 : decode b_Mo_walk 47 = .ok (.aload_n 0, 1) := by decide +kernel
theorem d_Mo_walk_48 : decode b_Mo_walk 48 = .ok (.getfield 111, 3) := by decide +kernel
theorem d_Mo_walk_51 : decode b_Mo_walk 51 = .ok (.putfield 114, 3) := by decide +kernel
theorem d_Mo_walk_54 : decode b_Mo_walk 54 = .ok (.aload_n 0, 1) := by decide +kernel
theorem d_Mo_walk_55 : decode b_Mo_walk 55 = .ok (.getfield 7, 3) := by decide +kernel
theorem d_Mo_walk_58 : decode b_Mo_walk 58 = .ok (.sipush 128, 3) := by decide +kernel
theorem d_Mo_walk_61 : decode b_Mo_walk 61 = .ok (.iload_n 1, 1) := by decide +kernel
theorem d_Mo_walk_62 : decode b_Mo_walk 62 = .ok (.imul, 1) := by decide +kernel
theorem d_Mo_walk_63 : decode b_Mo_walk 63 = .ok (.aload_n 0, 1) := by decide +kernel
theorem d_Mo_walk_64 : decode b_Mo_walk 64 = .ok (.getfield 111, 3) := by decide +kernel
theorem d_Mo_walk_67 : decode b_Mo_walk 67 = .ok (.iadd, 1) := by decide +kernel
theorem d_Mo_walk_68 : decode b_Mo_walk 68 = .ok (.iaload, 1) := by decide +kernel
theorem d_Mo_walk_69 : decode b_Mo_walk 69 = .ok (.istore 5, 2) := by decide +kernel
theorem d_Mo_walk_71 : decode b_Mo_walk 71 = .ok (.iload 5, 2) := by decide +kernel
theorem d_Mo_walk_73 : decode b_Mo_walk 73 = .ok (.invokestatic 117, 3) := by decide +kernel
theorem d_Mo_walk_76 : decode b_Mo_walk 76 = .ok (.ifCond .eq 11, 3) := by decide +kernel
theorem d_Mo_walk_79 : decode b_Mo_walk 79 = .ok (.aload_n 0, 1) := by decide +kernel
theorem d_Mo_walk_80 : decode b_Mo_walk 80 = .ok (.iload_n 1, 1) := by decide +kernel
theorem d_Mo_walk_81 : decode b_Mo_walk 81 = .ok (.iload_n 2, 1) := by decide +kernel
theorem d_Mo_walk_82 : decode b_Mo_walk 82 = .ok (.iload_n 3, 1) := by decide +kernel
theorem d_Mo_walk_83 : decode b_Mo_walk 83 = .ok (.invokevirtual 97, 3) := by decide +kernel
theorem d_Mo_walk_86 : decode b_Mo_walk 86 = .ok (.ireturn, 1) := by decide +kernel
theorem d_Mo_walk_87 : decode b_Mo_walk 87 = .ok (.iload 5, 2) := by decide +kernel
theorem d_Mo_walk_89 : decode b_Mo_walk 89 = .ok (.bipush 8, 2) := by decide +kernel
theorem d_Mo_walk_91 : decode b_Mo_walk 91 = .ok (.ishr, 1) := by decide +kernel
theorem d_Mo_walk_92 : decode b_Mo_walk 92 = .ok (.bipush 15, 2) := by decide +kernel
theorem d_Mo_walk_94 : decode b_Mo_walk 94 = .ok (.iand, 1) := by decide +kernel
theorem d_Mo_walk_95 : decode b_Mo_walk 95 = .ok (.istore 6, 2) := by decide +kernel
theorem d_Mo_walk_97 : decode b_Mo_walk 97 = .ok (.iload 5, 2) := by decide +kernel
theorem d_Mo_walk_99 : decode b_Mo_walk 99 = .ok (.bipush 10, 2) := by decide +kernel
theorem d_Mo_walk_101 : decode b_Mo_walk 101 = .ok (.iand, 1) := by decide +kernel
theorem d_Mo_walk_102 : decode b_Mo_walk 102 = .ok (.ifCond .eq 36, 3) := by decide +kernel
theorem d_Mo_walk_105 : decode b_Mo_walk 105 = .ok (.iload 6, 2) := by decide +kernel
theorem d_Mo_walk_107 : decode b_Mo_walk 107 = .ok (.iconst 3, 1) := by decide +kernel
theorem d_Mo_walk_108 : decode b_Mo_walk 108 = .ok (.iand, 1) := by decide +kernel
theorem d_Mo_walk_109 : decode b_Mo_walk 109 = .ok (.ifCond .eq 13, 3) := by decide +kernel
theorem d_Mo_walk_112 : decode b_Mo_walk 112 = .ok (.aload_n 0, 1) := by decide +kernel
theorem d_Mo_walk_113 : decode b_Mo_walk 113 = .ok (.iload_n 1, 1) := by decide +kernel
theorem d_Mo_walk_114 : decode b_Mo_walk 114 = .ok (.iload_n 2, 1) := by decide +kernel
theorem d_Mo_walk_115 : decode b_Mo_walk 115 = .ok (.iload_n 3, 1) := by decide +kernel
theorem d_Mo_walk_116 : decode b_Mo_walk 116 = .ok (.invokevirtual 97, 3) := by decide +kernel
theorem d_Mo_walk_119 : decode b_Mo_walk 119 = .ok (.goto 18, 3) := by decide +kernel
theorem d_Mo_walk_122 : decode b_Mo_walk 122 = .ok (.aload_n 0, 1) := by decide +kernel
theorem d_Mo_walk_123 : decode b_Mo_walk 123 = .ok (.iload_n 1, 1) := by decide +kernel
theorem d_Mo_walk_124 : decode b_Mo_walk 124 = .ok (.iload_n 2, 1) := by decide +kernel
theorem d_Mo_walk_125 : decode b_Mo_walk 125 = .ok (.iload_n 3, 1) := by decide +kernel
theorem d_Mo_walk_126 : decode b_Mo_walk 126 = .ok (.iload 6, 2) := by decide +kernel
theorem d_Mo_walk_128 : decode b_Mo_walk 128 = .ok (.iload_n 2, 1) := by decide +kernel
theorem d_Mo_walk_129 : decode b_Mo_walk 129 = .ok (.iconst 4, 1) := by decide +kernel
theorem d_Mo_walk_130 : decode b_Mo_walk 130 = .ok (.ishr, 1) := by decide +kernel
theorem d_Mo_walk_131 : decode b_Mo_walk 131 = .ok (.iconst 3, 1) := by decide +kernel
theorem d_Mo_walk_132 : decode b_Mo_walk 132 = .ok (.iand, 1) := by decide +kernel
theorem d_Mo_walk_133 : decode b_Mo_walk 133 = .ok (.iadd, 1) := by decide +kernel
theorem d_Mo_walk_134 : decode b_Mo_walk 134 = .ok (.invokevirtual 120, 3) := by decide +kernel
theorem d_Mo_walk_137 : decode b_Mo_walk 137 = .ok (.ireturn, 1) := by decide +kernel
theorem d_Mo_walk_138 : decode b_Mo_walk 138 = .ok (.iload 6, 2) := by decide +kernel
theorem d_Mo_walk_140 : decode b_Mo_walk 140 = .ok (.bipush 8, 2) := by decide +kernel
theorem d_Mo_walk_142 : decode b_Mo_walk 142 = .ok (.if_icmp .lt 11, 3) := by decide +kernel
theorem d_Mo_walk_145 : decode b_Mo_walk 145 = .ok (.aload_n 0, 1) := by decide +kernel
theorem d_Mo_walk_146 : decode b_Mo_walk 146 = .ok (.iload_n 1, 1) := by decide +kernel
theorem d_Mo_walk_147 : decode b_Mo_walk 147 = .ok (.iload_n 2, 1) := by decide +kernel
theorem d_Mo_walk_148 : decode b_Mo_walk 148 = .ok (.iload_n 3, 1) := by decide +kernel
theorem d_Mo_walk_149 : decode b_Mo_walk 149 = .ok (.invokevirtual 93, 3) := by decide +kernel
theorem d_Mo_walk_152 : decode b_Mo_walk 152 = .ok (.ireturn, 1) := by decide +kernel
theorem d_Mo_walk_153 : decode b_Mo_walk 153 = .ok (.aload_n 0, 1) := by decide +kernel
theorem d_Mo_walk_154 : decode b_Mo_walk 154 = .ok (.bipush 16, 2) := by decide +kernel
theorem d_Mo_walk_156 : decode b_Mo_walk 156 = .ok (.iload 6, 2) := by decide +kernel
theorem d_Mo_walk_158 : decode b_Mo_walk 158 = .ok (.imul, 1) := by decide +kernel
theorem d_Mo_walk_159 : decode b_Mo_walk 159 = .ok (.iload_n 2, 1) := by decide +kernel
theorem d_Mo_walk_160 : decode b_Mo_walk 160 = .ok (.iconst 4, 1) := by decide +kernel
theorem d_Mo_walk_161 : decode b_Mo_walk 161 = .ok (.ishr, 1) := by decide +kernel
theorem d_Mo_walk_162 : decode b_Mo_walk 162 = .ok (.iconst 3, 1) := by decide +kernel
theorem d_Mo_walk_163 : decode b_Mo_walk 163 = .ok (.iand, 1) := by decide +kernel
theorem d_Mo_walk_164 : decode b_Mo_walk 164 = .ok (.iadd, 1) := by decide +kernel
theorem d_Mo_walk_165 : decode b_Mo_walk 165 = .ok (.putfield 114, 3) := by decide +kernel
theorem d_Mo_walk_168 : decode b_Mo_walk 168 = .ok (.aload_n 0, 1) := by decide +kernel
theorem d_Mo_walk_169 : decode b_Mo_walk 169 = .ok (.getfield 7, 3) := by decide +kernel
theorem d_Mo_walk_172 : decode b_Mo_walk 172 = .ok (.sipush 128, 3) := by decide +kernel
theorem d_Mo_walk_175 : decode b_Mo_walk 175 = .ok (.iload_n 1, 1) := by decide +kernel
theorem d_Mo_walk_176 : decode b_Mo_walk 176 = .ok (.imul, 1) := by decide +kernel
theorem d_Mo_walk_177 : decode b_Mo_walk 177 = .ok (.aload_n 0, 1) := by decide +kernel
theorem d_Mo_walk_178 : decode b_Mo_walk 178 = .ok (.getfield 114, 3) := by decide +kernel
theorem d_Mo_walk_181 : decode b_Mo_walk 181 = .ok (.iadd, 1) := by decide +kernel
theorem d_Mo_walk_182 : decode b_Mo_walk 182 = .ok (.iaload, 1) := by decide +kernel
theorem d_Mo_walk_183 : decode b_Mo_walk 183 = .ok (.istore 5, 2) := by decide +kernel
theorem d_Mo_walk_185 : decode b_Mo_walk 185 = .ok (.iload 5, 2) := by decide +kernel
theorem d_Mo_walk_187 : decode b_Mo_walk 187 = .ok (.invokestatic 117, 3) := by decide +kernel
theorem d_Mo_walk_190 : decode b_Mo_walk 190 = .ok (.ifCond .ne 11, 3) := by decide +kernel
theorem d_Mo_walk_193 : decode b_Mo_walk 193 = .ok (.iload 5, 2) := by decide +kernel
theorem d_Mo_walk_195 : decode b_Mo_walk 195 = .ok (.bipush 10, 2) := by decide +kernel
theorem d_Mo_walk_197 : decode b_Mo_walk 197 = .ok (.iand, 1) := by decide +kernel
theorem d_Mo_walk_198 : decode b_Mo_walk 198 = .ok (.ifCond .ne 11, 3) := by decide +kernel
theorem d_Mo_walk_201 : decode b_Mo_walk 201 = .ok (.aload_n 0, 1) := by decide +kernel
theorem d_Mo_walk_202 : decode b_Mo_walk 202 = .ok (.iload_n 1, 1) := by decide +kernel
theorem d_Mo_walk_203 : decode b_Mo_walk 203 = .ok (.iload_n 2, 1) := by decide +kernel
theorem d_Mo_walk_204 : decode b_Mo_walk 204 = .ok (.iload_n 3, 1) := by decide +kernel
theorem d_Mo_walk_205 : decode b_Mo_walk 205 = .ok (.invokevirtual 97, 3) := by decide +kernel
theorem d_Mo_walk_208 : decode b_Mo_walk 208 = .ok (.ireturn, 1) := by decide +kernel
theorem d_Mo_walk_209 : decode b_Mo_walk 209 = .ok (.aload_n 0, 1) := by decide +kernel
theorem d_Mo_walk_210 : decode b_Mo_walk 210 = .ok (.iload_n 1, 1) := by decide +kernel
theorem d_Mo_walk_211 : decode b_Mo_walk 211 = .ok (.iload_n 2, 1) := by decide +kernel
theorem d_Mo_walk_212 : decode b_Mo_walk 212 = .ok (.iload_n 3, 1) := by decide +kernel
theorem d_Mo_walk_213 : decode b_Mo_walk 213 = .ok (.iload 5, 2) := by decide +kernel
theorem d_Mo_walk_215 : decode b_Mo_walk 215 = .ok (.bipush 8, 2) := by decide +kernel
theorem d_Mo_walk_217 : decode b_Mo_walk 217 = .ok (.ishr, 1) := by decide +kernel
theorem d_Mo_walk_218 : decode b_Mo_walk 218 = .ok (.bipush 15, 2) := by decide +kernel
theorem d_Mo_walk_220 : decode b_Mo_walk 220 = .ok (.iand, 1) := by decide +kernel
theorem d_Mo_walk_221 : decode b_Mo_walk 221 = .ok (.invokevirtual 120, 3) := by decide +kernel
theorem d_Mo_walk_224 : decode b_Mo_walk 224 = .ok (.ireturn, 1) := by decide +kernel
noncomputable def pr_Mo_walk : List (Nat × tw_Op) := [(0, tw_al 0), (1, tw_gr 22 25), (4, tw_ic (12)), (6, tw_il 1), (7, tw_bin (· * ·)), (8, tw_ic (6)), (10, tw_bin (· + ·)), (11, tw_ia), (12, tw_ic (15)), (14, tw_bin (· &&& ·)), (15, tw_is 4), (17, tw_il 4), (19, tw_ic (8)), (21, tw_clt 32), (24, tw_al 0), (25, tw_il 1), (26, tw_il 2), (27, tw_il 3), (28, tw_cv 3 22 fn_Mo_outside), (31, tw_ri), (32, tw_al 0), (33, tw_ic (16)), (35, tw_il 4), (37, tw_bin (· * ·)), (38, tw_il 2), (39, tw_ic (6)), (41, tw_bin (fun x y => x >>> (y &&& 31))), (42, tw_bin (· + ·)), (43, tw_pi 22 18), (46, tw_al 0), (47, tw_al 0), (48, tw_gi 22 18), (51, tw_pi 22 17), (54, tw_al 0), (55, tw_gr 22 23), (58, tw_ic (128)), (61, tw_il 1), (62, tw_bin (· * ·)), (63, tw_al 0), (64, tw_gi 22 18), (67, tw_bin (· + ·)), (68, tw_ia), (69, tw_is 5), (71, tw_il 5), (73, tw_cs 1 fn_Mo_broken), (76, tw_ifeq 87), (79, tw_al 0), (80, tw_il 1), (81, tw_il 2), (82, tw_il 3), (83, tw_cv 3 22 fn_Mo_fault), (86, tw_ri), (87, tw_il 5), (89, tw_ic (8)), (91, tw_bin (fun x y => x >>> (y &&& 31))), (92, tw_ic (15)), (94, tw_bin (· &&& ·)), (95, tw_is 6), (97, tw_il 5), (99, tw_ic (10)), (101, tw_bin (· &&& ·)), (102, tw_ifeq 138), (105, tw_il 6), (107, tw_ic 3), (108, tw_bin (· &&& ·)), (109, tw_ifeq 122), (112, tw_al 0), (113, tw_il 1), (114, tw_il 2), (115, tw_il 3), (116, tw_cv 3 22 fn_Mo_fault), (119, tw_jmp 137), (122, tw_al 0), (123, tw_il 1), (124, tw_il 2), (125, tw_il 3), (126, tw_il 6), (128, tw_il 2), (129, tw_ic 4), (130, tw_bin (fun x y => x >>> (y &&& 31))), (131, tw_ic 3), (132, tw_bin (· &&& ·)), (133, tw_bin (· + ·)), (134, tw_cv 4 22 fn_Mo_reach), (137, tw_ri), (138, tw_il 6), (140, tw_ic (8)), (142, tw_clt 153), (145, tw_al 0), (146, tw_il 1), (147, tw_il 2), (148, tw_il 3), (149, tw_cv 3 22 fn_Mo_outside), (152, tw_ri), (153, tw_al 0), (154, tw_ic (16)), (156, tw_il 6), (158, tw_bin (· * ·)), (159, tw_il 2), (160, tw_ic 4), (161, tw_bin (fun x y => x >>> (y &&& 31))), (162, tw_ic 3), (163, tw_bin (· &&& ·)), (164, tw_bin (· + ·)), (165, tw_pi 22 17), (168, tw_al 0), (169, tw_gr 22 23), (172, tw_ic (128)), (175, tw_il 1), (176, tw_bin (· * ·)), (177, tw_al 0), (178, tw_gi 22 17), (181, tw_bin (· + ·)), (182, tw_ia), (183, tw_is 5), (185, tw_il 5), (187, tw_cs 1 fn_Mo_broken), (190, tw_ifne 201), (193, tw_il 5), (195, tw_ic (10)), (197, tw_bin (· &&& ·)), (198, tw_ifne 209), (201, tw_al 0), (202, tw_il 1), (203, tw_il 2), (204, tw_il 3), (205, tw_cv 3 22 fn_Mo_fault), (208, tw_ri), (209, tw_al 0), (210, tw_il 1), (211, tw_il 2), (212, tw_il 3), (213, tw_il 5), (215, tw_ic (8)), (217, tw_bin (fun x y => x >>> (y &&& 31))), (218, tw_ic (15)), (220, tw_bin (· &&& ·)), (221, tw_cv 4 22 fn_Mo_reach), (224, tw_ri)]
set_option maxRecDepth 100000 in
set_option maxHeartbeats 4000000 in
theorem ok_Mo_walk {p : Program} {l : Launch} {e : Env} {s : State} {m : MethodId} {args : Array Value} {below : List Frame} {meth : Method} {c : Code} {E : tw_E} {D : va_G} {ρ : tw_R} (hC : tw_Cx p s m args meth c b_Mo_walk 7 (some .int) "TwinHostModel" E D) : tw_Ok p l e (tw_rmd 4) s m args below meth c 0 0 (MQ below (tw_Qc E D ρ) args s 0 0 (tw_A E)) 7 E D ρ pr_Mo_walk :=
  ⟨ts_aload_n hC d_Mo_walk_0 rfl,
   ts_gr (j := 5) (C := R_Mo) (T := T_Mo) hC rfl rfl rfl (by decide) u_Mo wd_461 rfl d_Mo_walk_1,
   ts_bipush hC d_Mo_walk_4 (by decide),
   ts_iload_n hC d_Mo_walk_6 rfl,
   ts_imul hC d_Mo_walk_7,
   ts_bipush hC d_Mo_walk_8 (by decide),
   ts_iadd hC d_Mo_walk_10,
   ts_iaload hC d_Mo_walk_11,
   ts_bipush hC d_Mo_walk_12 (by decide),
   ts_iand hC d_Mo_walk_14,
   ts_istore hC d_Mo_walk_15 (by decide),
   ts_iload hC d_Mo_walk_17,
   ts_bipush hC d_Mo_walk_19 (by decide),
   ts_clt hC d_Mo_walk_21 (by decide),
   ts_aload_n hC d_Mo_walk_24 rfl,
   ts_iload_n hC d_Mo_walk_25 rfl,
   ts_iload_n hC d_Mo_walk_26 rfl,
   ts_iload_n hC d_Mo_walk_27 rfl,
   ts_callv (C := R_Mo) (T := T_Mo) hC con_Mo_outside wd_620 wd_30 (by decide +kernel) ⟨by decide, by decide⟩ ⟨Nat.zero_le _, Nat.zero_le _⟩ wd_617 rfl rfl wd_619 wd_11 d_Mo_walk_28,
   ts_iret hC rfl d_Mo_walk_31,
   ts_aload_n hC d_Mo_walk_32 rfl,
   ts_bipush hC d_Mo_walk_33 (by decide),
   ts_iload hC d_Mo_walk_35,
   ts_imul hC d_Mo_walk_37,
   ts_iload_n hC d_Mo_walk_38 rfl,
   ts_bipush hC d_Mo_walk_39 (by decide),
   ts_ishr hC d_Mo_walk_41,
   ts_iadd hC d_Mo_walk_42,
   ts_pi (j := 18) (C := R_Mo) (T := T_Mo) hC rfl rfl rfl (by decide) u_Mo wd_474 rfl t_Mo_ok n_Mo rfl (by decide +kernel) d_Mo_walk_43,
   ts_aload_n hC d_Mo_walk_46 rfl,
   ts_aload_n hC d_Mo_walk_47 rfl,
   ts_gi (j := 18) (C := R_Mo) (T := T_Mo) hC rfl rfl rfl (by decide) u_Mo wd_474 rfl d_Mo_walk_48,
   ts_pi (j := 17) (C := R_Mo) (T := T_Mo) hC rfl rfl rfl (by decide) u_Mo wd_473 rfl t_Mo_ok n_Mo rfl (by decide +kernel) d_Mo_walk_51,
   ts_aload_n hC d_Mo_walk_54 rfl,
   ts_gr (j := 3) (C := R_Mo) (T := T_Mo) hC rfl rfl rfl (by decide) u_Mo wd_459 rfl d_Mo_walk_55,
   ts_sipush hC d_Mo_walk_58 (by decide),
   ts_iload_n hC d_Mo_walk_61 rfl,
   ts_imul hC d_Mo_walk_62,
   ts_aload_n hC d_Mo_walk_63 rfl,
   ts_gi (j := 18) (C := R_Mo) (T := T_Mo) hC rfl rfl rfl (by decide) u_Mo wd_474 rfl d_Mo_walk_64,
   ts_iadd hC d_Mo_walk_67,
   ts_iaload hC d_Mo_walk_68,
   ts_istore hC d_Mo_walk_69 (by decide),
   ts_iload hC d_Mo_walk_71,
   ts_calls hC con_Mo_broken wd_635 wd_30 (by decide +kernel) ⟨by decide, by decide⟩ ⟨Nat.zero_le _, Nat.zero_le _⟩ wd_633 wd_634 d_Mo_walk_73,
   ts_ifeq hC d_Mo_walk_76 (by decide),
   ts_aload_n hC d_Mo_walk_79 rfl,
   ts_iload_n hC d_Mo_walk_80 rfl,
   ts_iload_n hC d_Mo_walk_81 rfl,
   ts_iload_n hC d_Mo_walk_82 rfl,
   ts_callv (C := R_Mo) (T := T_Mo) hC con_Mo_fault wd_624 wd_30 (by decide +kernel) ⟨by decide, by decide⟩ ⟨Nat.zero_le _, Nat.zero_le _⟩ wd_621 rfl rfl wd_623 wd_12 d_Mo_walk_83,
   ts_iret hC rfl d_Mo_walk_86,
   ts_iload hC d_Mo_walk_87,
   ts_bipush hC d_Mo_walk_89 (by decide),
   ts_ishr hC d_Mo_walk_91,
   ts_bipush hC d_Mo_walk_92 (by decide),
   ts_iand hC d_Mo_walk_94,
   ts_istore hC d_Mo_walk_95 (by decide),
   ts_iload hC d_Mo_walk_97,
   ts_bipush hC d_Mo_walk_99 (by decide),
   ts_iand hC d_Mo_walk_101,
   ts_ifeq hC d_Mo_walk_102 (by decide),
   ts_iload hC d_Mo_walk_105,
   ts_iconst hC d_Mo_walk_107 (by decide),
   ts_iand hC d_Mo_walk_108,
   ts_ifeq hC d_Mo_walk_109 (by decide),
   ts_aload_n hC d_Mo_walk_112 rfl,
   ts_iload_n hC d_Mo_walk_113 rfl,
   ts_iload_n hC d_Mo_walk_114 rfl,
   ts_iload_n hC d_Mo_walk_115 rfl,
   ts_callv (C := R_Mo) (T := T_Mo) hC con_Mo_fault wd_624 wd_30 (by decide +kernel) ⟨by decide, by decide⟩ ⟨Nat.zero_le _, Nat.zero_le _⟩ wd_621 rfl rfl wd_623 wd_12 d_Mo_walk_116,
   ts_goto hC d_Mo_walk_119 (by decide),
   ts_aload_n hC d_Mo_walk_122 rfl,
   ts_iload_n hC d_Mo_walk_123 rfl,
   ts_iload_n hC d_Mo_walk_124 rfl,
   ts_iload_n hC d_Mo_walk_125 rfl,
   ts_iload hC d_Mo_walk_126,
   ts_iload_n hC d_Mo_walk_128 rfl,
   ts_iconst hC d_Mo_walk_129 (by decide),
   ts_ishr hC d_Mo_walk_130,
   ts_iconst hC d_Mo_walk_131 (by decide),
   ts_iand hC d_Mo_walk_132,
   ts_iadd hC d_Mo_walk_133,
   ts_callv (C := R_Mo) (T := T_Mo) hC con_Mo_reach wd_639 wd_30 (by decide +kernel) ⟨by decide, by decide⟩ ⟨Nat.zero_le _, Nat.zero_le _⟩ wd_636 rfl rfl wd_638 wd_15 d_Mo_walk_134,
   ts_iret hC rfl d_Mo_walk_137,
   ts_iload hC d_Mo_walk_138,
   ts_bipush hC d_Mo_walk_140 (by decide),
   ts_clt hC d_Mo_walk_142 (by decide),
   ts_aload_n hC d_Mo_walk_145 rfl,
   ts_iload_n hC d_Mo_walk_146 rfl,
   ts_iload_n hC d_Mo_walk_147 rfl,
   ts_iload_n hC d_Mo_walk_148 rfl,
   ts_callv (C := R_Mo) (T := T_Mo) hC con_Mo_outside wd_620 wd_30 (by decide +kernel) ⟨by decide, by decide⟩ ⟨Nat.zero_le _, Nat.zero_le _⟩ wd_617 rfl rfl wd_619 wd_11 d_Mo_walk_149,
   ts_iret hC rfl d_Mo_walk_152,
   ts_aload_n hC d_Mo_walk_153 rfl,
   ts_bipush hC d_Mo_walk_154 (by decide),
   ts_iload hC d_Mo_walk_156,
   ts_imul hC d_Mo_walk_158,
   ts_iload_n hC d_Mo_walk_159 rfl,
   ts_iconst hC d_Mo_walk_160 (by decide),
   ts_ishr hC d_Mo_walk_161,
   ts_iconst hC d_Mo_walk_162 (by decide),
   ts_iand hC d_Mo_walk_163,
   ts_iadd hC d_Mo_walk_164,
   ts_pi (j := 17) (C := R_Mo) (T := T_Mo) hC rfl rfl rfl (by decide) u_Mo wd_473 rfl t_Mo_ok n_Mo rfl (by decide +kernel) d_Mo_walk_165,
   ts_aload_n hC d_Mo_walk_168 rfl,
   ts_gr (j := 3) (C := R_Mo) (T := T_Mo) hC rfl rfl rfl (by decide) u_Mo wd_459 rfl d_Mo_walk_169,
   ts_sipush hC d_Mo_walk_172 (by decide),
   ts_iload_n hC d_Mo_walk_175 rfl,
   ts_imul hC d_Mo_walk_176,
   ts_aload_n hC d_Mo_walk_177 rfl,
   ts_gi (j := 17) (C := R_Mo) (T := T_Mo) hC rfl rfl rfl (by decide) u_Mo wd_473 rfl d_Mo_walk_178,
   ts_iadd hC d_Mo_walk_181,
   ts_iaload hC d_Mo_walk_182,
   ts_istore hC d_Mo_walk_183 (by decide),
   ts_iload hC d_Mo_walk_185,
   ts_calls hC con_Mo_broken wd_635 wd_30 (by decide +kernel) ⟨by decide, by decide⟩ ⟨Nat.zero_le _, Nat.zero_le _⟩ wd_633 wd_634 d_Mo_walk_187,
   ts_ifne hC d_Mo_walk_190 (by decide),
   ts_iload hC d_Mo_walk_193,
   ts_bipush hC d_Mo_walk_195 (by decide),
   ts_iand hC d_Mo_walk_197,
   ts_ifne hC d_Mo_walk_198 (by decide),
   ts_aload_n hC d_Mo_walk_201 rfl,
   ts_iload_n hC d_Mo_walk_202 rfl,
   ts_iload_n hC d_Mo_walk_203 rfl,
   ts_iload_n hC d_Mo_walk_204 rfl,
   ts_callv (C := R_Mo) (T := T_Mo) hC con_Mo_fault wd_624 wd_30 (by decide +kernel) ⟨by decide, by decide⟩ ⟨Nat.zero_le _, Nat.zero_le _⟩ wd_621 rfl rfl wd_623 wd_12 d_Mo_walk_205,
   ts_iret hC rfl d_Mo_walk_208,
   ts_aload_n hC d_Mo_walk_209 rfl,
   ts_iload_n hC d_Mo_walk_210 rfl,
   ts_iload_n hC d_Mo_walk_211 rfl,
   ts_iload_n hC d_Mo_walk_212 rfl,
   ts_iload hC d_Mo_walk_213,
   ts_bipush hC d_Mo_walk_215 (by decide),
   ts_ishr hC d_Mo_walk_217,
   ts_bipush hC d_Mo_walk_218 (by decide),
   ts_iand hC d_Mo_walk_220,
   ts_callv (C := R_Mo) (T := T_Mo) hC con_Mo_reach wd_639 wd_30 (by decide +kernel) ⟨by decide, by decide⟩ ⟨Nat.zero_le _, Nat.zero_le _⟩ wd_636 rfl rfl wd_638 wd_15 d_Mo_walk_221,
   ts_iret hC rfl d_Mo_walk_224,
   trivial⟩
noncomputable def fn_Mo_walk : tw_Fn := tw_fl 4 7 141 pr_Mo_walk
theorem con_Mo_walk : tw_Con y_Mo_walk b_Mo_walk 7 (some .int) 4 fn_Mo_walk := tw_met (by decide +kernel) (tw_fl_len (n := 4) (by decide)) (fun p l e s m args below meth c E D vs σ ρ hC h => tw_sound (ok_Mo_walk hC) 141 pr_Mo_walk (ok_Mo_walk hC) _ _ _ (tw_fl_get h))
