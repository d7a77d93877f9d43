-- TwinHostModel.command(III)Z: 15 instructions, depth 3, calls Mo_guest Mo_isStored Mo_assign
theorem d_Mo_command_0 : decode b_Mo_command 0 = .ok (.iload_n 1, 1) := by decide +kernel
theorem d_Mo_command_1 : decode b_Mo_command 1 = .ok (.invokestatic 62, 3) := by decide +kernel
theorem d_Mo_command_4 : decode b_Mo_command 4 = .ok (.ifCond .eq 10, 3) := by decide +kernel
theorem d_Mo_command_7 : decode b_Mo_command 7 = .ok (.iload_n 2, 1) := by decide +kernel
theorem d_Mo_command_8 : decode b_Mo_command 8 = .ok (.invokestatic 77, 3) := by decide +kernel
theorem d_Mo_command_11 : decode b_Mo_command 11 = .ok (.ifCond .ne 5, 3) := by decide +kernel
theorem d_Mo_command_14 : decode b_Mo_command 14 = .ok (.iconst 0, 1) := by decide +kernel
theorem d_Mo_command_15 : decode b_Mo_command 15 = .ok (.ireturn, 1) := by decide +kernel
theorem d_Mo_command_16 : decode b_Mo_command 16 = .ok (.aload_n 0, 1) := by decide +kernel
theorem d_Mo_command_17 : decode b_Mo_command 17 = .ok (.iload_n 1, 1) := by decide +kernel
theorem d_Mo_command_18 : decode b_Mo_command 18 = .ok (.iload_n 2, 1) := by decide +kernel
theorem d_Mo_command_19 : decode b_Mo_command 19 = .ok (.iload_n 3, 1) := by decide +kernel
theorem d_Mo_command_20 : decode b_Mo_command 20 = .ok (.invokevirtual 80, 3) := by decide +kernel
theorem d_Mo_command_23 : decode b_Mo_command 23 = .ok (.iconst 1, 1) := by decide +kernel
theorem d_Mo_command_24 : decode b_Mo_command 24 = .ok (.ireturn, 1) := by decide +kernel
noncomputable def pr_Mo_command : List (Nat × tw_Op) := [(0, tw_il 1), (1, tw_cs 1 fn_Mo_guest), (4, tw_ifeq 14), (7, tw_il 2), (8, tw_cs 1 fn_Mo_isStored), (11, tw_ifne 16), (14, tw_ic 0), (15, tw_rz), (16, tw_al 0), (17, tw_il 1), (18, tw_il 2), (19, tw_il 3), (20, tw_cv 3 22 fn_Mo_assign), (23, tw_ic 1), (24, tw_rz)]
set_option maxRecDepth 100000 in
set_option maxHeartbeats 4000000 in
theorem ok_Mo_command {p : Program} {l : Launch} {e : Env} {s : State} {m : MethodId} {args : Array Value} {below : List Frame} {meth : Method} {c : Code} {E : tw_E} {D : va_G} {ρ : tw_R} (hC : tw_Cx p s m args meth c b_Mo_command 4 (some .boolean) "TwinHostModel" E D) : tw_Ok p l e (tw_rmd 3) s m args below meth c 0 0 (MQ below (tw_Qc E D ρ) args s 0 0 (tw_A E)) 4 E D ρ pr_Mo_command :=
  ⟨ts_iload_n hC d_Mo_command_0 rfl,
   ts_calls hC con_Mo_guest wd_524 wd_30 (by decide +kernel) ⟨by decide, by decide⟩ ⟨Nat.zero_le _, Nat.zero_le _⟩ wd_522 wd_523 d_Mo_command_1,
   ts_ifeq hC d_Mo_command_4 (by decide),
   ts_iload_n hC d_Mo_command_7 rfl,
   ts_calls hC con_Mo_isStored wd_563 wd_30 (by decide +kernel) ⟨by decide, by decide⟩ ⟨Nat.zero_le _, Nat.zero_le _⟩ wd_561 wd_562 d_Mo_command_8,
   ts_ifne hC d_Mo_command_11 (by decide),
   ts_iconst hC d_Mo_command_14 (by decide),
   ts_zret hC rfl d_Mo_command_15,
   ts_aload_n hC d_Mo_command_16 rfl,
   ts_iload_n hC d_Mo_command_17 rfl,
   ts_iload_n hC d_Mo_command_18 rfl,
   ts_iload_n hC d_Mo_command_19 rfl,
   ts_callv (C := R_Mo) (T := T_Mo) hC con_Mo_assign wd_567 wd_30 (by decide +kernel) ⟨by decide, by decide⟩ ⟨Nat.zero_le _, Nat.zero_le _⟩ wd_564 rfl rfl wd_566 wd_4 d_Mo_command_20,
   ts_iconst hC d_Mo_command_23 (by decide),
   ts_zret hC rfl d_Mo_command_24,
   trivial⟩
noncomputable def fn_Mo_command : tw_Fn := tw_fl 4 4 17 pr_Mo_command
theorem con_Mo_command : tw_Con y_Mo_command b_Mo_command 4 (some .boolean) 3 fn_Mo_command := tw_met (by decide +kernel) (tw_fl_len (n := 4) (by decide)) (fun p l e s m args below meth c E D vs σ ρ hC h => tw_sound (ok_Mo_command hC) 17 pr_Mo_command (ok_Mo_command hC) _ _ _ (tw_fl_get h))

-- TwinHostModel.controls(III)I: 100 instructions, depth 3, calls Mo_isStored Mo_illegal Mo_control Mo_isThere Mo_takeInput Mo_put Mo_assign Mo_retire
theorem d_Mo_controls_0 : decode b_Mo_controls 0 = .ok (.iload_n 2, 1) := by decide +kernel
theorem d_Mo_controls_1 : decode b_Mo_controls 1 = .ok (.bipush 16, 2) := by decide +kernel
theorem d_Mo_controls_3 : decode b_Mo_controls 3 = .ok (.ishr, 1) := by decide +kernel
theorem d_Mo_controls_4 : decode b_Mo_controls 4 = .ok (.istore 4, 2) := by decide +kernel
theorem d_Mo_controls_6 : decode b_Mo_controls 6 = .ok (.iload_n 2, 1) := by decide +kernel
theorem d_Mo_controls_7 : decode b_Mo_controls 7 = .ok (.bipush 8, 2) := by decide +kernel
theorem d_Mo_controls_9 : decode b_Mo_controls 9 = .ok (.ishr, 1) := by decide +kernel
theorem d_Mo_controls_10 : decode b_Mo_controls 10 = .ok (.bipush 7, 2) := by decide +kernel
theorem d_Mo_controls_12 : decode b_Mo_controls 12 = .ok (.iand, 1) := by decide +kernel
theorem d_Mo_controls_13 : decode b_Mo_controls 13 = .ok (.istore 5, 2) := by decide +kernel
theorem d_Mo_controls_15 : decode b_Mo_controls 15 = .ok (.iload_n 3, 1) := by decide +kernel
theorem d_Mo_controls_16 : decode b_Mo_controls 16 = .ok (.bipush 19, 2) := by decide +kernel
theorem d_Mo_controls_18 : decode b_Mo_controls 18 = .ok (.if_icmp .eq 8, 3) := by decide +kernel
theorem d_Mo_controls_21 : decode b_Mo_controls 21 = .ok (.iload 5, 2) := by decide +kernel
theorem d_Mo_controls_23 : decode b_Mo_controls 23 = .ok (.ifCond .eq 7, 3) := by decide +kernel
theorem d_Mo_controls_26 : decode b_Mo_controls 26 = .ok (.iconst 1, 1) := by decide +kernel
theorem d_Mo_controls_27 : decode b_Mo_controls 27 = .ok (.goto 4, 3) := by decide +kernel
theorem d_Mo_controls_30 : decode b_Mo_controls 30 = .ok (.iconst 0, 1) := by decide +kernel
theorem d_Mo_controls_31 : decode b_Mo_controls 31 = .ok (.istore 6, 2) := by decide +kernel
theorem d_Mo_controls_33 : decode b_Mo_controls 33 = .ok (.iload 4, 2) := by decide +kernel
theorem d_Mo_controls_35 : decode b_Mo_controls 35 = .ok (.ifCond .lt 23, 3) := by decide +kernel
theorem d_Mo_controls_38 : decode b_Mo_controls 38 = .ok (.iload 4, 2) := by decide +kernel
theorem d_Mo_controls_40 : decode b_Mo_controls 40 = .ok (.bipush 11, 2) := by decide +kernel
theorem d_Mo_controls_42 : decode b_Mo_controls 42 = .ok (.if_icmp .gt 16, 3) := by decide +kernel
theorem d_Mo_controls_45 : decode b_Mo_controls 45 = .ok (.iload 6, 2) := by decide +kernel
theorem d_Mo_controls_47 : decode b_Mo_controls 47 = .ok (.ifCond .eq 18, 3) := by decide +kernel
theorem d_Mo_controls_50 : decode b_Mo_controls 50 = .ok (.iload 4, 2) := by decide +kernel
theorem d_Mo_controls_52 : decode b_Mo_controls 52 = .ok (.invokestatic 77, 3) := by decide +kernel
theorem d_Mo_controls_55 : decode b_Mo_controls 55 = .ok (.ifCond .ne 10, 3) := by decide +kernel
theorem d_Mo_controls_58 : decode b_Mo_controls 58 = .ok (.aload_n 0, 1) := by decide +kernel
theorem d_Mo_controls_59 : decode b_Mo_controls 59 = .ok (.iload_n 1, 1) := by decide +kernel
theorem d_Mo_controls_60 : decode b_Mo_controls 60 = .ok (.iload_n 2, 1) := by decide +kernel
theorem d_Mo_controls_61 : decode b_Mo_controls 61 = .ok (.invokevirtual 150, 3) := by decide +kernel
theorem d_Mo_controls_64 : decode b_Mo_controls 64 = .ok (.ireturn, 1) := by decide +kernel
theorem d_Mo_controls_65 : decode b_Mo_controls 65 = .ok (.aload_n 0, 1) := by decide +kernel
theorem d_Mo_controls_66 : decode b_Mo_controls 66 = .ok (.getfield 13, 3) := by decide +kernel
theorem d_Mo_controls_69 : decode b_Mo_controls 69 = .ok (.bipush 8, 2) := by decide +kernel
theorem d_Mo_controls_71 : decode b_Mo_controls 71 = .ok (.iload_n 1, 1) := by decide +kernel
theorem d_Mo_controls_72 : decode b_Mo_controls 72 = .ok (.imul, 1) := by decide +kernel
theorem d_Mo_controls_73 : decode b_Mo_controls 73 = .ok (.iload 5, 2) := by decide +kernel
theorem d_Mo_controls_75 : decode b_Mo_controls 75 = .ok (.iadd, 1) := by decide +kernel
theorem d_Mo_controls_76 : decode b_Mo_controls 76 = .ok (.iaload, 1) := by decide +kernel
theorem d_Mo_controls_77 : decode b_Mo_controls 77 = .ok (.istore 7, 2) := by decide +kernel
theorem d_Mo_controls_79 : decode b_Mo_controls 79 = .ok (.aload_n 0, 1) := by decide +kernel
theorem d_Mo_controls_80 : decode b_Mo_controls 80 = .ok (.iload_n 1, 1) := by decide +kernel
theorem d_Mo_controls_81 : decode b_Mo_controls 81 = .ok (.iload 4, 2) := by decide +kernel
theorem d_Mo_controls_83 : decode b_Mo_controls 83 = .ok (.invokevirtual 156, 3) := by decide +kernel
theorem d_Mo_controls_86 : decode b_Mo_controls 86 = .ok (.istore 8, 2) := by decide +kernel
theorem d_Mo_controls_88 : decode b_Mo_controls 88 = .ok (.iload 4, 2) := by decide +kernel
theorem d_Mo_controls_90 : decode b_Mo_controls 90 = .ok (.bipush 11, 2) := by decide +kernel
theorem d_Mo_controls_92 : decode b_Mo_controls 92 = .ok (.if_icmp .ne 16, 3) := by decide +kernel
theorem d_Mo_controls_95 : decode b_Mo_controls 95 = .ok (.aload_n 0, 1) := by decide +kernel
theorem d_Mo_controls_96 : decode b_Mo_controls 96 = .ok (.iload_n 1, 1) := by decide +kernel
theorem d_Mo_controls_97 : decode b_Mo_controls 97 = .ok (.invokevirtual 83, 3) := by decide +kernel
theorem d_Mo_controls_100 : decode b_Mo_controls 100 = .ok (.ifCond .eq 8, 3) := by decide +kernel
theorem d_Mo_controls_103 : decode b_Mo_controls 103 = .ok (.aload_n 0, 1) := by decide +kernel
theorem d_Mo_controls_104 : decode b_Mo_controls 104 = .ok (.iload_n 1, 1) := by decide +kernel
theorem d_Mo_controls_105 : decode b_Mo_controls 105 = .ok (.invokevirtual 158, 3) := by decide +kernel
theorem d_Mo_controls_108 : decode b_Mo_controls 108 = .ok (.aload_n 0, 1) := by decide +kernel
theorem d_Mo_controls_109 : decode b_Mo_controls 109 = .ok (.iload_n 1, 1) := by decide +kernel
theorem d_Mo_controls_110 : decode b_Mo_controls 110 = .ok (.iload_n 2, 1) := by decide +kernel
theorem d_Mo_controls_111 : decode b_Mo_controls 111 = .ok (.iconst 5, 1) := by decide +kernel
theorem d_Mo_controls_112 : decode b_Mo_controls 112 = .ok (.ishr, 1) := by decide +kernel
theorem d_Mo_controls_113 : decode b_Mo_controls 113 = .ok (.bipush 7, 2) := by decide +kernel
theorem d_Mo_controls_115 : decode b_Mo_controls 115 = .ok (.iand, 1) := by decide +kernel
theorem d_Mo_controls_116 : decode b_Mo_controls 116 = .ok (.iload 8, 2) := by decide +kernel
theorem d_Mo_controls_118 : decode b_Mo_controls 118 = .ok (.invokevirtual 70, 3) := by decide +kernel
theorem d_Mo_controls_121 : decode b_Mo_controls 121 = .ok (.iload 6, 2) := by decide +kernel
theorem d_Mo_controls_123 : decode b_Mo_controls 123 = .ok (.ifCond .eq 42, 3) := by decide +kernel
theorem d_Mo_controls_126 : decode b_Mo_controls 126 = .ok (.aload_n 0, 1) := by decide +kernel
theorem d_Mo_controls_127 : decode b_Mo_controls 127 = .ok (.iload_n 1, 1) := by decide +kernel
theorem d_Mo_controls_128 : decode b_Mo_controls 128 = .ok (.iload 4, 2) := by decide +kernel
theorem d_Mo_controls_130 : decode b_Mo_controls 130 = .ok (.iload_n 3, 1) := by decide +kernel
theorem d_Mo_controls_131 : decode b_Mo_controls 131 = .ok (.bipush 19, 2) := by decide +kernel
theorem d_Mo_controls_133 : decode b_Mo_controls 133 = .ok (.if_icmp .ne 8, 3) := by decide +kernel
theorem d_Mo_controls_136 : decode b_Mo_controls 136 = .ok (.iload 7, 2) := by decide +kernel
theorem d_Mo_controls_138 : decode b_Mo_controls 138 = .ok (.goto 24, 3) := by decide +kernel
theorem d_Mo_controls_141 : decode b_Mo_controls 141 = .ok (.iload_n 3, 1) := by decide +kernel
theorem d_Mo_controls_142 : decode b_Mo_controls 142 = .ok (.bipush 20, 2) := by decide +kernel
theorem d_Mo_controls_144 : decode b_Mo_controls 144 = .ok (.if_icmp .ne 11, 3) := by decide +kernel
theorem d_Mo_controls_147 : decode b_Mo_controls 147 = .ok (.iload 8, 2) := by decide +kernel
theorem d_Mo_controls_149 : decode b_Mo_controls 149 = .ok (.iload 7, 2) := by decide +kernel
theorem d_Mo_controls_151 : decode b_Mo_controls 151 = .ok (.ior, 1) := by decide +kernel
theorem d_Mo_controls_152 : decode b_Mo_controls 152 = .ok (.goto 10, 3) := by decide +kernel
theorem d_Mo_controls_155 : decode b_Mo_controls 155 = .ok (.iload 8, 2) := by decide +kernel
theorem d_Mo_controls_157 : decode b_Mo_controls 157 = .ok (.iload 7, 2) := by decide +kernel
theorem d_Mo_controls_159 : decode b_Mo_controls 159 = .ok (.iconst (-1), 1) := by decide +kernel
theorem d_Mo_controls_160 : decode b_Mo_controls 160 = .ok (.ixor, 1) := by decide +kernel
theorem d_Mo_controls_161 : decode b_Mo_controls 161 = .ok (.iand, 1) := by decide +kernel
theorem d_Mo_controls_162 : decode b_Mo_controls 162 = .ok (.invokevirtual 80, 3) := by decide +kernel
theorem d_Mo_controls_165 : decode b_Mo_controls 165 = .ok (.aload_n 0, 1) := by decide +kernel
theorem d_Mo_controls_166 : decode b_Mo_controls 166 = .ok (.iload_n 1, 1) := by decide +kernel
theorem d_Mo_controls_167 : decode b_Mo_controls 167 = .ok (.aload_n 0, 1) := by decide +kernel
theorem d_Mo_controls_168 : decode b_Mo_controls 168 = .ok (.getfield 19, 3) := by decide +kernel
theorem d_Mo_controls_171 : decode b_Mo_controls 171 = .ok (.iload_n 1, 1) := by decide +kernel
theorem d_Mo_controls_172 : decode b_Mo_controls 172 = .ok (.iaload, 1) := by decide +kernel
theorem d_Mo_controls_173 : decode b_Mo_controls 173 = .ok (.iconst 1, 1) := by decide +kernel
theorem d_Mo_controls_174 : decode b_Mo_controls 174 = .ok (.iadd, 1) := by decide +kernel
theorem d_Mo_controls_175 : decode b_Mo_controls 175 = .ok (.invokevirtual 138, 3) := by decide +kernel
theorem d_Mo_controls_178 : decode b_Mo_controls 178 = .ok (.ireturn, 1) := by decide +kernel
noncomputable def pr_Mo_controls : List (Nat × tw_Op) := [(0, tw_il 2), (1, tw_ic (16)), (3, tw_bin (fun x y => x >>> (y &&& 31))), (4, tw_is 4), (6, tw_il 2), (7, tw_ic (8)), (9, tw_bin (fun x y => x >>> (y &&& 31))), (10, tw_ic (7)), (12, tw_bin (· &&& ·)), (13, tw_is 5), (15, tw_il 3), (16, tw_ic (19)), (18, tw_ceq 26), (21, tw_il 5), (23, tw_ifeq 30), (26, tw_ic 1), (27, tw_jmp 31), (30, tw_ic 0), (31, tw_is 6), (33, tw_il 4), (35, tw_iflt 58), (38, tw_il 4), (40, tw_ic (11)), (42, tw_cgt 58), (45, tw_il 6), (47, tw_ifeq 65), (50, tw_il 4), (52, tw_cs 1 fn_Mo_isStored), (55, tw_ifne 65), (58, tw_al 0), (59, tw_il 1), (60, tw_il 2), (61, tw_cv 2 22 fn_Mo_illegal), (64, tw_ri), (65, tw_al 0), (66, tw_gr 22 24), (69, tw_ic (8)), (71, tw_il 1), (72, tw_bin (· * ·)), (73, tw_il 5), (75, tw_bin (· + ·)), (76, tw_ia), (77, tw_is 7), (79, tw_al 0), (80, tw_il 1), (81, tw_il 4), (83, tw_cv 2 22 fn_Mo_control), (86, tw_is 8), (88, tw_il 4), (90, tw_ic (11)), (92, tw_cne 108), (95, tw_al 0), (96, tw_il 1), (97, tw_cv 1 22 fn_Mo_isThere), (100, tw_ifeq 108), (103, tw_al 0), (104, tw_il 1), (105, tw_cv 1 22 fn_Mo_takeInput), (108, tw_al 0), (109, tw_il 1), (110, tw_il 2), (111, tw_ic 5), (112, tw_bin (fun x y => x >>> (y &&& 31))), (113, tw_ic (7)), (115, tw_bin (· &&& ·)), (116, tw_il 8), (118, tw_cv 3 22 fn_Mo_put), (121, tw_il 6), (123, tw_ifeq 165), (126, tw_al 0), (127, tw_il 1), (128, tw_il 4), (130, tw_il 3), (131, tw_ic (19)), (133, tw_cne 141), (136, tw_il 7), (138, tw_jmp 162), (141, tw_il 3), (142, tw_ic (20)), (144, tw_cne 155), (147, tw_il 8), (149, tw_il 7), (151, tw_bin (· ||| ·)), (152, tw_jmp 162), (155, tw_il 8), (157, tw_il 7), (159, tw_ic (-1)), (160, tw_bin (· ^^^ ·)), (161, tw_bin (· &&& ·)), (162, tw_cv 3 22 fn_Mo_assign), (165, tw_al 0), (166, tw_il 1), (167, tw_al 0), (168, tw_gr 22 26), (171, tw_il 1), (172, tw_ia), (173, tw_ic 1), (174, tw_bin (· + ·)), (175, tw_cv 2 22 fn_Mo_retire), (178, tw_ri)]
set_option maxRecDepth 100000 in
set_option maxHeartbeats 4000000 in
theorem ok_Mo_controls {p : Program} {l : Launch} {e : Env} {s : State} {m : MethodId} {args : Array Value} {below : List Frame} {meth : Method} {c : Code} {E : tw_E} {D : va_G} {ρ : tw_R} (hC : tw_Cx p s m args meth c b_Mo_controls 9 (some .int) "TwinHostModel" E D) : tw_Ok p l e (tw_rmd 3) s m args below meth c 0 0 (MQ below (tw_Qc E D ρ) args s 0 0 (tw_A E)) 9 E D ρ pr_Mo_controls :=
  ⟨ts_iload_n hC d_Mo_controls_0 rfl,
   ts_bipush hC d_Mo_controls_1 (by decide),
   ts_ishr hC d_Mo_controls_3,
   ts_istore hC d_Mo_controls_4 (by decide),
   ts_iload_n hC d_Mo_controls_6 rfl,
   ts_bipush hC d_Mo_controls_7 (by decide),
   ts_ishr hC d_Mo_controls_9,
   ts_bipush hC d_Mo_controls_10 (by decide),
   ts_iand hC d_Mo_controls_12,
   ts_istore hC d_Mo_controls_13 (by decide),
   ts_iload_n hC d_Mo_controls_15 rfl,
   ts_bipush hC d_Mo_controls_16 (by decide),
   ts_ceq hC d_Mo_controls_18 (by decide),
   ts_iload hC d_Mo_controls_21,
   ts_ifeq hC d_Mo_controls_23 (by decide),
   ts_iconst hC d_Mo_controls_26 (by decide),
   ts_goto hC d_Mo_controls_27 (by decide),
   ts_iconst hC d_Mo_controls_30 (by decide),
   ts_istore hC d_Mo_controls_31 (by decide),
   ts_iload hC d_Mo_controls_33,
   ts_iflt hC d_Mo_controls_35 (by decide),
   ts_iload hC d_Mo_controls_38,
   ts_bipush hC d_Mo_controls_40 (by decide),
   ts_cgt hC d_Mo_controls_42 (by decide),
   ts_iload hC d_Mo_controls_45,
   ts_ifeq hC d_Mo_controls_47 (by decide),
   ts_iload hC d_Mo_controls_50,
   ts_calls hC con_Mo_isStored wd_563 wd_30 (by decide +kernel) ⟨by decide, by decide⟩ ⟨Nat.zero_le _, Nat.zero_le _⟩ wd_561 wd_562 d_Mo_controls_52,
   ts_ifne hC d_Mo_controls_55 (by decide),
   ts_aload_n hC d_Mo_controls_58 rfl,
   ts_iload_n hC d_Mo_controls_59 rfl,
   ts_iload_n hC d_Mo_controls_60 rfl,
   ts_callv (C := R_Mo) (T := T_Mo) hC con_Mo_illegal wd_651 wd_30 (by decide +kernel) ⟨by decide, by decide⟩ ⟨Nat.zero_le _, Nat.zero_le _⟩ wd_648 rfl rfl wd_650 wd_18 d_Mo_controls_61,
   ts_iret hC rfl d_Mo_controls_64,
   ts_aload_n hC d_Mo_controls_65 rfl,
   ts_gr (j := 4) (C := R_Mo) (T := T_Mo) hC rfl rfl rfl (by decide) u_Mo wd_460 rfl d_Mo_controls_66,
   ts_bipush hC d_Mo_controls_69 (by decide),
   ts_iload_n hC d_Mo_controls_71 rfl,
   ts_imul hC d_Mo_controls_72,
   ts_iload hC d_Mo_controls_73,
   ts_iadd hC d_Mo_controls_75,
   ts_iaload hC d_Mo_controls_76,
   ts_istore hC d_Mo_controls_77 (by decide),
   ts_aload_n hC d_Mo_controls_79 rfl,
   ts_iload_n hC d_Mo_controls_80 rfl,
   ts_iload hC d_Mo_controls_81,
   ts_callv (C := R_Mo) (T := T_Mo) hC con_Mo_control wd_575 wd_30 (by decide +kernel) ⟨by decide, by decide⟩ ⟨Nat.zero_le _, Nat.zero_le _⟩ wd_656 rfl rfl wd_573 wd_574 d_Mo_controls_83,
   ts_istore hC d_Mo_controls_86 (by decide),
   ts_iload hC d_Mo_controls_88,
   ts_bipush hC d_Mo_controls_90 (by decide),
   ts_cne hC d_Mo_controls_92 (by decide),
   ts_aload_n hC d_Mo_controls_95 rfl,
   ts_iload_n hC d_Mo_controls_96 rfl,
   ts_callv (C := R_Mo) (T := T_Mo) hC con_Mo_isThere wd_579 wd_30 (by decide +kernel) ⟨by decide, by decide⟩ ⟨Nat.zero_le _, Nat.zero_le _⟩ wd_576 rfl rfl wd_578 wd_6 d_Mo_controls_97,
   ts_ifeq hC d_Mo_controls_100 (by decide),
   ts_aload_n hC d_Mo_controls_103 rfl,
   ts_iload_n hC d_Mo_controls_104 rfl,
   ts_callv (C := R_Mo) (T := T_Mo) hC con_Mo_takeInput wd_660 wd_30 (by decide +kernel) ⟨by decide, by decide⟩ ⟨Nat.zero_le _, Nat.zero_le _⟩ wd_657 rfl rfl wd_659 wd_20 d_Mo_controls_105,
   ts_aload_n hC d_Mo_controls_108 rfl,
   ts_iload_n hC d_Mo_controls_109 rfl,
   ts_iload_n hC d_Mo_controls_110 rfl,
   ts_iconst hC d_Mo_controls_111 (by decide),
   ts_ishr hC d_Mo_controls_112,
   ts_bipush hC d_Mo_controls_113 (by decide),
   ts_iand hC d_Mo_controls_115,
   ts_iload hC d_Mo_controls_116,
   ts_callv (C := R_Mo) (T := T_Mo) hC con_Mo_put wd_552 wd_30 (by decide +kernel) ⟨by decide, by decide⟩ ⟨Nat.zero_le _, Nat.zero_le _⟩ wd_549 rfl rfl wd_551 wd_3 d_Mo_controls_118,
   ts_iload hC d_Mo_controls_121,
   ts_ifeq hC d_Mo_controls_123 (by decide),
   ts_aload_n hC d_Mo_controls_126 rfl,
   ts_iload_n hC d_Mo_controls_127 rfl,
   ts_iload hC d_Mo_controls_128,
   ts_iload_n hC d_Mo_controls_130 rfl,
   ts_bipush hC d_Mo_controls_131 (by decide),
   ts_cne hC d_Mo_controls_133 (by decide),
   ts_iload hC d_Mo_controls_136,
   ts_goto hC d_Mo_controls_138 (by decide),
   ts_iload_n hC d_Mo_controls_141 rfl,
   ts_bipush hC d_Mo_controls_142 (by decide),
   ts_cne hC d_Mo_controls_144 (by decide),
   ts_iload hC d_Mo_controls_147,
   ts_iload hC d_Mo_controls_149,
   ts_ior hC d_Mo_controls_151,
   ts_goto hC d_Mo_controls_152 (by decide),
   ts_iload hC d_Mo_controls_155,
   ts_iload hC d_Mo_controls_157,
   ts_iconst hC d_Mo_controls_159 (by decide),
   ts_ixor hC d_Mo_controls_160,
   ts_iand hC d_Mo_controls_161,
   ts_callv (C := R_Mo) (T := T_Mo) hC con_Mo_assign wd_567 wd_30 (by decide +kernel) ⟨by decide, by decide⟩ ⟨Nat.zero_le _, Nat.zero_le _⟩ wd_564 rfl rfl wd_566 wd_4 d_Mo_controls_162,
   ts_aload_n hC d_Mo_controls_165 rfl,
   ts_iload_n hC d_Mo_controls_166 rfl,
   ts_aload_n hC d_Mo_controls_167 rfl,
   ts_gr (j := 6) (C := R_Mo) (T := T_Mo) hC rfl rfl rfl (by decide) u_Mo wd_462 rfl d_Mo_controls_168,
   ts_iload_n hC d_Mo_controls_171 rfl,
   ts_iaload hC d_Mo_controls_172,
   ts_iconst hC d_Mo_controls_173 (by decide),
   ts_iadd hC d_Mo_controls_174,
   ts_callv (C := R_Mo) (T := T_Mo) hC con_Mo_retire wd_664 wd_30 (by decide +kernel) ⟨by decide, by decide⟩ ⟨Nat.zero_le _, Nat.zero_le _⟩ wd_661 rfl rfl wd_663 wd_21 d_Mo_controls_175,
   ts_iret hC rfl d_Mo_controls_178,
   trivial⟩
noncomputable def fn_Mo_controls : tw_Fn := tw_fl 4 9 102 pr_Mo_controls
theorem con_Mo_controls : tw_Con y_Mo_controls b_Mo_controls 9 (some .int) 3 fn_Mo_controls := tw_met (by decide +kernel) (tw_fl_len (n := 4) (by decide)) (fun p l e s m args below meth c E D vs σ ρ hC h => tw_sound (ok_Mo_controls hC) 102 pr_Mo_controls (ok_Mo_controls hC) _ _ _ (tw_fl_get h))

-- TwinHostModel.reach(IIII)I: 73 instructions, depth 3, calls Mo_allowed Mo_fault Mo_outside Mo_fill
theorem d_Mo_reach_0 : decode b_Mo_reach 0 = .ok (.aload_n 0, 1) := by decide +kernel
theorem d_Mo_reach_1 : decode b_Mo_reach 1 = .ok (.getfield 7, 3) := by decide +kernel
theorem d_Mo_reach_4 : decode b_Mo_reach 4 = .ok (.sipush 128, 3) := by decide +kernel
theorem d_Mo_reach_7 : decode b_Mo_reach 7 = .ok (.iload_n 1, 1) := by decide +kernel
theorem d_Mo_reach_8 : decode b_Mo_reach 8 = .ok (.imul, 1) := by decide +kernel
theorem d_Mo_reach_9 : decode b_Mo_reach 9 = .ok (.aload_n 0, 1) := by decide +kernel
theorem d_Mo_reach_10 : decode b_Mo_reach 10 = .ok (.getfield 114, 3) := by decide +kernel
theorem d_Mo_reach_13 : decode b_Mo_reach 13 = .ok (.iadd, 1) := by decide +kernel
theorem d_Mo_reach_14 : decode b_Mo_reach 14 = .ok (.iaload, 1) := by decide +kernel
theorem d_Mo_reach_15 : decode b_Mo_reach 15 = .ok (.istore 5, 2) := by decide +kernel
theorem d_Mo_reach_17 : decode b_Mo_reach 17 = .ok (.aload_n 0, 1) := by decide +kernel
theorem d_Mo_reach_18 : decode b_Mo_reach 18 = .ok (.iload_n 1, 1) := by decide +kernel
theorem d_Mo_reach_19 : decode b_Mo_reach 19 = .ok (.iload 5, 2) := by decide +kernel
theorem d_Mo_reach_21 : decode b_Mo_reach 21 = .ok (.iload_n 3, 1) := by decide +kernel
theorem d_Mo_reach_22 : decode b_Mo_reach 22 = .ok (.invokevirtual 100, 3) := by decide +kernel
theorem d_Mo_reach_25 : decode b_Mo_reach 25 = .ok (.ifCond .ne 11, 3) := by decide +kernel
theorem d_Mo_reach_28 : decode b_Mo_reach 28 = .ok (.aload_n 0, 1) := by decide +kernel
theorem d_Mo_reach_29 : decode b_Mo_reach 29 = .ok (.iload_n 1, 1) := by decide +kernel
theorem d_Mo_reach_30 : decode b_Mo_reach 30 = .ok (.iload_n 2, 1) := by decide +kernel
theorem d_Mo_reach_31 : decode b_Mo_reach 31 = .ok (.iload_n 3, 1) := by decide +kernel
theorem d_Mo_reach_32 : decode b_Mo_reach 32 = .ok (.invokevirtual 97, 3) := by decide +kernel
theorem d_Mo_reach_35 : decode b_Mo_reach 35 = .ok (.ireturn, 1) := by decide +kernel
theorem d_Mo_reach_36 : decode b_Mo_reach 36 = .ok (.iload 4, 2) := by decide +kernel
theorem d_Mo_reach_38 : decode b_Mo_reach 38 = .ok (.bipush 8, 2) := by decide +kernel
theorem d_Mo_reach_40 : decode b_Mo_reach 40 = .ok (.if_icmp .lt 11, 3) := by decide +kernel
theorem d_Mo_reach_43 : decode b_Mo_reach 43 = .ok (.aload_n 0, 1) := by decide +kernel
theorem d_Mo_reach_44 : decode b_Mo_reach 44 = .ok (.iload_n 1, 1) := by decide +kernel
theorem d_Mo_reach_45 : decode b_Mo_reach 45 = .ok (.iload_n 2, 1) := by decide +kernel
theorem d_Mo_reach_46 : decode b_Mo_reach 46 = .ok (.iload_n 3, 1) := by decide +kernel
theorem d_Mo_reach_47 : decode b_Mo_reach 47 = .ok (.invokevirtual 93, 3) := by decide +kernel
theorem d_Mo_reach_50 : decode b_Mo_reach 50 = .ok (.ireturn, 1) := by decide +kernel
theorem d_Mo_reach_51 : decode b_Mo_reach 51 = .ok (.iload 5, 2) := by decide +kernel
theorem d_Mo_reach_53 : decode b_Mo_reach 53 = .ok (.iload_n 3, 1) := by decide +kernel
theorem d_Mo_reach_54 : decode b_Mo_reach 54 = .ok (.iconst 2, 1) := by decide +kernel
theorem d_Mo_reach_55 : decode b_Mo_reach 55 = .ok (.if_icmp .ne 8, 3) := by decide +kernel
theorem d_Mo_reach_58 : decode b_Mo_reach 58 = .ok (.bipush 96, 2) := by decide +kernel
theorem d_Mo_reach_60 : decode b_Mo_reach 60 = .ok (.goto 5, 3) := by decide +kernel
theorem d_Mo_reach_63 : decode b_Mo_reach 63 = .ok (.bipush 32, 2) := by decide +kernel
theorem d_Mo_reach_65 : decode b_Mo_reach 65 = .ok (.ior, 1) := by decide +kernel
theorem d_Mo_reach_66 : decode b_Mo_reach 66 = .ok (.istore 5, 2) := by decide +kernel
theorem d_Mo_reach_68 : decode b_Mo_reach 68 = .ok (.aload_n 0, 1) := by decide +kernel
theorem d_Mo_reach_69 : decode b_Mo_reach 69 = .ok (.getfield 7, 3) := by decide +kernel
theorem d_Mo_reach_72 : decode b_Mo_reach 72 = .ok (.sipush 128, 3) := by decide +kernel
theorem d_Mo_reach_75 : decode b_Mo_reach 75 = .ok (.iload_n 1, 1) := by decide +kernel
theorem d_Mo_reach_76 : decode b_Mo_reach 76 = .ok (.imul, 1) := by decide +kernel
theorem d_Mo_reach_77 : decode b_Mo_reach 77 = .ok (.aload_n 0, 1) := by decide +kernel
theorem d_Mo_reach_78 : decode b_Mo_reach 78 = .ok (.getfield 114, 3) := by decide +kernel
theorem d_Mo_reach_81 : decode b_Mo_reach 81 = .ok (.iadd, 1) := by decide +kernel
theorem d_Mo_reach_82 : decode b_Mo_reach 82 = .ok (.iload 5, 2) := by decide +kernel
theorem d_Mo_reach_84 : decode b_Mo_reach 84 = .ok (.iastore, 1) := by decide +kernel
theorem d_Mo_reach_85 : decode b_Mo_reach 85 = .ok (.aload_n 0, 1) := by decide +kernel
theorem d_Mo_reach_86 : decode b_Mo_reach 86 = .ok (.getfield 104, 3) := by decide +kernel
theorem d_Mo_reach_89 : decode b_Mo_reach 89 = .ok (.ifCond .ne 20, 3) := by decide +kernel
theorem d_Mo_reach_92 : decode b_Mo_reach 92 = .ok (.aload_n 0, 1) := by decide +kernel
theorem d_Mo_reach_93 : decode b_Mo_reach 93 = .ok (.iload_n 1, 1) := by decide +kernel
theorem d_Mo_reach_94 : decode b_Mo_reach 94 = .ok (.bipush 16, 2) := by decide +kernel
theorem d_Mo_reach_96 : decode b_Mo_reach 96 = .ok (.iload_n 1, 1) := by decide +kernel
theorem d_Mo_reach_97 : decode b_Mo_reach 97 = .ok (.imul, 1) := by decide +kernel
theorem d_Mo_reach_98 : decode b_Mo_reach 98 = .ok (.iload_n 2, 1) := by decide +kernel
theorem d_Mo_reach_99 : decode b_Mo_reach 99 = .ok (.iconst 4, 1) := by decide +kernel
theorem d_Mo_reach_100 : decode b_Mo_reach 100 = .ok (.ishr, 1) := by decide +kernel
theorem d_Mo_reach_101 : decode b_Mo_reach 101 = .ok (.iadd, 1) := by decide +kernel
theorem d_Mo_reach_102 : decode b_Mo_reach 102 = .ok (.iload 4, 2) := by decide +kernel
theorem d_Mo_reach_104 : decode b_Mo_reach 104 = .ok (.iload 5, 2) := by decide +kernel
theorem d_Mo_reach_106 : decode b_Mo_reach 106 = .ok (.invokevirtual 124, 3) := by decide +kernel
theorem d_Mo_reach_109 : decode b_Mo_reach 109 = .ok (.bipush 16, 2) := by decide +kernel
theorem d_Mo_reach_111 : decode b_Mo_reach 111 = .ok (.iload 4, 2) := by decide +kernel
theorem d_Mo_reach_113 : decode b_Mo_reach 113 = .ok (.imul, 1) := by decide +kernel
theorem d_Mo_reach_114 : decode b_Mo_reach 114 = .ok (.iload_n 2, 1) := by decide +kernel
theorem d_Mo_reach_115 : decode b_Mo_reach 115 = .ok (.bipush 15, 2) := by decide +kernel
theorem d_Mo_reach_117 : decode b_Mo_reach 117 = .ok (.iand, 1) := by decide +kernel
theorem d_Mo_reach_118 : decode b_Mo_reach 118 = .ok (.iadd, 1) := by decide +kernel
theorem d_Mo_reach_119 : decode b_Mo_reach 119 = .ok (.ireturn, 1) := by decide +kernel
noncomputable def pr_Mo_reach : List (Nat × tw_Op) := [(0, tw_al 0), (1, tw_gr 22 23), (4, tw_ic (128)), (7, tw_il 1), (8, tw_bin (· * ·)), (9, tw_al 0), (10, tw_gi 22 17), (13, tw_bin (· + ·)), (14, tw_ia), (15, tw_is 5), (17, tw_al 0), (18, tw_il 1), (19, tw_il 5), (21, tw_il 3), (22, tw_cv 3 22 fn_Mo_allowed), (25, tw_ifne 36), (28, tw_al 0), (29, tw_il 1), (30, tw_il 2), (31, tw_il 3), (32, tw_cv 3 22 fn_Mo_fault), (35, tw_ri), (36, tw_il 4), (38, tw_ic (8)), (40, tw_clt 51), (43, tw_al 0), (44, tw_il 1), (45, tw_il 2), (46, tw_il 3), (47, tw_cv 3 22 fn_Mo_outside), (50, tw_ri), (51, tw_il 5), (53, tw_il 3), (54, tw_ic 2), (55, tw_cne 63), (58, tw_ic (96)), (60, tw_jmp 65), (63, tw_ic (32)), (65, tw_bin (· ||| ·)), (66, tw_is 5), (68, tw_al 0), (69, tw_gr 22 23), (72, tw_ic (128)), (75, tw_il 1), (76, tw_bin (· * ·)), (77, tw_al 0), (78, tw_gi 22 17), (81, tw_bin (· + ·)), (82, tw_il 5), (84, tw_ias 22 37), (85, tw_al 0), (86, tw_gi 22 19), (89, tw_ifne 109), (92, tw_al 0), (93, tw_il 1), (94, tw_ic (16)), (96, tw_il 1), (97, tw_bin (· * ·)), (98, tw_il 2), (99, tw_ic 4), (100, tw_bin (fun x y => x >>> (y &&& 31))), (101, tw_bin (· + ·)), (102, tw_il 4), (104, tw_il 5), (106, tw_cv 4 22 fn_Mo_fill), (109, tw_ic (16)), (111, tw_il 4), (113, tw_bin (· * ·)), (114, tw_il 2), (115, tw_ic (15)), (117, tw_bin (· &&& ·)), (118, tw_bin (· + ·)), (119, tw_ri)]
set_option maxRecDepth 100000 in
set_option maxHeartbeats 4000000 in
theorem ok_Mo_reach {p : Program} {l : Launch} {e : Env} {s : State} {m : MethodId} {args : Array Value} {below : List Frame} {meth : Method} {c : Code} {E : tw_E} {D : va_G} {ρ : tw_R} (hC : tw_Cx p s m args meth c b_Mo_reach 6 (some .int) "TwinHostModel" E D) : tw_Ok p l e (tw_rmd 3) s m args below meth c 0 0 (MQ below (tw_Qc E D ρ) args s 0 0 (tw_A E)) 6 E D ρ pr_Mo_reach :=
  ⟨ts_aload_n hC d_Mo_reach_0 rfl,
   ts_gr (j := 3) (C := R_Mo) (T := T_Mo) hC rfl rfl rfl (by decide) u_Mo wd_459 rfl d_Mo_reach_1,
   ts_sipush hC d_Mo_reach_4 (by decide),
   ts_iload_n hC d_Mo_reach_7 rfl,
   ts_imul hC d_Mo_reach_8,
   ts_aload_n hC d_Mo_reach_9 rfl,
   ts_gi (j := 17) (C := R_Mo) (T := T_Mo) hC rfl rfl rfl (by decide) u_Mo wd_473 rfl d_Mo_reach_10,
   ts_iadd hC d_Mo_reach_13,
   ts_iaload hC d_Mo_reach_14,
   ts_istore hC d_Mo_reach_15 (by decide),
   ts_aload_n hC d_Mo_reach_17 rfl,
   ts_iload_n hC d_Mo_reach_18 rfl,
   ts_iload hC d_Mo_reach_19,
   ts_iload_n hC d_Mo_reach_21 rfl,
   ts_callv (C := R_Mo) (T := T_Mo) hC con_Mo_allowed wd_628 wd_30 (by decide +kernel) ⟨by decide, by decide⟩ ⟨Nat.zero_le _, Nat.zero_le _⟩ wd_625 rfl rfl wd_627 wd_13 d_Mo_reach_22,
   ts_ifne hC d_Mo_reach_25 (by decide),
   ts_aload_n hC d_Mo_reach_28 rfl,
   ts_iload_n hC d_Mo_reach_29 rfl,
   ts_iload_n hC d_Mo_reach_30 rfl,
   ts_iload_n hC d_Mo_reach_31 rfl,
   ts_callv (C := R_Mo) (T := T_Mo) hC con_Mo_fault wd_624 wd_30 (by decide +kernel) ⟨by decide, by decide⟩ ⟨Nat.zero_le _, Nat.zero_le _⟩ wd_621 rfl rfl wd_623 wd_12 d_Mo_reach_32,
   ts_iret hC rfl d_Mo_reach_35,
   ts_iload hC d_Mo_reach_36,
   ts_bipush hC d_Mo_reach_38 (by decide),
   ts_clt hC d_Mo_reach_40 (by decide),
   ts_aload_n hC d_Mo_reach_43 rfl,
   ts_iload_n hC d_Mo_reach_44 rfl,
   ts_iload_n hC d_Mo_reach_45 rfl,
   ts_iload_n hC d_Mo_reach_46 rfl,
   ts_callv (C := R_Mo) (T := T_Mo) hC con_Mo_outside wd_620 wd_30 (by decide +kernel) ⟨by decide, by decide⟩ ⟨Nat.zero_le _, Nat.zero_le _⟩ wd_617 rfl rfl wd_619 wd_11 d_Mo_reach_47,
   ts_iret hC rfl d_Mo_reach_50,
   ts_iload hC d_Mo_reach_51,
   ts_iload_n hC d_Mo_reach_53 rfl,
   ts_iconst hC d_Mo_reach_54 (by decide),
   ts_cne hC d_Mo_reach_55 (by decide),
   ts_bipush hC d_Mo_reach_58 (by decide),
   ts_goto hC d_Mo_reach_60 (by decide),
   ts_bipush hC d_Mo_reach_63 (by decide),
   ts_ior hC d_Mo_reach_65,
   ts_istore hC d_Mo_reach_66 (by decide),
   ts_aload_n hC d_Mo_reach_68 rfl,
   ts_gr (j := 3) (C := R_Mo) (T := T_Mo) hC rfl rfl rfl (by decide) u_Mo wd_459 rfl d_Mo_reach_69,
   ts_sipush hC d_Mo_reach_72 (by decide),
   ts_iload_n hC d_Mo_reach_75 rfl,
   ts_imul hC d_Mo_reach_76,
   ts_aload_n hC d_Mo_reach_77 rfl,
   ts_gi (j := 17) (C := R_Mo) (T := T_Mo) hC rfl rfl rfl (by decide) u_Mo wd_473 rfl d_Mo_reach_78,
   ts_iadd hC d_Mo_reach_81,
   ts_iload hC d_Mo_reach_82,
   ts_iastore hC d_Mo_reach_84,
   ts_aload_n hC d_Mo_reach_85 rfl,
   ts_gi (j := 19) (C := R_Mo) (T := T_Mo) hC rfl rfl rfl (by decide) u_Mo wd_475 rfl d_Mo_reach_86,
   ts_ifne hC d_Mo_reach_89 (by decide),
   ts_aload_n hC d_Mo_reach_92 rfl,
   ts_iload_n hC d_Mo_reach_93 rfl,
   ts_bipush hC d_Mo_reach_94 (by decide),
   ts_iload_n hC d_Mo_reach_96 rfl,
   ts_imul hC d_Mo_reach_97,
   ts_iload_n hC d_Mo_reach_98 rfl,
   ts_iconst hC d_Mo_reach_99 (by decide),
   ts_ishr hC d_Mo_reach_100,
   ts_iadd hC d_Mo_reach_101,
   ts_iload hC d_Mo_reach_102,
   ts_iload hC d_Mo_reach_104,
   ts_callv (C := R_Mo) (T := T_Mo) hC con_Mo_fill wd_643 wd_30 (by decide +kernel) ⟨by decide, by decide⟩ ⟨Nat.zero_le _, Nat.zero_le _⟩ wd_640 rfl rfl wd_642 wd_16 d_Mo_reach_106,
   ts_bipush hC d_Mo_reach_109 (by decide),
   ts_iload hC d_Mo_reach_111,
   ts_imul hC d_Mo_reach_113,
   ts_iload_n hC d_Mo_reach_114 rfl,
   ts_bipush hC d_Mo_reach_115 (by decide),
   ts_iand hC d_Mo_reach_117,
   ts_iadd hC d_Mo_reach_118,
   ts_iret hC rfl d_Mo_reach_119,
   trivial⟩
noncomputable def fn_Mo_reach : tw_Fn := tw_fl 5 6 75 pr_Mo_reach
theorem con_Mo_reach : tw_Con y_Mo_reach b_Mo_reach 6 (some .int) 3 fn_Mo_reach := tw_met (by decide +kernel) (tw_fl_len (n := 5) (by decide)) (fun p l e s m args below meth c E D vs σ ρ hC h => tw_sound (ok_Mo_reach hC) 75 pr_Mo_reach (ok_Mo_reach hC) _ _ _ (tw_fl_get h))
