-- TwinHost$Guest.step()LTwinHost$Outcome;: 74 instructions, depth 6, calls Co_dueBits Co_isOn Gu_trap Gu_reach Gu_fault Gu_doOrdinary Gu_doSystem
theorem d_Gu_step_0 : decode b_Gu_step 0 = .ok (.aload_n 0, 1) := by decide +kernel
theorem d_Gu_step_1 : decode b_Gu_step 1 = .ok (.getfield 20, 3) := by decide +kernel
theorem d_Gu_step_4 : decode b_Gu_step 4 = .ok (.bipush 8, 2) := by decide +kernel
theorem d_Gu_step_6 : decode b_Gu_step 6 = .ok (.dup2, 1) := by decide +kernel
theorem d_Gu_step_7 : decode b_Gu_step 7 = .ok (.iaload, 1) := by decide +kernel
theorem d_Gu_step_8 : decode b_Gu_step 8 = .ok (.iconst 1, 1) := by decide +kernel
theorem d_Gu_step_9 : decode b_Gu_step 9 = .ok (.iadd, 1) := by decide +kernel
theorem d_Gu_step_10 : decode b_Gu_step 10 = .ok (.iastore, 1) := by decide +kernel
theorem d_Gu_step_11 : decode b_Gu_step 11 = .ok (.aload_n 0, 1) := by decide +kernel
theorem d_Gu_step_12 : decode b_Gu_step 12 = .ok (.getfield 26, 3) := by decide +kernel
theorem d_Gu_step_15 : decode b_Gu_step 15 = .ok (.invokevirtual 44, 3) := by decide +kernel
theorem d_Gu_step_18 : decode b_Gu_step 18 = .ok (.istore_n 1, 1) := by decide +kernel
theorem d_Gu_step_19 : decode b_Gu_step 19 = .ok (.iload_n 1, 1) := by decide +kernel
theorem d_Gu_step_20 : decode b_Gu_step 20 = .ok (.ifCond .eq 51, 3) := by decide +kernel
theorem d_Gu_step_23 : decode b_Gu_step 23 = .ok (.aload_n 0, 1) := by decide +kernel
theorem d_Gu_step_24 : decode b_Gu_step 24 = .ok (.getfield 48, 3) := by decide +kernel
theorem d_Gu_step_27 : decode b_Gu_step 27 = .ok (.ifCond .ne 14, 3) := by decide +kernel
theorem d_Gu_step_30 : decode b_Gu_step 30 = .ok (.aload_n 0, 1) := by decide +kernel
theorem d_Gu_step_31 : decode b_Gu_step 31 = .ok (.getfield 26, 3) := by decide +kernel
theorem d_Gu_step_34 : decode b_Gu_step 34 = .ok (.iconst 1, 1) := by decide +kernel
theorem d_Gu_step_35 : decode b_Gu_step 35 = .ok (.invokevirtual 52, 3) := by decide +kernel
theorem d_Gu_step_38 : decode b_Gu_step 38 = .ok (.ifCond .eq 33, 3) := by decide +kernel
theorem d_Gu_step_41 : decode b_Gu_step 41 = .ok (.aload_n 0, 1) := by decide +kernel
theorem d_Gu_step_42 : decode b_Gu_step 42 = .ok (.getfield 20, 3) := by decide +kernel
theorem d_Gu_step_45 : decode b_Gu_step 45 = .ok (.bipush 6, 2) := by decide +kernel
theorem d_Gu_step_47 : decode b_Gu_step 47 = .ok (.dup2, 1) := by decide +kernel
theorem d_Gu_step_48 : decode b_Gu_step 48 = .ok (.iaload, 1) := by decide +kernel
theorem d_Gu_step_49 : decode b_Gu_step 49 = .ok (.iconst 1, 1) := by decide +kernel
theorem d_Gu_step_50 : decode b_Gu_step 50 = .ok (.iadd, 1) := by decide +kernel
theorem d_Gu_step_51 : decode b_Gu_step 51 = .ok (.iastore, 1) := by decide +kernel
theorem d_Gu_step_52 : decode b_Gu_step 52 = .ok (.aload_n 0, 1) := by decide +kernel
theorem d_Gu_step_53 : decode b_Gu_step 53 = .ok (.iload_n 1, 1) := by decide +kernel
theorem d_Gu_step_54 : decode b_Gu_step 54 = .ok (.iconst 2, 1) := by decide +kernel
theorem d_Gu_step_55 : decode b_Gu_step 55 = .ok (.iand, 1) := by decide +kernel
theorem d_Gu_step_56 : decode b_Gu_step 56 = .ok (.ifCond .eq 8, 3) := by decide +kernel
theorem d_Gu_step_59 : decode b_Gu_step 59 = .ok (.ldc 56, 2) := by decide +kernel
theorem d_Gu_step_61 : decode b_Gu_step 61 = .ok (.goto 5, 3) := by decide +kernel
theorem d_Gu_step_64 : decode b_Gu_step 64 = .ok (.ldc 57, 2) := by decide +kernel
theorem d_Gu_step_66 : decode b_Gu_step 66 = .ok (.iconst 0, 1) := by decide +kernel
theorem d_Gu_step_67 : decode b_Gu_step 67 = .ok (.invokevirtual 58, 3) := by decide +kernel
theorem d_Gu_step_70 : decode b_Gu_step 70 = .ok (.areturn, 1) := by decide +kernel
theorem d_Gu_step_71 : decode b_Gu_step 71 = .ok (.aload_n 0, 1) := by decide +kernel
theorem d_Gu_step_72 : decode b_Gu_step 72 = .ok (.aload_n 0, 1) := by decide +kernel
theorem d_Gu_step_73 : decode b_Gu_step 73 = .ok (.getfield 62, 3) := by decide +kernel
theorem d_Gu_step_76 : decode b_Gu_step 76 = .ok (.getstatic 66, 3) := by decide +kernel
theorem d_Gu_step_79 : decode b_Gu_step 79 = .ok (.invokevirtual 72, 3) := by decide +kernel
theorem d_Gu_step_82 : decode b_Gu_step 82 = .ok (.istore_n 2, 1) := by decide +kernel
theorem d_Gu_step_83 : decode b_Gu_step 83 = .ok (.iload_n 2, 1) := by decide +kernel
theorem d_Gu_step_84 : decode b_Gu_step 84 = .ok (.ifCond .ge 14, 3) := by decide +kernel
theorem d_Gu_step_87 : decode b_Gu_step 87 = .ok (.aload_n 0, 1) := by decide +kernel
theorem d_Gu_step_88 : decode b_Gu_step 88 = .ok (.iload_n 2, 1) := by decide +kernel
theorem d_Gu_step_89 : decode b_Gu_step 89 = .ok (.ineg, 1) := by decide +kernel
theorem d_Gu_step_90 : decode b_Gu_step 90 = .ok (.aload_n 0, 1) := by decide +kernel
theorem d_Gu_step_91 : decode b_Gu_step 91 = .ok (.getfield 62, 3) := by decide +kernel
theorem d_Gu_step_94 : decode b_Gu_step 94 = .ok (.invokevirtual 76, 3) := by decide +kernel
theorem d_Gu_step_97 : decode b_Gu_step 97 = .ok (.areturn, 1) := by decide +kernel
theorem d_Gu_step_98 : decode b_Gu_step 98 = .ok (.aload_n 0, 1) := by decide +kernel
theorem d_Gu_step_99 : decode b_Gu_step 99 = .ok (.getfield 9, 3) := by decide +kernel
theorem d_Gu_step_102 : decode b_Gu_step 102 = .ok (.iload_n 2, 1) := by decide +kernel
theorem d_Gu_step_103 : decode b_Gu_step 103 = .ok (.iaload, 1) := by decide +kernel
theorem d_Gu_step_104 : decode b_Gu_step 104 = .ok (.istore_n 3, 1) := by decide +kernel
theorem d_Gu_step_105 : decode b_Gu_step 105 = .ok (.iload_n 3, 1) := by decide +kernel
theorem d_Gu_step_106 : decode b_Gu_step 106 = .ok (.bipush 31, 2) := by decide +kernel
theorem d_Gu_step_108 : decode b_Gu_step 108 = .ok (.iand, 1) := by decide +kernel
theorem d_Gu_step_109 : decode b_Gu_step 109 = .ok (.bipush 17, 2) := by decide +kernel
theorem d_Gu_step_111 : decode b_Gu_step 111 = .ok (.if_icmp .ge 11, 3) := by decide +kernel
theorem d_Gu_step_114 : decode b_Gu_step 114 = .ok (.aload_n 0, 1) := by decide +kernel
theorem d_Gu_step_115 : decode b_Gu_step 115 = .ok (.iload_n 3, 1) := by decide +kernel
theorem d_Gu_step_116 : decode b_Gu_step 116 = .ok (.invokevirtual 79, 3) := by decide +kernel
theorem d_Gu_step_119 : decode b_Gu_step 119 = .ok (.goto 8, 3) := by decide +kernel
theorem d_Gu_step_122 : decode b_Gu_step 122 = .ok (.aload_n 0, 1) := by decide +kernel
theorem d_Gu_step_123 : decode b_Gu_step 123 = .ok (.iload_n 3, 1) := by decide +kernel
theorem d_Gu_step_124 : decode b_Gu_step 124 = .ok (.invokevirtual 83, 3) := by decide +kernel
theorem d_Gu_step_127 : decode b_Gu_step 127 = .ok (.areturn, 1) := by decide +kernel
noncomputable def pr_Gu_step : List (Nat × tw_Op) := [(0, tw_al 0), (1, tw_gr 0 3), (4, tw_ic (8)), (6, tw_d2), (7, tw_ia), (8, tw_ic 1), (9, tw_bin (· + ·)), (10, tw_ias 0 22), (11, tw_al 0), (12, tw_gr 0 4), (15, tw_cv 0 4 fn_Co_dueBits), (18, tw_is 1), (19, tw_il 1), (20, tw_ifeq 71), (23, tw_al 0), (24, tw_gi 0 7), (27, tw_ifne 41), (30, tw_al 0), (31, tw_gr 0 4), (34, tw_ic 1), (35, tw_cv 1 4 fn_Co_isOn), (38, tw_ifeq 71), (41, tw_al 0), (42, tw_gr 0 3), (45, tw_ic (6)), (47, tw_d2), (48, tw_ia), (49, tw_ic 1), (50, tw_bin (· + ·)), (51, tw_ias 0 22), (52, tw_al 0), (53, tw_il 1), (54, tw_ic 2), (55, tw_bin (· &&& ·)), (56, tw_ifeq 64), (59, tw_ic (-2147483639)), (61, tw_jmp 66), (64, tw_ic (-2147483643)), (66, tw_ic 0), (67, tw_cv 2 0 fn_Gu_trap), (70, tw_ra), (71, tw_al 0), (72, tw_al 0), (73, tw_gi 0 6), (76, tw_en 50), (79, tw_cv 2 0 fn_Gu_reach), (82, tw_is 2), (83, tw_il 2), (84, tw_ifge 98), (87, tw_al 0), (88, tw_il 2), (89, tw_neg), (90, tw_al 0), (91, tw_gi 0 6), (94, tw_cv 2 0 fn_Gu_fault), (97, tw_ra), (98, tw_al 0), (99, tw_gr 0 1), (102, tw_il 2), (103, tw_ia), (104, tw_is 3), (105, tw_il 3), (106, tw_ic (31)), (108, tw_bin (· &&& ·)), (109, tw_ic (17)), (111, tw_cge 122), (114, tw_al 0), (115, tw_il 3), (116, tw_cv 1 0 fn_Gu_doOrdinary), (119, tw_jmp 127), (122, tw_al 0), (123, tw_il 3), (124, tw_cv 1 0 fn_Gu_doSystem), (127, tw_ra)]
set_option maxRecDepth 100000 in
set_option maxHeartbeats 4000000 in
theorem ok_Gu_step {p : Program} {l : Launch} {e : Env} {s : State} {m : MethodId} {args : Array Value} {below : List Frame} {meth : Method} {c : Code} {E : tw_E} {D : va_G} {ρ : tw_R} (hC : tw_Cx p s m args meth c b_Gu_step 4 (some (.object "TwinHost$Outcome")) "TwinHost$Guest" E D) : tw_Ok p l e (tw_rmd 6) s m args below meth c 0 0 (MQ below (tw_Qc E D ρ) args s 0 0 (tw_A E)) 4 E D ρ pr_Gu_step :=
  ⟨ts_aload_n hC d_Gu_step_0 rfl,
   ts_gr (j := 2) (C := R_Gu) (T := T_Gu) hC rfl rfl rfl (by decide) u_Gu wd_136 rfl d_Gu_step_1,
   ts_bipush hC d_Gu_step_4 (by decide),
   ts_dup2 hC d_Gu_step_6,
   ts_iaload hC d_Gu_step_7,
   ts_iconst hC d_Gu_step_8 (by decide),
   ts_iadd hC d_Gu_step_9,
   ts_iastore hC d_Gu_step_10,
   ts_aload_n hC d_Gu_step_11 rfl,
   ts_gr (j := 3) (C := R_Gu) (T := T_Gu) hC rfl rfl rfl (by decide) u_Gu wd_138 rfl d_Gu_step_12,
   ts_callv (C := R_Co) (T := T_Co) hC con_Co_dueBits wd_288 wd_26 (by decide +kernel) ⟨by decide, by decide⟩ ⟨Nat.zero_le _, Nat.zero_le _⟩ wd_285 rfl rfl wd_286 wd_287 d_Gu_step_15,
   ts_istore_n hC d_Gu_step_18 rfl (by decide),
   ts_iload_n hC d_Gu_step_19 rfl,
   ts_ifeq hC d_Gu_step_20 (by decide),
   ts_aload_n hC d_Gu_step_23 rfl,
   ts_gi (j := 7) (C := R_Gu) (T := T_Gu) hC rfl rfl rfl (by decide) u_Gu wd_145 rfl d_Gu_step_24,
   ts_ifne hC d_Gu_step_27 (by decide),
   ts_aload_n hC d_Gu_step_30 rfl,
   ts_gr (j := 3) (C := R_Gu) (T := T_Gu) hC rfl rfl rfl (by decide) u_Gu wd_138 rfl d_Gu_step_31,
   ts_iconst hC d_Gu_step_34 (by decide),
   ts_callv (C := R_Co) (T := T_Co) hC con_Co_isOn wd_292 wd_26 (by decide +kernel) ⟨by decide, by decide⟩ ⟨Nat.zero_le _, Nat.zero_le _⟩ wd_289 rfl rfl wd_290 wd_291 d_Gu_step_35,
   ts_ifeq hC d_Gu_step_38 (by decide),
   ts_aload_n hC d_Gu_step_41 rfl,
   ts_gr (j := 2) (C := R_Gu) (T := T_Gu) hC rfl rfl rfl (by decide) u_Gu wd_136 rfl d_Gu_step_42,
   ts_bipush hC d_Gu_step_45 (by decide),
   ts_dup2 hC d_Gu_step_47,
   ts_iaload hC d_Gu_step_48,
   ts_iconst hC d_Gu_step_49 (by decide),
   ts_iadd hC d_Gu_step_50,
   ts_iastore hC d_Gu_step_51,
   ts_aload_n hC d_Gu_step_52 rfl,
   ts_iload_n hC d_Gu_step_53 rfl,
   ts_iconst hC d_Gu_step_54 (by decide),
   ts_iand hC d_Gu_step_55,
   ts_ifeq hC d_Gu_step_56 (by decide),
   ts_ldc hC wd_293 d_Gu_step_59,
   ts_goto hC d_Gu_step_61 (by decide),
   ts_ldc hC wd_294 d_Gu_step_64,
   ts_iconst hC d_Gu_step_66 (by decide),
   ts_callv (C := R_Gu) (T := T_Gu) hC con_Gu_trap wd_298 wd_25 (by decide +kernel) ⟨by decide, by decide⟩ ⟨Nat.zero_le _, Nat.zero_le _⟩ wd_295 rfl rfl wd_296 wd_297 d_Gu_step_67,
   ts_aret hC rfl d_Gu_step_70,
   ts_aload_n hC d_Gu_step_71 rfl,
   ts_aload_n hC d_Gu_step_72 rfl,
   ts_gi (j := 6) (C := R_Gu) (T := T_Gu) hC rfl rfl rfl (by decide) u_Gu wd_143 rfl d_Gu_step_73,
   ts_getA (i := 0) hC (by decide) rfl wd_306 d_Gu_step_76,
   ts_callv (C := R_Gu) (T := T_Gu) hC con_Gu_reach wd_311 wd_25 (by decide +kernel) ⟨by decide, by decide⟩ ⟨Nat.zero_le _, Nat.zero_le _⟩ wd_308 rfl rfl wd_309 wd_310 d_Gu_step_79,
   ts_istore_n hC d_Gu_step_82 rfl (by decide),
   ts_iload_n hC d_Gu_step_83 rfl,
   ts_ifge hC d_Gu_step_84 (by decide),
   ts_aload_n hC d_Gu_step_87 rfl,
   ts_iload_n hC d_Gu_step_88 rfl,
   ts_ineg hC d_Gu_step_89,
   ts_aload_n hC d_Gu_step_90 rfl,
   ts_gi (j := 6) (C := R_Gu) (T := T_Gu) hC rfl rfl rfl (by decide) u_Gu wd_143 rfl d_Gu_step_91,
   ts_callv (C := R_Gu) (T := T_Gu) hC con_Gu_fault wd_353 wd_25 (by decide +kernel) ⟨by decide, by decide⟩ ⟨Nat.zero_le _, Nat.zero_le _⟩ wd_350 rfl rfl wd_351 wd_352 d_Gu_step_94,
   ts_aret hC rfl d_Gu_step_97,
   ts_aload_n hC d_Gu_step_98 rfl,
   ts_gr (j := 0) (C := R_Gu) (T := T_Gu) hC rfl rfl rfl (by decide) u_Gu wd_132 rfl d_Gu_step_99,
   ts_iload_n hC d_Gu_step_102 rfl,
   ts_iaload hC d_Gu_step_103,
   ts_istore_n hC d_Gu_step_104 rfl (by decide),
   ts_iload_n hC d_Gu_step_105 rfl,
   ts_bipush hC d_Gu_step_106 (by decide),
   ts_iand hC d_Gu_step_108,
   ts_bipush hC d_Gu_step_109 (by decide),
   ts_cge hC d_Gu_step_111 (by decide),
   ts_aload_n hC d_Gu_step_114 rfl,
   ts_iload_n hC d_Gu_step_115 rfl,
   ts_callv (C := R_Gu) (T := T_Gu) hC con_Gu_doOrdinary wd_357 wd_25 (by decide +kernel) ⟨by decide, by decide⟩ ⟨Nat.zero_le _, Nat.zero_le _⟩ wd_354 rfl rfl wd_355 wd_356 d_Gu_step_116,
   ts_goto hC d_Gu_step_119 (by decide),
   ts_aload_n hC d_Gu_step_122 rfl,
   ts_iload_n hC d_Gu_step_123 rfl,
   ts_callv (C := R_Gu) (T := T_Gu) hC con_Gu_doSystem wd_393 wd_25 (by decide +kernel) ⟨by decide, by decide⟩ ⟨Nat.zero_le _, Nat.zero_le _⟩ wd_390 rfl rfl wd_391 wd_392 d_Gu_step_124,
   ts_aret hC rfl d_Gu_step_127,
   trivial⟩
noncomputable def fn_Gu_step : tw_Fn := tw_fl 1 4 76 pr_Gu_step
theorem con_Gu_step : tw_Con y_Gu_step b_Gu_step 4 (some (.object "TwinHost$Outcome")) 6 fn_Gu_step := tw_met (by decide +kernel) (tw_fl_len (n := 1) (by decide)) (fun p l e s m args below meth c E D vs σ ρ hC h => tw_sound (ok_Gu_step hC) 76 pr_Gu_step (ok_Gu_step hC) _ _ _ (tw_fl_get h))
