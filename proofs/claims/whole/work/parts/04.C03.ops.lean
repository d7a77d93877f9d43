-- TwinHost$Controls.take(I)I: 20 instructions, depth 3, calls Co_look In_isThere In_removeFirst
theorem d_Co_take_0 : decode b_Co_take 0 = .ok (.aload_n 0, 1) := by decide +kernel
theorem d_Co_take_1 : decode b_Co_take 1 = .ok (.iload_n 1, 1) := by decide +kernel
theorem d_Co_take_2 : decode b_Co_take 2 = .ok (.invokevirtual 33, 3) := by decide +kernel
theorem d_Co_take_5 : decode b_Co_take 5 = .ok (.istore_n 2, 1) := by decide +kernel
theorem d_Co_take_6 : decode b_Co_take 6 = .ok (.iload_n 1, 1) := by decide +kernel
theorem d_Co_take_7 : decode b_Co_take 7 = .ok (.bipush 11, 2) := by decide +kernel
theorem d_Co_take_9 : decode b_Co_take 9 = .ok (.if_icmp .ne 27, 3) := by decide +kernel
theorem d_Co_take_12 : decode b_Co_take 12 = .ok (.aload_n 0, 1) := by decide +kernel
theorem d_Co_take_13 : decode b_Co_take 13 = .ok (.getfield 16, 3) := by decide +kernel
theorem d_Co_take_16 : decode b_Co_take 16 = .ok (.aload_n 0, 1) := by decide +kernel
theorem d_Co_take_17 : decode b_Co_take 17 = .ok (.getfield 9, 3) := by decide +kernel
theorem d_Co_take_20 : decode b_Co_take 20 = .ok (.bipush 10, 2) := by decide +kernel
theorem d_Co_take_22 : decode b_Co_take 22 = .ok (.iaload, 1) := by decide +kernel
theorem d_Co_take_23 : decode b_Co_take 23 = .ok (.invokevirtual 29, 3) := by decide +kernel
theorem d_Co_take_26 : decode b_Co_take 26 = .ok (.ifCond .eq 10, 3) := by decide +kernel
theorem d_Co_take_29 : decode b_Co_take 29 = .ok (.aload_n 0, 1) := by decide +kernel
theorem d_Co_take_30 : decode b_Co_take 30 = .ok (.getfield 16, 3) := by decide +kernel
theorem d_Co_take_33 : decode b_Co_take 33 = .ok (.invokevirtual 37, 3) := by decide +kernel
theorem d_Co_take_36 : decode b_Co_take 36 = .ok (.iload_n 2, 1) := by decide +kernel
theorem d_Co_take_37 : decode b_Co_take 37 = .ok (.ireturn, 1) := by decide +kernel
noncomputable def pr_Co_take : List (Nat × tw_Op) := [(0, tw_al 0), (1, tw_il 1), (2, tw_cv 1 4 fn_Co_look), (5, tw_is 2), (6, tw_il 1), (7, tw_ic (11)), (9, tw_cne 36), (12, tw_al 0), (13, tw_gr 4 6), (16, tw_al 0), (17, tw_gr 4 5), (20, tw_ic (10)), (22, tw_ia), (23, tw_cv 1 6 fn_In_isThere), (26, tw_ifeq 36), (29, tw_al 0), (30, tw_gr 4 6), (33, tw_cv 0 6 fn_In_removeFirst), (36, tw_il 2), (37, tw_ri)]
set_option maxRecDepth 100000 in
set_option maxHeartbeats 4000000 in
theorem ok_Co_take {p : Program} {l : Launch} {e : Env} {s : State} {m : MethodId} {args : Array Value} {below : List Frame} {meth : Method} {c : Code} {E : tw_E} {D : va_G} {ρ : tw_R} (hC : tw_Cx p s m args meth c b_Co_take 3 (some .int) "TwinHost$Controls" E D) : tw_Ok p l e (tw_rmd 3) s m args below meth c 0 0 (MQ below (tw_Qc E D ρ) args s 0 0 (tw_A E)) 3 E D ρ pr_Co_take :=
  ⟨ts_aload_n hC d_Co_take_0 rfl,
   ts_iload_n hC d_Co_take_1 rfl,
   ts_callv (C := R_Co) (T := T_Co) hC con_Co_look wd_248 wd_26 (by decide +kernel) ⟨by decide, by decide⟩ ⟨Nat.zero_le _, Nat.zero_le _⟩ wd_410 rfl rfl wd_246 wd_247 d_Co_take_2,
   ts_istore_n hC d_Co_take_5 rfl (by decide),
   ts_iload_n hC d_Co_take_6 rfl,
   ts_bipush hC d_Co_take_7 (by decide),
   ts_cne hC d_Co_take_9 (by decide),
   ts_aload_n hC d_Co_take_12 rfl,
   ts_gr (j := 1) (C := R_Co) (T := T_Co) hC rfl rfl rfl (by decide) u_Co wd_77 rfl d_Co_take_13,
   ts_aload_n hC d_Co_take_16 rfl,
   ts_gr (j := 0) (C := R_Co) (T := T_Co) hC rfl rfl rfl (by decide) u_Co wd_75 rfl d_Co_take_17,
   ts_bipush hC d_Co_take_20 (by decide),
   ts_iaload hC d_Co_take_22,
   ts_callv (C := R_In) (T := T_In) hC con_In_isThere wd_256 wd_27 (by decide +kernel) ⟨by decide, by decide⟩ ⟨Nat.zero_le _, Nat.zero_le _⟩ wd_253 rfl rfl wd_254 wd_255 d_Co_take_23,
   ts_ifeq hC d_Co_take_26 (by decide),
   ts_aload_n hC d_Co_take_29 rfl,
   ts_gr (j := 1) (C := R_Co) (T := T_Co) hC rfl rfl rfl (by decide) u_Co wd_77 rfl d_Co_take_30,
   ts_callv (C := R_In) (T := T_In) hC con_In_removeFirst wd_414 wd_27 (by decide +kernel) ⟨by decide, by decide⟩ ⟨Nat.zero_le _, Nat.zero_le _⟩ wd_411 rfl rfl wd_412 wd_413 d_Co_take_33,
   ts_iload_n hC d_Co_take_36 rfl,
   ts_iret hC rfl d_Co_take_37,
   trivial⟩
noncomputable def fn_Co_take : tw_Fn := tw_fl 2 3 22 pr_Co_take
theorem con_Co_take : tw_Con y_Co_take b_Co_take 3 (some .int) 3 fn_Co_take := tw_met (by decide +kernel) (tw_fl_len (n := 2) (by decide)) (fun p l e s m args below meth c E D vs σ ρ hC h => tw_sound (ok_Co_take hC) 22 pr_Co_take (ok_Co_take hC) _ _ _ (tw_fl_get h))

-- TwinHost$Guest.fault(II)LTwinHost$Outcome;: 13 instructions, depth 3, calls Gu_trap
theorem d_Gu_fault_0 : decode b_Gu_fault 0 = .ok (.aload_n 0, 1) := by decide +kernel
theorem d_Gu_fault_1 : decode b_Gu_fault 1 = .ok (.getfield 20, 3) := by decide +kernel
theorem d_Gu_fault_4 : decode b_Gu_fault 4 = .ok (.iconst 2, 1) := by decide +kernel
theorem d_Gu_fault_5 : decode b_Gu_fault 5 = .ok (.dup2, 1) := by decide +kernel
theorem d_Gu_fault_6 : decode b_Gu_fault 6 = .ok (.iaload, 1) := by decide +kernel
theorem d_Gu_fault_7 : decode b_Gu_fault 7 = .ok (.iconst 1, 1) := by decide +kernel
theorem d_Gu_fault_8 : decode b_Gu_fault 8 = .ok (.iadd, 1) := by decide +kernel
theorem d_Gu_fault_9 : decode b_Gu_fault 9 = .ok (.iastore, 1) := by decide +kernel
theorem d_Gu_fault_10 : decode b_Gu_fault 10 = .ok (.aload_n 0, 1) := by decide +kernel
theorem d_Gu_fault_11 : decode b_Gu_fault 11 = .ok (.iload_n 1, 1) := by decide +kernel
theorem d_Gu_fault_12 : decode b_Gu_fault 12 = .ok (.iload_n 2, 1) := by decide +kernel
theorem d_Gu_fault_13 : decode b_Gu_fault 13 = .ok (.invokevirtual 58, 3) := by decide +kernel
theorem d_Gu_fault_16 : decode b_Gu_fault 16 = .ok (.areturn, 1) := by decide +kernel
noncomputable def pr_Gu_fault : List (Nat × tw_Op) := [(0, tw_al 0), (1, tw_gr 0 3), (4, tw_ic 2), (5, tw_d2), (6, tw_ia), (7, tw_ic 1), (8, tw_bin (· + ·)), (9, tw_ias 0 22), (10, tw_al 0), (11, tw_il 1), (12, tw_il 2), (13, tw_cv 2 0 fn_Gu_trap), (16, tw_ra)]
set_option maxRecDepth 100000 in
set_option maxHeartbeats 4000000 in
theorem ok_Gu_fault {p : Program} {l : Launch} {e : Env} {s : State} {m : MethodId} {args : Array Value} {below : List Frame} {meth : Method} {c : Code} {E : tw_E} {D : va_G} {ρ : tw_R} (hC : tw_Cx p s m args meth c b_Gu_fault 3 (some (.object "TwinHost$Outcome")) "TwinHost$Guest" E D) : tw_Ok p l e (tw_rmd 3) s m args below meth c 0 0 (MQ below (tw_Qc E D ρ) args s 0 0 (tw_A E)) 3 E D ρ pr_Gu_fault :=
  ⟨ts_aload_n hC d_Gu_fault_0 rfl,
   ts_gr (j := 2) (C := R_Gu) (T := T_Gu) hC rfl rfl rfl (by decide) u_Gu wd_136 rfl d_Gu_fault_1,
   ts_iconst hC d_Gu_fault_4 (by decide),
   ts_dup2 hC d_Gu_fault_5,
   ts_iaload hC d_Gu_fault_6,
   ts_iconst hC d_Gu_fault_7 (by decide),
   ts_iadd hC d_Gu_fault_8,
   ts_iastore hC d_Gu_fault_9,
   ts_aload_n hC d_Gu_fault_10 rfl,
   ts_iload_n hC d_Gu_fault_11 rfl,
   ts_iload_n hC d_Gu_fault_12 rfl,
   ts_callv (C := R_Gu) (T := T_Gu) hC con_Gu_trap wd_298 wd_25 (by decide +kernel) ⟨by decide, by decide⟩ ⟨Nat.zero_le _, Nat.zero_le _⟩ wd_295 rfl rfl wd_296 wd_297 d_Gu_fault_13,
   ts_aret hC rfl d_Gu_fault_16,
   trivial⟩
noncomputable def fn_Gu_fault : tw_Fn := tw_fl 3 3 15 pr_Gu_fault
theorem con_Gu_fault : tw_Con y_Gu_fault b_Gu_fault 3 (some (.object "TwinHost$Outcome")) 3 fn_Gu_fault := tw_met (by decide +kernel) (tw_fl_len (n := 3) (by decide)) (fun p l e s m args below meth c E D vs σ ρ hC h => tw_sound (ok_Gu_fault hC) 15 pr_Gu_fault (ok_Gu_fault hC) _ _ _ (tw_fl_get h))

-- TwinHost.command(III)Z: 17 instructions, depth 3, calls TH_isGuest Co_isStoredTo Gu_storeControl
theorem d_TH_command_0 : decode b_TH_command 0 = .ok (.iload_n 1, 1) := by decide +kernel
theorem d_TH_command_1 : decode b_TH_command 1 = .ok (.invokestatic 20, 3) := by decide +kernel
theorem d_TH_command_4 : decode b_TH_command 4 = .ok (.ifCond .eq 10, 3) := by decide +kernel
theorem d_TH_command_7 : decode b_TH_command 7 = .ok (.iload_n 2, 1) := by decide +kernel
theorem d_TH_command_8 : decode b_TH_command 8 = .ok (.invokestatic 45, 3) := by decide +kernel
theorem d_TH_command_11 : decode b_TH_command 11 = .ok (.ifCond .ne 5, 3) := by decide +kernel
theorem d_TH_command_14 : decode b_TH_command 14 = .ok (.iconst 0, 1) := by decide +kernel
theorem d_TH_command_15 : decode b_TH_command 15 = .ok (.ireturn, 1) := by decide +kernel
theorem d_TH_command_16 : decode b_TH_command 16 = .ok (.aload_n 0, 1) := by decide +kernel
theorem d_TH_command_17 : decode b_TH_command 17 = .ok (.getfield 16, 3) := by decide +kernel
theorem d_TH_command_20 : decode b_TH_command 20 = .ok (.iload_n 1, 1) := by decide +kernel
theorem d_TH_command_21 : decode b_TH_command 21 = .ok (.aaload, 1) := by decide +kernel
theorem d_TH_command_22 : decode b_TH_command 22 = .ok (.iload_n 2, 1) := by decide +kernel
theorem d_TH_command_23 : decode b_TH_command 23 = .ok (.iload_n 3, 1) := by decide +kernel
theorem d_TH_command_24 : decode b_TH_command 24 = .ok (.invokevirtual 50, 3) := by decide +kernel
theorem d_TH_command_27 : decode b_TH_command 27 = .ok (.iconst 1, 1) := by decide +kernel
theorem d_TH_command_28 : decode b_TH_command 28 = .ok (.ireturn, 1) := by decide +kernel
noncomputable def pr_TH_command : List (Nat × tw_Op) := [(0, tw_il 1), (1, tw_cs 1 fn_TH_isGuest), (4, tw_ifeq 14), (7, tw_il 2), (8, tw_cs 1 fn_Co_isStoredTo), (11, tw_ifne 16), (14, tw_ic 0), (15, tw_rz), (16, tw_al 0), (17, tw_gr 20 21), (20, tw_il 1), (21, tw_ga), (22, tw_il 2), (23, tw_il 3), (24, tw_cv 2 0 fn_Gu_storeControl), (27, tw_ic 1), (28, tw_rz)]
set_option maxRecDepth 100000 in
set_option maxHeartbeats 4000000 in
theorem ok_TH_command {p : Program} {l : Launch} {e : Env} {s : State} {m : MethodId} {args : Array Value} {below : List Frame} {meth : Method} {c : Code} {E : tw_E} {D : va_G} {ρ : tw_R} (hC : tw_Cx p s m args meth c b_TH_command 4 (some .boolean) "TwinHost" E D) : tw_Ok p l e (tw_rmd 3) s m args below meth c 0 0 (MQ below (tw_Qc E D ρ) args s 0 0 (tw_A E)) 4 E D ρ pr_TH_command :=
  ⟨ts_iload_n hC d_TH_command_0 rfl,
   ts_calls hC con_TH_isGuest wd_183 wd_24 (by decide +kernel) ⟨by decide, by decide⟩ ⟨Nat.zero_le _, Nat.zero_le _⟩ wd_181 wd_182 d_TH_command_1,
   ts_ifeq hC d_TH_command_4 (by decide),
   ts_iload_n hC d_TH_command_7 rfl,
   ts_calls hC con_Co_isStoredTo wd_220 wd_26 (by decide +kernel) ⟨by decide, by decide⟩ ⟨Nat.zero_le _, Nat.zero_le _⟩ wd_218 wd_219 d_TH_command_8,
   ts_ifne hC d_TH_command_11 (by decide),
   ts_iconst hC d_TH_command_14 (by decide),
   ts_zret hC rfl d_TH_command_15,
   ts_aload_n hC d_TH_command_16 rfl,
   ts_gr (j := 0) (C := R_TH) (T := T_TH) hC rfl rfl rfl (by decide) u_TH wd_164 rfl d_TH_command_17,
   ts_iload_n hC d_TH_command_20 rfl,
   ts_aaload hC d_TH_command_21,
   ts_iload_n hC d_TH_command_22 rfl,
   ts_iload_n hC d_TH_command_23 rfl,
   ts_callv (C := R_Gu) (T := T_Gu) hC con_Gu_storeControl wd_227 wd_25 (by decide +kernel) ⟨by decide, by decide⟩ ⟨Nat.zero_le _, Nat.zero_le _⟩ wd_224 rfl rfl wd_225 wd_226 d_TH_command_24,
   ts_iconst hC d_TH_command_27 (by decide),
   ts_zret hC rfl d_TH_command_28,
   trivial⟩
noncomputable def fn_TH_command : tw_Fn := tw_fl 4 4 19 pr_TH_command
theorem con_TH_command : tw_Con y_TH_command b_TH_command 4 (some .boolean) 3 fn_TH_command := tw_met (by decide +kernel) (tw_fl_len (n := 4) (by decide)) (fun p l e s m args below meth c E D vs σ ρ hC h => tw_sound (ok_TH_command hC) 19 pr_TH_command (ok_TH_command hC) _ _ _ (tw_fl_get h))

-- TwinHost.control(II)I: 16 instructions, depth 3, calls TH_isGuest Co_exists Co_look
theorem d_TH_control_0 : decode b_TH_control 0 = .ok (.iload_n 1, 1) := by decide +kernel
theorem d_TH_control_1 : decode b_TH_control 1 = .ok (.invokestatic 20, 3) := by decide +kernel
theorem d_TH_control_4 : decode b_TH_control 4 = .ok (.ifCond .eq 26, 3) := by decide +kernel
theorem d_TH_control_7 : decode b_TH_control 7 = .ok (.iload_n 2, 1) := by decide +kernel
theorem d_TH_control_8 : decode b_TH_control 8 = .ok (.invokestatic 53, 3) := by decide +kernel
theorem d_TH_control_11 : decode b_TH_control 11 = .ok (.ifCond .eq 19, 3) := by decide +kernel
theorem d_TH_control_14 : decode b_TH_control 14 = .ok (.aload_n 0, 1) := by decide +kernel
theorem d_TH_control_15 : decode b_TH_control 15 = .ok (.getfield 16, 3) := by decide +kernel
theorem d_TH_control_18 : decode b_TH_control 18 = .ok (.iload_n 1, 1) := by decide +kernel
theorem d_TH_control_19 : decode b_TH_control 19 = .ok (.aaload, 1) := by decide +kernel
theorem d_TH_control_20 : decode b_TH_control 20 = .ok (.getfield 56, 3) := by decide +kernel
theorem d_TH_control_23 : decode b_TH_control 23 = .ok (.iload_n 2, 1) := by decide +kernel
theorem d_TH_control_24 : decode b_TH_control 24 = .ok (.invokevirtual 60, 3) := by decide +kernel
theorem d_TH_control_27 : decode b_TH_control 27 = .ok (.goto 4, 3) := by decide +kernel
theorem d_TH_control_30 : decode b_TH_control 30 = .ok (.iconst 0, 1) := by decide +kernel
theorem d_TH_control_31 : decode b_TH_control 31 = .ok (.ireturn, 1) := by decide +kernel
noncomputable def pr_TH_control : List (Nat × tw_Op) := [(0, tw_il 1), (1, tw_cs 1 fn_TH_isGuest), (4, tw_ifeq 30), (7, tw_il 2), (8, tw_cs 1 fn_Co_exists), (11, tw_ifeq 30), (14, tw_al 0), (15, tw_gr 20 21), (18, tw_il 1), (19, tw_ga), (20, tw_gr 0 4), (23, tw_il 2), (24, tw_cv 1 4 fn_Co_look), (27, tw_jmp 31), (30, tw_ic 0), (31, tw_ri)]
set_option maxRecDepth 100000 in
set_option maxHeartbeats 4000000 in
theorem ok_TH_control {p : Program} {l : Launch} {e : Env} {s : State} {m : MethodId} {args : Array Value} {below : List Frame} {meth : Method} {c : Code} {E : tw_E} {D : va_G} {ρ : tw_R} (hC : tw_Cx p s m args meth c b_TH_control 3 (some .int) "TwinHost" E D) : tw_Ok p l e (tw_rmd 3) s m args below meth c 0 0 (MQ below (tw_Qc E D ρ) args s 0 0 (tw_A E)) 3 E D ρ pr_TH_control :=
  ⟨ts_iload_n hC d_TH_control_0 rfl,
   ts_calls hC con_TH_isGuest wd_183 wd_24 (by decide +kernel) ⟨by decide, by decide⟩ ⟨Nat.zero_le _, Nat.zero_le _⟩ wd_181 wd_182 d_TH_control_1,
   ts_ifeq hC d_TH_control_4 (by decide),
   ts_iload_n hC d_TH_control_7 rfl,
   ts_calls hC con_Co_exists wd_223 wd_26 (by decide +kernel) ⟨by decide, by decide⟩ ⟨Nat.zero_le _, Nat.zero_le _⟩ wd_244 wd_222 d_TH_control_8,
   ts_ifeq hC d_TH_control_11 (by decide),
   ts_aload_n hC d_TH_control_14 rfl,
   ts_gr (j := 0) (C := R_TH) (T := T_TH) hC rfl rfl rfl (by decide) u_TH wd_164 rfl d_TH_control_15,
   ts_iload_n hC d_TH_control_18 rfl,
   ts_aaload hC d_TH_control_19,
   ts_gr (j := 3) (C := R_Gu) (T := T_Gu) hC rfl rfl rfl (by decide) u_Gu wd_139 rfl d_TH_control_20,
   ts_iload_n hC d_TH_control_23 rfl,
   ts_callv (C := R_Co) (T := T_Co) hC con_Co_look wd_248 wd_26 (by decide +kernel) ⟨by decide, by decide⟩ ⟨Nat.zero_le _, Nat.zero_le _⟩ wd_245 rfl rfl wd_246 wd_247 d_TH_control_24,
   ts_goto hC d_TH_control_27 (by decide),
   ts_iconst hC d_TH_control_30 (by decide),
   ts_iret hC rfl d_TH_control_31,
   trivial⟩
noncomputable def fn_TH_control : tw_Fn := tw_fl 3 3 18 pr_TH_control
theorem con_TH_control : tw_Con y_TH_control b_TH_control 3 (some .int) 3 fn_TH_control := tw_met (by decide +kernel) (tw_fl_len (n := 3) (by decide)) (fun p l e s m args below meth c E D vs σ ρ hC h => tw_sound (ok_TH_control hC) 18 pr_TH_control (ok_TH_control hC) _ _ _ (tw_fl_get h))
