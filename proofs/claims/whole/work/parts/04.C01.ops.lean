-- TwinHost$Controls.enterTrap(IIIZ)V: 42 instructions, depth 1, calls Co_isOn
theorem d_Co_enterTrap_0 : decode b_Co_enterTrap 0 = .ok (.aload_n 0, 1) := by decide +kernel
theorem d_Co_enterTrap_1 : decode b_Co_enterTrap 1 = .ok (.getfield 9, 3) := by decide +kernel
theorem d_Co_enterTrap_4 : decode b_Co_enterTrap 4 = .ok (.iconst 3, 1) := by decide +kernel
theorem d_Co_enterTrap_5 : decode b_Co_enterTrap 5 = .ok (.iload_n 1, 1) := by decide +kernel
theorem d_Co_enterTrap_6 : decode b_Co_enterTrap 6 = .ok (.iastore, 1) := by decide +kernel
theorem d_Co_enterTrap_7 : decode b_Co_enterTrap 7 = .ok (.aload_n 0, 1) := by decide +kernel
theorem d_Co_enterTrap_8 : decode b_Co_enterTrap 8 = .ok (.getfield 9, 3) := by decide +kernel
theorem d_Co_enterTrap_11 : decode b_Co_enterTrap 11 = .ok (.iconst 4, 1) := by decide +kernel
theorem d_Co_enterTrap_12 : decode b_Co_enterTrap 12 = .ok (.iload_n 2, 1) := by decide +kernel
theorem d_Co_enterTrap_13 : decode b_Co_enterTrap 13 = .ok (.iastore, 1) := by decide +kernel
theorem d_Co_enterTrap_14 : decode b_Co_enterTrap 14 = .ok (.aload_n 0, 1) := by decide +kernel
theorem d_Co_enterTrap_15 : decode b_Co_enterTrap 15 = .ok (.getfield 9, 3) := by decide +kernel
theorem d_Co_enterTrap_18 : decode b_Co_enterTrap 18 = .ok (.iconst 2, 1) := by decide +kernel
theorem d_Co_enterTrap_19 : decode b_Co_enterTrap 19 = .ok (.iload_n 3, 1) := by decide +kernel
theorem d_Co_enterTrap_20 : decode b_Co_enterTrap 20 = .ok (.iastore, 1) := by decide +kernel
theorem d_Co_enterTrap_21 : decode b_Co_enterTrap 21 = .ok (.aload_n 0, 1) := by decide +kernel
theorem d_Co_enterTrap_22 : decode b_Co_enterTrap 22 = .ok (.iconst 1, 1) := by decide +kernel
theorem d_Co_enterTrap_23 : decode b_Co_enterTrap 23 = .ok (.invokevirtual 43, 3) := by decide +kernel
theorem d_Co_enterTrap_26 : decode b_Co_enterTrap 26 = .ok (.ifCond .eq 7, 3) := by decide +kernel
theorem d_Co_enterTrap_29 : decode b_Co_enterTrap 29 = .ok (.iconst 2, 1) := by decide +kernel
theorem d_Co_enterTrap_30 : decode b_Co_enterTrap 30 = .ok (.goto 4, 3) := by decide +kernel
theorem d_Co_enterTrap_33 : decode b_Co_enterTrap 33 = .ok (.iconst 0, 1) := by decide +kernel
theorem d_Co_enterTrap_34 : decode b_Co_enterTrap 34 = .ok (.iload 4, 2) := by decide +kernel
theorem d_Co_enterTrap_36 : decode b_Co_enterTrap 36 = .ok (.ifCond .eq 7, 3) := by decide +kernel
theorem d_Co_enterTrap_39 : decode b_Co_enterTrap 39 = .ok (.iconst 0, 1) := by decide +kernel
theorem d_Co_enterTrap_40 : decode b_Co_enterTrap 40 = .ok (.goto 4, 3) := by decide +kernel
theorem d_Co_enterTrap_43 : decode b_Co_enterTrap 43 = .ok (.iconst 4, 1) := by decide +kernel
theorem d_Co_enterTrap_44 : decode b_Co_enterTrap 44 = .ok (.ior, 1) := by decide +kernel
theorem d_Co_enterTrap_45 : decode b_Co_enterTrap 45 = .ok (.istore 5, 2) := by decide +kernel
theorem d_Co_enterTrap_47 : decode b_Co_enterTrap 47 = .ok (.aload_n 0, 1) := by decide +kernel
theorem d_Co_enterTrap_48 : decode b_Co_enterTrap 48 = .ok (.getfield 9, 3) := by decide +kernel
theorem d_Co_enterTrap_51 : decode b_Co_enterTrap 51 = .ok (.iconst 0, 1) := by decide +kernel
theorem d_Co_enterTrap_52 : decode b_Co_enterTrap 52 = .ok (.aload_n 0, 1) := by decide +kernel
theorem d_Co_enterTrap_53 : decode b_Co_enterTrap 53 = .ok (.getfield 9, 3) := by decide +kernel
theorem d_Co_enterTrap_56 : decode b_Co_enterTrap 56 = .ok (.iconst 0, 1) := by decide +kernel
theorem d_Co_enterTrap_57 : decode b_Co_enterTrap 57 = .ok (.iaload, 1) := by decide +kernel
theorem d_Co_enterTrap_58 : decode b_Co_enterTrap 58 = .ok (.bipush 8, 2) := by decide +kernel
theorem d_Co_enterTrap_60 : decode b_Co_enterTrap 60 = .ok (.iand, 1) := by decide +kernel
theorem d_Co_enterTrap_61 : decode b_Co_enterTrap 61 = .ok (.iload 5, 2) := by decide +kernel
theorem d_Co_enterTrap_63 : decode b_Co_enterTrap 63 = .ok (.ior, 1) := by decide +kernel
theorem d_Co_enterTrap_64 : decode b_Co_enterTrap 64 = .ok (.iastore, 1) := by decide +kernel
theorem d_Co_enterTrap_65 : decode b_Co_enterTrap 65 = .ok (.return_, 1) := by decide +kernel
noncomputable def pr_Co_enterTrap : List (Nat × tw_Op) := [(0, tw_al 0), (1, tw_gr 4 5), (4, tw_ic 3), (5, tw_il 1), (6, tw_ias 0 22), (7, tw_al 0), (8, tw_gr 4 5), (11, tw_ic 4), (12, tw_il 2), (13, tw_ias 0 22), (14, tw_al 0), (15, tw_gr 4 5), (18, tw_ic 2), (19, tw_il 3), (20, tw_ias 0 22), (21, tw_al 0), (22, tw_ic 1), (23, tw_cv 1 4 fn_Co_isOn), (26, tw_ifeq 33), (29, tw_ic 2), (30, tw_jmp 34), (33, tw_ic 0), (34, tw_il 4), (36, tw_ifeq 43), (39, tw_ic 0), (40, tw_jmp 44), (43, tw_ic 4), (44, tw_bin (· ||| ·)), (45, tw_is 5), (47, tw_al 0), (48, tw_gr 4 5), (51, tw_ic 0), (52, tw_al 0), (53, tw_gr 4 5), (56, tw_ic 0), (57, tw_ia), (58, tw_ic (8)), (60, tw_bin (· &&& ·)), (61, tw_il 5), (63, tw_bin (· ||| ·)), (64, tw_ias 0 22), (65, tw_r0)]
set_option maxRecDepth 100000 in
set_option maxHeartbeats 4000000 in
theorem ok_Co_enterTrap {p : Program} {l : Launch} {e : Env} {s : State} {m : MethodId} {args : Array Value} {below : List Frame} {meth : Method} {c : Code} {E : tw_E} {D : va_G} {ρ : tw_R} (hC : tw_Cx p s m args meth c b_Co_enterTrap 6 none "TwinHost$Controls" E D) : tw_Ok p l e (tw_rmd 1) s m args below meth c 0 0 (MQ below (tw_Qc E D ρ) args s 0 0 (tw_A E)) 6 E D ρ pr_Co_enterTrap :=
  ⟨ts_aload_n hC d_Co_enterTrap_0 rfl,
   ts_gr (j := 0) (C := R_Co) (T := T_Co) hC rfl rfl rfl (by decide) u_Co wd_75 rfl d_Co_enterTrap_1,
   ts_iconst hC d_Co_enterTrap_4 (by decide),
   ts_iload_n hC d_Co_enterTrap_5 rfl,
   ts_iastore hC d_Co_enterTrap_6,
   ts_aload_n hC d_Co_enterTrap_7 rfl,
   ts_gr (j := 0) (C := R_Co) (T := T_Co) hC rfl rfl rfl (by decide) u_Co wd_75 rfl d_Co_enterTrap_8,
   ts_iconst hC d_Co_enterTrap_11 (by decide),
   ts_iload_n hC d_Co_enterTrap_12 rfl,
   ts_iastore hC d_Co_enterTrap_13,
   ts_aload_n hC d_Co_enterTrap_14 rfl,
   ts_gr (j := 0) (C := R_Co) (T := T_Co) hC rfl rfl rfl (by decide) u_Co wd_75 rfl d_Co_enterTrap_15,
   ts_iconst hC d_Co_enterTrap_18 (by decide),
   ts_iload_n hC d_Co_enterTrap_19 rfl,
   ts_iastore hC d_Co_enterTrap_20,
   ts_aload_n hC d_Co_enterTrap_21 rfl,
   ts_iconst hC d_Co_enterTrap_22 (by decide),
   ts_callv (C := R_Co) (T := T_Co) hC con_Co_isOn wd_292 wd_26 (by decide +kernel) ⟨by decide, by decide⟩ ⟨Nat.zero_le _, Nat.zero_le _⟩ wd_303 rfl rfl wd_290 wd_291 d_Co_enterTrap_23,
   ts_ifeq hC d_Co_enterTrap_26 (by decide),
   ts_iconst hC d_Co_enterTrap_29 (by decide),
   ts_goto hC d_Co_enterTrap_30 (by decide),
   ts_iconst hC d_Co_enterTrap_33 (by decide),
   ts_iload hC d_Co_enterTrap_34,
   ts_ifeq hC d_Co_enterTrap_36 (by decide),
   ts_iconst hC d_Co_enterTrap_39 (by decide),
   ts_goto hC d_Co_enterTrap_40 (by decide),
   ts_iconst hC d_Co_enterTrap_43 (by decide),
   ts_ior hC d_Co_enterTrap_44,
   ts_istore hC d_Co_enterTrap_45 (by decide),
   ts_aload_n hC d_Co_enterTrap_47 rfl,
   ts_gr (j := 0) (C := R_Co) (T := T_Co) hC rfl rfl rfl (by decide) u_Co wd_75 rfl d_Co_enterTrap_48,
   ts_iconst hC d_Co_enterTrap_51 (by decide),
   ts_aload_n hC d_Co_enterTrap_52 rfl,
   ts_gr (j := 0) (C := R_Co) (T := T_Co) hC rfl rfl rfl (by decide) u_Co wd_75 rfl d_Co_enterTrap_53,
   ts_iconst hC d_Co_enterTrap_56 (by decide),
   ts_iaload hC d_Co_enterTrap_57,
   ts_bipush hC d_Co_enterTrap_58 (by decide),
   ts_iand hC d_Co_enterTrap_60,
   ts_iload hC d_Co_enterTrap_61,
   ts_ior hC d_Co_enterTrap_63,
   ts_iastore hC d_Co_enterTrap_64,
   ts_vret hC rfl d_Co_enterTrap_65,
   trivial⟩
noncomputable def fn_Co_enterTrap : tw_Fn := tw_fl 5 6 44 pr_Co_enterTrap
theorem con_Co_enterTrap : tw_Con y_Co_enterTrap b_Co_enterTrap 6 none 1 fn_Co_enterTrap := tw_met (by decide +kernel) (tw_fl_len (n := 5) (by decide)) (fun p l e s m args below meth c E D vs σ ρ hC h => tw_sound (ok_Co_enterTrap hC) 44 pr_Co_enterTrap (ok_Co_enterTrap hC) _ _ _ (tw_fl_get h))

-- TwinHost$Controls.isStoredTo(I)Z: 16 instructions, depth 1, calls Co_exists
theorem d_Co_isStoredTo_0 : decode b_Co_isStoredTo 0 = .ok (.iload_n 0, 1) := by decide +kernel
theorem d_Co_isStoredTo_1 : decode b_Co_isStoredTo 1 = .ok (.invokestatic 21, 3) := by decide +kernel
theorem d_Co_isStoredTo_4 : decode b_Co_isStoredTo 4 = .ok (.ifCond .eq 25, 3) := by decide +kernel
theorem d_Co_isStoredTo_7 : decode b_Co_isStoredTo 7 = .ok (.iload_n 0, 1) := by decide +kernel
theorem d_Co_isStoredTo_8 : decode b_Co_isStoredTo 8 = .ok (.bipush 8, 2) := by decide +kernel
theorem d_Co_isStoredTo_10 : decode b_Co_isStoredTo 10 = .ok (.if_icmp .eq 19, 3) := by decide +kernel
theorem d_Co_isStoredTo_13 : decode b_Co_isStoredTo 13 = .ok (.iload_n 0, 1) := by decide +kernel
theorem d_Co_isStoredTo_14 : decode b_Co_isStoredTo 14 = .ok (.bipush 10, 2) := by decide +kernel
theorem d_Co_isStoredTo_16 : decode b_Co_isStoredTo 16 = .ok (.if_icmp .eq 13, 3) := by decide +kernel
theorem d_Co_isStoredTo_19 : decode b_Co_isStoredTo 19 = .ok (.iload_n 0, 1) := by decide +kernel
theorem d_Co_isStoredTo_20 : decode b_Co_isStoredTo 20 = .ok (.bipush 11, 2) := by decide +kernel
theorem d_Co_isStoredTo_22 : decode b_Co_isStoredTo 22 = .ok (.if_icmp .eq 7, 3) := by decide +kernel
theorem d_Co_isStoredTo_25 : decode b_Co_isStoredTo 25 = .ok (.iconst 1, 1) := by decide +kernel
theorem d_Co_isStoredTo_26 : decode b_Co_isStoredTo 26 = .ok (.goto 4, 3) := by decide +kernel
theorem d_Co_isStoredTo_29 : decode b_Co_isStoredTo 29 = .ok (.iconst 0, 1) := by decide +kernel
theorem d_Co_isStoredTo_30 : decode b_Co_isStoredTo 30 = .ok (.ireturn, 1) := by decide +kernel
noncomputable def pr_Co_isStoredTo : List (Nat × tw_Op) := [(0, tw_il 0), (1, tw_cs 1 fn_Co_exists), (4, tw_ifeq 29), (7, tw_il 0), (8, tw_ic (8)), (10, tw_ceq 29), (13, tw_il 0), (14, tw_ic (10)), (16, tw_ceq 29), (19, tw_il 0), (20, tw_ic (11)), (22, tw_ceq 29), (25, tw_ic 1), (26, tw_jmp 30), (29, tw_ic 0), (30, tw_rz)]
set_option maxRecDepth 100000 in
set_option maxHeartbeats 4000000 in
theorem ok_Co_isStoredTo {p : Program} {l : Launch} {e : Env} {s : State} {m : MethodId} {args : Array Value} {below : List Frame} {meth : Method} {c : Code} {E : tw_E} {D : va_G} {ρ : tw_R} (hC : tw_Cx p s m args meth c b_Co_isStoredTo 1 (some .boolean) "TwinHost$Controls" E D) : tw_Ok p l e (tw_rmd 1) s m args below meth c 0 0 (MQ below (tw_Qc E D ρ) args s 0 0 (tw_A E)) 1 E D ρ pr_Co_isStoredTo :=
  ⟨ts_iload_n hC d_Co_isStoredTo_0 rfl,
   ts_calls hC con_Co_exists wd_223 wd_26 (by decide +kernel) ⟨by decide, by decide⟩ ⟨Nat.zero_le _, Nat.zero_le _⟩ wd_221 wd_222 d_Co_isStoredTo_1,
   ts_ifeq hC d_Co_isStoredTo_4 (by decide),
   ts_iload_n hC d_Co_isStoredTo_7 rfl,
   ts_bipush hC d_Co_isStoredTo_8 (by decide),
   ts_ceq hC d_Co_isStoredTo_10 (by decide),
   ts_iload_n hC d_Co_isStoredTo_13 rfl,
   ts_bipush hC d_Co_isStoredTo_14 (by decide),
   ts_ceq hC d_Co_isStoredTo_16 (by decide),
   ts_iload_n hC d_Co_isStoredTo_19 rfl,
   ts_bipush hC d_Co_isStoredTo_20 (by decide),
   ts_ceq hC d_Co_isStoredTo_22 (by decide),
   ts_iconst hC d_Co_isStoredTo_25 (by decide),
   ts_goto hC d_Co_isStoredTo_26 (by decide),
   ts_iconst hC d_Co_isStoredTo_29 (by decide),
   ts_zret hC rfl d_Co_isStoredTo_30,
   trivial⟩
noncomputable def fn_Co_isStoredTo : tw_Fn := tw_fl 1 1 18 pr_Co_isStoredTo
theorem con_Co_isStoredTo : tw_Con y_Co_isStoredTo b_Co_isStoredTo 1 (some .boolean) 1 fn_Co_isStoredTo := tw_met (by decide +kernel) (tw_fl_len (n := 1) (by decide)) (fun p l e s m args below meth c E D vs σ ρ hC h => tw_sound (ok_Co_isStoredTo hC) 18 pr_Co_isStoredTo (ok_Co_isStoredTo hC) _ _ _ (tw_fl_get h))

-- TwinHost$Controls.leaveTrap()Z: 32 instructions, depth 1, calls Co_isOn
theorem d_Co_leaveTrap_0 : decode b_Co_leaveTrap 0 = .ok (.aload_n 0, 1) := by decide +kernel
theorem d_Co_leaveTrap_1 : decode b_Co_leaveTrap 1 = .ok (.iconst 4, 1) := by decide +kernel
theorem d_Co_leaveTrap_2 : decode b_Co_leaveTrap 2 = .ok (.invokevirtual 43, 3) := by decide +kernel
theorem d_Co_leaveTrap_5 : decode b_Co_leaveTrap 5 = .ok (.ifCond .ne 7, 3) := by decide +kernel
theorem d_Co_leaveTrap_8 : decode b_Co_leaveTrap 8 = .ok (.iconst 1, 1) := by decide +kernel
theorem d_Co_leaveTrap_9 : decode b_Co_leaveTrap 9 = .ok (.goto 4, 3) := by decide +kernel
theorem d_Co_leaveTrap_12 : decode b_Co_leaveTrap 12 = .ok (.iconst 0, 1) := by decide +kernel
theorem d_Co_leaveTrap_13 : decode b_Co_leaveTrap 13 = .ok (.istore_n 1, 1) := by decide +kernel
theorem d_Co_leaveTrap_14 : decode b_Co_leaveTrap 14 = .ok (.aload_n 0, 1) := by decide +kernel
theorem d_Co_leaveTrap_15 : decode b_Co_leaveTrap 15 = .ok (.iconst 2, 1) := by decide +kernel
theorem d_Co_leaveTrap_16 : decode b_Co_leaveTrap 16 = .ok (.invokevirtual 43, 3) := by decide +kernel
theorem d_Co_leaveTrap_19 : decode b_Co_leaveTrap 19 = .ok (.ifCond .eq 7, 3) := by decide +kernel
theorem d_Co_leaveTrap_22 : decode b_Co_leaveTrap 22 = .ok (.iconst 1, 1) := by decide +kernel
theorem d_Co_leaveTrap_23 : decode b_Co_leaveTrap 23 = .ok (.goto 4, 3) := by decide +kernel
theorem d_Co_leaveTrap_26 : decode b_Co_leaveTrap 26 = .ok (.iconst 0, 1) := by decide +kernel
theorem d_Co_leaveTrap_27 : decode b_Co_leaveTrap 27 = .ok (.istore_n 2, 1) := by decide +kernel
theorem d_Co_leaveTrap_28 : decode b_Co_leaveTrap 28 = .ok (.aload_n 0, 1) := by decide +kernel
theorem d_Co_leaveTrap_29 : decode b_Co_leaveTrap 29 = .ok (.getfield 9, 3) := by decide +kernel
theorem d_Co_leaveTrap_32 : decode b_Co_leaveTrap 32 = .ok (.iconst 0, 1) := by decide +kernel
theorem d_Co_leaveTrap_33 : decode b_Co_leaveTrap 33 = .ok (.aload_n 0, 1) := by decide +kernel
theorem d_Co_leaveTrap_34 : decode b_Co_leaveTrap 34 = .ok (.getfield 9, 3) := by decide +kernel
theorem d_Co_leaveTrap_37 : decode b_Co_leaveTrap 37 = .ok (.iconst 0, 1) := by decide +kernel
theorem d_Co_leaveTrap_38 : decode b_Co_leaveTrap 38 = .ok (.iaload, 1) := by decide +kernel
theorem d_Co_leaveTrap_39 : decode b_Co_leaveTrap 39 = .ok (.bipush 8, 2) := by decide +kernel
theorem d_Co_leaveTrap_41 : decode b_Co_leaveTrap 41 = .ok (.iand, 1) := by decide +kernel
theorem d_Co_leaveTrap_42 : decode b_Co_leaveTrap 42 = .ok (.iconst 2, 1) := by decide +kernel
theorem d_Co_leaveTrap_43 : decode b_Co_leaveTrap 43 = .ok (.ior, 1) := by decide +kernel
theorem d_Co_leaveTrap_44 : decode b_Co_leaveTrap 44 = .ok (.iload_n 2, 1) := by decide +kernel
theorem d_Co_leaveTrap_45 : decode b_Co_leaveTrap 45 = .ok (.ior, 1) := by decide +kernel
theorem d_Co_leaveTrap_46 : decode b_Co_leaveTrap 46 = .ok (.iastore, 1) := by decide +kernel
theorem d_Co_leaveTrap_47 : decode b_Co_leaveTrap 47 = .ok (.iload_n 1, 1) := by decide +kernel
theorem d_Co_leaveTrap_48 : decode b_Co_leaveTrap 48 = .ok (.ireturn, 1) := by decide +kernel
noncomputable def pr_Co_leaveTrap : List (Nat × tw_Op) := [(0, tw_al 0), (1, tw_ic 4), (2, tw_cv 1 4 fn_Co_isOn), (5, tw_ifne 12), (8, tw_ic 1), (9, tw_jmp 13), (12, tw_ic 0), (13, tw_is 1), (14, tw_al 0), (15, tw_ic 2), (16, tw_cv 1 4 fn_Co_isOn), (19, tw_ifeq 26), (22, tw_ic 1), (23, tw_jmp 27), (26, tw_ic 0), (27, tw_is 2), (28, tw_al 0), (29, tw_gr 4 5), (32, tw_ic 0), (33, tw_al 0), (34, tw_gr 4 5), (37, tw_ic 0), (38, tw_ia), (39, tw_ic (8)), (41, tw_bin (· &&& ·)), (42, tw_ic 2), (43, tw_bin (· ||| ·)), (44, tw_il 2), (45, tw_bin (· ||| ·)), (46, tw_ias 0 22), (47, tw_il 1), (48, tw_rz)]
set_option maxRecDepth 100000 in
set_option maxHeartbeats 4000000 in
theorem ok_Co_leaveTrap {p : Program} {l : Launch} {e : Env} {s : State} {m : MethodId} {args : Array Value} {below : List Frame} {meth : Method} {c : Code} {E : tw_E} {D : va_G} {ρ : tw_R} (hC : tw_Cx p s m args meth c b_Co_leaveTrap 3 (some .boolean) "TwinHost$Controls" E D) : tw_Ok p l e (tw_rmd 1) s m args below meth c 0 0 (MQ below (tw_Qc E D ρ) args s 0 0 (tw_A E)) 3 E D ρ pr_Co_leaveTrap :=
  ⟨ts_aload_n hC d_Co_leaveTrap_0 rfl,
   ts_iconst hC d_Co_leaveTrap_1 (by decide),
   ts_callv (C := R_Co) (T := T_Co) hC con_Co_isOn wd_292 wd_26 (by decide +kernel) ⟨by decide, by decide⟩ ⟨Nat.zero_le _, Nat.zero_le _⟩ wd_303 rfl rfl wd_290 wd_291 d_Co_leaveTrap_2,
   ts_ifne hC d_Co_leaveTrap_5 (by decide),
   ts_iconst hC d_Co_leaveTrap_8 (by decide),
   ts_goto hC d_Co_leaveTrap_9 (by decide),
   ts_iconst hC d_Co_leaveTrap_12 (by decide),
   ts_istore_n hC d_Co_leaveTrap_13 rfl (by decide),
   ts_aload_n hC d_Co_leaveTrap_14 rfl,
   ts_iconst hC d_Co_leaveTrap_15 (by decide),
   ts_callv (C := R_Co) (T := T_Co) hC con_Co_isOn wd_292 wd_26 (by decide +kernel) ⟨by decide, by decide⟩ ⟨Nat.zero_le _, Nat.zero_le _⟩ wd_303 rfl rfl wd_290 wd_291 d_Co_leaveTrap_16,
   ts_ifeq hC d_Co_leaveTrap_19 (by decide),
   ts_iconst hC d_Co_leaveTrap_22 (by decide),
   ts_goto hC d_Co_leaveTrap_23 (by decide),
   ts_iconst hC d_Co_leaveTrap_26 (by decide),
   ts_istore_n hC d_Co_leaveTrap_27 rfl (by decide),
   ts_aload_n hC d_Co_leaveTrap_28 rfl,
   ts_gr (j := 0) (C := R_Co) (T := T_Co) hC rfl rfl rfl (by decide) u_Co wd_75 rfl d_Co_leaveTrap_29,
   ts_iconst hC d_Co_leaveTrap_32 (by decide),
   ts_aload_n hC d_Co_leaveTrap_33 rfl,
   ts_gr (j := 0) (C := R_Co) (T := T_Co) hC rfl rfl rfl (by decide) u_Co wd_75 rfl d_Co_leaveTrap_34,
   ts_iconst hC d_Co_leaveTrap_37 (by decide),
   ts_iaload hC d_Co_leaveTrap_38,
   ts_bipush hC d_Co_leaveTrap_39 (by decide),
   ts_iand hC d_Co_leaveTrap_41,
   ts_iconst hC d_Co_leaveTrap_42 (by decide),
   ts_ior hC d_Co_leaveTrap_43,
   ts_iload_n hC d_Co_leaveTrap_44 rfl,
   ts_ior hC d_Co_leaveTrap_45,
   ts_iastore hC d_Co_leaveTrap_46,
   ts_iload_n hC d_Co_leaveTrap_47 rfl,
   ts_zret hC rfl d_Co_leaveTrap_48,
   trivial⟩
noncomputable def fn_Co_leaveTrap : tw_Fn := tw_fl 1 3 34 pr_Co_leaveTrap
theorem con_Co_leaveTrap : tw_Con y_Co_leaveTrap b_Co_leaveTrap 3 (some .boolean) 1 fn_Co_leaveTrap := tw_met (by decide +kernel) (tw_fl_len (n := 1) (by decide)) (fun p l e s m args below meth c E D vs σ ρ hC h => tw_sound (ok_Co_leaveTrap hC) 34 pr_Co_leaveTrap (ok_Co_leaveTrap hC) _ _ _ (tw_fl_get h))

-- TwinHost$Controls.pendingBits()I: 27 instructions, depth 1, calls In_isThere
theorem d_Co_pendingBits_0 : decode b_Co_pendingBits 0 = .ok (.aload_n 0, 1) := by decide +kernel
theorem d_Co_pendingBits_1 : decode b_Co_pendingBits 1 = .ok (.getfield 9, 3) := by decide +kernel
theorem d_Co_pendingBits_4 : decode b_Co_pendingBits 4 = .ok (.bipush 10, 2) := by decide +kernel
theorem d_Co_pendingBits_6 : decode b_Co_pendingBits 6 = .ok (.iaload, 1) := by decide +kernel
theorem d_Co_pendingBits_7 : decode b_Co_pendingBits 7 = .ok (.aload_n 0, 1) := by decide +kernel
theorem d_Co_pendingBits_8 : decode b_Co_pendingBits 8 = .ok (.getfield 9, 3) := by decide +kernel
theorem d_Co_pendingBits_11 : decode b_Co_pendingBits 11 = .ok (.bipush 9, 2) := by decide +kernel
theorem d_Co_pendingBits_13 : decode b_Co_pendingBits 13 = .ok (.iaload, 1) := by decide +kernel
theorem d_Co_pendingBits_14 : decode b_Co_pendingBits 14 = .ok (.if_icmp .lt 7, 3) := by decide +kernel
theorem d_Co_pendingBits_17 : decode b_Co_pendingBits 17 = .ok (.iconst 1, 1) := by decide +kernel
theorem d_Co_pendingBits_18 : decode b_Co_pendingBits 18 = .ok (.goto 4, 3) := by decide +kernel
theorem d_Co_pendingBits_21 : decode b_Co_pendingBits 21 = .ok (.iconst 0, 1) := by decide +kernel
theorem d_Co_pendingBits_22 : decode b_Co_pendingBits 22 = .ok (.istore_n 1, 1) := by decide +kernel
theorem d_Co_pendingBits_23 : decode b_Co_pendingBits 23 = .ok (.aload_n 0, 1) := by decide +kernel
theorem d_Co_pendingBits_24 : decode b_Co_pendingBits 24 = .ok (.getfield 16, 3) := by decide +kernel
theorem d_Co_pendingBits_27 : decode b_Co_pendingBits 27 = .ok (.aload_n 0, 1) := by decide +kernel
theorem d_Co_pendingBits_28 : decode b_Co_pendingBits 28 = .ok (.getfield 9, 3) := by decide +kernel
theorem d_Co_pendingBits_31 : decode b_Co_pendingBits 31 = .ok (.bipush 10, 2) := by decide +kernel
theorem d_Co_pendingBits_33 : decode b_Co_pendingBits 33 = .ok (.iaload, 1) := by decide +kernel
theorem d_Co_pendingBits_34 : decode b_Co_pendingBits 34 = .ok (.invokevirtual 29, 3) := by decide +kernel
theorem d_Co_pendingBits_37 : decode b_Co_pendingBits 37 = .ok (.ifCond .eq 9, 3) := by decide +kernel
theorem d_Co_pendingBits_40 : decode b_Co_pendingBits 40 = .ok (.iload_n 1, 1) := by decide +kernel
theorem d_Co_pendingBits_41 : decode b_Co_pendingBits 41 = .ok (.iconst 2, 1) := by decide +kernel
theorem d_Co_pendingBits_42 : decode b_Co_pendingBits 42 = .ok (.ior, 1) := by decide +kernel
theorem d_Co_pendingBits_43 : decode b_Co_pendingBits 43 = .ok (.goto 4, 3) := by decide +kernel
theorem d_Co_pendingBits_46 : decode b_Co_pendingBits 46 = .ok (.iload_n 1, 1) := by decide +kernel
theorem d_Co_pendingBits_47 : decode b_Co_pendingBits 47 = .ok (.ireturn, 1) := by decide +kernel
noncomputable def pr_Co_pendingBits : List (Nat × tw_Op) := [(0, tw_al 0), (1, tw_gr 4 5), (4, tw_ic (10)), (6, tw_ia), (7, tw_al 0), (8, tw_gr 4 5), (11, tw_ic (9)), (13, tw_ia), (14, tw_clt 21), (17, tw_ic 1), (18, tw_jmp 22), (21, tw_ic 0), (22, tw_is 1), (23, tw_al 0), (24, tw_gr 4 6), (27, tw_al 0), (28, tw_gr 4 5), (31, tw_ic (10)), (33, tw_ia), (34, tw_cv 1 6 fn_In_isThere), (37, tw_ifeq 46), (40, tw_il 1), (41, tw_ic 2), (42, tw_bin (· ||| ·)), (43, tw_jmp 47), (46, tw_il 1), (47, tw_ri)]
set_option maxRecDepth 100000 in
set_option maxHeartbeats 4000000 in
theorem ok_Co_pendingBits {p : Program} {l : Launch} {e : Env} {s : State} {m : MethodId} {args : Array Value} {below : List Frame} {meth : Method} {c : Code} {E : tw_E} {D : va_G} {ρ : tw_R} (hC : tw_Cx p s m args meth c b_Co_pendingBits 2 (some .int) "TwinHost$Controls" E D) : tw_Ok p l e (tw_rmd 1) s m args below meth c 0 0 (MQ below (tw_Qc E D ρ) args s 0 0 (tw_A E)) 2 E D ρ pr_Co_pendingBits :=
  ⟨ts_aload_n hC d_Co_pendingBits_0 rfl,
   ts_gr (j := 0) (C := R_Co) (T := T_Co) hC rfl rfl rfl (by decide) u_Co wd_75 rfl d_Co_pendingBits_1,
   ts_bipush hC d_Co_pendingBits_4 (by decide),
   ts_iaload hC d_Co_pendingBits_6,
   ts_aload_n hC d_Co_pendingBits_7 rfl,
   ts_gr (j := 0) (C := R_Co) (T := T_Co) hC rfl rfl rfl (by decide) u_Co wd_75 rfl d_Co_pendingBits_8,
   ts_bipush hC d_Co_pendingBits_11 (by decide),
   ts_iaload hC d_Co_pendingBits_13,
   ts_clt hC d_Co_pendingBits_14 (by decide),
   ts_iconst hC d_Co_pendingBits_17 (by decide),
   ts_goto hC d_Co_pendingBits_18 (by decide),
   ts_iconst hC d_Co_pendingBits_21 (by decide),
   ts_istore_n hC d_Co_pendingBits_22 rfl (by decide),
   ts_aload_n hC d_Co_pendingBits_23 rfl,
   ts_gr (j := 1) (C := R_Co) (T := T_Co) hC rfl rfl rfl (by decide) u_Co wd_77 rfl d_Co_pendingBits_24,
   ts_aload_n hC d_Co_pendingBits_27 rfl,
   ts_gr (j := 0) (C := R_Co) (T := T_Co) hC rfl rfl rfl (by decide) u_Co wd_75 rfl d_Co_pendingBits_28,
   ts_bipush hC d_Co_pendingBits_31 (by decide),
   ts_iaload hC d_Co_pendingBits_33,
   ts_callv (C := R_In) (T := T_In) hC con_In_isThere wd_256 wd_27 (by decide +kernel) ⟨by decide, by decide⟩ ⟨Nat.zero_le _, Nat.zero_le _⟩ wd_253 rfl rfl wd_254 wd_255 d_Co_pendingBits_34,
   ts_ifeq hC d_Co_pendingBits_37 (by decide),
   ts_iload_n hC d_Co_pendingBits_40 rfl,
   ts_iconst hC d_Co_pendingBits_41 (by decide),
   ts_ior hC d_Co_pendingBits_42,
   ts_goto hC d_Co_pendingBits_43 (by decide),
   ts_iload_n hC d_Co_pendingBits_46 rfl,
   ts_iret hC rfl d_Co_pendingBits_47,
   trivial⟩
noncomputable def fn_Co_pendingBits : tw_Fn := tw_fl 1 2 29 pr_Co_pendingBits
theorem con_Co_pendingBits : tw_Con y_Co_pendingBits b_Co_pendingBits 2 (some .int) 1 fn_Co_pendingBits := tw_met (by decide +kernel) (tw_fl_len (n := 1) (by decide)) (fun p l e s m args below meth c E D vs σ ρ hC h => tw_sound (ok_Co_pendingBits hC) 29 pr_Co_pendingBits (ok_Co_pendingBits hC) _ _ _ (tw_fl_get h))

-- TwinHost$Controls.put(II)V: 9 instructions, depth 1, calls Co_keptBits
theorem d_Co_put_0 : decode b_Co_put 0 = .ok (.aload_n 0, 1) := by decide +kernel
theorem d_Co_put_1 : decode b_Co_put 1 = .ok (.getfield 9, 3) := by decide +kernel
theorem d_Co_put_4 : decode b_Co_put 4 = .ok (.iload_n 1, 1) := by decide +kernel
theorem d_Co_put_5 : decode b_Co_put 5 = .ok (.iload_n 2, 1) := by decide +kernel
theorem d_Co_put_6 : decode b_Co_put 6 = .ok (.iload_n 1, 1) := by decide +kernel
theorem d_Co_put_7 : decode b_Co_put 7 = .ok (.invokestatic 40, 3) := by decide +kernel
theorem d_Co_put_10 : decode b_Co_put 10 = .ok (.iand, 1) := by decide +kernel
theorem d_Co_put_11 : decode b_Co_put 11 = .ok (.iastore, 1) := by decide +kernel
theorem d_Co_put_12 : decode b_Co_put 12 = .ok (.return_, 1) := by decide +kernel
noncomputable def pr_Co_put : List (Nat × tw_Op) := [(0, tw_al 0), (1, tw_gr 4 5), (4, tw_il 1), (5, tw_il 2), (6, tw_il 1), (7, tw_cs 1 fn_Co_keptBits), (10, tw_bin (· &&& ·)), (11, tw_ias 0 22), (12, tw_r0)]
set_option maxRecDepth 100000 in
set_option maxHeartbeats 4000000 in
theorem ok_Co_put {p : Program} {l : Launch} {e : Env} {s : State} {m : MethodId} {args : Array Value} {below : List Frame} {meth : Method} {c : Code} {E : tw_E} {D : va_G} {ρ : tw_R} (hC : tw_Cx p s m args meth c b_Co_put 3 none "TwinHost$Controls" E D) : tw_Ok p l e (tw_rmd 1) s m args below meth c 0 0 (MQ below (tw_Qc E D ρ) args s 0 0 (tw_A E)) 3 E D ρ pr_Co_put :=
  ⟨ts_aload_n hC d_Co_put_0 rfl,
   ts_gr (j := 0) (C := R_Co) (T := T_Co) hC rfl rfl rfl (by decide) u_Co wd_75 rfl d_Co_put_1,
   ts_iload_n hC d_Co_put_4 rfl,
   ts_iload_n hC d_Co_put_5 rfl,
   ts_iload_n hC d_Co_put_6 rfl,
   ts_calls hC con_Co_keptBits wd_234 wd_26 (by decide +kernel) ⟨by decide, by decide⟩ ⟨Nat.zero_le _, Nat.zero_le _⟩ wd_232 wd_233 d_Co_put_7,
   ts_iand hC d_Co_put_10,
   ts_iastore hC d_Co_put_11,
   ts_vret hC rfl d_Co_put_12,
   trivial⟩
noncomputable def fn_Co_put : tw_Fn := tw_fl 3 3 11 pr_Co_put
theorem con_Co_put : tw_Con y_Co_put b_Co_put 3 none 1 fn_Co_put := tw_met (by decide +kernel) (tw_fl_len (n := 3) (by decide)) (fun p l e s m args below meth c E D vs σ ρ hC h => tw_sound (ok_Co_put hC) 11 pr_Co_put (ok_Co_put hC) _ _ _ (tw_fl_get h))

-- TwinHost$Guest.fill(ILTwinHost$Access;)I: 61 instructions, depth 1, calls Co_isOn En_allows Sh_put
theorem d_Gu_fill_0 : decode b_Gu_fill 0 = .ok (.aload_n 0, 1) := by decide +kernel
theorem d_Gu_fill_1 : decode b_Gu_fill 1 = .ok (.getfield 9, 3) := by decide +kernel
theorem d_Gu_fill_4 : decode b_Gu_fill 4 = .ok (.aload_n 0, 1) := by decide +kernel
theorem d_Gu_fill_5 : decode b_Gu_fill 5 = .ok (.getfield 40, 3) := by decide +kernel
theorem d_Gu_fill_8 : decode b_Gu_fill 8 = .ok (.getfield 191, 3) := by decide +kernel
theorem d_Gu_fill_11 : decode b_Gu_fill 11 = .ok (.iaload, 1) := by decide +kernel
theorem d_Gu_fill_12 : decode b_Gu_fill 12 = .ok (.istore_n 3, 1) := by decide +kernel
theorem d_Gu_fill_13 : decode b_Gu_fill 13 = .ok (.iload_n 3, 1) := by decide +kernel
theorem d_Gu_fill_14 : decode b_Gu_fill 14 = .ok (.aload_n 2, 1) := by decide +kernel
theorem d_Gu_fill_15 : decode b_Gu_fill 15 = .ok (.aload_n 0, 1) := by decide +kernel
theorem d_Gu_fill_16 : decode b_Gu_fill 16 = .ok (.getfield 48, 3) := by decide +kernel
theorem d_Gu_fill_19 : decode b_Gu_fill 19 = .ok (.aload_n 0, 1) := by decide +kernel
theorem d_Gu_fill_20 : decode b_Gu_fill 20 = .ok (.getfield 26, 3) := by decide +kernel
theorem d_Gu_fill_23 : decode b_Gu_fill 23 = .ok (.bipush 8, 2) := by decide +kernel
theorem d_Gu_fill_25 : decode b_Gu_fill 25 = .ok (.invokevirtual 52, 3) := by decide +kernel
theorem d_Gu_fill_28 : decode b_Gu_fill 28 = .ok (.invokestatic 194, 3) := by decide +kernel
theorem d_Gu_fill_31 : decode b_Gu_fill 31 = .ok (.ifCond .ne 8, 3) := by decide +kernel
theorem d_Gu_fill_34 : decode b_Gu_fill 34 = .ok (.aload_n 2, 1) := by decide +kernel
theorem d_Gu_fill_35 : decode b_Gu_fill 35 = .ok (.getfield 174, 3) := by decide +kernel
theorem d_Gu_fill_38 : decode b_Gu_fill 38 = .ok (.ireturn, 1) := by decide +kernel
theorem d_Gu_fill_39 : decode b_Gu_fill 39 = .ok (.aload_n 0, 1) := by decide +kernel
theorem d_Gu_fill_40 : decode b_Gu_fill 40 = .ok (.getfield 40, 3) := by decide +kernel
theorem d_Gu_fill_43 : decode b_Gu_fill 43 = .ok (.getfield 199, 3) := by decide +kernel
theorem d_Gu_fill_46 : decode b_Gu_fill 46 = .ok (.bipush 8, 2) := by decide +kernel
theorem d_Gu_fill_48 : decode b_Gu_fill 48 = .ok (.if_icmp .lt 8, 3) := by decide +kernel
theorem d_Gu_fill_51 : decode b_Gu_fill 51 = .ok (.aload_n 2, 1) := by decide +kernel
theorem d_Gu_fill_52 : decode b_Gu_fill 52 = .ok (.getfield 171, 3) := by decide +kernel
theorem d_Gu_fill_55 : decode b_Gu_fill 55 = .ok (.ireturn, 1) := by decide +kernel
theorem d_Gu_fill_56 : decode b_Gu_fill 56 = .ok (.iload_n 3, 1) := by decide +kernel
theorem d_Gu_fill_57 : decode b_Gu_fill 57 = .ok (.aload_n 2, 1) := by decide +kernel
theorem d_Gu_fill_58 : decode b_Gu_fill 58 = .ok (.getstatic 109, 3) := by decide +kernel
theorem d_Gu_fill_61 : decode b_Gu_fill 61 = .ok (.if_acmp .ne 8, 3) := by decide +kernel
theorem d_Gu_fill_64 : decode b_Gu_fill 64 = .ok (.bipush 96, 2) := by decide +kernel
theorem d_Gu_fill_66 : decode b_Gu_fill 66 = .ok (.goto 5, 3) := by decide +kernel
theorem d_Gu_fill_69 : decode b_Gu_fill 69 = .ok (.bipush 32, 2) := by decide +kernel
theorem d_Gu_fill_71 : decode b_Gu_fill 71 = .ok (.ior, 1) := by decide +kernel
theorem d_Gu_fill_72 : decode b_Gu_fill 72 = .ok (.istore_n 3, 1) := by decide +kernel
theorem d_Gu_fill_73 : decode b_Gu_fill 73 = .ok (.aload_n 0, 1) := by decide +kernel
theorem d_Gu_fill_74 : decode b_Gu_fill 74 = .ok (.getfield 9, 3) := by decide +kernel
theorem d_Gu_fill_77 : decode b_Gu_fill 77 = .ok (.aload_n 0, 1) := by decide +kernel
theorem d_Gu_fill_78 : decode b_Gu_fill 78 = .ok (.getfield 40, 3) := by decide +kernel
theorem d_Gu_fill_81 : decode b_Gu_fill 81 = .ok (.getfield 191, 3) := by decide +kernel
theorem d_Gu_fill_84 : decode b_Gu_fill 84 = .ok (.iload_n 3, 1) := by decide +kernel
theorem d_Gu_fill_85 : decode b_Gu_fill 85 = .ok (.iastore, 1) := by decide +kernel
theorem d_Gu_fill_86 : decode b_Gu_fill 86 = .ok (.aload_n 0, 1) := by decide +kernel
theorem d_Gu_fill_87 : decode b_Gu_fill 87 = .ok (.getfield 33, 3) := by decide +kernel
theorem d_Gu_fill_90 : decode b_Gu_fill 90 = .ok (.iload_n 1, 1) := by decide +kernel
theorem d_Gu_fill_91 : decode b_Gu_fill 91 = .ok (.iload_n 3, 1) := by decide +kernel
theorem d_Gu_fill_92 : decode b_Gu_fill 92 = .ok (.aload_n 0, 1) := by decide +kernel
theorem d_Gu_fill_93 : decode b_Gu_fill 93 = .ok (.getfield 40, 3) := by decide +kernel
theorem d_Gu_fill_96 : decode b_Gu_fill 96 = .ok (.invokevirtual 202, 3) := by decide +kernel
theorem d_Gu_fill_99 : decode b_Gu_fill 99 = .ok (.aload_n 0, 1) := by decide +kernel
theorem d_Gu_fill_100 : decode b_Gu_fill 100 = .ok (.getfield 20, 3) := by decide +kernel
theorem d_Gu_fill_103 : decode b_Gu_fill 103 = .ok (.iconst 1, 1) := by decide +kernel
theorem d_Gu_fill_104 : decode b_Gu_fill 104 = .ok (.dup2, 1) := by decide +kernel
theorem d_Gu_fill_105 : decode b_Gu_fill 105 = .ok (.iaload, 1) := by decide +kernel
theorem d_Gu_fill_106 : decode b_Gu_fill 106 = .ok (.iconst 1, 1) := by decide +kernel
theorem d_Gu_fill_107 : decode b_Gu_fill 107 = .ok (.iadd, 1) := by decide +kernel
theorem d_Gu_fill_108 : decode b_Gu_fill 108 = .ok (.iastore, 1) := by decide +kernel
theorem d_Gu_fill_109 : decode b_Gu_fill 109 = .ok (.iconst 0, 1) := by decide +kernel
theorem d_Gu_fill_110 : decode b_Gu_fill 110 = .ok (.ireturn, 1) := by decide +kernel
noncomputable def pr_Gu_fill : List (Nat × tw_Op) := [(0, tw_al 0), (1, tw_gr 0 1), (4, tw_al 0), (5, tw_gr 0 14), (8, tw_gi 14 2), (11, tw_ia), (12, tw_is 3), (13, tw_il 3), (14, tw_al 2), (15, tw_al 0), (16, tw_gi 0 7), (19, tw_al 0), (20, tw_gr 0 4), (23, tw_ic (8)), (25, tw_cv 1 4 fn_Co_isOn), (28, tw_cs 4 fn_En_allows), (31, tw_ifne 39), (34, tw_al 2), (35, tw_ge 2), (38, tw_ri), (39, tw_al 0), (40, tw_gr 0 14), (43, tw_gi 14 3), (46, tw_ic (8)), (48, tw_clt 56), (51, tw_al 2), (52, tw_ge 1), (55, tw_ri), (56, tw_il 3), (57, tw_al 2), (58, tw_en 52), (61, tw_ane 69), (64, tw_ic (96)), (66, tw_jmp 71), (69, tw_ic (32)), (71, tw_bin (· ||| ·)), (72, tw_is 3), (73, tw_al 0), (74, tw_gr 0 1), (77, tw_al 0), (78, tw_gr 0 14), (81, tw_gi 14 2), (84, tw_il 3), (85, tw_ias 0 22), (86, tw_al 0), (87, tw_gr 0 9), (90, tw_il 1), (91, tw_il 3), (92, tw_al 0), (93, tw_gr 0 14), (96, tw_cv 3 9 fn_Sh_put), (99, tw_al 0), (100, tw_gr 0 3), (103, tw_ic 1), (104, tw_d2), (105, tw_ia), (106, tw_ic 1), (107, tw_bin (· + ·)), (108, tw_ias 0 22), (109, tw_ic 0), (110, tw_ri)]
set_option maxRecDepth 100000 in
set_option maxHeartbeats 4000000 in
theorem ok_Gu_fill {p : Program} {l : Launch} {e : Env} {s : State} {m : MethodId} {args : Array Value} {below : List Frame} {meth : Method} {c : Code} {E : tw_E} {D : va_G} {ρ : tw_R} (hC : tw_Cx p s m args meth c b_Gu_fill 4 (some .int) "TwinHost$Guest" E D) : tw_Ok p l e (tw_rmd 1) s m args below meth c 0 0 (MQ below (tw_Qc E D ρ) args s 0 0 (tw_A E)) 4 E D ρ pr_Gu_fill :=
  ⟨ts_aload_n hC d_Gu_fill_0 rfl,
   ts_gr (j := 0) (C := R_Gu) (T := T_Gu) hC rfl rfl rfl (by decide) u_Gu wd_132 rfl d_Gu_fill_1,
   ts_aload_n hC d_Gu_fill_4 rfl,
   ts_gr (j := 5) (C := R_Gu) (T := T_Gu) hC rfl rfl rfl (by decide) u_Gu wd_142 rfl d_Gu_fill_5,
   ts_gi (j := 2) (C := R_Wa) (T := T_Wa) hC rfl rfl rfl (by decide) u_Wa wd_119 rfl d_Gu_fill_8,
   ts_iaload hC d_Gu_fill_11,
   ts_istore_n hC d_Gu_fill_12 rfl (by decide),
   ts_iload_n hC d_Gu_fill_13 rfl,
   ts_aload_n hC d_Gu_fill_14 rfl,
   ts_aload_n hC d_Gu_fill_15 rfl,
   ts_gi (j := 7) (C := R_Gu) (T := T_Gu) hC rfl rfl rfl (by decide) u_Gu wd_145 rfl d_Gu_fill_16,
   ts_aload_n hC d_Gu_fill_19 rfl,
   ts_gr (j := 3) (C := R_Gu) (T := T_Gu) hC rfl rfl rfl (by decide) u_Gu wd_138 rfl d_Gu_fill_20,
   ts_bipush hC d_Gu_fill_23 (by decide),
   ts_callv (C := R_Co) (T := T_Co) hC con_Co_isOn wd_292 wd_26 (by decide +kernel) ⟨by decide, by decide⟩ ⟨Nat.zero_le _, Nat.zero_le _⟩ wd_289 rfl rfl wd_290 wd_291 d_Gu_fill_25,
   ts_calls hC con_En_allows wd_323 wd_34 (by decide +kernel) ⟨by decide, by decide⟩ ⟨Nat.zero_le _, Nat.zero_le _⟩ wd_344 wd_322 d_Gu_fill_28,
   ts_ifne hC d_Gu_fill_31 (by decide),
   ts_aload_n hC d_Gu_fill_34 rfl,
   ts_ge (q0 := ("TwinHost$Access", "pageFault", "I", [12, 13, 15])) hC (by decide) (by decide) rfl wd_682 d_Gu_fill_35,
   ts_iret hC rfl d_Gu_fill_38,
   ts_aload_n hC d_Gu_fill_39 rfl,
   ts_gr (j := 5) (C := R_Gu) (T := T_Gu) hC rfl rfl rfl (by decide) u_Gu wd_142 rfl d_Gu_fill_40,
   ts_gi (j := 3) (C := R_Wa) (T := T_Wa) hC rfl rfl rfl (by decide) u_Wa wd_122 rfl d_Gu_fill_43,
   ts_bipush hC d_Gu_fill_46 (by decide),
   ts_clt hC d_Gu_fill_48 (by decide),
   ts_aload_n hC d_Gu_fill_51 rfl,
   ts_ge (q0 := ("TwinHost$Access", "outside", "I", [1, 5, 7])) hC (by decide) (by decide) rfl wd_681 d_Gu_fill_52,
   ts_iret hC rfl d_Gu_fill_55,
   ts_iload_n hC d_Gu_fill_56 rfl,
   ts_aload_n hC d_Gu_fill_57 rfl,
   ts_getA (i := 2) hC (by decide) rfl wd_345 d_Gu_fill_58,
   ts_ane hC d_Gu_fill_61 (by decide),
   ts_bipush hC d_Gu_fill_64 (by decide),
   ts_goto hC d_Gu_fill_66 (by decide),
   ts_bipush hC d_Gu_fill_69 (by decide),
   ts_ior hC d_Gu_fill_71,
   ts_istore_n hC d_Gu_fill_72 rfl (by decide),
   ts_aload_n hC d_Gu_fill_73 rfl,
   ts_gr (j := 0) (C := R_Gu) (T := T_Gu) hC rfl rfl rfl (by decide) u_Gu wd_132 rfl d_Gu_fill_74,
   ts_aload_n hC d_Gu_fill_77 rfl,
   ts_gr (j := 5) (C := R_Gu) (T := T_Gu) hC rfl rfl rfl (by decide) u_Gu wd_142 rfl d_Gu_fill_78,
   ts_gi (j := 2) (C := R_Wa) (T := T_Wa) hC rfl rfl rfl (by decide) u_Wa wd_119 rfl d_Gu_fill_81,
   ts_iload_n hC d_Gu_fill_84 rfl,
   ts_iastore hC d_Gu_fill_85,
   ts_aload_n hC d_Gu_fill_86 rfl,
   ts_gr (j := 4) (C := R_Gu) (T := T_Gu) hC rfl rfl rfl (by decide) u_Gu wd_140 rfl d_Gu_fill_87,
   ts_iload_n hC d_Gu_fill_90 rfl,
   ts_iload_n hC d_Gu_fill_91 rfl,
   ts_aload_n hC d_Gu_fill_92 rfl,
   ts_gr (j := 5) (C := R_Gu) (T := T_Gu) hC rfl rfl rfl (by decide) u_Gu wd_142 rfl d_Gu_fill_93,
   ts_callv (C := R_Sh) (T := T_Sh) hC con_Sh_put wd_349 wd_28 (by decide +kernel) ⟨by decide, by decide⟩ ⟨Nat.zero_le _, Nat.zero_le _⟩ wd_346 rfl rfl wd_347 wd_348 d_Gu_fill_96,
   ts_aload_n hC d_Gu_fill_99 rfl,
   ts_gr (j := 2) (C := R_Gu) (T := T_Gu) hC rfl rfl rfl (by decide) u_Gu wd_136 rfl d_Gu_fill_100,
   ts_iconst hC d_Gu_fill_103 (by decide),
   ts_dup2 hC d_Gu_fill_104,
   ts_iaload hC d_Gu_fill_105,
   ts_iconst hC d_Gu_fill_106 (by decide),
   ts_iadd hC d_Gu_fill_107,
   ts_iastore hC d_Gu_fill_108,
   ts_iconst hC d_Gu_fill_109 (by decide),
   ts_iret hC rfl d_Gu_fill_110,
   trivial⟩
noncomputable def fn_Gu_fill : tw_Fn := tw_fl 3 4 63 pr_Gu_fill
theorem con_Gu_fill : tw_Con y_Gu_fill b_Gu_fill 4 (some .int) 1 fn_Gu_fill := tw_met (by decide +kernel) (tw_fl_len (n := 3) (by decide)) (fun p l e s m args below meth c E D vs σ ρ hC h => tw_sound (ok_Gu_fill hC) 63 pr_Gu_fill (ok_Gu_fill hC) _ _ _ (tw_fl_get h))

-- TwinHost$Guest.flush()V: 12 instructions, depth 1, calls Sh_clear
theorem d_Gu_flush_0 : decode b_Gu_flush 0 = .ok (.aload_n 0, 1) := by decide +kernel
theorem d_Gu_flush_1 : decode b_Gu_flush 1 = .ok (.getfield 33, 3) := by decide +kernel
theorem d_Gu_flush_4 : decode b_Gu_flush 4 = .ok (.invokevirtual 211, 3) := by decide +kernel
theorem d_Gu_flush_7 : decode b_Gu_flush 7 = .ok (.aload_n 0, 1) := by decide +kernel
theorem d_Gu_flush_8 : decode b_Gu_flush 8 = .ok (.getfield 20, 3) := by decide +kernel
theorem d_Gu_flush_11 : decode b_Gu_flush 11 = .ok (.iconst 5, 1) := by decide +kernel
theorem d_Gu_flush_12 : decode b_Gu_flush 12 = .ok (.dup2, 1) := by decide +kernel
theorem d_Gu_flush_13 : decode b_Gu_flush 13 = .ok (.iaload, 1) := by decide +kernel
theorem d_Gu_flush_14 : decode b_Gu_flush 14 = .ok (.iconst 1, 1) := by decide +kernel
theorem d_Gu_flush_15 : decode b_Gu_flush 15 = .ok (.iadd, 1) := by decide +kernel
theorem d_Gu_flush_16 : decode b_Gu_flush 16 = .ok (.iastore, 1) := by decide +kernel
theorem d_Gu_flush_17 : decode b_Gu_flush 17 = .ok (.return_, 1) := by decide +kernel
noncomputable def pr_Gu_flush : List (Nat × tw_Op) := [(0, tw_al 0), (1, tw_gr 0 9), (4, tw_cv 0 9 fn_Sh_clear), (7, tw_al 0), (8, tw_gr 0 3), (11, tw_ic 5), (12, tw_d2), (13, tw_ia), (14, tw_ic 1), (15, tw_bin (· + ·)), (16, tw_ias 0 22), (17, tw_r0)]
set_option maxRecDepth 100000 in
set_option maxHeartbeats 4000000 in
theorem ok_Gu_flush {p : Program} {l : Launch} {e : Env} {s : State} {m : MethodId} {args : Array Value} {below : List Frame} {meth : Method} {c : Code} {E : tw_E} {D : va_G} {ρ : tw_R} (hC : tw_Cx p s m args meth c b_Gu_flush 1 none "TwinHost$Guest" E D) : tw_Ok p l e (tw_rmd 1) s m args below meth c 0 0 (MQ below (tw_Qc E D ρ) args s 0 0 (tw_A E)) 1 E D ρ pr_Gu_flush :=
  ⟨ts_aload_n hC d_Gu_flush_0 rfl,
   ts_gr (j := 4) (C := R_Gu) (T := T_Gu) hC rfl rfl rfl (by decide) u_Gu wd_140 rfl d_Gu_flush_1,
   ts_callv (C := R_Sh) (T := T_Sh) hC con_Sh_clear wd_93 wd_28 (by decide +kernel) ⟨by decide, by decide⟩ ⟨Nat.zero_le _, Nat.zero_le _⟩ wd_239 rfl rfl wd_91 wd_92 d_Gu_flush_4,
   ts_aload_n hC d_Gu_flush_7 rfl,
   ts_gr (j := 2) (C := R_Gu) (T := T_Gu) hC rfl rfl rfl (by decide) u_Gu wd_136 rfl d_Gu_flush_8,
   ts_iconst hC d_Gu_flush_11 (by decide),
   ts_dup2 hC d_Gu_flush_12,
   ts_iaload hC d_Gu_flush_13,
   ts_iconst hC d_Gu_flush_14 (by decide),
   ts_iadd hC d_Gu_flush_15,
   ts_iastore hC d_Gu_flush_16,
   ts_vret hC rfl d_Gu_flush_17,
   trivial⟩
noncomputable def fn_Gu_flush : tw_Fn := tw_fl 1 1 14 pr_Gu_flush
theorem con_Gu_flush : tw_Con y_Gu_flush b_Gu_flush 1 none 1 fn_Gu_flush := tw_met (by decide +kernel) (tw_fl_len (n := 1) (by decide)) (fun p l e s m args below meth c E D vs σ ρ hC h => tw_sound (ok_Gu_flush hC) 14 pr_Gu_flush (ok_Gu_flush hC) _ _ _ (tw_fl_get h))

-- TwinHost$Guest.link(II)LTwinHost$Outcome;: 11 instructions, depth 1, calls Gu_setRegister Gu_retireAt
theorem d_Gu_link_0 : decode b_Gu_link 0 = .ok (.aload_n 0, 1) := by decide +kernel
theorem d_Gu_link_1 : decode b_Gu_link 1 = .ok (.iload_n 1, 1) := by decide +kernel
theorem d_Gu_link_2 : decode b_Gu_link 2 = .ok (.aload_n 0, 1) := by decide +kernel
theorem d_Gu_link_3 : decode b_Gu_link 3 = .ok (.getfield 62, 3) := by decide +kernel
theorem d_Gu_link_6 : decode b_Gu_link 6 = .ok (.iconst 1, 1) := by decide +kernel
theorem d_Gu_link_7 : decode b_Gu_link 7 = .ok (.iadd, 1) := by decide +kernel
theorem d_Gu_link_8 : decode b_Gu_link 8 = .ok (.invokevirtual 102, 3) := by decide +kernel
theorem d_Gu_link_11 : decode b_Gu_link 11 = .ok (.aload_n 0, 1) := by decide +kernel
theorem d_Gu_link_12 : decode b_Gu_link 12 = .ok (.iload_n 2, 1) := by decide +kernel
theorem d_Gu_link_13 : decode b_Gu_link 13 = .ok (.invokevirtual 92, 3) := by decide +kernel
theorem d_Gu_link_16 : decode b_Gu_link 16 = .ok (.areturn, 1) := by decide +kernel
noncomputable def pr_Gu_link : List (Nat × tw_Op) := [(0, tw_al 0), (1, tw_il 1), (2, tw_al 0), (3, tw_gi 0 6), (6, tw_ic 1), (7, tw_bin (· + ·)), (8, tw_cv 2 0 fn_Gu_setRegister), (11, tw_al 0), (12, tw_il 2), (13, tw_cv 1 0 fn_Gu_retireAt), (16, tw_ra)]
set_option maxRecDepth 100000 in
set_option maxHeartbeats 4000000 in
theorem ok_Gu_link {p : Program} {l : Launch} {e : Env} {s : State} {m : MethodId} {args : Array Value} {below : List Frame} {meth : Method} {c : Code} {E : tw_E} {D : va_G} {ρ : tw_R} (hC : tw_Cx p s m args meth c b_Gu_link 3 (some (.object "TwinHost$Outcome")) "TwinHost$Guest" E D) : tw_Ok p l e (tw_rmd 1) s m args below meth c 0 0 (MQ below (tw_Qc E D ρ) args s 0 0 (tw_A E)) 3 E D ρ pr_Gu_link :=
  ⟨ts_aload_n hC d_Gu_link_0 rfl,
   ts_iload_n hC d_Gu_link_1 rfl,
   ts_aload_n hC d_Gu_link_2 rfl,
   ts_gi (j := 6) (C := R_Gu) (T := T_Gu) hC rfl rfl rfl (by decide) u_Gu wd_143 rfl d_Gu_link_3,
   ts_iconst hC d_Gu_link_6 (by decide),
   ts_iadd hC d_Gu_link_7,
   ts_callv (C := R_Gu) (T := T_Gu) hC con_Gu_setRegister wd_209 wd_25 (by decide +kernel) ⟨by decide, by decide⟩ ⟨Nat.zero_le _, Nat.zero_le _⟩ wd_364 rfl rfl wd_207 wd_208 d_Gu_link_8,
   ts_aload_n hC d_Gu_link_11 rfl,
   ts_iload_n hC d_Gu_link_12 rfl,
   ts_callv (C := R_Gu) (T := T_Gu) hC con_Gu_retireAt wd_368 wd_25 (by decide +kernel) ⟨by decide, by decide⟩ ⟨Nat.zero_le _, Nat.zero_le _⟩ wd_365 rfl rfl wd_366 wd_367 d_Gu_link_13,
   ts_aret hC rfl d_Gu_link_16,
   trivial⟩
noncomputable def fn_Gu_link : tw_Fn := tw_fl 3 3 13 pr_Gu_link
theorem con_Gu_link : tw_Con y_Gu_link b_Gu_link 3 (some (.object "TwinHost$Outcome")) 1 fn_Gu_link := tw_met (by decide +kernel) (tw_fl_len (n := 3) (by decide)) (fun p l e s m args below meth c E D vs σ ρ hC h => tw_sound (ok_Gu_link hC) 13 pr_Gu_link (ok_Gu_link hC) _ _ _ (tw_fl_get h))

-- TwinHost$Guest.overwrite(II)I: 23 instructions, depth 1, calls Sh_dropThoseOf
theorem d_Gu_overwrite_0 : decode b_Gu_overwrite 0 = .ok (.aload_n 0, 1) := by decide +kernel
theorem d_Gu_overwrite_1 : decode b_Gu_overwrite 1 = .ok (.getfield 9, 3) := by decide +kernel
theorem d_Gu_overwrite_4 : decode b_Gu_overwrite 4 = .ok (.iload_n 1, 1) := by decide +kernel
theorem d_Gu_overwrite_5 : decode b_Gu_overwrite 5 = .ok (.iaload, 1) := by decide +kernel
theorem d_Gu_overwrite_6 : decode b_Gu_overwrite 6 = .ok (.istore_n 3, 1) := by decide +kernel
theorem d_Gu_overwrite_7 : decode b_Gu_overwrite 7 = .ok (.aload_n 0, 1) := by decide +kernel
theorem d_Gu_overwrite_8 : decode b_Gu_overwrite 8 = .ok (.getfield 9, 3) := by decide +kernel
theorem d_Gu_overwrite_11 : decode b_Gu_overwrite 11 = .ok (.iload_n 1, 1) := by decide +kernel
theorem d_Gu_overwrite_12 : decode b_Gu_overwrite 12 = .ok (.iload_n 2, 1) := by decide +kernel
theorem d_Gu_overwrite_13 : decode b_Gu_overwrite 13 = .ok (.iastore, 1) := by decide +kernel
theorem d_Gu_overwrite_14 : decode b_Gu_overwrite 14 = .ok (.aload_n 0, 1) := by decide +kernel
theorem d_Gu_overwrite_15 : decode b_Gu_overwrite 15 = .ok (.getfield 20, 3) := by decide +kernel
theorem d_Gu_overwrite_18 : decode b_Gu_overwrite 18 = .ok (.iconst 4, 1) := by decide +kernel
theorem d_Gu_overwrite_19 : decode b_Gu_overwrite 19 = .ok (.dup2, 1) := by decide +kernel
theorem d_Gu_overwrite_20 : decode b_Gu_overwrite 20 = .ok (.iaload, 1) := by decide +kernel
theorem d_Gu_overwrite_21 : decode b_Gu_overwrite 21 = .ok (.aload_n 0, 1) := by decide +kernel
theorem d_Gu_overwrite_22 : decode b_Gu_overwrite 22 = .ok (.getfield 33, 3) := by decide +kernel
theorem d_Gu_overwrite_25 : decode b_Gu_overwrite 25 = .ok (.iload_n 1, 1) := by decide +kernel
theorem d_Gu_overwrite_26 : decode b_Gu_overwrite 26 = .ok (.invokevirtual 206, 3) := by decide +kernel
theorem d_Gu_overwrite_29 : decode b_Gu_overwrite 29 = .ok (.iadd, 1) := by decide +kernel
theorem d_Gu_overwrite_30 : decode b_Gu_overwrite 30 = .ok (.iastore, 1) := by decide +kernel
theorem d_Gu_overwrite_31 : decode b_Gu_overwrite 31 = .ok (.iload_n 3, 1) := by decide +kernel
theorem d_Gu_overwrite_32 : decode b_Gu_overwrite 32 = .ok (.ireturn, 1) := by decide +kernel
noncomputable def pr_Gu_overwrite : List (Nat × tw_Op) := [(0, tw_al 0), (1, tw_gr 0 1), (4, tw_il 1), (5, tw_ia), (6, tw_is 3), (7, tw_al 0), (8, tw_gr 0 1), (11, tw_il 1), (12, tw_il 2), (13, tw_ias 0 22), (14, tw_al 0), (15, tw_gr 0 3), (18, tw_ic 4), (19, tw_d2), (20, tw_ia), (21, tw_al 0), (22, tw_gr 0 9), (25, tw_il 1), (26, tw_cv 1 9 fn_Sh_dropThoseOf), (29, tw_bin (· + ·)), (30, tw_ias 0 22), (31, tw_il 3), (32, tw_ri)]
set_option maxRecDepth 100000 in
set_option maxHeartbeats 4000000 in
theorem ok_Gu_overwrite {p : Program} {l : Launch} {e : Env} {s : State} {m : MethodId} {args : Array Value} {below : List Frame} {meth : Method} {c : Code} {E : tw_E} {D : va_G} {ρ : tw_R} (hC : tw_Cx p s m args meth c b_Gu_overwrite 4 (some .int) "TwinHost$Guest" E D) : tw_Ok p l e (tw_rmd 1) s m args below meth c 0 0 (MQ below (tw_Qc E D ρ) args s 0 0 (tw_A E)) 4 E D ρ pr_Gu_overwrite :=
  ⟨ts_aload_n hC d_Gu_overwrite_0 rfl,
   ts_gr (j := 0) (C := R_Gu) (T := T_Gu) hC rfl rfl rfl (by decide) u_Gu wd_132 rfl d_Gu_overwrite_1,
   ts_iload_n hC d_Gu_overwrite_4 rfl,
   ts_iaload hC d_Gu_overwrite_5,
   ts_istore_n hC d_Gu_overwrite_6 rfl (by decide),
   ts_aload_n hC d_Gu_overwrite_7 rfl,
   ts_gr (j := 0) (C := R_Gu) (T := T_Gu) hC rfl rfl rfl (by decide) u_Gu wd_132 rfl d_Gu_overwrite_8,
   ts_iload_n hC d_Gu_overwrite_11 rfl,
   ts_iload_n hC d_Gu_overwrite_12 rfl,
   ts_iastore hC d_Gu_overwrite_13,
   ts_aload_n hC d_Gu_overwrite_14 rfl,
   ts_gr (j := 2) (C := R_Gu) (T := T_Gu) hC rfl rfl rfl (by decide) u_Gu wd_136 rfl d_Gu_overwrite_15,
   ts_iconst hC d_Gu_overwrite_18 (by decide),
   ts_dup2 hC d_Gu_overwrite_19,
   ts_iaload hC d_Gu_overwrite_20,
   ts_aload_n hC d_Gu_overwrite_21 rfl,
   ts_gr (j := 4) (C := R_Gu) (T := T_Gu) hC rfl rfl rfl (by decide) u_Gu wd_140 rfl d_Gu_overwrite_22,
   ts_iload_n hC d_Gu_overwrite_25 rfl,
   ts_callv (C := R_Sh) (T := T_Sh) hC con_Sh_dropThoseOf wd_194 wd_28 (by decide +kernel) ⟨by decide, by decide⟩ ⟨Nat.zero_le _, Nat.zero_le _⟩ wd_191 rfl rfl wd_192 wd_193 d_Gu_overwrite_26,
   ts_iadd hC d_Gu_overwrite_29,
   ts_iastore hC d_Gu_overwrite_30,
   ts_iload_n hC d_Gu_overwrite_31 rfl,
   ts_iret hC rfl d_Gu_overwrite_32,
   trivial⟩
noncomputable def fn_Gu_overwrite : tw_Fn := tw_fl 3 4 25 pr_Gu_overwrite
theorem con_Gu_overwrite : tw_Con y_Gu_overwrite b_Gu_overwrite 4 (some .int) 1 fn_Gu_overwrite := tw_met (by decide +kernel) (tw_fl_len (n := 3) (by decide)) (fun p l e s m args below meth c E D vs σ ρ hC h => tw_sound (ok_Gu_overwrite hC) 25 pr_Gu_overwrite (ok_Gu_overwrite hC) _ _ _ (tw_fl_get h))

-- TwinHost$Shadows.isTraced(I)Z: 31 instructions, depth 1, calls Sh_isIn
theorem d_Sh_isTraced_0 : decode b_Sh_isTraced 0 = .ok (.iconst 0, 1) := by decide +kernel
theorem d_Sh_isTraced_1 : decode b_Sh_isTraced 1 = .ok (.istore_n 2, 1) := by decide +kernel
theorem d_Sh_isTraced_2 : decode b_Sh_isTraced 2 = .ok (.iload_n 2, 1) := by decide +kernel
theorem d_Sh_isTraced_3 : decode b_Sh_isTraced 3 = .ok (.bipush 16, 2) := by decide +kernel
theorem d_Sh_isTraced_5 : decode b_Sh_isTraced 5 = .ok (.if_icmp .ge 47, 3) := by decide +kernel
theorem d_Sh_isTraced_8 : decode b_Sh_isTraced 8 = .ok (.aload_n 0, 1) := by decide +kernel
theorem d_Sh_isTraced_9 : decode b_Sh_isTraced 9 = .ok (.getfield 9, 3) := by decide +kernel
theorem d_Sh_isTraced_12 : decode b_Sh_isTraced 12 = .ok (.iload_n 2, 1) := by decide +kernel
theorem d_Sh_isTraced_13 : decode b_Sh_isTraced 13 = .ok (.iaload, 1) := by decide +kernel
theorem d_Sh_isTraced_14 : decode b_Sh_isTraced 14 = .ok (.iconst (-1), 1) := by decide +kernel
theorem d_Sh_isTraced_15 : decode b_Sh_isTraced 15 = .ok (.if_icmp .eq 31, 3) := by decide +kernel
theorem d_Sh_isTraced_18 : decode b_Sh_isTraced 18 = .ok (.aload_n 0, 1) := by decide +kernel
theorem d_Sh_isTraced_19 : decode b_Sh_isTraced 19 = .ok (.getfield 18, 3) := by decide +kernel
theorem d_Sh_isTraced_22 : decode b_Sh_isTraced 22 = .ok (.iload_n 2, 1) := by decide +kernel
theorem d_Sh_isTraced_23 : decode b_Sh_isTraced 23 = .ok (.iaload, 1) := by decide +kernel
theorem d_Sh_isTraced_24 : decode b_Sh_isTraced 24 = .ok (.iload_n 1, 1) := by decide +kernel
theorem d_Sh_isTraced_25 : decode b_Sh_isTraced 25 = .ok (.invokestatic 51, 3) := by decide +kernel
theorem d_Sh_isTraced_28 : decode b_Sh_isTraced 28 = .ok (.ifCond .ne 16, 3) := by decide +kernel
theorem d_Sh_isTraced_31 : decode b_Sh_isTraced 31 = .ok (.aload_n 0, 1) := by decide +kernel
theorem d_Sh_isTraced_32 : decode b_Sh_isTraced 32 = .ok (.getfield 21, 3) := by decide +kernel
theorem d_Sh_isTraced_35 : decode b_Sh_isTraced 35 = .ok (.iload_n 2, 1) := by decide +kernel
theorem d_Sh_isTraced_36 : decode b_Sh_isTraced 36 = .ok (.iaload, 1) := by decide +kernel
theorem d_Sh_isTraced_37 : decode b_Sh_isTraced 37 = .ok (.iload_n 1, 1) := by decide +kernel
theorem d_Sh_isTraced_38 : decode b_Sh_isTraced 38 = .ok (.invokestatic 51, 3) := by decide +kernel
theorem d_Sh_isTraced_41 : decode b_Sh_isTraced 41 = .ok (.ifCond .eq 5, 3) := by decide +kernel
theorem d_Sh_isTraced_44 : decode b_Sh_isTraced 44 = .ok (.iconst 1, 1) := by decide +kernel
theorem d_Sh_isTraced_45 : decode b_Sh_isTraced 45 = .ok (.ireturn, 1) := by decide +kernel
theorem d_Sh_isTraced_46 : decode b_Sh_isTraced 46 = .ok (.iinc 2 1, 3) := by decide +kernel
theorem d_Sh_isTraced_49 : decode b_Sh_isTraced 49 = .ok (.goto (-47), 3) := by decide +kernel
theorem d_Sh_isTraced_52 : decode b_Sh_isTraced 52 = .ok (.iconst 0, 1) := by decide +kernel
theorem d_Sh_isTraced_53 : decode b_Sh_isTraced 53 = .ok (.ireturn, 1) := by decide +kernel
noncomputable def pr_Sh_isTraced : List (Nat × tw_Op) := [(0, tw_ic 0), (1, tw_is 2), (2, tw_il 2), (3, tw_ic (16)), (5, tw_cge 52), (8, tw_al 0), (9, tw_gr 9 10), (12, tw_il 2), (13, tw_ia), (14, tw_ic (-1)), (15, tw_ceq 46), (18, tw_al 0), (19, tw_gr 9 12), (22, tw_il 2), (23, tw_ia), (24, tw_il 1), (25, tw_cs 2 fn_Sh_isIn), (28, tw_ifne 44), (31, tw_al 0), (32, tw_gr 9 13), (35, tw_il 2), (36, tw_ia), (37, tw_il 1), (38, tw_cs 2 fn_Sh_isIn), (41, tw_ifeq 46), (44, tw_ic 1), (45, tw_rz), (46, tw_inc 2 (1)), (49, tw_jmp 2), (52, tw_ic 0), (53, tw_rz)]
set_option maxRecDepth 100000 in
set_option maxHeartbeats 4000000 in
theorem ok_Sh_isTraced {p : Program} {l : Launch} {e : Env} {s : State} {m : MethodId} {args : Array Value} {below : List Frame} {meth : Method} {c : Code} {E : tw_E} {D : va_G} {ρ : tw_R} (hC : tw_Cx p s m args meth c b_Sh_isTraced 3 (some .boolean) "TwinHost$Shadows" E D) : tw_Ok p l e (tw_rmd 1) s m args below meth c 0 0 (MQ below (tw_Qc E D ρ) args s 0 0 (tw_A E)) 3 E D ρ pr_Sh_isTraced :=
  ⟨ts_iconst hC d_Sh_isTraced_0 (by decide),
   ts_istore_n hC d_Sh_isTraced_1 rfl (by decide),
   ts_iload_n hC d_Sh_isTraced_2 rfl,
   ts_bipush hC d_Sh_isTraced_3 (by decide),
   ts_cge hC d_Sh_isTraced_5 (by decide),
   ts_aload_n hC d_Sh_isTraced_8 rfl,
   ts_gr (j := 0) (C := R_Sh) (T := T_Sh) hC rfl rfl rfl (by decide) u_Sh wd_94 rfl d_Sh_isTraced_9,
   ts_iload_n hC d_Sh_isTraced_12 rfl,
   ts_iaload hC d_Sh_isTraced_13,
   ts_iconst hC d_Sh_isTraced_14 (by decide),
   ts_ceq hC d_Sh_isTraced_15 (by decide),
   ts_aload_n hC d_Sh_isTraced_18 rfl,
   ts_gr (j := 2) (C := R_Sh) (T := T_Sh) hC rfl rfl rfl (by decide) u_Sh wd_97 rfl d_Sh_isTraced_19,
   ts_iload_n hC d_Sh_isTraced_22 rfl,
   ts_iaload hC d_Sh_isTraced_23,
   ts_iload_n hC d_Sh_isTraced_24 rfl,
   ts_calls hC con_Sh_isIn wd_381 wd_28 (by decide +kernel) ⟨by decide, by decide⟩ ⟨Nat.zero_le _, Nat.zero_le _⟩ wd_379 wd_380 d_Sh_isTraced_25,
   ts_ifne hC d_Sh_isTraced_28 (by decide),
   ts_aload_n hC d_Sh_isTraced_31 rfl,
   ts_gr (j := 3) (C := R_Sh) (T := T_Sh) hC rfl rfl rfl (by decide) u_Sh wd_98 rfl d_Sh_isTraced_32,
   ts_iload_n hC d_Sh_isTraced_35 rfl,
   ts_iaload hC d_Sh_isTraced_36,
   ts_iload_n hC d_Sh_isTraced_37 rfl,
   ts_calls hC con_Sh_isIn wd_381 wd_28 (by decide +kernel) ⟨by decide, by decide⟩ ⟨Nat.zero_le _, Nat.zero_le _⟩ wd_379 wd_380 d_Sh_isTraced_38,
   ts_ifeq hC d_Sh_isTraced_41 (by decide),
   ts_iconst hC d_Sh_isTraced_44 (by decide),
   ts_zret hC rfl d_Sh_isTraced_45,
   ts_iinc hC d_Sh_isTraced_46 (by decide) (by decide),
   ts_goto hC d_Sh_isTraced_49 (by decide),
   ts_iconst hC d_Sh_isTraced_52 (by decide),
   ts_zret hC rfl d_Sh_isTraced_53,
   trivial⟩
noncomputable def fn_Sh_isTraced : tw_Fn := tw_fl 2 3 1200 pr_Sh_isTraced
theorem con_Sh_isTraced : tw_Con y_Sh_isTraced b_Sh_isTraced 3 (some .boolean) 1 fn_Sh_isTraced := tw_met (by decide +kernel) (tw_fl_len (n := 2) (by decide)) (fun p l e s m args below meth c E D vs σ ρ hC h => tw_sound (ok_Sh_isTraced hC) 1200 pr_Sh_isTraced (ok_Sh_isTraced hC) _ _ _ (tw_fl_get h))

-- TwinHost$Shadows.letsThrough(ILTwinHost$Access;ZZ)Z: 31 instructions, depth 1, calls En_allows
theorem d_Sh_letsThrough_0 : decode b_Sh_letsThrough 0 = .ok (.aload_n 0, 1) := by decide +kernel
theorem d_Sh_letsThrough_1 : decode b_Sh_letsThrough 1 = .ok (.getfield 9, 3) := by decide +kernel
theorem d_Sh_letsThrough_4 : decode b_Sh_letsThrough 4 = .ok (.iload_n 1, 1) := by decide +kernel
theorem d_Sh_letsThrough_5 : decode b_Sh_letsThrough 5 = .ok (.iaload, 1) := by decide +kernel
theorem d_Sh_letsThrough_6 : decode b_Sh_letsThrough 6 = .ok (.iconst (-1), 1) := by decide +kernel
theorem d_Sh_letsThrough_7 : decode b_Sh_letsThrough 7 = .ok (.if_icmp .eq 19, 3) := by decide +kernel
theorem d_Sh_letsThrough_10 : decode b_Sh_letsThrough 10 = .ok (.aload_n 0, 1) := by decide +kernel
theorem d_Sh_letsThrough_11 : decode b_Sh_letsThrough 11 = .ok (.getfield 15, 3) := by decide +kernel
theorem d_Sh_letsThrough_14 : decode b_Sh_letsThrough 14 = .ok (.iload_n 1, 1) := by decide +kernel
theorem d_Sh_letsThrough_15 : decode b_Sh_letsThrough 15 = .ok (.iaload, 1) := by decide +kernel
theorem d_Sh_letsThrough_16 : decode b_Sh_letsThrough 16 = .ok (.aload_n 2, 1) := by decide +kernel
theorem d_Sh_letsThrough_17 : decode b_Sh_letsThrough 17 = .ok (.iload_n 3, 1) := by decide +kernel
theorem d_Sh_letsThrough_18 : decode b_Sh_letsThrough 18 = .ok (.iload 4, 2) := by decide +kernel
theorem d_Sh_letsThrough_20 : decode b_Sh_letsThrough 20 = .ok (.invokestatic 41, 3) := by decide +kernel
theorem d_Sh_letsThrough_23 : decode b_Sh_letsThrough 23 = .ok (.ifCond .ne 5, 3) := by decide +kernel
theorem d_Sh_letsThrough_26 : decode b_Sh_letsThrough 26 = .ok (.iconst 0, 1) := by decide +kernel
theorem d_Sh_letsThrough_27 : decode b_Sh_letsThrough 27 = .ok (.ireturn, 1) := by decide +kernel
theorem d_Sh_letsThrough_28 : decode b_Sh_letsThrough 28 = .ok (.aload_n 2, 1) := by decide +kernel
theorem d_Sh_letsThrough_29 : decode b_Sh_letsThrough 29 = .ok (.getstatic 45, 3) := by decide +kernel
theorem d_Sh_letsThrough_32 : decode b_Sh_letsThrough 32 = .ok (.if_acmp .ne 15, 3) := by decide +kernel
theorem d_Sh_letsThrough_35 : decode b_Sh_letsThrough 35 = .ok (.aload_n 0, 1) := by decide +kernel
theorem d_Sh_letsThrough_36 : decode b_Sh_letsThrough 36 = .ok (.getfield 15, 3) := by decide +kernel
theorem d_Sh_letsThrough_39 : decode b_Sh_letsThrough 39 = .ok (.iload_n 1, 1) := by decide +kernel
theorem d_Sh_letsThrough_40 : decode b_Sh_letsThrough 40 = .ok (.iaload, 1) := by decide +kernel
theorem d_Sh_letsThrough_41 : decode b_Sh_letsThrough 41 = .ok (.bipush 64, 2) := by decide +kernel
theorem d_Sh_letsThrough_43 : decode b_Sh_letsThrough 43 = .ok (.iand, 1) := by decide +kernel
theorem d_Sh_letsThrough_44 : decode b_Sh_letsThrough 44 = .ok (.ifCond .eq 7, 3) := by decide +kernel
theorem d_Sh_letsThrough_47 : decode b_Sh_letsThrough 47 = .ok (.iconst 1, 1) := by decide +kernel
theorem d_Sh_letsThrough_48 : decode b_Sh_letsThrough 48 = .ok (.goto 4, 3) := by decide +kernel
theorem d_Sh_letsThrough_51 : decode b_Sh_letsThrough 51 = .ok (.iconst 0, 1) := by decide +kernel
theorem d_Sh_letsThrough_52 : decode b_Sh_letsThrough 52 = .ok (.ireturn, 1) := by decide +kernel
noncomputable def pr_Sh_letsThrough : List (Nat × tw_Op) := [(0, tw_al 0), (1, tw_gr 9 10), (4, tw_il 1), (5, tw_ia), (6, tw_ic (-1)), (7, tw_ceq 26), (10, tw_al 0), (11, tw_gr 9 11), (14, tw_il 1), (15, tw_ia), (16, tw_al 2), (17, tw_il 3), (18, tw_il 4), (20, tw_cs 4 fn_En_allows), (23, tw_ifne 28), (26, tw_ic 0), (27, tw_rz), (28, tw_al 2), (29, tw_en 52), (32, tw_ane 47), (35, tw_al 0), (36, tw_gr 9 11), (39, tw_il 1), (40, tw_ia), (41, tw_ic (64)), (43, tw_bin (· &&& ·)), (44, tw_ifeq 51), (47, tw_ic 1), (48, tw_jmp 52), (51, tw_ic 0), (52, tw_rz)]
set_option maxRecDepth 100000 in
set_option maxHeartbeats 4000000 in
theorem ok_Sh_letsThrough {p : Program} {l : Launch} {e : Env} {s : State} {m : MethodId} {args : Array Value} {below : List Frame} {meth : Method} {c : Code} {E : tw_E} {D : va_G} {ρ : tw_R} (hC : tw_Cx p s m args meth c b_Sh_letsThrough 5 (some .boolean) "TwinHost$Shadows" E D) : tw_Ok p l e (tw_rmd 1) s m args below meth c 0 0 (MQ below (tw_Qc E D ρ) args s 0 0 (tw_A E)) 5 E D ρ pr_Sh_letsThrough :=
  ⟨ts_aload_n hC d_Sh_letsThrough_0 rfl,
   ts_gr (j := 0) (C := R_Sh) (T := T_Sh) hC rfl rfl rfl (by decide) u_Sh wd_94 rfl d_Sh_letsThrough_1,
   ts_iload_n hC d_Sh_letsThrough_4 rfl,
   ts_iaload hC d_Sh_letsThrough_5,
   ts_iconst hC d_Sh_letsThrough_6 (by decide),
   ts_ceq hC d_Sh_letsThrough_7 (by decide),
   ts_aload_n hC d_Sh_letsThrough_10 rfl,
   ts_gr (j := 1) (C := R_Sh) (T := T_Sh) hC rfl rfl rfl (by decide) u_Sh wd_96 rfl d_Sh_letsThrough_11,
   ts_iload_n hC d_Sh_letsThrough_14 rfl,
   ts_iaload hC d_Sh_letsThrough_15,
   ts_aload_n hC d_Sh_letsThrough_16 rfl,
   ts_iload_n hC d_Sh_letsThrough_17 rfl,
   ts_iload hC d_Sh_letsThrough_18,
   ts_calls hC con_En_allows wd_323 wd_34 (by decide +kernel) ⟨by decide, by decide⟩ ⟨Nat.zero_le _, Nat.zero_le _⟩ wd_321 wd_322 d_Sh_letsThrough_20,
   ts_ifne hC d_Sh_letsThrough_23 (by decide),
   ts_iconst hC d_Sh_letsThrough_26 (by decide),
   ts_zret hC rfl d_Sh_letsThrough_27,
   ts_aload_n hC d_Sh_letsThrough_28 rfl,
   ts_getA (i := 2) hC (by decide) rfl wd_325 d_Sh_letsThrough_29,
   ts_ane hC d_Sh_letsThrough_32 (by decide),
   ts_aload_n hC d_Sh_letsThrough_35 rfl,
   ts_gr (j := 1) (C := R_Sh) (T := T_Sh) hC rfl rfl rfl (by decide) u_Sh wd_96 rfl d_Sh_letsThrough_36,
   ts_iload_n hC d_Sh_letsThrough_39 rfl,
   ts_iaload hC d_Sh_letsThrough_40,
   ts_bipush hC d_Sh_letsThrough_41 (by decide),
   ts_iand hC d_Sh_letsThrough_43,
   ts_ifeq hC d_Sh_letsThrough_44 (by decide),
   ts_iconst hC d_Sh_letsThrough_47 (by decide),
   ts_goto hC d_Sh_letsThrough_48 (by decide),
   ts_iconst hC d_Sh_letsThrough_51 (by decide),
   ts_zret hC rfl d_Sh_letsThrough_52,
   trivial⟩
noncomputable def fn_Sh_letsThrough : tw_Fn := tw_fl 5 5 33 pr_Sh_letsThrough
theorem con_Sh_letsThrough : tw_Con y_Sh_letsThrough b_Sh_letsThrough 5 (some .boolean) 1 fn_Sh_letsThrough := tw_met (by decide +kernel) (tw_fl_len (n := 5) (by decide)) (fun p l e s m args below meth c E D vs σ ρ hC h => tw_sound (ok_Sh_letsThrough hC) 33 pr_Sh_letsThrough (ok_Sh_letsThrough hC) _ _ _ (tw_fl_get h))

-- TwinHost.count(II)I: 18 instructions, depth 1, calls TH_isGuest
theorem d_TH_count_0 : decode b_TH_count 0 = .ok (.iload_n 1, 1) := by decide +kernel
theorem d_TH_count_1 : decode b_TH_count 1 = .ok (.invokestatic 20, 3) := by decide +kernel
theorem d_TH_count_4 : decode b_TH_count 4 = .ok (.ifCond .eq 27, 3) := by decide +kernel
theorem d_TH_count_7 : decode b_TH_count 7 = .ok (.iload_n 2, 1) := by decide +kernel
theorem d_TH_count_8 : decode b_TH_count 8 = .ok (.ifCond .lt 23, 3) := by decide +kernel
theorem d_TH_count_11 : decode b_TH_count 11 = .ok (.iload_n 2, 1) := by decide +kernel
theorem d_TH_count_12 : decode b_TH_count 12 = .ok (.bipush 9, 2) := by decide +kernel
theorem d_TH_count_14 : decode b_TH_count 14 = .ok (.if_icmp .ge 17, 3) := by decide +kernel
theorem d_TH_count_17 : decode b_TH_count 17 = .ok (.aload_n 0, 1) := by decide +kernel
theorem d_TH_count_18 : decode b_TH_count 18 = .ok (.getfield 16, 3) := by decide +kernel
theorem d_TH_count_21 : decode b_TH_count 21 = .ok (.iload_n 1, 1) := by decide +kernel
theorem d_TH_count_22 : decode b_TH_count 22 = .ok (.aaload, 1) := by decide +kernel
theorem d_TH_count_23 : decode b_TH_count 23 = .ok (.getfield 112, 3) := by decide +kernel
theorem d_TH_count_26 : decode b_TH_count 26 = .ok (.iload_n 2, 1) := by decide +kernel
theorem d_TH_count_27 : decode b_TH_count 27 = .ok (.iaload, 1) := by decide +kernel
theorem d_TH_count_28 : decode b_TH_count 28 = .ok (.goto 4, 3) := by decide +kernel
theorem d_TH_count_31 : decode b_TH_count 31 = .ok (.iconst (-1), 1) := by decide +kernel
theorem d_TH_count_32 : decode b_TH_count 32 = .ok (.ireturn, 1) := by decide +kernel
noncomputable def pr_TH_count : List (Nat × tw_Op) := [(0, tw_il 1), (1, tw_cs 1 fn_TH_isGuest), (4, tw_ifeq 31), (7, tw_il 2), (8, tw_iflt 31), (11, tw_il 2), (12, tw_ic (9)), (14, tw_cge 31), (17, tw_al 0), (18, tw_gr 20 21), (21, tw_il 1), (22, tw_ga), (23, tw_gr 0 3), (26, tw_il 2), (27, tw_ia), (28, tw_jmp 32), (31, tw_ic (-1)), (32, tw_ri)]
set_option maxRecDepth 100000 in
set_option maxHeartbeats 4000000 in
theorem ok_TH_count {p : Program} {l : Launch} {e : Env} {s : State} {m : MethodId} {args : Array Value} {below : List Frame} {meth : Method} {c : Code} {E : tw_E} {D : va_G} {ρ : tw_R} (hC : tw_Cx p s m args meth c b_TH_count 3 (some .int) "TwinHost" E D) : tw_Ok p l e (tw_rmd 1) s m args below meth c 0 0 (MQ below (tw_Qc E D ρ) args s 0 0 (tw_A E)) 3 E D ρ pr_TH_count :=
  ⟨ts_iload_n hC d_TH_count_0 rfl,
   ts_calls hC con_TH_isGuest wd_183 wd_24 (by decide +kernel) ⟨by decide, by decide⟩ ⟨Nat.zero_le _, Nat.zero_le _⟩ wd_181 wd_182 d_TH_count_1,
   ts_ifeq hC d_TH_count_4 (by decide),
   ts_iload_n hC d_TH_count_7 rfl,
   ts_iflt hC d_TH_count_8 (by decide),
   ts_iload_n hC d_TH_count_11 rfl,
   ts_bipush hC d_TH_count_12 (by decide),
   ts_cge hC d_TH_count_14 (by decide),
   ts_aload_n hC d_TH_count_17 rfl,
   ts_gr (j := 0) (C := R_TH) (T := T_TH) hC rfl rfl rfl (by decide) u_TH wd_164 rfl d_TH_count_18,
   ts_iload_n hC d_TH_count_21 rfl,
   ts_aaload hC d_TH_count_22,
   ts_gr (j := 2) (C := R_Gu) (T := T_Gu) hC rfl rfl rfl (by decide) u_Gu wd_137 rfl d_TH_count_23,
   ts_iload_n hC d_TH_count_26 rfl,
   ts_iaload hC d_TH_count_27,
   ts_goto hC d_TH_count_28 (by decide),
   ts_iconst hC d_TH_count_31 (by decide),
   ts_iret hC rfl d_TH_count_32,
   trivial⟩
noncomputable def fn_TH_count : tw_Fn := tw_fl 3 3 20 pr_TH_count
theorem con_TH_count : tw_Con y_TH_count b_TH_count 3 (some .int) 1 fn_TH_count := tw_met (by decide +kernel) (tw_fl_len (n := 3) (by decide)) (fun p l e s m args below meth c E D vs σ ρ hC h => tw_sound (ok_TH_count hC) 20 pr_TH_count (ok_TH_count hC) _ _ _ (tw_fl_get h))

-- TwinHost.give(III)Z: 17 instructions, depth 1, calls TH_isGuest TH_isRegister Gu_setRegister
theorem d_TH_give_0 : decode b_TH_give 0 = .ok (.iload_n 1, 1) := by decide +kernel
theorem d_TH_give_1 : decode b_TH_give 1 = .ok (.invokestatic 20, 3) := by decide +kernel
theorem d_TH_give_4 : decode b_TH_give 4 = .ok (.ifCond .eq 10, 3) := by decide +kernel
theorem d_TH_give_7 : decode b_TH_give 7 = .ok (.iload_n 2, 1) := by decide +kernel
theorem d_TH_give_8 : decode b_TH_give 8 = .ok (.invokestatic 35, 3) := by decide +kernel
theorem d_TH_give_11 : decode b_TH_give 11 = .ok (.ifCond .ne 5, 3) := by decide +kernel
theorem d_TH_give_14 : decode b_TH_give 14 = .ok (.iconst 0, 1) := by decide +kernel
theorem d_TH_give_15 : decode b_TH_give 15 = .ok (.ireturn, 1) := by decide +kernel
theorem d_TH_give_16 : decode b_TH_give 16 = .ok (.aload_n 0, 1) := by decide +kernel
theorem d_TH_give_17 : decode b_TH_give 17 = .ok (.getfield 16, 3) := by decide +kernel
theorem d_TH_give_20 : decode b_TH_give 20 = .ok (.iload_n 1, 1) := by decide +kernel
theorem d_TH_give_21 : decode b_TH_give 21 = .ok (.aaload, 1) := by decide +kernel
theorem d_TH_give_22 : decode b_TH_give 22 = .ok (.iload_n 2, 1) := by decide +kernel
theorem d_TH_give_23 : decode b_TH_give 23 = .ok (.iload_n 3, 1) := by decide +kernel
theorem d_TH_give_24 : decode b_TH_give 24 = .ok (.invokevirtual 38, 3) := by decide +kernel
theorem d_TH_give_27 : decode b_TH_give 27 = .ok (.iconst 1, 1) := by decide +kernel
theorem d_TH_give_28 : decode b_TH_give 28 = .ok (.ireturn, 1) := by decide +kernel
noncomputable def pr_TH_give : List (Nat × tw_Op) := [(0, tw_il 1), (1, tw_cs 1 fn_TH_isGuest), (4, tw_ifeq 14), (7, tw_il 2), (8, tw_cs 1 fn_TH_isRegister), (11, tw_ifne 16), (14, tw_ic 0), (15, tw_rz), (16, tw_al 0), (17, tw_gr 20 21), (20, tw_il 1), (21, tw_ga), (22, tw_il 2), (23, tw_il 3), (24, tw_cv 2 0 fn_Gu_setRegister), (27, tw_ic 1), (28, tw_rz)]
set_option maxRecDepth 100000 in
set_option maxHeartbeats 4000000 in
theorem ok_TH_give {p : Program} {l : Launch} {e : Env} {s : State} {m : MethodId} {args : Array Value} {below : List Frame} {meth : Method} {c : Code} {E : tw_E} {D : va_G} {ρ : tw_R} (hC : tw_Cx p s m args meth c b_TH_give 4 (some .boolean) "TwinHost" E D) : tw_Ok p l e (tw_rmd 1) s m args below meth c 0 0 (MQ below (tw_Qc E D ρ) args s 0 0 (tw_A E)) 4 E D ρ pr_TH_give :=
  ⟨ts_iload_n hC d_TH_give_0 rfl,
   ts_calls hC con_TH_isGuest wd_183 wd_24 (by decide +kernel) ⟨by decide, by decide⟩ ⟨Nat.zero_le _, Nat.zero_le _⟩ wd_181 wd_182 d_TH_give_1,
   ts_ifeq hC d_TH_give_4 (by decide),
   ts_iload_n hC d_TH_give_7 rfl,
   ts_calls hC con_TH_isRegister wd_205 wd_24 (by decide +kernel) ⟨by decide, by decide⟩ ⟨Nat.zero_le _, Nat.zero_le _⟩ wd_203 wd_204 d_TH_give_8,
   ts_ifne hC d_TH_give_11 (by decide),
   ts_iconst hC d_TH_give_14 (by decide),
   ts_zret hC rfl d_TH_give_15,
   ts_aload_n hC d_TH_give_16 rfl,
   ts_gr (j := 0) (C := R_TH) (T := T_TH) hC rfl rfl rfl (by decide) u_TH wd_164 rfl d_TH_give_17,
   ts_iload_n hC d_TH_give_20 rfl,
   ts_aaload hC d_TH_give_21,
   ts_iload_n hC d_TH_give_22 rfl,
   ts_iload_n hC d_TH_give_23 rfl,
   ts_callv (C := R_Gu) (T := T_Gu) hC con_Gu_setRegister wd_209 wd_25 (by decide +kernel) ⟨by decide, by decide⟩ ⟨Nat.zero_le _, Nat.zero_le _⟩ wd_206 rfl rfl wd_207 wd_208 d_TH_give_24,
   ts_iconst hC d_TH_give_27 (by decide),
   ts_zret hC rfl d_TH_give_28,
   trivial⟩
noncomputable def fn_TH_give : tw_Fn := tw_fl 4 4 19 pr_TH_give
theorem con_TH_give : tw_Con y_TH_give b_TH_give 4 (some .boolean) 1 fn_TH_give := tw_met (by decide +kernel) (tw_fl_len (n := 4) (by decide)) (fun p l e s m args below meth c E D vs σ ρ hC h => tw_sound (ok_TH_give hC) 19 pr_TH_give (ok_TH_give hC) _ _ _ (tw_fl_get h))

-- TwinHost.input(III)Z: 19 instructions, depth 1, calls TH_isGuest In_append
theorem d_TH_input_0 : decode b_TH_input 0 = .ok (.iload_n 1, 1) := by decide +kernel
theorem d_TH_input_1 : decode b_TH_input 1 = .ok (.invokestatic 20, 3) := by decide +kernel
theorem d_TH_input_4 : decode b_TH_input 4 = .ok (.ifCond .eq 31, 3) := by decide +kernel
theorem d_TH_input_7 : decode b_TH_input 7 = .ok (.iload_n 2, 1) := by decide +kernel
theorem d_TH_input_8 : decode b_TH_input 8 = .ok (.ifCond .lt 27, 3) := by decide +kernel
theorem d_TH_input_11 : decode b_TH_input 11 = .ok (.aload_n 0, 1) := by decide +kernel
theorem d_TH_input_12 : decode b_TH_input 12 = .ok (.getfield 16, 3) := by decide +kernel
theorem d_TH_input_15 : decode b_TH_input 15 = .ok (.iload_n 1, 1) := by decide +kernel
theorem d_TH_input_16 : decode b_TH_input 16 = .ok (.aaload, 1) := by decide +kernel
theorem d_TH_input_17 : decode b_TH_input 17 = .ok (.getfield 56, 3) := by decide +kernel
theorem d_TH_input_20 : decode b_TH_input 20 = .ok (.getfield 71, 3) := by decide +kernel
theorem d_TH_input_23 : decode b_TH_input 23 = .ok (.iload_n 2, 1) := by decide +kernel
theorem d_TH_input_24 : decode b_TH_input 24 = .ok (.iload_n 3, 1) := by decide +kernel
theorem d_TH_input_25 : decode b_TH_input 25 = .ok (.invokevirtual 75, 3) := by decide +kernel
theorem d_TH_input_28 : decode b_TH_input 28 = .ok (.ifCond .eq 7, 3) := by decide +kernel
theorem d_TH_input_31 : decode b_TH_input 31 = .ok (.iconst 1, 1) := by decide +kernel
theorem d_TH_input_32 : decode b_TH_input 32 = .ok (.goto 4, 3) := by decide +kernel
theorem d_TH_input_35 : decode b_TH_input 35 = .ok (.iconst 0, 1) := by decide +kernel
theorem d_TH_input_36 : decode b_TH_input 36 = .ok (.ireturn, 1) := by decide +kernel
noncomputable def pr_TH_input : List (Nat × tw_Op) := [(0, tw_il 1), (1, tw_cs 1 fn_TH_isGuest), (4, tw_ifeq 35), (7, tw_il 2), (8, tw_iflt 35), (11, tw_al 0), (12, tw_gr 20 21), (15, tw_il 1), (16, tw_ga), (17, tw_gr 0 4), (20, tw_gr 4 6), (23, tw_il 2), (24, tw_il 3), (25, tw_cv 2 6 fn_In_append), (28, tw_ifeq 35), (31, tw_ic 1), (32, tw_jmp 36), (35, tw_ic 0), (36, tw_rz)]
set_option maxRecDepth 100000 in
set_option maxHeartbeats 4000000 in
theorem ok_TH_input {p : Program} {l : Launch} {e : Env} {s : State} {m : MethodId} {args : Array Value} {below : List Frame} {meth : Method} {c : Code} {E : tw_E} {D : va_G} {ρ : tw_R} (hC : tw_Cx p s m args meth c b_TH_input 4 (some .boolean) "TwinHost" E D) : tw_Ok p l e (tw_rmd 1) s m args below meth c 0 0 (MQ below (tw_Qc E D ρ) args s 0 0 (tw_A E)) 4 E D ρ pr_TH_input :=
  ⟨ts_iload_n hC d_TH_input_0 rfl,
   ts_calls hC con_TH_isGuest wd_183 wd_24 (by decide +kernel) ⟨by decide, by decide⟩ ⟨Nat.zero_le _, Nat.zero_le _⟩ wd_181 wd_182 d_TH_input_1,
   ts_ifeq hC d_TH_input_4 (by decide),
   ts_iload_n hC d_TH_input_7 rfl,
   ts_iflt hC d_TH_input_8 (by decide),
   ts_aload_n hC d_TH_input_11 rfl,
   ts_gr (j := 0) (C := R_TH) (T := T_TH) hC rfl rfl rfl (by decide) u_TH wd_164 rfl d_TH_input_12,
   ts_iload_n hC d_TH_input_15 rfl,
   ts_aaload hC d_TH_input_16,
   ts_gr (j := 3) (C := R_Gu) (T := T_Gu) hC rfl rfl rfl (by decide) u_Gu wd_139 rfl d_TH_input_17,
   ts_gr (j := 1) (C := R_Co) (T := T_Co) hC rfl rfl rfl (by decide) u_Co wd_78 rfl d_TH_input_20,
   ts_iload_n hC d_TH_input_23 rfl,
   ts_iload_n hC d_TH_input_24 rfl,
   ts_callv (C := R_In) (T := T_In) hC con_In_append wd_276 wd_27 (by decide +kernel) ⟨by decide, by decide⟩ ⟨Nat.zero_le _, Nat.zero_le _⟩ wd_273 rfl rfl wd_274 wd_275 d_TH_input_25,
   ts_ifeq hC d_TH_input_28 (by decide),
   ts_iconst hC d_TH_input_31 (by decide),
   ts_goto hC d_TH_input_32 (by decide),
   ts_iconst hC d_TH_input_35 (by decide),
   ts_zret hC rfl d_TH_input_36,
   trivial⟩
noncomputable def fn_TH_input : tw_Fn := tw_fl 4 4 21 pr_TH_input
theorem con_TH_input : tw_Con y_TH_input b_TH_input 4 (some .boolean) 1 fn_TH_input := tw_met (by decide +kernel) (tw_fl_len (n := 4) (by decide)) (fun p l e s m args below meth c E D vs σ ρ hC h => tw_sound (ok_TH_input hC) 21 pr_TH_input (ok_TH_input hC) _ _ _ (tw_fl_get h))

-- TwinHost.pc(I)I: 11 instructions, depth 1, calls TH_isGuest
theorem d_TH_pc_0 : decode b_TH_pc 0 = .ok (.iload_n 1, 1) := by decide +kernel
theorem d_TH_pc_1 : decode b_TH_pc 1 = .ok (.invokestatic 20, 3) := by decide +kernel
theorem d_TH_pc_4 : decode b_TH_pc 4 = .ok (.ifCond .eq 15, 3) := by decide +kernel
theorem d_TH_pc_7 : decode b_TH_pc 7 = .ok (.aload_n 0, 1) := by decide +kernel
theorem d_TH_pc_8 : decode b_TH_pc 8 = .ok (.getfield 16, 3) := by decide +kernel
theorem d_TH_pc_11 : decode b_TH_pc 11 = .ok (.iload_n 1, 1) := by decide +kernel
theorem d_TH_pc_12 : decode b_TH_pc 12 = .ok (.aaload, 1) := by decide +kernel
theorem d_TH_pc_13 : decode b_TH_pc 13 = .ok (.getfield 64, 3) := by decide +kernel
theorem d_TH_pc_16 : decode b_TH_pc 16 = .ok (.goto 4, 3) := by decide +kernel
theorem d_TH_pc_19 : decode b_TH_pc 19 = .ok (.iconst 0, 1) := by decide +kernel
theorem d_TH_pc_20 : decode b_TH_pc 20 = .ok (.ireturn, 1) := by decide +kernel
noncomputable def pr_TH_pc : List (Nat × tw_Op) := [(0, tw_il 1), (1, tw_cs 1 fn_TH_isGuest), (4, tw_ifeq 19), (7, tw_al 0), (8, tw_gr 20 21), (11, tw_il 1), (12, tw_ga), (13, tw_gi 0 6), (16, tw_jmp 20), (19, tw_ic 0), (20, tw_ri)]
set_option maxRecDepth 100000 in
set_option maxHeartbeats 4000000 in
theorem ok_TH_pc {p : Program} {l : Launch} {e : Env} {s : State} {m : MethodId} {args : Array Value} {below : List Frame} {meth : Method} {c : Code} {E : tw_E} {D : va_G} {ρ : tw_R} (hC : tw_Cx p s m args meth c b_TH_pc 2 (some .int) "TwinHost" E D) : tw_Ok p l e (tw_rmd 1) s m args below meth c 0 0 (MQ below (tw_Qc E D ρ) args s 0 0 (tw_A E)) 2 E D ρ pr_TH_pc :=
  ⟨ts_iload_n hC d_TH_pc_0 rfl,
   ts_calls hC con_TH_isGuest wd_183 wd_24 (by decide +kernel) ⟨by decide, by decide⟩ ⟨Nat.zero_le _, Nat.zero_le _⟩ wd_181 wd_182 d_TH_pc_1,
   ts_ifeq hC d_TH_pc_4 (by decide),
   ts_aload_n hC d_TH_pc_7 rfl,
   ts_gr (j := 0) (C := R_TH) (T := T_TH) hC rfl rfl rfl (by decide) u_TH wd_164 rfl d_TH_pc_8,
   ts_iload_n hC d_TH_pc_11 rfl,
   ts_aaload hC d_TH_pc_12,
   ts_gi (j := 6) (C := R_Gu) (T := T_Gu) hC rfl rfl rfl (by decide) u_Gu wd_144 rfl d_TH_pc_13,
   ts_goto hC d_TH_pc_16 (by decide),
   ts_iconst hC d_TH_pc_19 (by decide),
   ts_iret hC rfl d_TH_pc_20,
   trivial⟩
noncomputable def fn_TH_pc : tw_Fn := tw_fl 2 2 13 pr_TH_pc
theorem con_TH_pc : tw_Con y_TH_pc b_TH_pc 2 (some .int) 1 fn_TH_pc := tw_met (by decide +kernel) (tw_fl_len (n := 2) (by decide)) (fun p l e s m args below meth c E D vs σ ρ hC h => tw_sound (ok_TH_pc hC) 13 pr_TH_pc (ok_TH_pc hC) _ _ _ (tw_fl_get h))

-- TwinHost.peek(II)I: 16 instructions, depth 1, calls TH_isGuest TH_isWord
theorem d_TH_peek_0 : decode b_TH_peek 0 = .ok (.iload_n 1, 1) := by decide +kernel
theorem d_TH_peek_1 : decode b_TH_peek 1 = .ok (.invokestatic 20, 3) := by decide +kernel
theorem d_TH_peek_4 : decode b_TH_peek 4 = .ok (.ifCond .eq 24, 3) := by decide +kernel
theorem d_TH_peek_7 : decode b_TH_peek 7 = .ok (.iload_n 2, 1) := by decide +kernel
theorem d_TH_peek_8 : decode b_TH_peek 8 = .ok (.invokestatic 24, 3) := by decide +kernel
theorem d_TH_peek_11 : decode b_TH_peek 11 = .ok (.ifCond .eq 17, 3) := by decide +kernel
theorem d_TH_peek_14 : decode b_TH_peek 14 = .ok (.aload_n 0, 1) := by decide +kernel
theorem d_TH_peek_15 : decode b_TH_peek 15 = .ok (.getfield 16, 3) := by decide +kernel
theorem d_TH_peek_18 : decode b_TH_peek 18 = .ok (.iload_n 1, 1) := by decide +kernel
theorem d_TH_peek_19 : decode b_TH_peek 19 = .ok (.aaload, 1) := by decide +kernel
theorem d_TH_peek_20 : decode b_TH_peek 20 = .ok (.getfield 31, 3) := by decide +kernel
theorem d_TH_peek_23 : decode b_TH_peek 23 = .ok (.iload_n 2, 1) := by decide +kernel
theorem d_TH_peek_24 : decode b_TH_peek 24 = .ok (.iaload, 1) := by decide +kernel
theorem d_TH_peek_25 : decode b_TH_peek 25 = .ok (.goto 4, 3) := by decide +kernel
theorem d_TH_peek_28 : decode b_TH_peek 28 = .ok (.iconst 0, 1) := by decide +kernel
theorem d_TH_peek_29 : decode b_TH_peek 29 = .ok (.ireturn, 1) := by decide +kernel
noncomputable def pr_TH_peek : List (Nat × tw_Op) := [(0, tw_il 1), (1, tw_cs 1 fn_TH_isGuest), (4, tw_ifeq 28), (7, tw_il 2), (8, tw_cs 1 fn_TH_isWord), (11, tw_ifeq 28), (14, tw_al 0), (15, tw_gr 20 21), (18, tw_il 1), (19, tw_ga), (20, tw_gr 0 1), (23, tw_il 2), (24, tw_ia), (25, tw_jmp 29), (28, tw_ic 0), (29, tw_ri)]
set_option maxRecDepth 100000 in
set_option maxHeartbeats 4000000 in
theorem ok_TH_peek {p : Program} {l : Launch} {e : Env} {s : State} {m : MethodId} {args : Array Value} {below : List Frame} {meth : Method} {c : Code} {E : tw_E} {D : va_G} {ρ : tw_R} (hC : tw_Cx p s m args meth c b_TH_peek 3 (some .int) "TwinHost" E D) : tw_Ok p l e (tw_rmd 1) s m args below meth c 0 0 (MQ below (tw_Qc E D ρ) args s 0 0 (tw_A E)) 3 E D ρ pr_TH_peek :=
  ⟨ts_iload_n hC d_TH_peek_0 rfl,
   ts_calls hC con_TH_isGuest wd_183 wd_24 (by decide +kernel) ⟨by decide, by decide⟩ ⟨Nat.zero_le _, Nat.zero_le _⟩ wd_181 wd_182 d_TH_peek_1,
   ts_ifeq hC d_TH_peek_4 (by decide),
   ts_iload_n hC d_TH_peek_7 rfl,
   ts_calls hC con_TH_isWord wd_186 wd_24 (by decide +kernel) ⟨by decide, by decide⟩ ⟨Nat.zero_le _, Nat.zero_le _⟩ wd_184 wd_185 d_TH_peek_8,
   ts_ifeq hC d_TH_peek_11 (by decide),
   ts_aload_n hC d_TH_peek_14 rfl,
   ts_gr (j := 0) (C := R_TH) (T := T_TH) hC rfl rfl rfl (by decide) u_TH wd_164 rfl d_TH_peek_15,
   ts_iload_n hC d_TH_peek_18 rfl,
   ts_aaload hC d_TH_peek_19,
   ts_gr (j := 0) (C := R_Gu) (T := T_Gu) hC rfl rfl rfl (by decide) u_Gu wd_133 rfl d_TH_peek_20,
   ts_iload_n hC d_TH_peek_23 rfl,
   ts_iaload hC d_TH_peek_24,
   ts_goto hC d_TH_peek_25 (by decide),
   ts_iconst hC d_TH_peek_28 (by decide),
   ts_iret hC rfl d_TH_peek_29,
   trivial⟩
noncomputable def fn_TH_peek : tw_Fn := tw_fl 3 3 18 pr_TH_peek
theorem con_TH_peek : tw_Con y_TH_peek b_TH_peek 3 (some .int) 1 fn_TH_peek := tw_met (by decide +kernel) (tw_fl_len (n := 3) (by decide)) (fun p l e s m args below meth c E D vs σ ρ hC h => tw_sound (ok_TH_peek hC) 18 pr_TH_peek (ok_TH_peek hC) _ _ _ (tw_fl_get h))

-- TwinHost.place(IIZ)Z: 19 instructions, depth 1, calls TH_isGuest
theorem d_TH_place_0 : decode b_TH_place 0 = .ok (.iload_n 1, 1) := by decide +kernel
theorem d_TH_place_1 : decode b_TH_place 1 = .ok (.invokestatic 20, 3) := by decide +kernel
theorem d_TH_place_4 : decode b_TH_place 4 = .ok (.ifCond .ne 5, 3) := by decide +kernel
theorem d_TH_place_7 : decode b_TH_place 7 = .ok (.iconst 0, 1) := by decide +kernel
theorem d_TH_place_8 : decode b_TH_place 8 = .ok (.ireturn, 1) := by decide +kernel
theorem d_TH_place_9 : decode b_TH_place 9 = .ok (.aload_n 0, 1) := by decide +kernel
theorem d_TH_place_10 : decode b_TH_place 10 = .ok (.getfield 16, 3) := by decide +kernel
theorem d_TH_place_13 : decode b_TH_place 13 = .ok (.iload_n 1, 1) := by decide +kernel
theorem d_TH_place_14 : decode b_TH_place 14 = .ok (.aaload, 1) := by decide +kernel
theorem d_TH_place_15 : decode b_TH_place 15 = .ok (.iload_n 2, 1) := by decide +kernel
theorem d_TH_place_16 : decode b_TH_place 16 = .ok (.putfield 64, 3) := by decide +kernel
theorem d_TH_place_19 : decode b_TH_place 19 = .ok (.aload_n 0, 1) := by decide +kernel
theorem d_TH_place_20 : decode b_TH_place 20 = .ok (.getfield 16, 3) := by decide +kernel
theorem d_TH_place_23 : decode b_TH_place 23 = .ok (.iload_n 1, 1) := by decide +kernel
theorem d_TH_place_24 : decode b_TH_place 24 = .ok (.aaload, 1) := by decide +kernel
theorem d_TH_place_25 : decode b_TH_place 25 = .ok (.iload_n 3, 1) := by decide +kernel
theorem d_TH_place_26 : decode b_TH_place 26 = .ok (.putfield 67, 3) := by decide +kernel
theorem d_TH_place_29 : decode b_TH_place 29 = .ok (.iconst 1, 1) := by decide +kernel
theorem d_TH_place_30 : decode b_TH_place 30 = .ok (.ireturn, 1) := by decide +kernel
noncomputable def pr_TH_place : List (Nat × tw_Op) := [(0, tw_il 1), (1, tw_cs 1 fn_TH_isGuest), (4, tw_ifne 9), (7, tw_ic 0), (8, tw_rz), (9, tw_al 0), (10, tw_gr 20 21), (13, tw_il 1), (14, tw_ga), (15, tw_il 2), (16, tw_pi 0 6), (19, tw_al 0), (20, tw_gr 20 21), (23, tw_il 1), (24, tw_ga), (25, tw_il 3), (26, tw_pz 0 7), (29, tw_ic 1), (30, tw_rz)]
set_option maxRecDepth 100000 in
set_option maxHeartbeats 4000000 in
theorem ok_TH_place {p : Program} {l : Launch} {e : Env} {s : State} {m : MethodId} {args : Array Value} {below : List Frame} {meth : Method} {c : Code} {E : tw_E} {D : va_G} {ρ : tw_R} (hC : tw_Cx p s m args meth c b_TH_place 4 (some .boolean) "TwinHost" E D) : tw_Ok p l e (tw_rmd 1) s m args below meth c 0 0 (MQ below (tw_Qc E D ρ) args s 0 0 (tw_A E)) 4 E D ρ pr_TH_place :=
  ⟨ts_iload_n hC d_TH_place_0 rfl,
   ts_calls hC con_TH_isGuest wd_183 wd_24 (by decide +kernel) ⟨by decide, by decide⟩ ⟨Nat.zero_le _, Nat.zero_le _⟩ wd_181 wd_182 d_TH_place_1,
   ts_ifne hC d_TH_place_4 (by decide),
   ts_iconst hC d_TH_place_7 (by decide),
   ts_zret hC rfl d_TH_place_8,
   ts_aload_n hC d_TH_place_9 rfl,
   ts_gr (j := 0) (C := R_TH) (T := T_TH) hC rfl rfl rfl (by decide) u_TH wd_164 rfl d_TH_place_10,
   ts_iload_n hC d_TH_place_13 rfl,
   ts_aaload hC d_TH_place_14,
   ts_iload_n hC d_TH_place_15 rfl,
   ts_pi (j := 6) (C := R_Gu) (T := T_Gu) hC rfl rfl rfl (by decide) u_Gu wd_144 rfl t_Gu_ok n_Gu rfl (by decide +kernel) d_TH_place_16,
   ts_aload_n hC d_TH_place_19 rfl,
   ts_gr (j := 0) (C := R_TH) (T := T_TH) hC rfl rfl rfl (by decide) u_TH wd_164 rfl d_TH_place_20,
   ts_iload_n hC d_TH_place_23 rfl,
   ts_aaload hC d_TH_place_24,
   ts_iload_n hC d_TH_place_25 rfl,
   ts_pz (j := 7) (C := R_Gu) (T := T_Gu) hC rfl rfl rfl (by decide) u_Gu wd_146 rfl t_Gu_ok n_Gu rfl (by decide +kernel) d_TH_place_26,
   ts_iconst hC d_TH_place_29 (by decide),
   ts_zret hC rfl d_TH_place_30,
   trivial⟩
noncomputable def fn_TH_place : tw_Fn := tw_fl 4 4 21 pr_TH_place
theorem con_TH_place : tw_Con y_TH_place b_TH_place 4 (some .boolean) 1 fn_TH_place := tw_met (by decide +kernel) (tw_fl_len (n := 4) (by decide)) (fun p l e s m args below meth c E D vs σ ρ hC h => tw_sound (ok_TH_place hC) 21 pr_TH_place (ok_TH_place hC) _ _ _ (tw_fl_get h))

-- TwinHost.register(II)I: 16 instructions, depth 1, calls TH_isGuest TH_isRegister
theorem d_TH_register_0 : decode b_TH_register 0 = .ok (.iload_n 1, 1) := by decide +kernel
theorem d_TH_register_1 : decode b_TH_register 1 = .ok (.invokestatic 20, 3) := by decide +kernel
theorem d_TH_register_4 : decode b_TH_register 4 = .ok (.ifCond .eq 24, 3) := by decide +kernel
theorem d_TH_register_7 : decode b_TH_register 7 = .ok (.iload_n 2, 1) := by decide +kernel
theorem d_TH_register_8 : decode b_TH_register 8 = .ok (.invokestatic 35, 3) := by decide +kernel
theorem d_TH_register_11 : decode b_TH_register 11 = .ok (.ifCond .eq 17, 3) := by decide +kernel
theorem d_TH_register_14 : decode b_TH_register 14 = .ok (.aload_n 0, 1) := by decide +kernel
theorem d_TH_register_15 : decode b_TH_register 15 = .ok (.getfield 16, 3) := by decide +kernel
theorem d_TH_register_18 : decode b_TH_register 18 = .ok (.iload_n 1, 1) := by decide +kernel
theorem d_TH_register_19 : decode b_TH_register 19 = .ok (.aaload, 1) := by decide +kernel
theorem d_TH_register_20 : decode b_TH_register 20 = .ok (.getfield 42, 3) := by decide +kernel
theorem d_TH_register_23 : decode b_TH_register 23 = .ok (.iload_n 2, 1) := by decide +kernel
theorem d_TH_register_24 : decode b_TH_register 24 = .ok (.iaload, 1) := by decide +kernel
theorem d_TH_register_25 : decode b_TH_register 25 = .ok (.goto 4, 3) := by decide +kernel
theorem d_TH_register_28 : decode b_TH_register 28 = .ok (.iconst 0, 1) := by decide +kernel
theorem d_TH_register_29 : decode b_TH_register 29 = .ok (.ireturn, 1) := by decide +kernel
noncomputable def pr_TH_register : List (Nat × tw_Op) := [(0, tw_il 1), (1, tw_cs 1 fn_TH_isGuest), (4, tw_ifeq 28), (7, tw_il 2), (8, tw_cs 1 fn_TH_isRegister), (11, tw_ifeq 28), (14, tw_al 0), (15, tw_gr 20 21), (18, tw_il 1), (19, tw_ga), (20, tw_gr 0 2), (23, tw_il 2), (24, tw_ia), (25, tw_jmp 29), (28, tw_ic 0), (29, tw_ri)]
set_option maxRecDepth 100000 in
set_option maxHeartbeats 4000000 in
theorem ok_TH_register {p : Program} {l : Launch} {e : Env} {s : State} {m : MethodId} {args : Array Value} {below : List Frame} {meth : Method} {c : Code} {E : tw_E} {D : va_G} {ρ : tw_R} (hC : tw_Cx p s m args meth c b_TH_register 3 (some .int) "TwinHost" E D) : tw_Ok p l e (tw_rmd 1) s m args below meth c 0 0 (MQ below (tw_Qc E D ρ) args s 0 0 (tw_A E)) 3 E D ρ pr_TH_register :=
  ⟨ts_iload_n hC d_TH_register_0 rfl,
   ts_calls hC con_TH_isGuest wd_183 wd_24 (by decide +kernel) ⟨by decide, by decide⟩ ⟨Nat.zero_le _, Nat.zero_le _⟩ wd_181 wd_182 d_TH_register_1,
   ts_ifeq hC d_TH_register_4 (by decide),
   ts_iload_n hC d_TH_register_7 rfl,
   ts_calls hC con_TH_isRegister wd_205 wd_24 (by decide +kernel) ⟨by decide, by decide⟩ ⟨Nat.zero_le _, Nat.zero_le _⟩ wd_203 wd_204 d_TH_register_8,
   ts_ifeq hC d_TH_register_11 (by decide),
   ts_aload_n hC d_TH_register_14 rfl,
   ts_gr (j := 0) (C := R_TH) (T := T_TH) hC rfl rfl rfl (by decide) u_TH wd_164 rfl d_TH_register_15,
   ts_iload_n hC d_TH_register_18 rfl,
   ts_aaload hC d_TH_register_19,
   ts_gr (j := 1) (C := R_Gu) (T := T_Gu) hC rfl rfl rfl (by decide) u_Gu wd_135 rfl d_TH_register_20,
   ts_iload_n hC d_TH_register_23 rfl,
   ts_iaload hC d_TH_register_24,
   ts_goto hC d_TH_register_25 (by decide),
   ts_iconst hC d_TH_register_28 (by decide),
   ts_iret hC rfl d_TH_register_29,
   trivial⟩
noncomputable def fn_TH_register : tw_Fn := tw_fl 3 3 18 pr_TH_register
theorem con_TH_register : tw_Con y_TH_register b_TH_register 3 (some .int) 1 fn_TH_register := tw_met (by decide +kernel) (tw_fl_len (n := 3) (by decide)) (fun p l e s m args below meth c E D vs σ ρ hC h => tw_sound (ok_TH_register hC) 18 pr_TH_register (ok_TH_register hC) _ _ _ (tw_fl_get h))

-- TwinHost.shadow(II)I: 18 instructions, depth 1, calls TH_isGuest Sh_describe
theorem d_TH_shadow_0 : decode b_TH_shadow 0 = .ok (.iload_n 1, 1) := by decide +kernel
theorem d_TH_shadow_1 : decode b_TH_shadow 1 = .ok (.invokestatic 20, 3) := by decide +kernel
theorem d_TH_shadow_4 : decode b_TH_shadow 4 = .ok (.ifCond .eq 29, 3) := by decide +kernel
theorem d_TH_shadow_7 : decode b_TH_shadow 7 = .ok (.iload_n 2, 1) := by decide +kernel
theorem d_TH_shadow_8 : decode b_TH_shadow 8 = .ok (.ifCond .lt 25, 3) := by decide +kernel
theorem d_TH_shadow_11 : decode b_TH_shadow 11 = .ok (.iload_n 2, 1) := by decide +kernel
theorem d_TH_shadow_12 : decode b_TH_shadow 12 = .ok (.bipush 16, 2) := by decide +kernel
theorem d_TH_shadow_14 : decode b_TH_shadow 14 = .ok (.if_icmp .ge 19, 3) := by decide +kernel
theorem d_TH_shadow_17 : decode b_TH_shadow 17 = .ok (.aload_n 0, 1) := by decide +kernel
theorem d_TH_shadow_18 : decode b_TH_shadow 18 = .ok (.getfield 16, 3) := by decide +kernel
theorem d_TH_shadow_21 : decode b_TH_shadow 21 = .ok (.iload_n 1, 1) := by decide +kernel
theorem d_TH_shadow_22 : decode b_TH_shadow 22 = .ok (.aaload, 1) := by decide +kernel
theorem d_TH_shadow_23 : decode b_TH_shadow 23 = .ok (.getfield 98, 3) := by decide +kernel
theorem d_TH_shadow_26 : decode b_TH_shadow 26 = .ok (.iload_n 2, 1) := by decide +kernel
theorem d_TH_shadow_27 : decode b_TH_shadow 27 = .ok (.invokevirtual 102, 3) := by decide +kernel
theorem d_TH_shadow_30 : decode b_TH_shadow 30 = .ok (.goto 4, 3) := by decide +kernel
theorem d_TH_shadow_33 : decode b_TH_shadow 33 = .ok (.iconst (-1), 1) := by decide +kernel
theorem d_TH_shadow_34 : decode b_TH_shadow 34 = .ok (.ireturn, 1) := by decide +kernel
noncomputable def pr_TH_shadow : List (Nat × tw_Op) := [(0, tw_il 1), (1, tw_cs 1 fn_TH_isGuest), (4, tw_ifeq 33), (7, tw_il 2), (8, tw_iflt 33), (11, tw_il 2), (12, tw_ic (16)), (14, tw_cge 33), (17, tw_al 0), (18, tw_gr 20 21), (21, tw_il 1), (22, tw_ga), (23, tw_gr 0 9), (26, tw_il 2), (27, tw_cv 1 9 fn_Sh_describe), (30, tw_jmp 34), (33, tw_ic (-1)), (34, tw_ri)]
set_option maxRecDepth 100000 in
set_option maxHeartbeats 4000000 in
theorem ok_TH_shadow {p : Program} {l : Launch} {e : Env} {s : State} {m : MethodId} {args : Array Value} {below : List Frame} {meth : Method} {c : Code} {E : tw_E} {D : va_G} {ρ : tw_R} (hC : tw_Cx p s m args meth c b_TH_shadow 3 (some .int) "TwinHost" E D) : tw_Ok p l e (tw_rmd 1) s m args below meth c 0 0 (MQ below (tw_Qc E D ρ) args s 0 0 (tw_A E)) 3 E D ρ pr_TH_shadow :=
  ⟨ts_iload_n hC d_TH_shadow_0 rfl,
   ts_calls hC con_TH_isGuest wd_183 wd_24 (by decide +kernel) ⟨by decide, by decide⟩ ⟨Nat.zero_le _, Nat.zero_le _⟩ wd_181 wd_182 d_TH_shadow_1,
   ts_ifeq hC d_TH_shadow_4 (by decide),
   ts_iload_n hC d_TH_shadow_7 rfl,
   ts_iflt hC d_TH_shadow_8 (by decide),
   ts_iload_n hC d_TH_shadow_11 rfl,
   ts_bipush hC d_TH_shadow_12 (by decide),
   ts_cge hC d_TH_shadow_14 (by decide),
   ts_aload_n hC d_TH_shadow_17 rfl,
   ts_gr (j := 0) (C := R_TH) (T := T_TH) hC rfl rfl rfl (by decide) u_TH wd_164 rfl d_TH_shadow_18,
   ts_iload_n hC d_TH_shadow_21 rfl,
   ts_aaload hC d_TH_shadow_22,
   ts_gr (j := 4) (C := R_Gu) (T := T_Gu) hC rfl rfl rfl (by decide) u_Gu wd_141 rfl d_TH_shadow_23,
   ts_iload_n hC d_TH_shadow_26 rfl,
   ts_callv (C := R_Sh) (T := T_Sh) hC con_Sh_describe wd_436 wd_28 (by decide +kernel) ⟨by decide, by decide⟩ ⟨Nat.zero_le _, Nat.zero_le _⟩ wd_433 rfl rfl wd_434 wd_435 d_TH_shadow_27,
   ts_goto hC d_TH_shadow_30 (by decide),
   ts_iconst hC d_TH_shadow_33 (by decide),
   ts_iret hC rfl d_TH_shadow_34,
   trivial⟩
noncomputable def fn_TH_shadow : tw_Fn := tw_fl 3 3 20 pr_TH_shadow
theorem con_TH_shadow : tw_Con y_TH_shadow b_TH_shadow 3 (some .int) 1 fn_TH_shadow := tw_met (by decide +kernel) (tw_fl_len (n := 3) (by decide)) (fun p l e s m args below meth c E D vs σ ρ hC h => tw_sound (ok_TH_shadow hC) 20 pr_TH_shadow (ok_TH_shadow hC) _ _ _ (tw_fl_get h))

-- TwinHost.user(I)Z: 13 instructions, depth 1, calls TH_isGuest
theorem d_TH_user_0 : decode b_TH_user 0 = .ok (.iload_n 1, 1) := by decide +kernel
theorem d_TH_user_1 : decode b_TH_user 1 = .ok (.invokestatic 20, 3) := by decide +kernel
theorem d_TH_user_4 : decode b_TH_user 4 = .ok (.ifCond .eq 19, 3) := by decide +kernel
theorem d_TH_user_7 : decode b_TH_user 7 = .ok (.aload_n 0, 1) := by decide +kernel
theorem d_TH_user_8 : decode b_TH_user 8 = .ok (.getfield 16, 3) := by decide +kernel
theorem d_TH_user_11 : decode b_TH_user 11 = .ok (.iload_n 1, 1) := by decide +kernel
theorem d_TH_user_12 : decode b_TH_user 12 = .ok (.aaload, 1) := by decide +kernel
theorem d_TH_user_13 : decode b_TH_user 13 = .ok (.getfield 67, 3) := by decide +kernel
theorem d_TH_user_16 : decode b_TH_user 16 = .ok (.ifCond .eq 7, 3) := by decide +kernel
theorem d_TH_user_19 : decode b_TH_user 19 = .ok (.iconst 1, 1) := by decide +kernel
theorem d_TH_user_20 : decode b_TH_user 20 = .ok (.goto 4, 3) := by decide +kernel
theorem d_TH_user_23 : decode b_TH_user 23 = .ok (.iconst 0, 1) := by decide +kernel
theorem d_TH_user_24 : decode b_TH_user 24 = .ok (.ireturn, 1) := by decide +kernel
noncomputable def pr_TH_user : List (Nat × tw_Op) := [(0, tw_il 1), (1, tw_cs 1 fn_TH_isGuest), (4, tw_ifeq 23), (7, tw_al 0), (8, tw_gr 20 21), (11, tw_il 1), (12, tw_ga), (13, tw_gi 0 7), (16, tw_ifeq 23), (19, tw_ic 1), (20, tw_jmp 24), (23, tw_ic 0), (24, tw_rz)]
set_option maxRecDepth 100000 in
set_option maxHeartbeats 4000000 in
theorem ok_TH_user {p : Program} {l : Launch} {e : Env} {s : State} {m : MethodId} {args : Array Value} {below : List Frame} {meth : Method} {c : Code} {E : tw_E} {D : va_G} {ρ : tw_R} (hC : tw_Cx p s m args meth c b_TH_user 2 (some .boolean) "TwinHost" E D) : tw_Ok p l e (tw_rmd 1) s m args below meth c 0 0 (MQ below (tw_Qc E D ρ) args s 0 0 (tw_A E)) 2 E D ρ pr_TH_user :=
  ⟨ts_iload_n hC d_TH_user_0 rfl,
   ts_calls hC con_TH_isGuest wd_183 wd_24 (by decide +kernel) ⟨by decide, by decide⟩ ⟨Nat.zero_le _, Nat.zero_le _⟩ wd_181 wd_182 d_TH_user_1,
   ts_ifeq hC d_TH_user_4 (by decide),
   ts_aload_n hC d_TH_user_7 rfl,
   ts_gr (j := 0) (C := R_TH) (T := T_TH) hC rfl rfl rfl (by decide) u_TH wd_164 rfl d_TH_user_8,
   ts_iload_n hC d_TH_user_11 rfl,
   ts_aaload hC d_TH_user_12,
   ts_gi (j := 7) (C := R_Gu) (T := T_Gu) hC rfl rfl rfl (by decide) u_Gu wd_146 rfl d_TH_user_13,
   ts_ifeq hC d_TH_user_16 (by decide),
   ts_iconst hC d_TH_user_19 (by decide),
   ts_goto hC d_TH_user_20 (by decide),
   ts_iconst hC d_TH_user_23 (by decide),
   ts_zret hC rfl d_TH_user_24,
   trivial⟩
noncomputable def fn_TH_user : tw_Fn := tw_fl 2 2 15 pr_TH_user
theorem con_TH_user : tw_Con y_TH_user b_TH_user 2 (some .boolean) 1 fn_TH_user := tw_met (by decide +kernel) (tw_fl_len (n := 2) (by decide)) (fun p l e s m args below meth c E D vs σ ρ hC h => tw_sound (ok_TH_user hC) 15 pr_TH_user (ok_TH_user hC) _ _ _ (tw_fl_get h))

-- TwinHost$Walk.search([IIILTwinHost$Access;)I: 96 instructions, depth 1, calls En_isBroken En_pageNumber En_isLeaf
theorem d_Wa_search_0 : decode b_Wa_search 0 = .ok (.iload_n 2, 1) := by decide +kernel
theorem d_Wa_search_1 : decode b_Wa_search 1 = .ok (.bipush 8, 2) := by decide +kernel
theorem d_Wa_search_3 : decode b_Wa_search 3 = .ok (.if_icmp .lt 9, 3) := by decide +kernel
theorem d_Wa_search_6 : decode b_Wa_search 6 = .ok (.aload 4, 2) := by decide +kernel
theorem d_Wa_search_8 : decode b_Wa_search 8 = .ok (.getfield 9, 3) := by decide +kernel
theorem d_Wa_search_11 : decode b_Wa_search 11 = .ok (.ireturn, 1) := by decide +kernel
theorem d_Wa_search_12 : decode b_Wa_search 12 = .ok (.aload_n 0, 1) := by decide +kernel
theorem d_Wa_search_13 : decode b_Wa_search 13 = .ok (.iload_n 2, 1) := by decide +kernel
theorem d_Wa_search_14 : decode b_Wa_search 14 = .ok (.iconst 4, 1) := by decide +kernel
theorem d_Wa_search_15 : decode b_Wa_search 15 = .ok (.ishl, 1) := by decide +kernel
theorem d_Wa_search_16 : decode b_Wa_search 16 = .ok (.iload_n 3, 1) := by decide +kernel
theorem d_Wa_search_17 : decode b_Wa_search 17 = .ok (.bipush 6, 2) := by decide +kernel
theorem d_Wa_search_19 : decode b_Wa_search 19 = .ok (.ishr, 1) := by decide +kernel
theorem d_Wa_search_20 : decode b_Wa_search 20 = .ok (.iadd, 1) := by decide +kernel
theorem d_Wa_search_21 : decode b_Wa_search 21 = .ok (.putfield 15, 3) := by decide +kernel
theorem d_Wa_search_24 : decode b_Wa_search 24 = .ok (.aload_n 0, 1) := by decide +kernel
theorem d_Wa_search_25 : decode b_Wa_search 25 = .ok (.iconst (-1), 1) := by decide +kernel
theorem d_Wa_search_26 : decode b_Wa_search 26 = .ok (.putfield 22, 3) := by decide +kernel
theorem d_Wa_search_29 : decode b_Wa_search 29 = .ok (.aload_n 0, 1) := by decide +kernel
theorem d_Wa_search_30 : decode b_Wa_search 30 = .ok (.aload_n 0, 1) := by decide +kernel
theorem d_Wa_search_31 : decode b_Wa_search 31 = .ok (.getfield 15, 3) := by decide +kernel
theorem d_Wa_search_34 : decode b_Wa_search 34 = .ok (.putfield 25, 3) := by decide +kernel
theorem d_Wa_search_37 : decode b_Wa_search 37 = .ok (.aload_n 1, 1) := by decide +kernel
theorem d_Wa_search_38 : decode b_Wa_search 38 = .ok (.aload_n 0, 1) := by decide +kernel
theorem d_Wa_search_39 : decode b_Wa_search 39 = .ok (.getfield 15, 3) := by decide +kernel
theorem d_Wa_search_42 : decode b_Wa_search 42 = .ok (.iaload, 1) := by decide +kernel
theorem d_Wa_search_43 : decode b_Wa_search 43 = .ok (.istore 5, 2) := by decide +kernel
theorem d_Wa_search_45 : decode b_Wa_search 45 = .ok (.iload 5, 2) := by decide +kernel
theorem d_Wa_search_47 : decode b_Wa_search 47 = .ok (.invokestatic 28, 3) := by decide +kernel
theorem d_Wa_search_50 : decode b_Wa_search 50 = .ok (.ifCond .eq 9, 3) := by decide +kernel
theorem d_Wa_search_53 : decode b_Wa_search 53 = .ok (.aload 4, 2) := by decide +kernel
theorem d_Wa_search_55 : decode b_Wa_search 55 = .ok (.getfield 34, 3) := by decide +kernel
theorem d_Wa_search_58 : decode b_Wa_search 58 = .ok (.ireturn, 1) := by decide +kernel
theorem d_Wa_search_59 : decode b_Wa_search 59 = .ok (.iload 5, 2) := by decide +kernel
theorem d_Wa_search_61 : decode b_Wa_search 61 = .ok (.invokestatic 37, 3) := by decide +kernel
theorem d_Wa_search_64 : decode b_Wa_search 64 = .ok (.istore 6, 2) := by decide +kernel
theorem d_Wa_search_66 : decode b_Wa_search 66 = .ok (.iload_n 3, 1) := by decide +kernel
theorem d_Wa_search_67 : decode b_Wa_search 67 = .ok (.iconst 4, 1) := by decide +kernel
theorem d_Wa_search_68 : decode b_Wa_search 68 = .ok (.ishr, 1) := by decide +kernel
theorem d_Wa_search_69 : decode b_Wa_search 69 = .ok (.iconst 3, 1) := by decide +kernel
theorem d_Wa_search_70 : decode b_Wa_search 70 = .ok (.iand, 1) := by decide +kernel
theorem d_Wa_search_71 : decode b_Wa_search 71 = .ok (.istore 7, 2) := by decide +kernel
theorem d_Wa_search_73 : decode b_Wa_search 73 = .ok (.iload 5, 2) := by decide +kernel
theorem d_Wa_search_75 : decode b_Wa_search 75 = .ok (.invokestatic 41, 3) := by decide +kernel
theorem d_Wa_search_78 : decode b_Wa_search 78 = .ok (.ifCond .eq 29, 3) := by decide +kernel
theorem d_Wa_search_81 : decode b_Wa_search 81 = .ok (.aload_n 0, 1) := by decide +kernel
theorem d_Wa_search_82 : decode b_Wa_search 82 = .ok (.iload 6, 2) := by decide +kernel
theorem d_Wa_search_84 : decode b_Wa_search 84 = .ok (.iload 7, 2) := by decide +kernel
theorem d_Wa_search_86 : decode b_Wa_search 86 = .ok (.iadd, 1) := by decide +kernel
theorem d_Wa_search_87 : decode b_Wa_search 87 = .ok (.putfield 44, 3) := by decide +kernel
theorem d_Wa_search_90 : decode b_Wa_search 90 = .ok (.iload 6, 2) := by decide +kernel
theorem d_Wa_search_92 : decode b_Wa_search 92 = .ok (.iconst 4, 1) := by decide +kernel
theorem d_Wa_search_93 : decode b_Wa_search 93 = .ok (.irem, 1) := by decide +kernel
theorem d_Wa_search_94 : decode b_Wa_search 94 = .ok (.ifCond .ne 7, 3) := by decide +kernel
theorem d_Wa_search_97 : decode b_Wa_search 97 = .ok (.iconst 0, 1) := by decide +kernel
theorem d_Wa_search_98 : decode b_Wa_search 98 = .ok (.goto 8, 3) := by decide +kernel
theorem d_Wa_search_101 : decode b_Wa_search 101 = .ok (.aload 4, 2) := by decide +kernel
theorem d_Wa_search_103 : decode b_Wa_search 103 = .ok (.getfield 34, 3) := by decide +kernel
theorem d_Wa_search_106 : decode b_Wa_search 106 = .ok (.ireturn, 1) := by decide +kernel
theorem d_Wa_search_107 : decode b_Wa_search 107 = .ok (.iload 6, 2) := by decide +kernel
theorem d_Wa_search_109 : decode b_Wa_search 109 = .ok (.bipush 8, 2) := by decide +kernel
theorem d_Wa_search_111 : decode b_Wa_search 111 = .ok (.if_icmp .lt 9, 3) := by decide +kernel
theorem d_Wa_search_114 : decode b_Wa_search 114 = .ok (.aload 4, 2) := by decide +kernel
theorem d_Wa_search_116 : decode b_Wa_search 116 = .ok (.getfield 9, 3) := by decide +kernel
theorem d_Wa_search_119 : decode b_Wa_search 119 = .ok (.ireturn, 1) := by decide +kernel
theorem d_Wa_search_120 : decode b_Wa_search 120 = .ok (.aload_n 0, 1) := by decide +kernel
theorem d_Wa_search_121 : decode b_Wa_search 121 = .ok (.iload 6, 2) := by decide +kernel
theorem d_Wa_search_123 : decode b_Wa_search 123 = .ok (.iconst 4, 1) := by decide +kernel
theorem d_Wa_search_124 : decode b_Wa_search 124 = .ok (.ishl, 1) := by decide +kernel
theorem d_Wa_search_125 : decode b_Wa_search 125 = .ok (.iload 7, 2) := by decide +kernel
theorem d_Wa_search_127 : decode b_Wa_search 127 = .ok (.iadd, 1) := by decide +kernel
theorem d_Wa_search_128 : decode b_Wa_search 128 = .ok (.putfield 22, 3) := by decide +kernel
theorem d_Wa_search_131 : decode b_Wa_search 131 = .ok (.aload_n 0, 1) := by decide +kernel
theorem d_Wa_search_132 : decode b_Wa_search 132 = .ok (.aload_n 0, 1) := by decide +kernel
theorem d_Wa_search_133 : decode b_Wa_search 133 = .ok (.getfield 22, 3) := by decide +kernel
theorem d_Wa_search_136 : decode b_Wa_search 136 = .ok (.putfield 25, 3) := by decide +kernel
theorem d_Wa_search_139 : decode b_Wa_search 139 = .ok (.aload_n 1, 1) := by decide +kernel
theorem d_Wa_search_140 : decode b_Wa_search 140 = .ok (.aload_n 0, 1) := by decide +kernel
theorem d_Wa_search_141 : decode b_Wa_search 141 = .ok (.getfield 22, 3) := by decide +kernel
theorem d_Wa_search_144 : decode b_Wa_search 144 = .ok (.iaload, 1) := by decide +kernel
theorem d_Wa_search_145 : decode b_Wa_search 145 = .ok (.istore 8, 2) := by decide +kernel
theorem d_Wa_search_147 : decode b_Wa_search 147 = .ok (.aload_n 0, 1) := by decide +kernel
theorem d_Wa_search_148 : decode b_Wa_search 148 = .ok (.iload 8, 2) := by decide +kernel
theorem d_Wa_search_150 : decode b_Wa_search 150 = .ok (.invokestatic 37, 3) := by decide +kernel
theorem d_Wa_search_153 : decode b_Wa_search 153 = .ok (.putfield 44, 3) := by decide +kernel
theorem d_Wa_search_156 : decode b_Wa_search 156 = .ok (.iload 8, 2) := by decide +kernel
theorem d_Wa_search_158 : decode b_Wa_search 158 = .ok (.invokestatic 28, 3) := by decide +kernel
theorem d_Wa_search_161 : decode b_Wa_search 161 = .ok (.ifCond .ne 11, 3) := by decide +kernel
theorem d_Wa_search_164 : decode b_Wa_search 164 = .ok (.iload 8, 2) := by decide +kernel
theorem d_Wa_search_166 : decode b_Wa_search 166 = .ok (.invokestatic 41, 3) := by decide +kernel
theorem d_Wa_search_169 : decode b_Wa_search 169 = .ok (.ifCond .ne 11, 3) := by decide +kernel
theorem d_Wa_search_172 : decode b_Wa_search 172 = .ok (.aload 4, 2) := by decide +kernel
theorem d_Wa_search_174 : decode b_Wa_search 174 = .ok (.getfield 34, 3) := by decide +kernel
theorem d_Wa_search_177 : decode b_Wa_search 177 = .ok (.goto 4, 3) := by decide +kernel
theorem d_Wa_search_180 : decode b_Wa_search 180 = .ok (.iconst 0, 1) := by decide +kernel
theorem d_Wa_search_181 : decode b_Wa_search 181 = .ok (.ireturn, 1) := by decide +kernel
noncomputable def pr_Wa_search : List (Nat × tw_Op) := [(0, tw_il 2), (1, tw_ic (8)), (3, tw_clt 12), (6, tw_al 4), (8, tw_ge 1), (11, tw_ri), (12, tw_al 0), (13, tw_il 2), (14, tw_ic 4), (15, tw_bin (fun x y => x <<< (y &&& 31))), (16, tw_il 3), (17, tw_ic (6)), (19, tw_bin (fun x y => x >>> (y &&& 31))), (20, tw_bin (· + ·)), (21, tw_pi 14 0), (24, tw_al 0), (25, tw_ic (-1)), (26, tw_pi 14 1), (29, tw_al 0), (30, tw_al 0), (31, tw_gi 14 0), (34, tw_pi 14 2), (37, tw_al 1), (38, tw_al 0), (39, tw_gi 14 0), (42, tw_ia), (43, tw_is 5), (45, tw_il 5), (47, tw_cs 1 fn_En_isBroken), (50, tw_ifeq 59), (53, tw_al 4), (55, tw_ge 2), (58, tw_ri), (59, tw_il 5), (61, tw_cs 1 fn_En_pageNumber), (64, tw_is 6), (66, tw_il 3), (67, tw_ic 4), (68, tw_bin (fun x y => x >>> (y &&& 31))), (69, tw_ic 3), (70, tw_bin (· &&& ·)), (71, tw_is 7), (73, tw_il 5), (75, tw_cs 1 fn_En_isLeaf), (78, tw_ifeq 107), (81, tw_al 0), (82, tw_il 6), (84, tw_il 7), (86, tw_bin (· + ·)), (87, tw_pi 14 3), (90, tw_il 6), (92, tw_ic 4), (93, tw_rem), (94, tw_ifne 101), (97, tw_ic 0), (98, tw_jmp 106), (101, tw_al 4), (103, tw_ge 2), (106, tw_ri), (107, tw_il 6), (109, tw_ic (8)), (111, tw_clt 120), (114, tw_al 4), (116, tw_ge 1), (119, tw_ri), (120, tw_al 0), (121, tw_il 6), (123, tw_ic 4), (124, tw_bin (fun x y => x <<< (y &&& 31))), (125, tw_il 7), (127, tw_bin (· + ·)), (128, tw_pi 14 1), (131, tw_al 0), (132, tw_al 0), (133, tw_gi 14 1), (136, tw_pi 14 2), (139, tw_al 1), (140, tw_al 0), (141, tw_gi 14 1), (144, tw_ia), (145, tw_is 8), (147, tw_al 0), (148, tw_il 8), (150, tw_cs 1 fn_En_pageNumber), (153, tw_pi 14 3), (156, tw_il 8), (158, tw_cs 1 fn_En_isBroken), (161, tw_ifne 172), (164, tw_il 8), (166, tw_cs 1 fn_En_isLeaf), (169, tw_ifne 180), (172, tw_al 4), (174, tw_ge 2), (177, tw_jmp 181), (180, tw_ic 0), (181, tw_ri)]
set_option maxRecDepth 100000 in
set_option maxHeartbeats 4000000 in
theorem ok_Wa_search {p : Program} {l : Launch} {e : Env} {s : State} {m : MethodId} {args : Array Value} {below : List Frame} {meth : Method} {c : Code} {E : tw_E} {D : va_G} {ρ : tw_R} (hC : tw_Cx p s m args meth c b_Wa_search 9 (some .int) "TwinHost$Walk" E D) : tw_Ok p l e (tw_rmd 1) s m args below meth c 0 0 (MQ below (tw_Qc E D ρ) args s 0 0 (tw_A E)) 9 E D ρ pr_Wa_search :=
  ⟨ts_iload_n hC d_Wa_search_0 rfl,
   ts_bipush hC d_Wa_search_1 (by decide),
   ts_clt hC d_Wa_search_3 (by decide),
   ts_aload hC d_Wa_search_6,
   ts_ge (q0 := ("TwinHost$Access", "outside", "I", [1, 5, 7])) hC (by decide) (by decide) rfl wd_684 d_Wa_search_8,
   ts_iret hC rfl d_Wa_search_11,
   ts_aload_n hC d_Wa_search_12 rfl,
   ts_iload_n hC d_Wa_search_13 rfl,
   ts_iconst hC d_Wa_search_14 (by decide),
   ts_ishl hC d_Wa_search_15,
   ts_iload_n hC d_Wa_search_16 rfl,
   ts_bipush hC d_Wa_search_17 (by decide),
   ts_ishr hC d_Wa_search_19,
   ts_iadd hC d_Wa_search_20,
   ts_pi (j := 0) (C := R_Wa) (T := T_Wa) hC rfl rfl rfl (by decide) u_Wa wd_114 rfl t_Wa_ok n_Wa rfl (by decide +kernel) d_Wa_search_21,
   ts_aload_n hC d_Wa_search_24 rfl,
   ts_iconst hC d_Wa_search_25 (by decide),
   ts_pi (j := 1) (C := R_Wa) (T := T_Wa) hC rfl rfl rfl (by decide) u_Wa wd_116 rfl t_Wa_ok n_Wa rfl (by decide +kernel) d_Wa_search_26,
   ts_aload_n hC d_Wa_search_29 rfl,
   ts_aload_n hC d_Wa_search_30 rfl,
   ts_gi (j := 0) (C := R_Wa) (T := T_Wa) hC rfl rfl rfl (by decide) u_Wa wd_114 rfl d_Wa_search_31,
   ts_pi (j := 2) (C := R_Wa) (T := T_Wa) hC rfl rfl rfl (by decide) u_Wa wd_118 rfl t_Wa_ok n_Wa rfl (by decide +kernel) d_Wa_search_34,
   ts_aload_n hC d_Wa_search_37 rfl,
   ts_aload_n hC d_Wa_search_38 rfl,
   ts_gi (j := 0) (C := R_Wa) (T := T_Wa) hC rfl rfl rfl (by decide) u_Wa wd_114 rfl d_Wa_search_39,
   ts_iaload hC d_Wa_search_42,
   ts_istore hC d_Wa_search_43 (by decide),
   ts_iload hC d_Wa_search_45,
   ts_calls hC con_En_isBroken wd_333 wd_34 (by decide +kernel) ⟨by decide, by decide⟩ ⟨Nat.zero_le _, Nat.zero_le _⟩ wd_331 wd_332 d_Wa_search_47,
   ts_ifeq hC d_Wa_search_50 (by decide),
   ts_aload hC d_Wa_search_53,
   ts_ge (q0 := ("TwinHost$Access", "pageFault", "I", [12, 13, 15])) hC (by decide) (by decide) rfl wd_685 d_Wa_search_55,
   ts_iret hC rfl d_Wa_search_58,
   ts_iload hC d_Wa_search_59,
   ts_calls hC con_En_pageNumber wd_336 wd_34 (by decide +kernel) ⟨by decide, by decide⟩ ⟨Nat.zero_le _, Nat.zero_le _⟩ wd_334 wd_335 d_Wa_search_61,
   ts_istore hC d_Wa_search_64 (by decide),
   ts_iload_n hC d_Wa_search_66 rfl,
   ts_iconst hC d_Wa_search_67 (by decide),
   ts_ishr hC d_Wa_search_68,
   ts_iconst hC d_Wa_search_69 (by decide),
   ts_iand hC d_Wa_search_70,
   ts_istore hC d_Wa_search_71 (by decide),
   ts_iload hC d_Wa_search_73,
   ts_calls hC con_En_isLeaf wd_339 wd_34 (by decide +kernel) ⟨by decide, by decide⟩ ⟨Nat.zero_le _, Nat.zero_le _⟩ wd_337 wd_338 d_Wa_search_75,
   ts_ifeq hC d_Wa_search_78 (by decide),
   ts_aload_n hC d_Wa_search_81 rfl,
   ts_iload hC d_Wa_search_82,
   ts_iload hC d_Wa_search_84,
   ts_iadd hC d_Wa_search_86,
   ts_pi (j := 3) (C := R_Wa) (T := T_Wa) hC rfl rfl rfl (by decide) u_Wa wd_120 rfl t_Wa_ok n_Wa rfl (by decide +kernel) d_Wa_search_87,
   ts_iload hC d_Wa_search_90,
   ts_iconst hC d_Wa_search_92 (by decide),
   ts_irem hC d_Wa_search_93,
   ts_ifne hC d_Wa_search_94 (by decide),
   ts_iconst hC d_Wa_search_97 (by decide),
   ts_goto hC d_Wa_search_98 (by decide),
   ts_aload hC d_Wa_search_101,
   ts_ge (q0 := ("TwinHost$Access", "pageFault", "I", [12, 13, 15])) hC (by decide) (by decide) rfl wd_685 d_Wa_search_103,
   ts_iret hC rfl d_Wa_search_106,
   ts_iload hC d_Wa_search_107,
   ts_bipush hC d_Wa_search_109 (by decide),
   ts_clt hC d_Wa_search_111 (by decide),
   ts_aload hC d_Wa_search_114,
   ts_ge (q0 := ("TwinHost$Access", "outside", "I", [1, 5, 7])) hC (by decide) (by decide) rfl wd_684 d_Wa_search_116,
   ts_iret hC rfl d_Wa_search_119,
   ts_aload_n hC d_Wa_search_120 rfl,
   ts_iload hC d_Wa_search_121,
   ts_iconst hC d_Wa_search_123 (by decide),
   ts_ishl hC d_Wa_search_124,
   ts_iload hC d_Wa_search_125,
   ts_iadd hC d_Wa_search_127,
   ts_pi (j := 1) (C := R_Wa) (T := T_Wa) hC rfl rfl rfl (by decide) u_Wa wd_116 rfl t_Wa_ok n_Wa rfl (by decide +kernel) d_Wa_search_128,
   ts_aload_n hC d_Wa_search_131 rfl,
   ts_aload_n hC d_Wa_search_132 rfl,
   ts_gi (j := 1) (C := R_Wa) (T := T_Wa) hC rfl rfl rfl (by decide) u_Wa wd_116 rfl d_Wa_search_133,
   ts_pi (j := 2) (C := R_Wa) (T := T_Wa) hC rfl rfl rfl (by decide) u_Wa wd_118 rfl t_Wa_ok n_Wa rfl (by decide +kernel) d_Wa_search_136,
   ts_aload_n hC d_Wa_search_139 rfl,
   ts_aload_n hC d_Wa_search_140 rfl,
   ts_gi (j := 1) (C := R_Wa) (T := T_Wa) hC rfl rfl rfl (by decide) u_Wa wd_116 rfl d_Wa_search_141,
   ts_iaload hC d_Wa_search_144,
   ts_istore hC d_Wa_search_145 (by decide),
   ts_aload_n hC d_Wa_search_147 rfl,
   ts_iload hC d_Wa_search_148,
   ts_calls hC con_En_pageNumber wd_336 wd_34 (by decide +kernel) ⟨by decide, by decide⟩ ⟨Nat.zero_le _, Nat.zero_le _⟩ wd_334 wd_335 d_Wa_search_150,
   ts_pi (j := 3) (C := R_Wa) (T := T_Wa) hC rfl rfl rfl (by decide) u_Wa wd_120 rfl t_Wa_ok n_Wa rfl (by decide +kernel) d_Wa_search_153,
   ts_iload hC d_Wa_search_156,
   ts_calls hC con_En_isBroken wd_333 wd_34 (by decide +kernel) ⟨by decide, by decide⟩ ⟨Nat.zero_le _, Nat.zero_le _⟩ wd_331 wd_332 d_Wa_search_158,
   ts_ifne hC d_Wa_search_161 (by decide),
   ts_iload hC d_Wa_search_164,
   ts_calls hC con_En_isLeaf wd_339 wd_34 (by decide +kernel) ⟨by decide, by decide⟩ ⟨Nat.zero_le _, Nat.zero_le _⟩ wd_337 wd_338 d_Wa_search_166,
   ts_ifne hC d_Wa_search_169 (by decide),
   ts_aload hC d_Wa_search_172,
   ts_ge (q0 := ("TwinHost$Access", "pageFault", "I", [12, 13, 15])) hC (by decide) (by decide) rfl wd_685 d_Wa_search_174,
   ts_goto hC d_Wa_search_177 (by decide),
   ts_iconst hC d_Wa_search_180 (by decide),
   ts_iret hC rfl d_Wa_search_181,
   trivial⟩
noncomputable def fn_Wa_search : tw_Fn := tw_fl 5 9 98 pr_Wa_search
theorem con_Wa_search : tw_Con y_Wa_search b_Wa_search 9 (some .int) 1 fn_Wa_search := tw_met (by decide +kernel) (tw_fl_len (n := 5) (by decide)) (fun p l e s m args below meth c E D vs σ ρ hC h => tw_sound (ok_Wa_search hC) 98 pr_Wa_search (ok_Wa_search hC) _ _ _ (tw_fl_get h))
