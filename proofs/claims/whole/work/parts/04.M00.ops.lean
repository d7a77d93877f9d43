-- TwinHostModel.add(III)V: 19 instructions, depth 0, calls 
theorem d_Mo_add_0 : decode b_Mo_add 0 = .ok (.aload_n 0, 1) := by decide +kernel
theorem d_Mo_add_1 : decode b_Mo_add 1 = .ok (.getfield 35, 3) := by decide +kernel
theorem d_Mo_add_4 : decode b_Mo_add 4 = .ok (.bipush 9, 2) := by decide +kernel
theorem d_Mo_add_6 : decode b_Mo_add 6 = .ok (.iload_n 1, 1) := by decide +kernel
theorem d_Mo_add_7 : decode b_Mo_add 7 = .ok (.imul, 1) := by decide +kernel
theorem d_Mo_add_8 : decode b_Mo_add 8 = .ok (.iload_n 2, 1) := by decide +kernel
theorem d_Mo_add_9 : decode b_Mo_add 9 = .ok (.iadd, 1) := by decide +kernel
theorem d_Mo_add_10 : decode b_Mo_add 10 = .ok (.aload_n 0, 1) := by decide +kernel
theorem d_Mo_add_11 : decode b_Mo_add 11 = .ok (.getfield 35, 3) := by decide +kernel
theorem d_Mo_add_14 : decode b_Mo_add 14 = .ok (.bipush 9, 2) := by decide +kernel
theorem d_Mo_add_16 : decode b_Mo_add 16 = .ok (.iload_n 1, 1) := by decide +kernel
theorem d_Mo_add_17 : decode b_Mo_add 17 = .ok (.imul, 1) := by decide +kernel
theorem d_Mo_add_18 : decode b_Mo_add 18 = .ok (.iload_n 2, 1) := by decide +kernel
theorem d_Mo_add_19 : decode b_Mo_add 19 = .ok (.iadd, 1) := by decide +kernel
theorem d_Mo_add_20 : decode b_Mo_add 20 = .ok (.iaload, 1) := by decide +kernel
theorem d_Mo_add_21 : decode b_Mo_add 21 = .ok (.iload_n 3, 1) := by decide +kernel
theorem d_Mo_add_22 : decode b_Mo_add 22 = .ok (.iadd, 1) := by decide +kernel
theorem d_Mo_add_23 : decode b_Mo_add 23 = .ok (.iastore, 1) := by decide +kernel
theorem d_Mo_add_24 : decode b_Mo_add 24 = .ok (.return_, 1) := by decide +kernel
noncomputable def pr_Mo_add : List (Nat × tw_Op) := [(0, tw_al 0), (1, tw_gr 22 31), (4, tw_ic (9)), (6, tw_il 1), (7, tw_bin (· * ·)), (8, tw_il 2), (9, tw_bin (· + ·)), (10, tw_al 0), (11, tw_gr 22 31), (14, tw_ic (9)), (16, tw_il 1), (17, tw_bin (· * ·)), (18, tw_il 2), (19, tw_bin (· + ·)), (20, tw_ia), (21, tw_il 3), (22, tw_bin (· + ·)), (23, tw_ias 22 37), (24, tw_r0)]
set_option maxRecDepth 100000 in
set_option maxHeartbeats 4000000 in
theorem ok_Mo_add {p : Program} {l : Launch} {e : Env} {s : State} {m : MethodId} {args : Array Value} {below : List Frame} {meth : Method} {c : Code} {E : tw_E} {D : va_G} {ρ : tw_R} (hC : tw_Cx p s m args meth c b_Mo_add 4 none "TwinHostModel" E D) : tw_Ok p l e (tw_rmd 0) s m args below meth c 0 0 (MQ below (tw_Qc E D ρ) args s 0 0 (tw_A E)) 4 E D ρ pr_Mo_add :=
  ⟨ts_aload_n hC d_Mo_add_0 rfl,
   ts_gr (j := 11) (C := R_Mo) (T := T_Mo) hC rfl rfl rfl (by decide) u_Mo wd_467 rfl d_Mo_add_1,
   ts_bipush hC d_Mo_add_4 (by decide),
   ts_iload_n hC d_Mo_add_6 rfl,
   ts_imul hC d_Mo_add_7,
   ts_iload_n hC d_Mo_add_8 rfl,
   ts_iadd hC d_Mo_add_9,
   ts_aload_n hC d_Mo_add_10 rfl,
   ts_gr (j := 11) (C := R_Mo) (T := T_Mo) hC rfl rfl rfl (by decide) u_Mo wd_467 rfl d_Mo_add_11,
   ts_bipush hC d_Mo_add_14 (by decide),
   ts_iload_n hC d_Mo_add_16 rfl,
   ts_imul hC d_Mo_add_17,
   ts_iload_n hC d_Mo_add_18 rfl,
   ts_iadd hC d_Mo_add_19,
   ts_iaload hC d_Mo_add_20,
   ts_iload_n hC d_Mo_add_21 rfl,
   ts_iadd hC d_Mo_add_22,
   ts_iastore hC d_Mo_add_23,
   ts_vret hC rfl d_Mo_add_24,
   trivial⟩
noncomputable def fn_Mo_add : tw_Fn := tw_fl 4 4 21 pr_Mo_add
theorem con_Mo_add : tw_Con y_Mo_add b_Mo_add 4 none 0 fn_Mo_add := tw_met (by decide +kernel) (tw_fl_len (n := 4) (by decide)) (fun p l e s m args below meth c E D vs σ ρ hC h => tw_sound (ok_Mo_add hC) 21 pr_Mo_add (ok_Mo_add hC) _ _ _ (tw_fl_get h))

-- TwinHostModel.allowed(III)Z: 54 instructions, depth 0, calls 
theorem d_Mo_allowed_0 : decode b_Mo_allowed 0 = .ok (.iload_n 3, 1) := by decide +kernel
theorem d_Mo_allowed_1 : decode b_Mo_allowed 1 = .ok (.ifCond .ne 8, 3) := by decide +kernel
theorem d_Mo_allowed_4 : decode b_Mo_allowed 4 = .ok (.bipush 8, 2) := by decide +kernel
theorem d_Mo_allowed_6 : decode b_Mo_allowed 6 = .ok (.goto 13, 3) := by decide +kernel
theorem d_Mo_allowed_9 : decode b_Mo_allowed 9 = .ok (.iload_n 3, 1) := by decide +kernel
theorem d_Mo_allowed_10 : decode b_Mo_allowed 10 = .ok (.iconst 1, 1) := by decide +kernel
theorem d_Mo_allowed_11 : decode b_Mo_allowed 11 = .ok (.if_icmp .ne 7, 3) := by decide +kernel
theorem d_Mo_allowed_14 : decode b_Mo_allowed 14 = .ok (.iconst 2, 1) := by decide +kernel
theorem d_Mo_allowed_15 : decode b_Mo_allowed 15 = .ok (.goto 4, 3) := by decide +kernel
theorem d_Mo_allowed_18 : decode b_Mo_allowed 18 = .ok (.iconst 4, 1) := by decide +kernel
theorem d_Mo_allowed_19 : decode b_Mo_allowed 19 = .ok (.istore 4, 2) := by decide +kernel
theorem d_Mo_allowed_21 : decode b_Mo_allowed 21 = .ok (.iload_n 2, 1) := by decide +kernel
theorem d_Mo_allowed_22 : decode b_Mo_allowed 22 = .ok (.bipush 16, 2) := by decide +kernel
theorem d_Mo_allowed_24 : decode b_Mo_allowed 24 = .ok (.iand, 1) := by decide +kernel
theorem d_Mo_allowed_25 : decode b_Mo_allowed 25 = .ok (.ifCond .eq 7, 3) := by decide +kernel
theorem d_Mo_allowed_28 : decode b_Mo_allowed 28 = .ok (.iconst 1, 1) := by decide +kernel
theorem d_Mo_allowed_29 : decode b_Mo_allowed 29 = .ok (.goto 4, 3) := by decide +kernel
theorem d_Mo_allowed_32 : decode b_Mo_allowed 32 = .ok (.iconst 0, 1) := by decide +kernel
theorem d_Mo_allowed_33 : decode b_Mo_allowed 33 = .ok (.istore 5, 2) := by decide +kernel
theorem d_Mo_allowed_35 : decode b_Mo_allowed 35 = .ok (.aload_n 0, 1) := by decide +kernel
theorem d_Mo_allowed_36 : decode b_Mo_allowed 36 = .ok (.getfield 16, 3) := by decide +kernel
theorem d_Mo_allowed_39 : decode b_Mo_allowed 39 = .ok (.bipush 12, 2) := by decide +kernel
theorem d_Mo_allowed_41 : decode b_Mo_allowed 41 = .ok (.iload_n 1, 1) := by decide +kernel
theorem d_Mo_allowed_42 : decode b_Mo_allowed 42 = .ok (.imul, 1) := by decide +kernel
theorem d_Mo_allowed_43 : decode b_Mo_allowed 43 = .ok (.iaload, 1) := by decide +kernel
theorem d_Mo_allowed_44 : decode b_Mo_allowed 44 = .ok (.bipush 8, 2) := by decide +kernel
theorem d_Mo_allowed_46 : decode b_Mo_allowed 46 = .ok (.iand, 1) := by decide +kernel
theorem d_Mo_allowed_47 : decode b_Mo_allowed 47 = .ok (.ifCond .eq 11, 3) := by decide +kernel
theorem d_Mo_allowed_50 : decode b_Mo_allowed 50 = .ok (.iload_n 3, 1) := by decide +kernel
theorem d_Mo_allowed_51 : decode b_Mo_allowed 51 = .ok (.ifCond .eq 7, 3) := by decide +kernel
theorem d_Mo_allowed_54 : decode b_Mo_allowed 54 = .ok (.iconst 1, 1) := by decide +kernel
theorem d_Mo_allowed_55 : decode b_Mo_allowed 55 = .ok (.goto 4, 3) := by decide +kernel
theorem d_Mo_allowed_58 : decode b_Mo_allowed 58 = .ok (.iconst 0, 1) := by decide +kernel
theorem d_Mo_allowed_59 : decode b_Mo_allowed 59 = .ok (.istore 6, 2) := by decide +kernel
theorem d_Mo_allowed_61 : decode b_Mo_allowed 61 = .ok (.iload_n 2, 1) := by decide +kernel
theorem d_Mo_allowed_62 : decode b_Mo_allowed 62 = .ok (.iload 4, 2) := by decide +kernel
theorem d_Mo_allowed_64 : decode b_Mo_allowed 64 = .ok (.iand, 1) := by decide +kernel
theorem d_Mo_allowed_65 : decode b_Mo_allowed 65 = .ok (.ifCond .eq 34, 3) := by decide +kernel
theorem d_Mo_allowed_68 : decode b_Mo_allowed 68 = .ok (.aload_n 0, 1) := by decide +kernel
theorem d_Mo_allowed_69 : decode b_Mo_allowed 69 = .ok (.getfield 22, 3) := by decide +kernel
theorem d_Mo_allowed_72 : decode b_Mo_allowed 72 = .ok (.iload_n 1, 1) := by decide +kernel
theorem d_Mo_allowed_73 : decode b_Mo_allowed 73 = .ok (.baload, 1) := by decide +kernel
theorem d_Mo_allowed_74 : decode b_Mo_allowed 74 = .ok (.ifCond .eq 11, 3) := by decide +kernel
theorem d_Mo_allowed_77 : decode b_Mo_allowed 77 = .ok (.iload 5, 2) := by decide +kernel
theorem d_Mo_allowed_79 : decode b_Mo_allowed 79 = .ok (.ifCond .eq 20, 3) := by decide +kernel
theorem d_Mo_allowed_82 : decode b_Mo_allowed 82 = .ok (.goto 13, 3) := by decide +kernel
theorem d_Mo_allowed_85 : decode b_Mo_allowed 85 = .ok (.iload 5, 2) := by decide +kernel
theorem d_Mo_allowed_87 : decode b_Mo_allowed 87 = .ok (.ifCond .eq 8, 3) := by decide +kernel
theorem d_Mo_allowed_90 : decode b_Mo_allowed 90 = .ok (.iload 6, 2) := by decide +kernel
theorem d_Mo_allowed_92 : decode b_Mo_allowed 92 = .ok (.ifCond .eq 7, 3) := by decide +kernel
theorem d_Mo_allowed_95 : decode b_Mo_allowed 95 = .ok (.iconst 1, 1) := by decide +kernel
theorem d_Mo_allowed_96 : decode b_Mo_allowed 96 = .ok (.goto 4, 3) := by decide +kernel
theorem d_Mo_allowed_99 : decode b_Mo_allowed 99 = .ok (.iconst 0, 1) := by decide +kernel
theorem d_Mo_allowed_100 : decode b_Mo_allowed 100 = .ok (.ireturn, 1) := by decide +kernel
noncomputable def pr_Mo_allowed : List (Nat × tw_Op) := [(0, tw_il 3), (1, tw_ifne 9), (4, tw_ic (8)), (6, tw_jmp 19), (9, tw_il 3), (10, tw_ic 1), (11, tw_cne 18), (14, tw_ic 2), (15, tw_jmp 19), (18, tw_ic 4), (19, tw_is 4), (21, tw_il 2), (22, tw_ic (16)), (24, tw_bin (· &&& ·)), (25, tw_ifeq 32), (28, tw_ic 1), (29, tw_jmp 33), (32, tw_ic 0), (33, tw_is 5), (35, tw_al 0), (36, tw_gr 22 25), (39, tw_ic (12)), (41, tw_il 1), (42, tw_bin (· * ·)), (43, tw_ia), (44, tw_ic (8)), (46, tw_bin (· &&& ·)), (47, tw_ifeq 58), (50, tw_il 3), (51, tw_ifeq 58), (54, tw_ic 1), (55, tw_jmp 59), (58, tw_ic 0), (59, tw_is 6), (61, tw_il 2), (62, tw_il 4), (64, tw_bin (· &&& ·)), (65, tw_ifeq 99), (68, tw_al 0), (69, tw_gr 22 27), (72, tw_il 1), (73, tw_za), (74, tw_ifeq 85), (77, tw_il 5), (79, tw_ifeq 99), (82, tw_jmp 95), (85, tw_il 5), (87, tw_ifeq 95), (90, tw_il 6), (92, tw_ifeq 99), (95, tw_ic 1), (96, tw_jmp 100), (99, tw_ic 0), (100, tw_rz)]
set_option maxRecDepth 100000 in
set_option maxHeartbeats 4000000 in
theorem ok_Mo_allowed {p : Program} {l : Launch} {e : Env} {s : State} {m : MethodId} {args : Array Value} {below : List Frame} {meth : Method} {c : Code} {E : tw_E} {D : va_G} {ρ : tw_R} (hC : tw_Cx p s m args meth c b_Mo_allowed 7 (some .boolean) "TwinHostModel" E D) : tw_Ok p l e (tw_rmd 0) s m args below meth c 0 0 (MQ below (tw_Qc E D ρ) args s 0 0 (tw_A E)) 7 E D ρ pr_Mo_allowed :=
  ⟨ts_iload_n hC d_Mo_allowed_0 rfl,
   ts_ifne hC d_Mo_allowed_1 (by decide),
   ts_bipush hC d_Mo_allowed_4 (by decide),
   ts_goto hC d_Mo_allowed_6 (by decide),
   ts_iload_n hC d_Mo_allowed_9 rfl,
   ts_iconst hC d_Mo_allowed_10 (by decide),
   ts_cne hC d_Mo_allowed_11 (by decide),
   ts_iconst hC d_Mo_allowed_14 (by decide),
   ts_goto hC d_Mo_allowed_15 (by decide),
   ts_iconst hC d_Mo_allowed_18 (by decide),
   ts_istore hC d_Mo_allowed_19 (by decide),
   ts_iload_n hC d_Mo_allowed_21 rfl,
   ts_bipush hC d_Mo_allowed_22 (by decide),
   ts_iand hC d_Mo_allowed_24,
   ts_ifeq hC d_Mo_allowed_25 (by decide),
   ts_iconst hC d_Mo_allowed_28 (by decide),
   ts_goto hC d_Mo_allowed_29 (by decide),
   ts_iconst hC d_Mo_allowed_32 (by decide),
   ts_istore hC d_Mo_allowed_33 (by decide),
   ts_aload_n hC d_Mo_allowed_35 rfl,
   ts_gr (j := 5) (C := R_Mo) (T := T_Mo) hC rfl rfl rfl (by decide) u_Mo wd_461 rfl d_Mo_allowed_36,
   ts_bipush hC d_Mo_allowed_39 (by decide),
   ts_iload_n hC d_Mo_allowed_41 rfl,
   ts_imul hC d_Mo_allowed_42,
   ts_iaload hC d_Mo_allowed_43,
   ts_bipush hC d_Mo_allowed_44 (by decide),
   ts_iand hC d_Mo_allowed_46,
   ts_ifeq hC d_Mo_allowed_47 (by decide),
   ts_iload_n hC d_Mo_allowed_50 rfl,
   ts_ifeq hC d_Mo_allowed_51 (by decide),
   ts_iconst hC d_Mo_allowed_54 (by decide),
   ts_goto hC d_Mo_allowed_55 (by decide),
   ts_iconst hC d_Mo_allowed_58 (by decide),
   ts_istore hC d_Mo_allowed_59 (by decide),
   ts_iload_n hC d_Mo_allowed_61 rfl,
   ts_iload hC d_Mo_allowed_62,
   ts_iand hC d_Mo_allowed_64,
   ts_ifeq hC d_Mo_allowed_65 (by decide),
   ts_aload_n hC d_Mo_allowed_68 rfl,
   ts_gr (j := 7) (C := R_Mo) (T := T_Mo) hC rfl rfl rfl (by decide) u_Mo wd_463 rfl d_Mo_allowed_69,
   ts_iload_n hC d_Mo_allowed_72 rfl,
   ts_baload hC d_Mo_allowed_73,
   ts_ifeq hC d_Mo_allowed_74 (by decide),
   ts_iload hC d_Mo_allowed_77,
   ts_ifeq hC d_Mo_allowed_79 (by decide),
   ts_goto hC d_Mo_allowed_82 (by decide),
   ts_iload hC d_Mo_allowed_85,
   ts_ifeq hC d_Mo_allowed_87 (by decide),
   ts_iload hC d_Mo_allowed_90,
   ts_ifeq hC d_Mo_allowed_92 (by decide),
   ts_iconst hC d_Mo_allowed_95 (by decide),
   ts_goto hC d_Mo_allowed_96 (by decide),
   ts_iconst hC d_Mo_allowed_99 (by decide),
   ts_zret hC rfl d_Mo_allowed_100,
   trivial⟩
noncomputable def fn_Mo_allowed : tw_Fn := tw_fl 4 7 56 pr_Mo_allowed
theorem con_Mo_allowed : tw_Con y_Mo_allowed b_Mo_allowed 7 (some .boolean) 0 fn_Mo_allowed := tw_met (by decide +kernel) (tw_fl_len (n := 4) (by decide)) (fun p l e s m args below meth c E D vs σ ρ hC h => tw_sound (ok_Mo_allowed hC) 56 pr_Mo_allowed (ok_Mo_allowed hC) _ _ _ (tw_fl_get h))

-- TwinHostModel.broken(I)Z: 13 instructions, depth 0, calls 
theorem d_Mo_broken_0 : decode b_Mo_broken 0 = .ok (.iload_n 0, 1) := by decide +kernel
theorem d_Mo_broken_1 : decode b_Mo_broken 1 = .ok (.iconst 1, 1) := by decide +kernel
theorem d_Mo_broken_2 : decode b_Mo_broken 2 = .ok (.iand, 1) := by decide +kernel
theorem d_Mo_broken_3 : decode b_Mo_broken 3 = .ok (.ifCond .eq 11, 3) := by decide +kernel
theorem d_Mo_broken_6 : decode b_Mo_broken 6 = .ok (.iload_n 0, 1) := by decide +kernel
theorem d_Mo_broken_7 : decode b_Mo_broken 7 = .ok (.bipush 6, 2) := by decide +kernel
theorem d_Mo_broken_9 : decode b_Mo_broken 9 = .ok (.iand, 1) := by decide +kernel
theorem d_Mo_broken_10 : decode b_Mo_broken 10 = .ok (.iconst 4, 1) := by decide +kernel
theorem d_Mo_broken_11 : decode b_Mo_broken 11 = .ok (.if_icmp .ne 7, 3) := by decide +kernel
theorem d_Mo_broken_14 : decode b_Mo_broken 14 = .ok (.iconst 1, 1) := by decide +kernel
theorem d_Mo_broken_15 : decode b_Mo_broken 15 = .ok (.goto 4, 3) := by decide +kernel
theorem d_Mo_broken_18 : decode b_Mo_broken 18 = .ok (.iconst 0, 1) := by decide +kernel
theorem d_Mo_broken_19 : decode b_Mo_broken 19 = .ok (.ireturn, 1) := by decide +kernel
noncomputable def pr_Mo_broken : List (Nat × tw_Op) := [(0, tw_il 0), (1, tw_ic 1), (2, tw_bin (· &&& ·)), (3, tw_ifeq 14), (6, tw_il 0), (7, tw_ic (6)), (9, tw_bin (· &&& ·)), (10, tw_ic 4), (11, tw_cne 18), (14, tw_ic 1), (15, tw_jmp 19), (18, tw_ic 0), (19, tw_rz)]
set_option maxRecDepth 100000 in
set_option maxHeartbeats 4000000 in
theorem ok_Mo_broken {p : Program} {l : Launch} {e : Env} {s : State} {m : MethodId} {args : Array Value} {below : List Frame} {meth : Method} {c : Code} {E : tw_E} {D : va_G} {ρ : tw_R} (hC : tw_Cx p s m args meth c b_Mo_broken 1 (some .boolean) "TwinHostModel" E D) : tw_Ok p l e (tw_rmd 0) s m args below meth c 0 0 (MQ below (tw_Qc E D ρ) args s 0 0 (tw_A E)) 1 E D ρ pr_Mo_broken :=
  ⟨ts_iload_n hC d_Mo_broken_0 rfl,
   ts_iconst hC d_Mo_broken_1 (by decide),
   ts_iand hC d_Mo_broken_2,
   ts_ifeq hC d_Mo_broken_3 (by decide),
   ts_iload_n hC d_Mo_broken_6 rfl,
   ts_bipush hC d_Mo_broken_7 (by decide),
   ts_iand hC d_Mo_broken_9,
   ts_iconst hC d_Mo_broken_10 (by decide),
   ts_cne hC d_Mo_broken_11 (by decide),
   ts_iconst hC d_Mo_broken_14 (by decide),
   ts_goto hC d_Mo_broken_15 (by decide),
   ts_iconst hC d_Mo_broken_18 (by decide),
   ts_zret hC rfl d_Mo_broken_19,
   trivial⟩
noncomputable def fn_Mo_broken : tw_Fn := tw_fl 1 1 15 pr_Mo_broken
theorem con_Mo_broken : tw_Con y_Mo_broken b_Mo_broken 1 (some .boolean) 0 fn_Mo_broken := tw_met (by decide +kernel) (tw_fl_len (n := 1) (by decide)) (fun p l e s m args below meth c E D vs σ ρ hC h => tw_sound (ok_Mo_broken hC) 15 pr_Mo_broken (ok_Mo_broken hC) _ _ _ (tw_fl_get h))

-- TwinHostModel.calculate(IIII)I: 49 instructions, depth 0, calls 
theorem d_Mo_calculate_0 : decode b_Mo_calculate 0 = .ok (.iload_n 0, 1) := by decide +kernel
theorem d_Mo_calculate_1 : decode b_Mo_calculate 1 = .ok (.tableswitch 100 0 8 #[51, 55, 59, 63, 67, 71, 75, 86, 93], 51) := by decide +kernel
theorem d_Mo_calculate_52 : decode b_Mo_calculate 52 = .ok (.iload_n 1, 1) := by decide +kernel
theorem d_Mo_calculate_53 : decode b_Mo_calculate 53 = .ok (.iload_n 3, 1) := by decide +kernel
theorem d_Mo_calculate_54 : decode b_Mo_calculate 54 = .ok (.iadd, 1) := by decide +kernel
theorem d_Mo_calculate_55 : decode b_Mo_calculate 55 = .ok (.ireturn, 1) := by decide +kernel
theorem d_Mo_calculate_56 : decode b_Mo_calculate 56 = .ok (.iload_n 1, 1) := by decide +kernel
theorem d_Mo_calculate_57 : decode b_Mo_calculate 57 = .ok (.iload_n 2, 1) := by decide +kernel
theorem d_Mo_calculate_58 : decode b_Mo_calculate 58 = .ok (.iadd, 1) := by decide +kernel
theorem d_Mo_calculate_59 : decode b_Mo_calculate 59 = .ok (.ireturn, 1) := by decide +kernel
theorem d_Mo_calculate_60 : decode b_Mo_calculate 60 = .ok (.iload_n 1, 1) := by decide +kernel
theorem d_Mo_calculate_61 : decode b_Mo_calculate 61 = .ok (.iload_n 2, 1) := by decide +kernel
theorem d_Mo_calculate_62 : decode b_Mo_calculate 62 = .ok (.isub, 1) := by decide +kernel
theorem d_Mo_calculate_63 : decode b_Mo_calculate 63 = .ok (.ireturn, 1) := by decide +kernel
theorem d_Mo_calculate_64 : decode b_Mo_calculate 64 = .ok (.iload_n 1, 1) := by decide +kernel
theorem d_Mo_calculate_65 : decode b_Mo_calculate 65 = .ok (.iload_n 2, 1) := by decide +kernel
theorem d_Mo_calculate_66 : decode b_Mo_calculate 66 = .ok (.iand, 1) := by decide +kernel
theorem d_Mo_calculate_67 : decode b_Mo_calculate 67 = .ok (.ireturn, 1) := by decide +kernel
theorem d_Mo_calculate_68 : decode b_Mo_calculate 68 = .ok (.iload_n 1, 1) := by decide +kernel
theorem d_Mo_calculate_69 : decode b_Mo_calculate 69 = .ok (.iload_n 2, 1) := by decide +kernel
theorem d_Mo_calculate_70 : decode b_Mo_calculate 70 = .ok (.ior, 1) := by decide +kernel
theorem d_Mo_calculate_71 : decode b_Mo_calculate 71 = .ok (.ireturn, 1) := by decide +kernel
theorem d_Mo_calculate_72 : decode b_Mo_calculate 72 = .ok (.iload_n 1, 1) := by decide +kernel
theorem d_Mo_calculate_73 : decode b_Mo_calculate 73 = .ok (.iload_n 2, 1) := by decide +kernel
theorem d_Mo_calculate_74 : decode b_Mo_calculate 74 = .ok (.ixor, 1) := by decide +kernel
theorem d_Mo_calculate_75 : decode b_Mo_calculate 75 = .ok (.ireturn, 1) := by decide +kernel
theorem d_Mo_calculate_76 : decode b_Mo_calculate 76 = .ok (.iload_n 1, 1) := by decide +kernel
theorem d_Mo_calculate_77 : decode b_Mo_calculate 77 = .ok (.iload_n 2, 1) := by decide +kernel
theorem d_Mo_calculate_78 : decode b_Mo_calculate 78 = .ok (.if_icmp .ge 7, 3) := by decide +kernel
theorem d_Mo_calculate_81 : decode b_Mo_calculate 81 = .ok (.iconst 1, 1) := by decide +kernel
theorem d_Mo_calculate_82 : decode b_Mo_calculate 82 = .ok (.goto 4, 3) := by decide +kernel
theorem d_Mo_calculate_85 : decode b_Mo_calculate 85 = .ok (.iconst 0, 1) := by decide +kernel
theorem d_Mo_calculate_86 : decode b_Mo_calculate 86 = .ok (.ireturn, 1) := by decide +kernel
theorem d_Mo_calculate_87 : decode b_Mo_calculate 87 = .ok (.iload_n 1, 1) := by decide +kernel
theorem d_Mo_calculate_88 : decode b_Mo_calculate 88 = .ok (.iload_n 2, 1) := by decide +kernel
theorem d_Mo_calculate_89 : decode b_Mo_calculate 89 = .ok (.bipush 31, 2) := by decide +kernel
theorem d_Mo_calculate_91 : decode b_Mo_calculate 91 = .ok (.iand, 1) := by decide +kernel
theorem d_Mo_calculate_92 : decode b_Mo_calculate 92 = .ok (.ishl, 1) := by decide +kernel
theorem d_Mo_calculate_93 : decode b_Mo_calculate 93 = .ok (.ireturn, 1) := by decide +kernel
theorem d_Mo_calculate_94 : decode b_Mo_calculate 94 = .ok (.iload_n 1, 1) := by decide +kernel
theorem d_Mo_calculate_95 : decode b_Mo_calculate 95 = .ok (.iload_n 2, 1) := by decide +kernel
theorem d_Mo_calculate_96 : decode b_Mo_calculate 96 = .ok (.bipush 31, 2) := by decide +kernel
theorem d_Mo_calculate_98 : decode b_Mo_calculate 98 = .ok (.iand, 1) := by decide +kernel
theorem d_Mo_calculate_99 : decode b_Mo_calculate 99 = .ok (.ishr, 1) := by decide +kernel
theorem d_Mo_calculate_100 : decode b_Mo_calculate 100 = .ok (.ireturn, 1) := by decide +kernel
theorem d_Mo_calculate_101 : decode b_Mo_calculate 101 = .ok (.iload_n 3, 1) := by decide +kernel
theorem d_Mo_calculate_102 : decode b_Mo_calculate 102 = .ok (.bipush 16, 2) := by decide +kernel
theorem d_Mo_calculate_104 : decode b_Mo_calculate 104 = .ok (.ishl, 1) := by decide +kernel
theorem d_Mo_calculate_105 : decode b_Mo_calculate 105 = .ok (.ireturn, 1) := by decide +kernel
noncomputable def pr_Mo_calculate : List (Nat × tw_Op) := [(0, tw_il 0), (1, tw_sw [(0, 52), (1, 56), (2, 60), (3, 64), (4, 68), (5, 72), (6, 76), (7, 87), (8, 94)] 101), (52, tw_il 1), (53, tw_il 3), (54, tw_bin (· + ·)), (55, tw_ri), (56, tw_il 1), (57, tw_il 2), (58, tw_bin (· + ·)), (59, tw_ri), (60, tw_il 1), (61, tw_il 2), (62, tw_bin (· - ·)), (63, tw_ri), (64, tw_il 1), (65, tw_il 2), (66, tw_bin (· &&& ·)), (67, tw_ri), (68, tw_il 1), (69, tw_il 2), (70, tw_bin (· ||| ·)), (71, tw_ri), (72, tw_il 1), (73, tw_il 2), (74, tw_bin (· ^^^ ·)), (75, tw_ri), (76, tw_il 1), (77, tw_il 2), (78, tw_cge 85), (81, tw_ic 1), (82, tw_jmp 86), (85, tw_ic 0), (86, tw_ri), (87, tw_il 1), (88, tw_il 2), (89, tw_ic (31)), (91, tw_bin (· &&& ·)), (92, tw_bin (fun x y => x <<< (y &&& 31))), (93, tw_ri), (94, tw_il 1), (95, tw_il 2), (96, tw_ic (31)), (98, tw_bin (· &&& ·)), (99, tw_bin (fun x y => x >>> (y &&& 31))), (100, tw_ri), (101, tw_il 3), (102, tw_ic (16)), (104, tw_bin (fun x y => x <<< (y &&& 31))), (105, tw_ri)]
set_option maxRecDepth 100000 in
set_option maxHeartbeats 4000000 in
theorem ok_Mo_calculate {p : Program} {l : Launch} {e : Env} {s : State} {m : MethodId} {args : Array Value} {below : List Frame} {meth : Method} {c : Code} {E : tw_E} {D : va_G} {ρ : tw_R} (hC : tw_Cx p s m args meth c b_Mo_calculate 4 (some .int) "TwinHostModel" E D) : tw_Ok p l e (tw_rmd 0) s m args below meth c 0 0 (MQ below (tw_Qc E D ρ) args s 0 0 (tw_A E)) 4 E D ρ pr_Mo_calculate :=
  ⟨ts_iload_n hC d_Mo_calculate_0 rfl,
   ts_table (n := 8) hC _ d_Mo_calculate_1 (by decide) (by decide) (by decide +kernel) (by decide +kernel),
   ts_iload_n hC d_Mo_calculate_52 rfl,
   ts_iload_n hC d_Mo_calculate_53 rfl,
   ts_iadd hC d_Mo_calculate_54,
   ts_iret hC rfl d_Mo_calculate_55,
   ts_iload_n hC d_Mo_calculate_56 rfl,
   ts_iload_n hC d_Mo_calculate_57 rfl,
   ts_iadd hC d_Mo_calculate_58,
   ts_iret hC rfl d_Mo_calculate_59,
   ts_iload_n hC d_Mo_calculate_60 rfl,
   ts_iload_n hC d_Mo_calculate_61 rfl,
   ts_isub hC d_Mo_calculate_62,
   ts_iret hC rfl d_Mo_calculate_63,
   ts_iload_n hC d_Mo_calculate_64 rfl,
   ts_iload_n hC d_Mo_calculate_65 rfl,
   ts_iand hC d_Mo_calculate_66,
   ts_iret hC rfl d_Mo_calculate_67,
   ts_iload_n hC d_Mo_calculate_68 rfl,
   ts_iload_n hC d_Mo_calculate_69 rfl,
   ts_ior hC d_Mo_calculate_70,
   ts_iret hC rfl d_Mo_calculate_71,
   ts_iload_n hC d_Mo_calculate_72 rfl,
   ts_iload_n hC d_Mo_calculate_73 rfl,
   ts_ixor hC d_Mo_calculate_74,
   ts_iret hC rfl d_Mo_calculate_75,
   ts_iload_n hC d_Mo_calculate_76 rfl,
   ts_iload_n hC d_Mo_calculate_77 rfl,
   ts_cge hC d_Mo_calculate_78 (by decide),
   ts_iconst hC d_Mo_calculate_81 (by decide),
   ts_goto hC d_Mo_calculate_82 (by decide),
   ts_iconst hC d_Mo_calculate_85 (by decide),
   ts_iret hC rfl d_Mo_calculate_86,
   ts_iload_n hC d_Mo_calculate_87 rfl,
   ts_iload_n hC d_Mo_calculate_88 rfl,
   ts_bipush hC d_Mo_calculate_89 (by decide),
   ts_iand hC d_Mo_calculate_91,
   ts_ishl hC d_Mo_calculate_92,
   ts_iret hC rfl d_Mo_calculate_93,
   ts_iload_n hC d_Mo_calculate_94 rfl,
   ts_iload_n hC d_Mo_calculate_95 rfl,
   ts_bipush hC d_Mo_calculate_96 (by decide),
   ts_iand hC d_Mo_calculate_98,
   ts_ishr hC d_Mo_calculate_99,
   ts_iret hC rfl d_Mo_calculate_100,
   ts_iload_n hC d_Mo_calculate_101 rfl,
   ts_bipush hC d_Mo_calculate_102 (by decide),
   ts_ishl hC d_Mo_calculate_104,
   ts_iret hC rfl d_Mo_calculate_105,
   trivial⟩
noncomputable def fn_Mo_calculate : tw_Fn := tw_fl 4 4 51 pr_Mo_calculate
theorem con_Mo_calculate : tw_Con y_Mo_calculate b_Mo_calculate 4 (some .int) 0 fn_Mo_calculate := tw_met (by decide +kernel) (tw_fl_len (n := 4) (by decide)) (fun p l e s m args below meth c E D vs σ ρ hC h => tw_sound (ok_Mo_calculate hC) 51 pr_Mo_calculate (ok_Mo_calculate hC) _ _ _ (tw_fl_get h))

-- TwinHostModel.guest(I)Z: 9 instructions, depth 0, calls 
theorem d_Mo_guest_0 : decode b_Mo_guest 0 = .ok (.iload_n 0, 1) := by decide +kernel
theorem d_Mo_guest_1 : decode b_Mo_guest 1 = .ok (.ifCond .eq 8, 3) := by decide +kernel
theorem d_Mo_guest_4 : decode b_Mo_guest 4 = .ok (.iload_n 0, 1) := by decide +kernel
theorem d_Mo_guest_5 : decode b_Mo_guest 5 = .ok (.iconst 1, 1) := by decide +kernel
theorem d_Mo_guest_6 : decode b_Mo_guest 6 = .ok (.if_icmp .ne 7, 3) := by decide +kernel
theorem d_Mo_guest_9 : decode b_Mo_guest 9 = .ok (.iconst 1, 1) := by decide +kernel
theorem d_Mo_guest_10 : decode b_Mo_guest 10 = .ok (.goto 4, 3) := by decide +kernel
theorem d_Mo_guest_13 : decode b_Mo_guest 13 = .ok (.iconst 0, 1) := by decide +kernel
theorem d_Mo_guest_14 : decode b_Mo_guest 14 = .ok (.ireturn, 1) := by decide +kernel
noncomputable def pr_Mo_guest : List (Nat × tw_Op) := [(0, tw_il 0), (1, tw_ifeq 9), (4, tw_il 0), (5, tw_ic 1), (6, tw_cne 13), (9, tw_ic 1), (10, tw_jmp 14), (13, tw_ic 0), (14, tw_rz)]
set_option maxRecDepth 100000 in
set_option maxHeartbeats 4000000 in
theorem ok_Mo_guest {p : Program} {l : Launch} {e : Env} {s : State} {m : MethodId} {args : Array Value} {below : List Frame} {meth : Method} {c : Code} {E : tw_E} {D : va_G} {ρ : tw_R} (hC : tw_Cx p s m args meth c b_Mo_guest 1 (some .boolean) "TwinHostModel" E D) : tw_Ok p l e (tw_rmd 0) s m args below meth c 0 0 (MQ below (tw_Qc E D ρ) args s 0 0 (tw_A E)) 1 E D ρ pr_Mo_guest :=
  ⟨ts_iload_n hC d_Mo_guest_0 rfl,
   ts_ifeq hC d_Mo_guest_1 (by decide),
   ts_iload_n hC d_Mo_guest_4 rfl,
   ts_iconst hC d_Mo_guest_5 (by decide),
   ts_cne hC d_Mo_guest_6 (by decide),
   ts_iconst hC d_Mo_guest_9 (by decide),
   ts_goto hC d_Mo_guest_10 (by decide),
   ts_iconst hC d_Mo_guest_13 (by decide),
   ts_zret hC rfl d_Mo_guest_14,
   trivial⟩
noncomputable def fn_Mo_guest : tw_Fn := tw_fl 1 1 11 pr_Mo_guest
theorem con_Mo_guest : tw_Con y_Mo_guest b_Mo_guest 1 (some .boolean) 0 fn_Mo_guest := tw_met (by decide +kernel) (tw_fl_len (n := 1) (by decide)) (fun p l e s m args below meth c E D vs σ ρ hC h => tw_sound (ok_Mo_guest hC) 11 pr_Mo_guest (ok_Mo_guest hC) _ _ _ (tw_fl_get h))

-- TwinHostModel.isStored(I)Z: 12 instructions, depth 0, calls 
theorem d_Mo_isStored_0 : decode b_Mo_isStored 0 = .ok (.iload_n 0, 1) := by decide +kernel
theorem d_Mo_isStored_1 : decode b_Mo_isStored 1 = .ok (.ifCond .lt 19, 3) := by decide +kernel
theorem d_Mo_isStored_4 : decode b_Mo_isStored 4 = .ok (.iload_n 0, 1) := by decide +kernel
theorem d_Mo_isStored_5 : decode b_Mo_isStored 5 = .ok (.bipush 9, 2) := by decide +kernel
theorem d_Mo_isStored_7 : decode b_Mo_isStored 7 = .ok (.if_icmp .gt 13, 3) := by decide +kernel
theorem d_Mo_isStored_10 : decode b_Mo_isStored 10 = .ok (.iload_n 0, 1) := by decide +kernel
theorem d_Mo_isStored_11 : decode b_Mo_isStored 11 = .ok (.bipush 8, 2) := by decide +kernel
theorem d_Mo_isStored_13 : decode b_Mo_isStored 13 = .ok (.if_icmp .eq 7, 3) := by decide +kernel
theorem d_Mo_isStored_16 : decode b_Mo_isStored 16 = .ok (.iconst 1, 1) := by decide +kernel
theorem d_Mo_isStored_17 : decode b_Mo_isStored 17 = .ok (.goto 4, 3) := by decide +kernel
theorem d_Mo_isStored_20 : decode b_Mo_isStored 20 = .ok (.iconst 0, 1) := by decide +kernel
theorem d_Mo_isStored_21 : decode b_Mo_isStored 21 = .ok (.ireturn, 1) := by decide +kernel
noncomputable def pr_Mo_isStored : List (Nat × tw_Op) := [(0, tw_il 0), (1, tw_iflt 20), (4, tw_il 0), (5, tw_ic (9)), (7, tw_cgt 20), (10, tw_il 0), (11, tw_ic (8)), (13, tw_ceq 20), (16, tw_ic 1), (17, tw_jmp 21), (20, tw_ic 0), (21, tw_rz)]
set_option maxRecDepth 100000 in
set_option maxHeartbeats 4000000 in
theorem ok_Mo_isStored {p : Program} {l : Launch} {e : Env} {s : State} {m : MethodId} {args : Array Value} {below : List Frame} {meth : Method} {c : Code} {E : tw_E} {D : va_G} {ρ : tw_R} (hC : tw_Cx p s m args meth c b_Mo_isStored 1 (some .boolean) "TwinHostModel" E D) : tw_Ok p l e (tw_rmd 0) s m args below meth c 0 0 (MQ below (tw_Qc E D ρ) args s 0 0 (tw_A E)) 1 E D ρ pr_Mo_isStored :=
  ⟨ts_iload_n hC d_Mo_isStored_0 rfl,
   ts_iflt hC d_Mo_isStored_1 (by decide),
   ts_iload_n hC d_Mo_isStored_4 rfl,
   ts_bipush hC d_Mo_isStored_5 (by decide),
   ts_cgt hC d_Mo_isStored_7 (by decide),
   ts_iload_n hC d_Mo_isStored_10 rfl,
   ts_bipush hC d_Mo_isStored_11 (by decide),
   ts_ceq hC d_Mo_isStored_13 (by decide),
   ts_iconst hC d_Mo_isStored_16 (by decide),
   ts_goto hC d_Mo_isStored_17 (by decide),
   ts_iconst hC d_Mo_isStored_20 (by decide),
   ts_zret hC rfl d_Mo_isStored_21,
   trivial⟩
noncomputable def fn_Mo_isStored : tw_Fn := tw_fl 1 1 14 pr_Mo_isStored
theorem con_Mo_isStored : tw_Con y_Mo_isStored b_Mo_isStored 1 (some .boolean) 0 fn_Mo_isStored := tw_met (by decide +kernel) (tw_fl_len (n := 1) (by decide)) (fun p l e s m args below meth c E D vs σ ρ hC h => tw_sound (ok_Mo_isStored hC) 14 pr_Mo_isStored (ok_Mo_isStored hC) _ _ _ (tw_fl_get h))

-- TwinHostModel.isThere(I)Z: 24 instructions, depth 0, calls 
theorem d_Mo_isThere_0 : decode b_Mo_isThere 0 = .ok (.aload_n 0, 1) := by decide +kernel
theorem d_Mo_isThere_1 : decode b_Mo_isThere 1 = .ok (.getfield 26, 3) := by decide +kernel
theorem d_Mo_isThere_4 : decode b_Mo_isThere 4 = .ok (.iload_n 1, 1) := by decide +kernel
theorem d_Mo_isThere_5 : decode b_Mo_isThere 5 = .ok (.iaload, 1) := by decide +kernel
theorem d_Mo_isThere_6 : decode b_Mo_isThere 6 = .ok (.ifCond .le 31, 3) := by decide +kernel
theorem d_Mo_isThere_9 : decode b_Mo_isThere 9 = .ok (.aload_n 0, 1) := by decide +kernel
theorem d_Mo_isThere_10 : decode b_Mo_isThere 10 = .ok (.getfield 29, 3) := by decide +kernel
theorem d_Mo_isThere_13 : decode b_Mo_isThere 13 = .ok (.bipush 6, 2) := by decide +kernel
theorem d_Mo_isThere_15 : decode b_Mo_isThere 15 = .ok (.iload_n 1, 1) := by decide +kernel
theorem d_Mo_isThere_16 : decode b_Mo_isThere 16 = .ok (.imul, 1) := by decide +kernel
theorem d_Mo_isThere_17 : decode b_Mo_isThere 17 = .ok (.iaload, 1) := by decide +kernel
theorem d_Mo_isThere_18 : decode b_Mo_isThere 18 = .ok (.aload_n 0, 1) := by decide +kernel
theorem d_Mo_isThere_19 : decode b_Mo_isThere 19 = .ok (.getfield 16, 3) := by decide +kernel
theorem d_Mo_isThere_22 : decode b_Mo_isThere 22 = .ok (.bipush 12, 2) := by decide +kernel
theorem d_Mo_isThere_24 : decode b_Mo_isThere 24 = .ok (.iload_n 1, 1) := by decide +kernel
theorem d_Mo_isThere_25 : decode b_Mo_isThere 25 = .ok (.imul, 1) := by decide +kernel
theorem d_Mo_isThere_26 : decode b_Mo_isThere 26 = .ok (.bipush 10, 2) := by decide +kernel
theorem d_Mo_isThere_28 : decode b_Mo_isThere 28 = .ok (.iadd, 1) := by decide +kernel
theorem d_Mo_isThere_29 : decode b_Mo_isThere 29 = .ok (.iaload, 1) := by decide +kernel
theorem d_Mo_isThere_30 : decode b_Mo_isThere 30 = .ok (.if_icmp .gt 7, 3) := by decide +kernel
theorem d_Mo_isThere_33 : decode b_Mo_isThere 33 = .ok (.iconst 1, 1) := by decide +kernel
theorem d_Mo_isThere_34 : decode b_Mo_isThere 34 = .ok (.goto 4, 3) := by decide +kernel
theorem d_Mo_isThere_37 : decode b_Mo_isThere 37 = .ok (.iconst 0, 1) := by decide +kernel
theorem d_Mo_isThere_38 : decode b_Mo_isThere 38 = .ok (.ireturn, 1) := by decide +kernel
noncomputable def pr_Mo_isThere : List (Nat × tw_Op) := [(0, tw_al 0), (1, tw_gr 22 28), (4, tw_il 1), (5, tw_ia), (6, tw_ifle 37), (9, tw_al 0), (10, tw_gr 22 29), (13, tw_ic (6)), (15, tw_il 1), (16, tw_bin (· * ·)), (17, tw_ia), (18, tw_al 0), (19, tw_gr 22 25), (22, tw_ic (12)), (24, tw_il 1), (25, tw_bin (· * ·)), (26, tw_ic (10)), (28, tw_bin (· + ·)), (29, tw_ia), (30, tw_cgt 37), (33, tw_ic 1), (34, tw_jmp 38), (37, tw_ic 0), (38, tw_rz)]
set_option maxRecDepth 100000 in
set_option maxHeartbeats 4000000 in
theorem ok_Mo_isThere {p : Program} {l : Launch} {e : Env} {s : State} {m : MethodId} {args : Array Value} {below : List Frame} {meth : Method} {c : Code} {E : tw_E} {D : va_G} {ρ : tw_R} (hC : tw_Cx p s m args meth c b_Mo_isThere 2 (some .boolean) "TwinHostModel" E D) : tw_Ok p l e (tw_rmd 0) s m args below meth c 0 0 (MQ below (tw_Qc E D ρ) args s 0 0 (tw_A E)) 2 E D ρ pr_Mo_isThere :=
  ⟨ts_aload_n hC d_Mo_isThere_0 rfl,
   ts_gr (j := 8) (C := R_Mo) (T := T_Mo) hC rfl rfl rfl (by decide) u_Mo wd_464 rfl d_Mo_isThere_1,
   ts_iload_n hC d_Mo_isThere_4 rfl,
   ts_iaload hC d_Mo_isThere_5,
   ts_ifle hC d_Mo_isThere_6 (by decide),
   ts_aload_n hC d_Mo_isThere_9 rfl,
   ts_gr (j := 9) (C := R_Mo) (T := T_Mo) hC rfl rfl rfl (by decide) u_Mo wd_465 rfl d_Mo_isThere_10,
   ts_bipush hC d_Mo_isThere_13 (by decide),
   ts_iload_n hC d_Mo_isThere_15 rfl,
   ts_imul hC d_Mo_isThere_16,
   ts_iaload hC d_Mo_isThere_17,
   ts_aload_n hC d_Mo_isThere_18 rfl,
   ts_gr (j := 5) (C := R_Mo) (T := T_Mo) hC rfl rfl rfl (by decide) u_Mo wd_461 rfl d_Mo_isThere_19,
   ts_bipush hC d_Mo_isThere_22 (by decide),
   ts_iload_n hC d_Mo_isThere_24 rfl,
   ts_imul hC d_Mo_isThere_25,
   ts_bipush hC d_Mo_isThere_26 (by decide),
   ts_iadd hC d_Mo_isThere_28,
   ts_iaload hC d_Mo_isThere_29,
   ts_cgt hC d_Mo_isThere_30 (by decide),
   ts_iconst hC d_Mo_isThere_33 (by decide),
   ts_goto hC d_Mo_isThere_34 (by decide),
   ts_iconst hC d_Mo_isThere_37 (by decide),
   ts_zret hC rfl d_Mo_isThere_38,
   trivial⟩
noncomputable def fn_Mo_isThere : tw_Fn := tw_fl 2 2 26 pr_Mo_isThere
theorem con_Mo_isThere : tw_Con y_Mo_isThere b_Mo_isThere 2 (some .boolean) 0 fn_Mo_isThere := tw_met (by decide +kernel) (tw_fl_len (n := 2) (by decide)) (fun p l e s m args below meth c E D vs σ ρ hC h => tw_sound (ok_Mo_isThere hC) 26 pr_Mo_isThere (ok_Mo_isThere hC) _ _ _ (tw_fl_get h))

-- TwinHostModel.put(III)V: 12 instructions, depth 0, calls 
theorem d_Mo_put_0 : decode b_Mo_put 0 = .ok (.iload_n 2, 1) := by decide +kernel
theorem d_Mo_put_1 : decode b_Mo_put 1 = .ok (.ifCond .eq 15, 3) := by decide +kernel
theorem d_Mo_put_4 : decode b_Mo_put 4 = .ok (.aload_n 0, 1) := by decide +kernel
theorem d_Mo_put_5 : decode b_Mo_put 5 = .ok (.getfield 13, 3) := by decide +kernel
theorem d_Mo_put_8 : decode b_Mo_put 8 = .ok (.bipush 8, 2) := by decide +kernel
theorem d_Mo_put_10 : decode b_Mo_put 10 = .ok (.iload_n 1, 1) := by decide +kernel
theorem d_Mo_put_11 : decode b_Mo_put 11 = .ok (.imul, 1) := by decide +kernel
theorem d_Mo_put_12 : decode b_Mo_put 12 = .ok (.iload_n 2, 1) := by decide +kernel
theorem d_Mo_put_13 : decode b_Mo_put 13 = .ok (.iadd, 1) := by decide +kernel
theorem d_Mo_put_14 : decode b_Mo_put 14 = .ok (.iload_n 3, 1) := by decide +kernel
theorem d_Mo_put_15 : decode b_Mo_put 15 = .ok (.iastore, 1) := by decide +kernel
theorem d_Mo_put_16 : decode b_Mo_put 16 = .ok (.return_, 1) := by decide +kernel
noncomputable def pr_Mo_put : List (Nat × tw_Op) := [(0, tw_il 2), (1, tw_ifeq 16), (4, tw_al 0), (5, tw_gr 22 24), (8, tw_ic (8)), (10, tw_il 1), (11, tw_bin (· * ·)), (12, tw_il 2), (13, tw_bin (· + ·)), (14, tw_il 3), (15, tw_ias 22 37), (16, tw_r0)]
set_option maxRecDepth 100000 in
set_option maxHeartbeats 4000000 in
theorem ok_Mo_put {p : Program} {l : Launch} {e : Env} {s : State} {m : MethodId} {args : Array Value} {below : List Frame} {meth : Method} {c : Code} {E : tw_E} {D : va_G} {ρ : tw_R} (hC : tw_Cx p s m args meth c b_Mo_put 4 none "TwinHostModel" E D) : tw_Ok p l e (tw_rmd 0) s m args below meth c 0 0 (MQ below (tw_Qc E D ρ) args s 0 0 (tw_A E)) 4 E D ρ pr_Mo_put :=
  ⟨ts_iload_n hC d_Mo_put_0 rfl,
   ts_ifeq hC d_Mo_put_1 (by decide),
   ts_aload_n hC d_Mo_put_4 rfl,
   ts_gr (j := 4) (C := R_Mo) (T := T_Mo) hC rfl rfl rfl (by decide) u_Mo wd_460 rfl d_Mo_put_5,
   ts_bipush hC d_Mo_put_8 (by decide),
   ts_iload_n hC d_Mo_put_10 rfl,
   ts_imul hC d_Mo_put_11,
   ts_iload_n hC d_Mo_put_12 rfl,
   ts_iadd hC d_Mo_put_13,
   ts_iload_n hC d_Mo_put_14 rfl,
   ts_iastore hC d_Mo_put_15,
   ts_vret hC rfl d_Mo_put_16,
   trivial⟩
noncomputable def fn_Mo_put : tw_Fn := tw_fl 4 4 14 pr_Mo_put
theorem con_Mo_put : tw_Con y_Mo_put b_Mo_put 4 none 0 fn_Mo_put := tw_met (by decide +kernel) (tw_fl_len (n := 4) (by decide)) (fun p l e s m args below meth c E D vs σ ρ hC h => tw_sound (ok_Mo_put hC) 14 pr_Mo_put (ok_Mo_put hC) _ _ _ (tw_fl_get h))

-- TwinHostModel.retire(II)I: 25 instructions, depth 0, calls 
theorem d_Mo_retire_0 : decode b_Mo_retire 0 = .ok (.aload_n 0, 1) := by decide +kernel
theorem d_Mo_retire_1 : decode b_Mo_retire 1 = .ok (.getfield 16, 3) := by decide +kernel
theorem d_Mo_retire_4 : decode b_Mo_retire 4 = .ok (.bipush 12, 2) := by decide +kernel
theorem d_Mo_retire_6 : decode b_Mo_retire 6 = .ok (.iload_n 1, 1) := by decide +kernel
theorem d_Mo_retire_7 : decode b_Mo_retire 7 = .ok (.imul, 1) := by decide +kernel
theorem d_Mo_retire_8 : decode b_Mo_retire 8 = .ok (.bipush 10, 2) := by decide +kernel
theorem d_Mo_retire_10 : decode b_Mo_retire 10 = .ok (.iadd, 1) := by decide +kernel
theorem d_Mo_retire_11 : decode b_Mo_retire 11 = .ok (.aload_n 0, 1) := by decide +kernel
theorem d_Mo_retire_12 : decode b_Mo_retire 12 = .ok (.getfield 16, 3) := by decide +kernel
theorem d_Mo_retire_15 : decode b_Mo_retire 15 = .ok (.bipush 12, 2) := by decide +kernel
theorem d_Mo_retire_17 : decode b_Mo_retire 17 = .ok (.iload_n 1, 1) := by decide +kernel
theorem d_Mo_retire_18 : decode b_Mo_retire 18 = .ok (.imul, 1) := by decide +kernel
theorem d_Mo_retire_19 : decode b_Mo_retire 19 = .ok (.bipush 10, 2) := by decide +kernel
theorem d_Mo_retire_21 : decode b_Mo_retire 21 = .ok (.iadd, 1) := by decide +kernel
theorem d_Mo_retire_22 : decode b_Mo_retire 22 = .ok (.iaload, 1) := by decide +kernel
theorem d_Mo_retire_23 : decode b_Mo_retire 23 = .ok (.iconst 1, 1) := by decide +kernel
theorem d_Mo_retire_24 : decode b_Mo_retire 24 = .ok (.iadd, 1) := by decide +kernel
theorem d_Mo_retire_25 : decode b_Mo_retire 25 = .ok (.iastore, 1) := by decide +kernel
theorem d_Mo_retire_26 : decode b_Mo_retire 26 = .ok (.aload_n 0, 1) := by decide +kernel
theorem d_Mo_retire_27 : decode b_Mo_retire 27 = .ok (.getfield 19, 3) := by decide +kernel
theorem d_Mo_retire_30 : decode b_Mo_retire 30 = .ok (.iload_n 1, 1) := by decide +kernel
theorem d_Mo_retire_31 : decode b_Mo_retire 31 = .ok (.iload_n 2, 1) := by decide +kernel
theorem d_Mo_retire_32 : decode b_Mo_retire 32 = .ok (.iastore, 1) := by decide +kernel
theorem d_Mo_retire_33 : decode b_Mo_retire 33 = .ok (.iconst 1, 1) := by decide +kernel
theorem d_Mo_retire_34 : decode b_Mo_retire 34 = .ok (.ireturn, 1) := by decide +kernel
noncomputable def pr_Mo_retire : List (Nat × tw_Op) := [(0, tw_al 0), (1, tw_gr 22 25), (4, tw_ic (12)), (6, tw_il 1), (7, tw_bin (· * ·)), (8, tw_ic (10)), (10, tw_bin (· + ·)), (11, tw_al 0), (12, tw_gr 22 25), (15, tw_ic (12)), (17, tw_il 1), (18, tw_bin (· * ·)), (19, tw_ic (10)), (21, tw_bin (· + ·)), (22, tw_ia), (23, tw_ic 1), (24, tw_bin (· + ·)), (25, tw_ias 22 37), (26, tw_al 0), (27, tw_gr 22 26), (30, tw_il 1), (31, tw_il 2), (32, tw_ias 22 37), (33, tw_ic 1), (34, tw_ri)]
set_option maxRecDepth 100000 in
set_option maxHeartbeats 4000000 in
theorem ok_Mo_retire {p : Program} {l : Launch} {e : Env} {s : State} {m : MethodId} {args : Array Value} {below : List Frame} {meth : Method} {c : Code} {E : tw_E} {D : va_G} {ρ : tw_R} (hC : tw_Cx p s m args meth c b_Mo_retire 3 (some .int) "TwinHostModel" E D) : tw_Ok p l e (tw_rmd 0) s m args below meth c 0 0 (MQ below (tw_Qc E D ρ) args s 0 0 (tw_A E)) 3 E D ρ pr_Mo_retire :=
  ⟨ts_aload_n hC d_Mo_retire_0 rfl,
   ts_gr (j := 5) (C := R_Mo) (T := T_Mo) hC rfl rfl rfl (by decide) u_Mo wd_461 rfl d_Mo_retire_1,
   ts_bipush hC d_Mo_retire_4 (by decide),
   ts_iload_n hC d_Mo_retire_6 rfl,
   ts_imul hC d_Mo_retire_7,
   ts_bipush hC d_Mo_retire_8 (by decide),
   ts_iadd hC d_Mo_retire_10,
   ts_aload_n hC d_Mo_retire_11 rfl,
   ts_gr (j := 5) (C := R_Mo) (T := T_Mo) hC rfl rfl rfl (by decide) u_Mo wd_461 rfl d_Mo_retire_12,
   ts_bipush hC d_Mo_retire_15 (by decide),
   ts_iload_n hC d_Mo_retire_17 rfl,
   ts_imul hC d_Mo_retire_18,
   ts_bipush hC d_Mo_retire_19 (by decide),
   ts_iadd hC d_Mo_retire_21,
   ts_iaload hC d_Mo_retire_22,
   ts_iconst hC d_Mo_retire_23 (by decide),
   ts_iadd hC d_Mo_retire_24,
   ts_iastore hC d_Mo_retire_25,
   ts_aload_n hC d_Mo_retire_26 rfl,
   ts_gr (j := 6) (C := R_Mo) (T := T_Mo) hC rfl rfl rfl (by decide) u_Mo wd_462 rfl d_Mo_retire_27,
   ts_iload_n hC d_Mo_retire_30 rfl,
   ts_iload_n hC d_Mo_retire_31 rfl,
   ts_iastore hC d_Mo_retire_32,
   ts_iconst hC d_Mo_retire_33 (by decide),
   ts_iret hC rfl d_Mo_retire_34,
   trivial⟩
noncomputable def fn_Mo_retire : tw_Fn := tw_fl 3 3 27 pr_Mo_retire
theorem con_Mo_retire : tw_Con y_Mo_retire b_Mo_retire 3 (some .int) 0 fn_Mo_retire := tw_met (by decide +kernel) (tw_fl_len (n := 3) (by decide)) (fun p l e s m args below meth c E D vs σ ρ hC h => tw_sound (ok_Mo_retire hC) 27 pr_Mo_retire (ok_Mo_retire hC) _ _ _ (tw_fl_get h))

-- TwinHostModel.takeInput(I)V: 44 instructions, depth 0, calls 
theorem d_Mo_takeInput_0 : decode b_Mo_takeInput 0 = .ok (.bipush 6, 2) := by decide +kernel
theorem d_Mo_takeInput_2 : decode b_Mo_takeInput 2 = .ok (.iload_n 1, 1) := by decide +kernel
theorem d_Mo_takeInput_3 : decode b_Mo_takeInput 3 = .ok (.imul, 1) := by decide +kernel
theorem d_Mo_takeInput_4 : decode b_Mo_takeInput 4 = .ok (.istore_n 2, 1) := by decide +kernel
theorem d_Mo_takeInput_5 : decode b_Mo_takeInput 5 = .ok (.iload_n 2, 1) := by decide +kernel
theorem d_Mo_takeInput_6 : decode b_Mo_takeInput 6 = .ok (.bipush 6, 2) := by decide +kernel
theorem d_Mo_takeInput_8 : decode b_Mo_takeInput 8 = .ok (.iload_n 1, 1) := by decide +kernel
theorem d_Mo_takeInput_9 : decode b_Mo_takeInput 9 = .ok (.imul, 1) := by decide +kernel
theorem d_Mo_takeInput_10 : decode b_Mo_takeInput 10 = .ok (.iconst 5, 1) := by decide +kernel
theorem d_Mo_takeInput_11 : decode b_Mo_takeInput 11 = .ok (.iadd, 1) := by decide +kernel
theorem d_Mo_takeInput_12 : decode b_Mo_takeInput 12 = .ok (.if_icmp .ge 37, 3) := by decide +kernel
theorem d_Mo_takeInput_15 : decode b_Mo_takeInput 15 = .ok (.aload_n 0, 1) := by decide +kernel
theorem d_Mo_takeInput_16 : decode b_Mo_takeInput 16 = .ok (.getfield 29, 3) := by decide +kernel
theorem d_Mo_takeInput_19 : decode b_Mo_takeInput 19 = .ok (.iload_n 2, 1) := by decide +kernel
theorem d_Mo_takeInput_20 : decode b_Mo_takeInput 20 = .ok (.aload_n 0, 1) := by decide +kernel
theorem d_Mo_takeInput_21 : decode b_Mo_takeInput 21 = .ok (.getfield 29, 3) := by decide +kernel
theorem d_Mo_takeInput_24 : decode b_Mo_takeInput 24 = .ok (.iload_n 2, 1) := by decide +kernel
theorem d_Mo_takeInput_25 : decode b_Mo_takeInput 25 = .ok (.iconst 1, 1) := by decide +kernel
theorem d_Mo_takeInput_26 : decode b_Mo_takeInput 26 = .ok (.iadd, 1) := by decide +kernel
theorem d_Mo_takeInput_27 : decode b_Mo_takeInput 27 = .ok (.iaload, 1) := by decide +kernel
theorem d_Mo_takeInput_28 : decode b_Mo_takeInput 28 = .ok (.iastore, 1) := by decide +kernel
theorem d_Mo_takeInput_29 : decode b_Mo_takeInput 29 = .ok (.aload_n 0, 1) := by decide +kernel
theorem d_Mo_takeInput_30 : decode b_Mo_takeInput 30 = .ok (.getfield 32, 3) := by decide +kernel
theorem d_Mo_takeInput_33 : decode b_Mo_takeInput 33 = .ok (.iload_n 2, 1) := by decide +kernel
theorem d_Mo_takeInput_34 : decode b_Mo_takeInput 34 = .ok (.aload_n 0, 1) := by decide +kernel
theorem d_Mo_takeInput_35 : decode b_Mo_takeInput 35 = .ok (.getfield 32, 3) := by decide +kernel
theorem d_Mo_takeInput_38 : decode b_Mo_takeInput 38 = .ok (.iload_n 2, 1) := by decide +kernel
theorem d_Mo_takeInput_39 : decode b_Mo_takeInput 39 = .ok (.iconst 1, 1) := by decide +kernel
theorem d_Mo_takeInput_40 : decode b_Mo_takeInput 40 = .ok (.iadd, 1) := by decide +kernel
theorem d_Mo_takeInput_41 : decode b_Mo_takeInput 41 = .ok (.iaload, 1) := by decide +kernel
theorem d_Mo_takeInput_42 : decode b_Mo_takeInput 42 = .ok (.iastore, 1) := by decide +kernel
theorem d_Mo_takeInput_43 : decode b_Mo_takeInput 43 = .ok (.iinc 2 1, 3) := by decide +kernel
theorem d_Mo_takeInput_46 : decode b_Mo_takeInput 46 = .ok (.goto (-41), 3) := by decide +kernel
theorem d_Mo_takeInput_49 : decode b_Mo_takeInput 49 = .ok (.aload_n 0, 1) := by decide +kernel
theorem d_Mo_takeInput_50 : decode b_Mo_takeInput 50 = .ok (.getfield 26, 3) := by decide +kernel
theorem d_Mo_takeInput_53 : decode b_Mo_takeInput 53 = .ok (.iload_n 1, 1) := by decide +kernel
theorem d_Mo_takeInput_54 : decode b_Mo_takeInput 54 = .ok (.aload_n 0, 1) := by decide +kernel
theorem d_Mo_takeInput_55 : decode b_Mo_takeInput 55 = .ok (.getfield 26, 3) := by decide +kernel
theorem d_Mo_takeInput_58 : decode b_Mo_takeInput 58 = .ok (.iload_n 1, 1) := by decide +kernel
theorem d_Mo_takeInput_59 : decode b_Mo_takeInput 59 = .ok (.iaload, 1) := by decide +kernel
theorem d_Mo_takeInput_60 : decode b_Mo_takeInput 60 = .ok (.iconst 1, 1) := by decide +kernel
theorem d_Mo_takeInput_61 : decode b_Mo_takeInput 61 = .ok (.isub, 1) := by decide +kernel
theorem d_Mo_takeInput_62 : decode b_Mo_takeInput 62 = .ok (.iastore, 1) := by decide +kernel
theorem d_Mo_takeInput_63 : decode b_Mo_takeInput 63 = .ok (.return_, 1) := by decide +kernel
noncomputable def pr_Mo_takeInput : List (Nat × tw_Op) := [(0, tw_ic (6)), (2, tw_il 1), (3, tw_bin (· * ·)), (4, tw_is 2), (5, tw_il 2), (6, tw_ic (6)), (8, tw_il 1), (9, tw_bin (· * ·)), (10, tw_ic 5), (11, tw_bin (· + ·)), (12, tw_cge 49), (15, tw_al 0), (16, tw_gr 22 29), (19, tw_il 2), (20, tw_al 0), (21, tw_gr 22 29), (24, tw_il 2), (25, tw_ic 1), (26, tw_bin (· + ·)), (27, tw_ia), (28, tw_ias 22 37), (29, tw_al 0), (30, tw_gr 22 30), (33, tw_il 2), (34, tw_al 0), (35, tw_gr 22 30), (38, tw_il 2), (39, tw_ic 1), (40, tw_bin (· + ·)), (41, tw_ia), (42, tw_ias 22 37), (43, tw_inc 2 (1)), (46, tw_jmp 5), (49, tw_al 0), (50, tw_gr 22 28), (53, tw_il 1), (54, tw_al 0), (55, tw_gr 22 28), (58, tw_il 1), (59, tw_ia), (60, tw_ic 1), (61, tw_bin (· - ·)), (62, tw_ias 22 37), (63, tw_r0)]
set_option maxRecDepth 100000 in
set_option maxHeartbeats 4000000 in
theorem ok_Mo_takeInput {p : Program} {l : Launch} {e : Env} {s : State} {m : MethodId} {args : Array Value} {below : List Frame} {meth : Method} {c : Code} {E : tw_E} {D : va_G} {ρ : tw_R} (hC : tw_Cx p s m args meth c b_Mo_takeInput 3 none "TwinHostModel" E D) : tw_Ok p l e (tw_rmd 0) s m args below meth c 0 0 (MQ below (tw_Qc E D ρ) args s 0 0 (tw_A E)) 3 E D ρ pr_Mo_takeInput :=
  ⟨ts_bipush hC d_Mo_takeInput_0 (by decide),
   ts_iload_n hC d_Mo_takeInput_2 rfl,
   ts_imul hC d_Mo_takeInput_3,
   ts_istore_n hC d_Mo_takeInput_4 rfl (by decide),
   ts_iload_n hC d_Mo_takeInput_5 rfl,
   ts_bipush hC d_Mo_takeInput_6 (by decide),
   ts_iload_n hC d_Mo_takeInput_8 rfl,
   ts_imul hC d_Mo_takeInput_9,
   ts_iconst hC d_Mo_takeInput_10 (by decide),
   ts_iadd hC d_Mo_takeInput_11,
   ts_cge hC d_Mo_takeInput_12 (by decide),
   ts_aload_n hC d_Mo_takeInput_15 rfl,
   ts_gr (j := 9) (C := R_Mo) (T := T_Mo) hC rfl rfl rfl (by decide) u_Mo wd_465 rfl d_Mo_takeInput_16,
   ts_iload_n hC d_Mo_takeInput_19 rfl,
   ts_aload_n hC d_Mo_takeInput_20 rfl,
   ts_gr (j := 9) (C := R_Mo) (T := T_Mo) hC rfl rfl rfl (by decide) u_Mo wd_465 rfl d_Mo_takeInput_21,
   ts_iload_n hC d_Mo_takeInput_24 rfl,
   ts_iconst hC d_Mo_takeInput_25 (by decide),
   ts_iadd hC d_Mo_takeInput_26,
   ts_iaload hC d_Mo_takeInput_27,
   ts_iastore hC d_Mo_takeInput_28,
   ts_aload_n hC d_Mo_takeInput_29 rfl,
   ts_gr (j := 10) (C := R_Mo) (T := T_Mo) hC rfl rfl rfl (by decide) u_Mo wd_466 rfl d_Mo_takeInput_30,
   ts_iload_n hC d_Mo_takeInput_33 rfl,
   ts_aload_n hC d_Mo_takeInput_34 rfl,
   ts_gr (j := 10) (C := R_Mo) (T := T_Mo) hC rfl rfl rfl (by decide) u_Mo wd_466 rfl d_Mo_takeInput_35,
   ts_iload_n hC d_Mo_takeInput_38 rfl,
   ts_iconst hC d_Mo_takeInput_39 (by decide),
   ts_iadd hC d_Mo_takeInput_40,
   ts_iaload hC d_Mo_takeInput_41,
   ts_iastore hC d_Mo_takeInput_42,
   ts_iinc hC d_Mo_takeInput_43 (by decide) (by decide),
   ts_goto hC d_Mo_takeInput_46 (by decide),
   ts_aload_n hC d_Mo_takeInput_49 rfl,
   ts_gr (j := 8) (C := R_Mo) (T := T_Mo) hC rfl rfl rfl (by decide) u_Mo wd_464 rfl d_Mo_takeInput_50,
   ts_iload_n hC d_Mo_takeInput_53 rfl,
   ts_aload_n hC d_Mo_takeInput_54 rfl,
   ts_gr (j := 8) (C := R_Mo) (T := T_Mo) hC rfl rfl rfl (by decide) u_Mo wd_464 rfl d_Mo_takeInput_55,
   ts_iload_n hC d_Mo_takeInput_58 rfl,
   ts_iaload hC d_Mo_takeInput_59,
   ts_iconst hC d_Mo_takeInput_60 (by decide),
   ts_isub hC d_Mo_takeInput_61,
   ts_iastore hC d_Mo_takeInput_62,
   ts_vret hC rfl d_Mo_takeInput_63,
   trivial⟩
noncomputable def fn_Mo_takeInput : tw_Fn := tw_fl 2 3 400 pr_Mo_takeInput
theorem con_Mo_takeInput : tw_Con y_Mo_takeInput b_Mo_takeInput 3 none 0 fn_Mo_takeInput := tw_met (by decide +kernel) (tw_fl_len (n := 2) (by decide)) (fun p l e s m args below meth c E D vs σ ρ hC h => tw_sound (ok_Mo_takeInput hC) 400 pr_Mo_takeInput (ok_Mo_takeInput hC) _ _ _ (tw_fl_get h))

-- TwinHostModel.turn()I: 3 instructions, depth 0, calls 
theorem d_Mo_turn_0 : decode b_Mo_turn 0 = .ok (.aload_n 0, 1) := by decide +kernel
theorem d_Mo_turn_1 : decode b_Mo_turn 1 = .ok (.getfield 161, 3) := by decide +kernel
theorem d_Mo_turn_4 : decode b_Mo_turn 4 = .ok (.ireturn, 1) := by decide +kernel
noncomputable def pr_Mo_turn : List (Nat × tw_Op) := [(0, tw_al 0), (1, tw_gi 22 1), (4, tw_ri)]
set_option maxRecDepth 100000 in
set_option maxHeartbeats 4000000 in
theorem ok_Mo_turn {p : Program} {l : Launch} {e : Env} {s : State} {m : MethodId} {args : Array Value} {below : List Frame} {meth : Method} {c : Code} {E : tw_E} {D : va_G} {ρ : tw_R} (hC : tw_Cx p s m args meth c b_Mo_turn 1 (some .int) "TwinHostModel" E D) : tw_Ok p l e (tw_rmd 0) s m args below meth c 0 0 (MQ below (tw_Qc E D ρ) args s 0 0 (tw_A E)) 1 E D ρ pr_Mo_turn :=
  ⟨ts_aload_n hC d_Mo_turn_0 rfl,
   ts_gi (j := 1) (C := R_Mo) (T := T_Mo) hC rfl rfl rfl (by decide) u_Mo wd_457 rfl d_Mo_turn_1,
   ts_iret hC rfl d_Mo_turn_4,
   trivial⟩
noncomputable def fn_Mo_turn : tw_Fn := tw_fl 1 1 5 pr_Mo_turn
theorem con_Mo_turn : tw_Con y_Mo_turn b_Mo_turn 1 (some .int) 0 fn_Mo_turn := tw_met (by decide +kernel) (tw_fl_len (n := 1) (by decide)) (fun p l e s m args below meth c E D vs σ ρ hC h => tw_sound (ok_Mo_turn hC) 5 pr_Mo_turn (ok_Mo_turn hC) _ _ _ (tw_fl_get h))
