-- TwinHostModel.count(II)I: 19 instructions, depth 1, calls Mo_guest
theorem d_Mo_count_0 : decode b_Mo_count 0 = .ok (.iload_n 1, 1) := by decide +kernel
theorem d_Mo_count_1 : decode b_Mo_count 1 = .ok (.invokestatic 62, 3) := by decide +kernel
theorem d_Mo_count_4 : decode b_Mo_count 4 = .ok (.ifCond .eq 27, 3) := by decide +kernel
theorem d_Mo_count_7 : decode b_Mo_count 7 = .ok (.iload_n 2, 1) := by decide +kernel
theorem d_Mo_count_8 : decode b_Mo_count 8 = .ok (.ifCond .lt 23, 3) := by decide +kernel
theorem d_Mo_count_11 : decode b_Mo_count 11 = .ok (.iload_n 2, 1) := by decide +kernel
theorem d_Mo_count_12 : decode b_Mo_count 12 = .ok (.bipush 8, 2) := by decide +kernel
theorem d_Mo_count_14 : decode b_Mo_count 14 = .ok (.if_icmp .gt 17, 3) := by decide +kernel
theorem d_Mo_count_17 : decode b_Mo_count 17 = .ok (.aload_n 0, 1) := by decide +kernel
theorem d_Mo_count_18 : decode b_Mo_count 18 = .ok (.getfield 35, 3) := by decide +kernel
theorem d_Mo_count_21 : decode b_Mo_count 21 = .ok (.bipush 9, 2) := by decide +kernel
theorem d_Mo_count_23 : decode b_Mo_count 23 = .ok (.iload_n 1, 1) := by decide +kernel
theorem d_Mo_count_24 : decode b_Mo_count 24 = .ok (.imul, 1) := by decide +kernel
theorem d_Mo_count_25 : decode b_Mo_count 25 = .ok (.iload_n 2, 1) := by decide +kernel
theorem d_Mo_count_26 : decode b_Mo_count 26 = .ok (.iadd, 1) := by decide +kernel
theorem d_Mo_count_27 : decode b_Mo_count 27 = .ok (.iaload, 1) := by decide +kernel
theorem d_Mo_count_28 : decode b_Mo_count 28 = .ok (.goto 4, 3) := by decide +kernel
theorem d_Mo_count_31 : decode b_Mo_count 31 = .ok (.iconst (-1), 1) := by decide +kernel
theorem d_Mo_count_32 : decode b_Mo_count 32 = .ok (.ireturn, 1) := by decide +kernel
noncomputable def pr_Mo_count : List (Nat × tw_Op) := [(0, tw_il 1), (1, tw_cs 1 fn_Mo_guest), (4, tw_ifeq 31), (7, tw_il 2), (8, tw_iflt 31), (11, tw_il 2), (12, tw_ic (8)), (14, tw_cgt 31), (17, tw_al 0), (18, tw_gr 22 31), (21, tw_ic (9)), (23, tw_il 1), (24, tw_bin (· * ·)), (25, tw_il 2), (26, tw_bin (· + ·)), (27, tw_ia), (28, tw_jmp 32), (31, tw_ic (-1)), (32, tw_ri)]
set_option maxRecDepth 100000 in
set_option maxHeartbeats 4000000 in
theorem ok_Mo_count {p : Program} {l : Launch} {e : Env} {s : State} {m : MethodId} {args : Array Value} {below : List Frame} {meth : Method} {c : Code} {E : tw_E} {D : va_G} {ρ : tw_R} (hC : tw_Cx p s m args meth c b_Mo_count 3 (some .int) "TwinHostModel" E D) : tw_Ok p l e (tw_rmd 1) s m args below meth c 0 0 (MQ below (tw_Qc E D ρ) args s 0 0 (tw_A E)) 3 E D ρ pr_Mo_count :=
  ⟨ts_iload_n hC d_Mo_count_0 rfl,
   ts_calls hC con_Mo_guest wd_524 wd_30 (by decide +kernel) ⟨by decide, by decide⟩ ⟨Nat.zero_le _, Nat.zero_le _⟩ wd_522 wd_523 d_Mo_count_1,
   ts_ifeq hC d_Mo_count_4 (by decide),
   ts_iload_n hC d_Mo_count_7 rfl,
   ts_iflt hC d_Mo_count_8 (by decide),
   ts_iload_n hC d_Mo_count_11 rfl,
   ts_bipush hC d_Mo_count_12 (by decide),
   ts_cgt hC d_Mo_count_14 (by decide),
   ts_aload_n hC d_Mo_count_17 rfl,
   ts_gr (j := 11) (C := R_Mo) (T := T_Mo) hC rfl rfl rfl (by decide) u_Mo wd_467 rfl d_Mo_count_18,
   ts_bipush hC d_Mo_count_21 (by decide),
   ts_iload_n hC d_Mo_count_23 rfl,
   ts_imul hC d_Mo_count_24,
   ts_iload_n hC d_Mo_count_25 rfl,
   ts_iadd hC d_Mo_count_26,
   ts_iaload hC d_Mo_count_27,
   ts_goto hC d_Mo_count_28 (by decide),
   ts_iconst hC d_Mo_count_31 (by decide),
   ts_iret hC rfl d_Mo_count_32,
   trivial⟩
noncomputable def fn_Mo_count : tw_Fn := tw_fl 3 3 21 pr_Mo_count
theorem con_Mo_count : tw_Con y_Mo_count b_Mo_count 3 (some .int) 1 fn_Mo_count := tw_met (by decide +kernel) (tw_fl_len (n := 3) (by decide)) (fun p l e s m args below meth c E D vs σ ρ hC h => tw_sound (ok_Mo_count hC) 21 pr_Mo_count (ok_Mo_count hC) _ _ _ (tw_fl_get h))

-- TwinHostModel.drop(II)V: 41 instructions, depth 1, calls Mo_add
theorem d_Mo_drop_0 : decode b_Mo_drop 0 = .ok (.bipush 16, 2) := by decide +kernel
theorem d_Mo_drop_2 : decode b_Mo_drop 2 = .ok (.iload_n 1, 1) := by decide +kernel
theorem d_Mo_drop_3 : decode b_Mo_drop 3 = .ok (.imul, 1) := by decide +kernel
theorem d_Mo_drop_4 : decode b_Mo_drop 4 = .ok (.istore_n 3, 1) := by decide +kernel
theorem d_Mo_drop_5 : decode b_Mo_drop 5 = .ok (.iload_n 3, 1) := by decide +kernel
theorem d_Mo_drop_6 : decode b_Mo_drop 6 = .ok (.bipush 16, 2) := by decide +kernel
theorem d_Mo_drop_8 : decode b_Mo_drop 8 = .ok (.iload_n 1, 1) := by decide +kernel
theorem d_Mo_drop_9 : decode b_Mo_drop 9 = .ok (.imul, 1) := by decide +kernel
theorem d_Mo_drop_10 : decode b_Mo_drop 10 = .ok (.bipush 16, 2) := by decide +kernel
theorem d_Mo_drop_12 : decode b_Mo_drop 12 = .ok (.iadd, 1) := by decide +kernel
theorem d_Mo_drop_13 : decode b_Mo_drop 13 = .ok (.if_icmp .ge 52, 3) := by decide +kernel
theorem d_Mo_drop_16 : decode b_Mo_drop 16 = .ok (.aload_n 0, 1) := by decide +kernel
theorem d_Mo_drop_17 : decode b_Mo_drop 17 = .ok (.getfield 38, 3) := by decide +kernel
theorem d_Mo_drop_20 : decode b_Mo_drop 20 = .ok (.iload_n 3, 1) := by decide +kernel
theorem d_Mo_drop_21 : decode b_Mo_drop 21 = .ok (.iaload, 1) := by decide +kernel
theorem d_Mo_drop_22 : decode b_Mo_drop 22 = .ok (.ifCond .lt 37, 3) := by decide +kernel
theorem d_Mo_drop_25 : decode b_Mo_drop 25 = .ok (.aload_n 0, 1) := by decide +kernel
theorem d_Mo_drop_26 : decode b_Mo_drop 26 = .ok (.getfield 47, 3) := by decide +kernel
theorem d_Mo_drop_29 : decode b_Mo_drop 29 = .ok (.iload_n 3, 1) := by decide +kernel
theorem d_Mo_drop_30 : decode b_Mo_drop 30 = .ok (.iaload, 1) := by decide +kernel
theorem d_Mo_drop_31 : decode b_Mo_drop 31 = .ok (.iload_n 2, 1) := by decide +kernel
theorem d_Mo_drop_32 : decode b_Mo_drop 32 = .ok (.if_icmp .eq 13, 3) := by decide +kernel
theorem d_Mo_drop_35 : decode b_Mo_drop 35 = .ok (.aload_n 0, 1) := by decide +kernel
theorem d_Mo_drop_36 : decode b_Mo_drop 36 = .ok (.getfield 50, 3) := by decide +kernel
theorem d_Mo_drop_39 : decode b_Mo_drop 39 = .ok (.iload_n 3, 1) := by decide +kernel
theorem d_Mo_drop_40 : decode b_Mo_drop 40 = .ok (.iaload, 1) := by decide +kernel
theorem d_Mo_drop_41 : decode b_Mo_drop 41 = .ok (.iload_n 2, 1) := by decide +kernel
theorem d_Mo_drop_42 : decode b_Mo_drop 42 = .ok (.if_icmp .ne 17, 3) := by decide +kernel
theorem d_Mo_drop_45 : decode b_Mo_drop 45 = .ok (.aload_n 0, 1) := by decide +kernel
theorem d_Mo_drop_46 : decode b_Mo_drop 46 = .ok (.getfield 38, 3) := by decide +kernel
theorem d_Mo_drop_49 : decode b_Mo_drop 49 = .ok (.iload_n 3, 1) := by decide +kernel
theorem d_Mo_drop_50 : decode b_Mo_drop 50 = .ok (.iconst (-1), 1) := by decide +kernel
theorem d_Mo_drop_51 : decode b_Mo_drop 51 = .ok (.iastore, 1) := by decide +kernel
theorem d_Mo_drop_52 : decode b_Mo_drop 52 = .ok (.aload_n 0, 1) := by decide +kernel
theorem d_Mo_drop_53 : decode b_Mo_drop 53 = .ok (.iload_n 1, 1) := by decide +kernel
theorem d_Mo_drop_54 : decode b_Mo_drop 54 = .ok (.iconst 4, 1) := by decide +kernel
theorem d_Mo_drop_55 : decode b_Mo_drop 55 = .ok (.iconst 1, 1) := by decide +kernel
theorem d_Mo_drop_56 : decode b_Mo_drop 56 = .ok (.invokevirtual 58, 3) := by decide +kernel
theorem d_Mo_drop_59 : decode b_Mo_drop 59 = .ok (.iinc 3 1, 3) := by decide +kernel
theorem d_Mo_drop_62 : decode b_Mo_drop 62 = .ok (.goto (-57), 3) := by decide +kernel
theorem d_Mo_drop_65 : decode b_Mo_drop 65 = .ok (.return_, 1) := by decide +kernel
noncomputable def pr_Mo_drop : List (Nat × tw_Op) := [(0, tw_ic (16)), (2, tw_il 1), (3, tw_bin (· * ·)), (4, tw_is 3), (5, tw_il 3), (6, tw_ic (16)), (8, tw_il 1), (9, tw_bin (· * ·)), (10, tw_ic (16)), (12, tw_bin (· + ·)), (13, tw_cge 65), (16, tw_al 0), (17, tw_gr 22 32), (20, tw_il 3), (21, tw_ia), (22, tw_iflt 59), (25, tw_al 0), (26, tw_gr 22 35), (29, tw_il 3), (30, tw_ia), (31, tw_il 2), (32, tw_ceq 45), (35, tw_al 0), (36, tw_gr 22 36), (39, tw_il 3), (40, tw_ia), (41, tw_il 2), (42, tw_cne 59), (45, tw_al 0), (46, tw_gr 22 32), (49, tw_il 3), (50, tw_ic (-1)), (51, tw_ias 22 37), (52, tw_al 0), (53, tw_il 1), (54, tw_ic 4), (55, tw_ic 1), (56, tw_cv 3 22 fn_Mo_add), (59, tw_inc 3 (1)), (62, tw_jmp 5), (65, tw_r0)]
set_option maxRecDepth 100000 in
set_option maxHeartbeats 4000000 in
theorem ok_Mo_drop {p : Program} {l : Launch} {e : Env} {s : State} {m : MethodId} {args : Array Value} {below : List Frame} {meth : Method} {c : Code} {E : tw_E} {D : va_G} {ρ : tw_R} (hC : tw_Cx p s m args meth c b_Mo_drop 4 none "TwinHostModel" E D) : tw_Ok p l e (tw_rmd 1) s m args below meth c 0 0 (MQ below (tw_Qc E D ρ) args s 0 0 (tw_A E)) 4 E D ρ pr_Mo_drop :=
  ⟨ts_bipush hC d_Mo_drop_0 (by decide),
   ts_iload_n hC d_Mo_drop_2 rfl,
   ts_imul hC d_Mo_drop_3,
   ts_istore_n hC d_Mo_drop_4 rfl (by decide),
   ts_iload_n hC d_Mo_drop_5 rfl,
   ts_bipush hC d_Mo_drop_6 (by decide),
   ts_iload_n hC d_Mo_drop_8 rfl,
   ts_imul hC d_Mo_drop_9,
   ts_bipush hC d_Mo_drop_10 (by decide),
   ts_iadd hC d_Mo_drop_12,
   ts_cge hC d_Mo_drop_13 (by decide),
   ts_aload_n hC d_Mo_drop_16 rfl,
   ts_gr (j := 12) (C := R_Mo) (T := T_Mo) hC rfl rfl rfl (by decide) u_Mo wd_468 rfl d_Mo_drop_17,
   ts_iload_n hC d_Mo_drop_20 rfl,
   ts_iaload hC d_Mo_drop_21,
   ts_iflt hC d_Mo_drop_22 (by decide),
   ts_aload_n hC d_Mo_drop_25 rfl,
   ts_gr (j := 15) (C := R_Mo) (T := T_Mo) hC rfl rfl rfl (by decide) u_Mo wd_471 rfl d_Mo_drop_26,
   ts_iload_n hC d_Mo_drop_29 rfl,
   ts_iaload hC d_Mo_drop_30,
   ts_iload_n hC d_Mo_drop_31 rfl,
   ts_ceq hC d_Mo_drop_32 (by decide),
   ts_aload_n hC d_Mo_drop_35 rfl,
   ts_gr (j := 16) (C := R_Mo) (T := T_Mo) hC rfl rfl rfl (by decide) u_Mo wd_472 rfl d_Mo_drop_36,
   ts_iload_n hC d_Mo_drop_39 rfl,
   ts_iaload hC d_Mo_drop_40,
   ts_iload_n hC d_Mo_drop_41 rfl,
   ts_cne hC d_Mo_drop_42 (by decide),
   ts_aload_n hC d_Mo_drop_45 rfl,
   ts_gr (j := 12) (C := R_Mo) (T := T_Mo) hC rfl rfl rfl (by decide) u_Mo wd_468 rfl d_Mo_drop_46,
   ts_iload_n hC d_Mo_drop_49 rfl,
   ts_iconst hC d_Mo_drop_50 (by decide),
   ts_iastore hC d_Mo_drop_51,
   ts_aload_n hC d_Mo_drop_52 rfl,
   ts_iload_n hC d_Mo_drop_53 rfl,
   ts_iconst hC d_Mo_drop_54 (by decide),
   ts_iconst hC d_Mo_drop_55 (by decide),
   ts_callv (C := R_Mo) (T := T_Mo) hC con_Mo_add wd_540 wd_30 (by decide +kernel) ⟨by decide, by decide⟩ ⟨Nat.zero_le _, Nat.zero_le _⟩ wd_537 rfl rfl wd_539 wd_2 d_Mo_drop_56,
   ts_iinc hC d_Mo_drop_59 (by decide) (by decide),
   ts_goto hC d_Mo_drop_62 (by decide),
   ts_vret hC rfl d_Mo_drop_65,
   trivial⟩
noncomputable def fn_Mo_drop : tw_Fn := tw_fl 3 4 1200 pr_Mo_drop
theorem con_Mo_drop : tw_Con y_Mo_drop b_Mo_drop 4 none 1 fn_Mo_drop := tw_met (by decide +kernel) (tw_fl_len (n := 3) (by decide)) (fun p l e s m args below meth c E D vs σ ρ hC h => tw_sound (ok_Mo_drop hC) 1200 pr_Mo_drop (ok_Mo_drop hC) _ _ _ (tw_fl_get h))

-- TwinHostModel.fill(IIII)V: 48 instructions, depth 1, calls Mo_add
theorem d_Mo_fill_0 : decode b_Mo_fill 0 = .ok (.aload_n 0, 1) := by decide +kernel
theorem d_Mo_fill_1 : decode b_Mo_fill 1 = .ok (.getfield 38, 3) := by decide +kernel
theorem d_Mo_fill_4 : decode b_Mo_fill 4 = .ok (.iload_n 2, 1) := by decide +kernel
theorem d_Mo_fill_5 : decode b_Mo_fill 5 = .ok (.iload_n 3, 1) := by decide +kernel
theorem d_Mo_fill_6 : decode b_Mo_fill 6 = .ok (.iastore, 1) := by decide +kernel
theorem d_Mo_fill_7 : decode b_Mo_fill 7 = .ok (.aload_n 0, 1) := by decide +kernel
theorem d_Mo_fill_8 : decode b_Mo_fill 8 = .ok (.getfield 41, 3) := by decide +kernel
theorem d_Mo_fill_11 : decode b_Mo_fill 11 = .ok (.iload_n 2, 1) := by decide +kernel
theorem d_Mo_fill_12 : decode b_Mo_fill 12 = .ok (.iload 4, 2) := by decide +kernel
theorem d_Mo_fill_14 : decode b_Mo_fill 14 = .ok (.bipush 30, 2) := by decide +kernel
theorem d_Mo_fill_16 : decode b_Mo_fill 16 = .ok (.iand, 1) := by decide +kernel
theorem d_Mo_fill_17 : decode b_Mo_fill 17 = .ok (.iastore, 1) := by decide +kernel
theorem d_Mo_fill_18 : decode b_Mo_fill 18 = .ok (.aload_n 0, 1) := by decide +kernel
theorem d_Mo_fill_19 : decode b_Mo_fill 19 = .ok (.getfield 44, 3) := by decide +kernel
theorem d_Mo_fill_22 : decode b_Mo_fill 22 = .ok (.iload_n 2, 1) := by decide +kernel
theorem d_Mo_fill_23 : decode b_Mo_fill 23 = .ok (.iload 4, 2) := by decide +kernel
theorem d_Mo_fill_25 : decode b_Mo_fill 25 = .ok (.bipush 64, 2) := by decide +kernel
theorem d_Mo_fill_27 : decode b_Mo_fill 27 = .ok (.iand, 1) := by decide +kernel
theorem d_Mo_fill_28 : decode b_Mo_fill 28 = .ok (.ifCond .eq 7, 3) := by decide +kernel
theorem d_Mo_fill_31 : decode b_Mo_fill 31 = .ok (.iconst 1, 1) := by decide +kernel
theorem d_Mo_fill_32 : decode b_Mo_fill 32 = .ok (.goto 4, 3) := by decide +kernel
theorem d_Mo_fill_35 : decode b_Mo_fill 35 = .ok (.iconst 0, 1) := by decide +kernel
theorem d_Mo_fill_36 : decode b_Mo_fill 36 = .ok (.bastore, 1) := by decide +kernel
theorem d_Mo_fill_37 : decode b_Mo_fill 37 = .ok (.aload_n 0, 1) := by decide +kernel
theorem d_Mo_fill_38 : decode b_Mo_fill 38 = .ok (.getfield 47, 3) := by decide +kernel
theorem d_Mo_fill_41 : decode b_Mo_fill 41 = .ok (.iload_n 2, 1) := by decide +kernel
theorem d_Mo_fill_42 : decode b_Mo_fill 42 = .ok (.aload_n 0, 1) := by decide +kernel
theorem d_Mo_fill_43 : decode b_Mo_fill 43 = .ok (.getfield 111, 3) := by decide +kernel
theorem d_Mo_fill_46 : decode b_Mo_fill 46 = .ok (.iastore, 1) := by decide +kernel
theorem d_Mo_fill_47 : decode b_Mo_fill 47 = .ok (.aload_n 0, 1) := by decide +kernel
theorem d_Mo_fill_48 : decode b_Mo_fill 48 = .ok (.getfield 50, 3) := by decide +kernel
theorem d_Mo_fill_51 : decode b_Mo_fill 51 = .ok (.iload_n 2, 1) := by decide +kernel
theorem d_Mo_fill_52 : decode b_Mo_fill 52 = .ok (.aload_n 0, 1) := by decide +kernel
theorem d_Mo_fill_53 : decode b_Mo_fill 53 = .ok (.getfield 114, 3) := by decide +kernel
theorem d_Mo_fill_56 : decode b_Mo_fill 56 = .ok (.aload_n 0, 1) := by decide +kernel
theorem d_Mo_fill_57 : decode b_Mo_fill 57 = .ok (.getfield 111, 3) := by decide +kernel
theorem d_Mo_fill_60 : decode b_Mo_fill 60 = .ok (.if_icmp .ne 7, 3) := by decide +kernel
theorem d_Mo_fill_63 : decode b_Mo_fill 63 = .ok (.iconst (-1), 1) := by decide +kernel
theorem d_Mo_fill_64 : decode b_Mo_fill 64 = .ok (.goto 7, 3) := by decide +kernel
theorem d_Mo_fill_67 : decode b_Mo_fill 67 = .ok (.aload_n 0, 1) := by decide +kernel
theorem d_Mo_fill_68 : decode b_Mo_fill 68 = .ok (.getfield 114, 3) := by decide +kernel
theorem d_Mo_fill_71 : decode b_Mo_fill 71 = .ok (.iastore, 1) := by decide +kernel
theorem d_Mo_fill_72 : decode b_Mo_fill 72 = .ok (.aload_n 0, 1) := by decide +kernel
theorem d_Mo_fill_73 : decode b_Mo_fill 73 = .ok (.iload_n 1, 1) := by decide +kernel
theorem d_Mo_fill_74 : decode b_Mo_fill 74 = .ok (.iconst 1, 1) := by decide +kernel
theorem d_Mo_fill_75 : decode b_Mo_fill 75 = .ok (.iconst 1, 1) := by decide +kernel
theorem d_Mo_fill_76 : decode b_Mo_fill 76 = .ok (.invokevirtual 58, 3) := by decide +kernel
theorem d_Mo_fill_79 : decode b_Mo_fill 79 = .ok (.return_, 1) := by decide +kernel
noncomputable def pr_Mo_fill : List (Nat × tw_Op) := [(0, tw_al 0), (1, tw_gr 22 32), (4, tw_il 2), (5, tw_il 3), (6, tw_ias 22 37), (7, tw_al 0), (8, tw_gr 22 33), (11, tw_il 2), (12, tw_il 4), (14, tw_ic (30)), (16, tw_bin (· &&& ·)), (17, tw_ias 22 37), (18, tw_al 0), (19, tw_gr 22 34), (22, tw_il 2), (23, tw_il 4), (25, tw_ic (64)), (27, tw_bin (· &&& ·)), (28, tw_ifeq 35), (31, tw_ic 1), (32, tw_jmp 36), (35, tw_ic 0), (36, tw_zas 22 37), (37, tw_al 0), (38, tw_gr 22 35), (41, tw_il 2), (42, tw_al 0), (43, tw_gi 22 18), (46, tw_ias 22 37), (47, tw_al 0), (48, tw_gr 22 36), (51, tw_il 2), (52, tw_al 0), (53, tw_gi 22 17), (56, tw_al 0), (57, tw_gi 22 18), (60, tw_cne 67), (63, tw_ic (-1)), (64, tw_jmp 71), (67, tw_al 0), (68, tw_gi 22 17), (71, tw_ias 22 37), (72, tw_al 0), (73, tw_il 1), (74, tw_ic 1), (75, tw_ic 1), (76, tw_cv 3 22 fn_Mo_add), (79, tw_r0)]
set_option maxRecDepth 100000 in
set_option maxHeartbeats 4000000 in
theorem ok_Mo_fill {p : Program} {l : Launch} {e : Env} {s : State} {m : MethodId} {args : Array Value} {below : List Frame} {meth : Method} {c : Code} {E : tw_E} {D : va_G} {ρ : tw_R} (hC : tw_Cx p s m args meth c b_Mo_fill 5 none "TwinHostModel" E D) : tw_Ok p l e (tw_rmd 1) s m args below meth c 0 0 (MQ below (tw_Qc E D ρ) args s 0 0 (tw_A E)) 5 E D ρ pr_Mo_fill :=
  ⟨ts_aload_n hC d_Mo_fill_0 rfl,
   ts_gr (j := 12) (C := R_Mo) (T := T_Mo) hC rfl rfl rfl (by decide) u_Mo wd_468 rfl d_Mo_fill_1,
   ts_iload_n hC d_Mo_fill_4 rfl,
   ts_iload_n hC d_Mo_fill_5 rfl,
   ts_iastore hC d_Mo_fill_6,
   ts_aload_n hC d_Mo_fill_7 rfl,
   ts_gr (j := 13) (C := R_Mo) (T := T_Mo) hC rfl rfl rfl (by decide) u_Mo wd_469 rfl d_Mo_fill_8,
   ts_iload_n hC d_Mo_fill_11 rfl,
   ts_iload hC d_Mo_fill_12,
   ts_bipush hC d_Mo_fill_14 (by decide),
   ts_iand hC d_Mo_fill_16,
   ts_iastore hC d_Mo_fill_17,
   ts_aload_n hC d_Mo_fill_18 rfl,
   ts_gr (j := 14) (C := R_Mo) (T := T_Mo) hC rfl rfl rfl (by decide) u_Mo wd_470 rfl d_Mo_fill_19,
   ts_iload_n hC d_Mo_fill_22 rfl,
   ts_iload hC d_Mo_fill_23,
   ts_bipush hC d_Mo_fill_25 (by decide),
   ts_iand hC d_Mo_fill_27,
   ts_ifeq hC d_Mo_fill_28 (by decide),
   ts_iconst hC d_Mo_fill_31 (by decide),
   ts_goto hC d_Mo_fill_32 (by decide),
   ts_iconst hC d_Mo_fill_35 (by decide),
   ts_bastore hC d_Mo_fill_36,
   ts_aload_n hC d_Mo_fill_37 rfl,
   ts_gr (j := 15) (C := R_Mo) (T := T_Mo) hC rfl rfl rfl (by decide) u_Mo wd_471 rfl d_Mo_fill_38,
   ts_iload_n hC d_Mo_fill_41 rfl,
   ts_aload_n hC d_Mo_fill_42 rfl,
   ts_gi (j := 18) (C := R_Mo) (T := T_Mo) hC rfl rfl rfl (by decide) u_Mo wd_474 rfl d_Mo_fill_43,
   ts_iastore hC d_Mo_fill_46,
   ts_aload_n hC d_Mo_fill_47 rfl,
   ts_gr (j := 16) (C := R_Mo) (T := T_Mo) hC rfl rfl rfl (by decide) u_Mo wd_472 rfl d_Mo_fill_48,
   ts_iload_n hC d_Mo_fill_51 rfl,
   ts_aload_n hC d_Mo_fill_52 rfl,
   ts_gi (j := 17) (C := R_Mo) (T := T_Mo) hC rfl rfl rfl (by decide) u_Mo wd_473 rfl d_Mo_fill_53,
   ts_aload_n hC d_Mo_fill_56 rfl,
   ts_gi (j := 18) (C := R_Mo) (T := T_Mo) hC rfl rfl rfl (by decide) u_Mo wd_474 rfl d_Mo_fill_57,
   ts_cne hC d_Mo_fill_60 (by decide),
   ts_iconst hC d_Mo_fill_63 (by decide),
   ts_goto hC d_Mo_fill_64 (by decide),
   ts_aload_n hC d_Mo_fill_67 rfl,
   ts_gi (j := 17) (C := R_Mo) (T := T_Mo) hC rfl rfl rfl (by decide) u_Mo wd_473 rfl d_Mo_fill_68,
   ts_iastore hC d_Mo_fill_71,
   ts_aload_n hC d_Mo_fill_72 rfl,
   ts_iload_n hC d_Mo_fill_73 rfl,
   ts_iconst hC d_Mo_fill_74 (by decide),
   ts_iconst hC d_Mo_fill_75 (by decide),
   ts_callv (C := R_Mo) (T := T_Mo) hC con_Mo_add wd_540 wd_30 (by decide +kernel) ⟨by decide, by decide⟩ ⟨Nat.zero_le _, Nat.zero_le _⟩ wd_537 rfl rfl wd_539 wd_2 d_Mo_fill_76,
   ts_vret hC rfl d_Mo_fill_79,
   trivial⟩
noncomputable def fn_Mo_fill : tw_Fn := tw_fl 5 5 50 pr_Mo_fill
theorem con_Mo_fill : tw_Con y_Mo_fill b_Mo_fill 5 none 1 fn_Mo_fill := tw_met (by decide +kernel) (tw_fl_len (n := 5) (by decide)) (fun p l e s m args below meth c E D vs σ ρ hC h => tw_sound (ok_Mo_fill hC) 50 pr_Mo_fill (ok_Mo_fill hC) _ _ _ (tw_fl_get h))

-- TwinHostModel.flush(I)V: 24 instructions, depth 1, calls Mo_add
theorem d_Mo_flush_0 : decode b_Mo_flush 0 = .ok (.bipush 16, 2) := by decide +kernel
theorem d_Mo_flush_2 : decode b_Mo_flush 2 = .ok (.iload_n 1, 1) := by decide +kernel
theorem d_Mo_flush_3 : decode b_Mo_flush 3 = .ok (.imul, 1) := by decide +kernel
theorem d_Mo_flush_4 : decode b_Mo_flush 4 = .ok (.istore_n 2, 1) := by decide +kernel
theorem d_Mo_flush_5 : decode b_Mo_flush 5 = .ok (.iload_n 2, 1) := by decide +kernel
theorem d_Mo_flush_6 : decode b_Mo_flush 6 = .ok (.bipush 16, 2) := by decide +kernel
theorem d_Mo_flush_8 : decode b_Mo_flush 8 = .ok (.iload_n 1, 1) := by decide +kernel
theorem d_Mo_flush_9 : decode b_Mo_flush 9 = .ok (.imul, 1) := by decide +kernel
theorem d_Mo_flush_10 : decode b_Mo_flush 10 = .ok (.bipush 16, 2) := by decide +kernel
theorem d_Mo_flush_12 : decode b_Mo_flush 12 = .ok (.iadd, 1) := by decide +kernel
theorem d_Mo_flush_13 : decode b_Mo_flush 13 = .ok (.if_icmp .ge 16, 3) := by decide +kernel
theorem d_Mo_flush_16 : decode b_Mo_flush 16 = .ok (.aload_n 0, 1) := by decide +kernel
theorem d_Mo_flush_17 : decode b_Mo_flush 17 = .ok (.getfield 38, 3) := by decide +kernel
theorem d_Mo_flush_20 : decode b_Mo_flush 20 = .ok (.iload_n 2, 1) := by decide +kernel
theorem d_Mo_flush_21 : decode b_Mo_flush 21 = .ok (.iconst (-1), 1) := by decide +kernel
theorem d_Mo_flush_22 : decode b_Mo_flush 22 = .ok (.iastore, 1) := by decide +kernel
theorem d_Mo_flush_23 : decode b_Mo_flush 23 = .ok (.iinc 2 1, 3) := by decide +kernel
theorem d_Mo_flush_26 : decode b_Mo_flush 26 = .ok (.goto (-21), 3) := by decide +kernel
theorem d_Mo_flush_29 : decode b_Mo_flush 29 = .ok (.aload_n 0, 1) := by decide +kernel
theorem d_Mo_flush_30 : decode b_Mo_flush 30 = .ok (.iload_n 1, 1) := by decide +kernel
theorem d_Mo_flush_31 : decode b_Mo_flush 31 = .ok (.iconst 5, 1) := by decide +kernel
theorem d_Mo_flush_32 : decode b_Mo_flush 32 = .ok (.iconst 1, 1) := by decide +kernel
theorem d_Mo_flush_33 : decode b_Mo_flush 33 = .ok (.invokevirtual 58, 3) := by decide +kernel
theorem d_Mo_flush_36 : decode b_Mo_flush 36 = .ok (.return_, 1) := by decide +kernel
noncomputable def pr_Mo_flush : List (Nat × tw_Op) := [(0, tw_ic (16)), (2, tw_il 1), (3, tw_bin (· * ·)), (4, tw_is 2), (5, tw_il 2), (6, tw_ic (16)), (8, tw_il 1), (9, tw_bin (· * ·)), (10, tw_ic (16)), (12, tw_bin (· + ·)), (13, tw_cge 29), (16, tw_al 0), (17, tw_gr 22 32), (20, tw_il 2), (21, tw_ic (-1)), (22, tw_ias 22 37), (23, tw_inc 2 (1)), (26, tw_jmp 5), (29, tw_al 0), (30, tw_il 1), (31, tw_ic 5), (32, tw_ic 1), (33, tw_cv 3 22 fn_Mo_add), (36, tw_r0)]
set_option maxRecDepth 100000 in
set_option maxHeartbeats 4000000 in
theorem ok_Mo_flush {p : Program} {l : Launch} {e : Env} {s : State} {m : MethodId} {args : Array Value} {below : List Frame} {meth : Method} {c : Code} {E : tw_E} {D : va_G} {ρ : tw_R} (hC : tw_Cx p s m args meth c b_Mo_flush 3 none "TwinHostModel" E D) : tw_Ok p l e (tw_rmd 1) s m args below meth c 0 0 (MQ below (tw_Qc E D ρ) args s 0 0 (tw_A E)) 3 E D ρ pr_Mo_flush :=
  ⟨ts_bipush hC d_Mo_flush_0 (by decide),
   ts_iload_n hC d_Mo_flush_2 rfl,
   ts_imul hC d_Mo_flush_3,
   ts_istore_n hC d_Mo_flush_4 rfl (by decide),
   ts_iload_n hC d_Mo_flush_5 rfl,
   ts_bipush hC d_Mo_flush_6 (by decide),
   ts_iload_n hC d_Mo_flush_8 rfl,
   ts_imul hC d_Mo_flush_9,
   ts_bipush hC d_Mo_flush_10 (by decide),
   ts_iadd hC d_Mo_flush_12,
   ts_cge hC d_Mo_flush_13 (by decide),
   ts_aload_n hC d_Mo_flush_16 rfl,
   ts_gr (j := 12) (C := R_Mo) (T := T_Mo) hC rfl rfl rfl (by decide) u_Mo wd_468 rfl d_Mo_flush_17,
   ts_iload_n hC d_Mo_flush_20 rfl,
   ts_iconst hC d_Mo_flush_21 (by decide),
   ts_iastore hC d_Mo_flush_22,
   ts_iinc hC d_Mo_flush_23 (by decide) (by decide),
   ts_goto hC d_Mo_flush_26 (by decide),
   ts_aload_n hC d_Mo_flush_29 rfl,
   ts_iload_n hC d_Mo_flush_30 rfl,
   ts_iconst hC d_Mo_flush_31 (by decide),
   ts_iconst hC d_Mo_flush_32 (by decide),
   ts_callv (C := R_Mo) (T := T_Mo) hC con_Mo_add wd_540 wd_30 (by decide +kernel) ⟨by decide, by decide⟩ ⟨Nat.zero_le _, Nat.zero_le _⟩ wd_537 rfl rfl wd_539 wd_2 d_Mo_flush_33,
   ts_vret hC rfl d_Mo_flush_36,
   trivial⟩
noncomputable def fn_Mo_flush : tw_Fn := tw_fl 2 3 400 pr_Mo_flush
theorem con_Mo_flush : tw_Con y_Mo_flush b_Mo_flush 3 none 1 fn_Mo_flush := tw_met (by decide +kernel) (tw_fl_len (n := 2) (by decide)) (fun p l e s m args below meth c E D vs σ ρ hC h => tw_sound (ok_Mo_flush hC) 400 pr_Mo_flush (ok_Mo_flush hC) _ _ _ (tw_fl_get h))

-- TwinHostModel.give(III)Z: 17 instructions, depth 1, calls Mo_guest Mo_put
theorem d_Mo_give_0 : decode b_Mo_give 0 = .ok (.iload_n 1, 1) := by decide +kernel
theorem d_Mo_give_1 : decode b_Mo_give 1 = .ok (.invokestatic 62, 3) := by decide +kernel
theorem d_Mo_give_4 : decode b_Mo_give 4 = .ok (.ifCond .eq 13, 3) := by decide +kernel
theorem d_Mo_give_7 : decode b_Mo_give 7 = .ok (.iload_n 2, 1) := by decide +kernel
theorem d_Mo_give_8 : decode b_Mo_give 8 = .ok (.ifCond .lt 9, 3) := by decide +kernel
theorem d_Mo_give_11 : decode b_Mo_give 11 = .ok (.iload_n 2, 1) := by decide +kernel
theorem d_Mo_give_12 : decode b_Mo_give 12 = .ok (.bipush 7, 2) := by decide +kernel
theorem d_Mo_give_14 : decode b_Mo_give 14 = .ok (.if_icmp .le 5, 3) := by decide +kernel
theorem d_Mo_give_17 : decode b_Mo_give 17 = .ok (.iconst 0, 1) := by decide +kernel
theorem d_Mo_give_18 : decode b_Mo_give 18 = .ok (.ireturn, 1) := by decide +kernel
theorem d_Mo_give_19 : decode b_Mo_give 19 = .ok (.aload_n 0, 1) := by decide +kernel
theorem d_Mo_give_20 : decode b_Mo_give 20 = .ok (.iload_n 1, 1) := by decide +kernel
theorem d_Mo_give_21 : decode b_Mo_give 21 = .ok (.iload_n 2, 1) := by decide +kernel
theorem d_Mo_give_22 : decode b_Mo_give 22 = .ok (.iload_n 3, 1) := by decide +kernel
theorem d_Mo_give_23 : decode b_Mo_give 23 = .ok (.invokevirtual 70, 3) := by decide +kernel
theorem d_Mo_give_26 : decode b_Mo_give 26 = .ok (.iconst 1, 1) := by decide +kernel
theorem d_Mo_give_27 : decode b_Mo_give 27 = .ok (.ireturn, 1) := by decide +kernel
noncomputable def pr_Mo_give : List (Nat × tw_Op) := [(0, tw_il 1), (1, tw_cs 1 fn_Mo_guest), (4, tw_ifeq 17), (7, tw_il 2), (8, tw_iflt 17), (11, tw_il 2), (12, tw_ic (7)), (14, tw_cle 19), (17, tw_ic 0), (18, tw_rz), (19, tw_al 0), (20, tw_il 1), (21, tw_il 2), (22, tw_il 3), (23, tw_cv 3 22 fn_Mo_put), (26, tw_ic 1), (27, tw_rz)]
set_option maxRecDepth 100000 in
set_option maxHeartbeats 4000000 in
theorem ok_Mo_give {p : Program} {l : Launch} {e : Env} {s : State} {m : MethodId} {args : Array Value} {below : List Frame} {meth : Method} {c : Code} {E : tw_E} {D : va_G} {ρ : tw_R} (hC : tw_Cx p s m args meth c b_Mo_give 4 (some .boolean) "TwinHostModel" E D) : tw_Ok p l e (tw_rmd 1) s m args below meth c 0 0 (MQ below (tw_Qc E D ρ) args s 0 0 (tw_A E)) 4 E D ρ pr_Mo_give :=
  ⟨ts_iload_n hC d_Mo_give_0 rfl,
   ts_calls hC con_Mo_guest wd_524 wd_30 (by decide +kernel) ⟨by decide, by decide⟩ ⟨Nat.zero_le _, Nat.zero_le _⟩ wd_522 wd_523 d_Mo_give_1,
   ts_ifeq hC d_Mo_give_4 (by decide),
   ts_iload_n hC d_Mo_give_7 rfl,
   ts_iflt hC d_Mo_give_8 (by decide),
   ts_iload_n hC d_Mo_give_11 rfl,
   ts_bipush hC d_Mo_give_12 (by decide),
   ts_cle hC d_Mo_give_14 (by decide),
   ts_iconst hC d_Mo_give_17 (by decide),
   ts_zret hC rfl d_Mo_give_18,
   ts_aload_n hC d_Mo_give_19 rfl,
   ts_iload_n hC d_Mo_give_20 rfl,
   ts_iload_n hC d_Mo_give_21 rfl,
   ts_iload_n hC d_Mo_give_22 rfl,
   ts_callv (C := R_Mo) (T := T_Mo) hC con_Mo_put wd_552 wd_30 (by decide +kernel) ⟨by decide, by decide⟩ ⟨Nat.zero_le _, Nat.zero_le _⟩ wd_549 rfl rfl wd_551 wd_3 d_Mo_give_23,
   ts_iconst hC d_Mo_give_26 (by decide),
   ts_zret hC rfl d_Mo_give_27,
   trivial⟩
noncomputable def fn_Mo_give : tw_Fn := tw_fl 4 4 19 pr_Mo_give
theorem con_Mo_give : tw_Con y_Mo_give b_Mo_give 4 (some .boolean) 1 fn_Mo_give := tw_met (by decide +kernel) (tw_fl_len (n := 4) (by decide)) (fun p l e s m args below meth c E D vs σ ρ hC h => tw_sound (ok_Mo_give hC) 19 pr_Mo_give (ok_Mo_give hC) _ _ _ (tw_fl_get h))

-- TwinHostModel.input(III)Z: 49 instructions, depth 1, calls Mo_guest
theorem d_Mo_input_0 : decode b_Mo_input 0 = .ok (.iload_n 1, 1) := by decide +kernel
theorem d_Mo_input_1 : decode b_Mo_input 1 = .ok (.invokestatic 62, 3) := by decide +kernel
theorem d_Mo_input_4 : decode b_Mo_input 4 = .ok (.ifCond .eq 18, 3) := by decide +kernel
theorem d_Mo_input_7 : decode b_Mo_input 7 = .ok (.iload_n 2, 1) := by decide +kernel
theorem d_Mo_input_8 : decode b_Mo_input 8 = .ok (.ifCond .lt 14, 3) := by decide +kernel
theorem d_Mo_input_11 : decode b_Mo_input 11 = .ok (.aload_n 0, 1) := by decide +kernel
theorem d_Mo_input_12 : decode b_Mo_input 12 = .ok (.getfield 26, 3) := by decide +kernel
theorem d_Mo_input_15 : decode b_Mo_input 15 = .ok (.iload_n 1, 1) := by decide +kernel
theorem d_Mo_input_16 : decode b_Mo_input 16 = .ok (.iaload, 1) := by decide +kernel
theorem d_Mo_input_17 : decode b_Mo_input 17 = .ok (.bipush 6, 2) := by decide +kernel
theorem d_Mo_input_19 : decode b_Mo_input 19 = .ok (.if_icmp .lt 5, 3) := by decide +kernel
theorem d_Mo_input_22 : decode b_Mo_input 22 = .ok (.iconst 0, 1) := by decide +kernel
theorem d_Mo_input_23 : decode b_Mo_input 23 = .ok (.ireturn, 1) := by decide +kernel
theorem d_Mo_input_24 : decode b_Mo_input 24 = .ok (.aload_n 0, 1) := by decide +kernel
theorem d_Mo_input_25 : decode b_Mo_input 25 = .ok (.getfield 29, 3) := by decide +kernel
theorem d_Mo_input_28 : decode b_Mo_input 28 = .ok (.bipush 6, 2) := by decide +kernel
theorem d_Mo_input_30 : decode b_Mo_input 30 = .ok (.iload_n 1, 1) := by decide +kernel
theorem d_Mo_input_31 : decode b_Mo_input 31 = .ok (.imul, 1) := by decide +kernel
theorem d_Mo_input_32 : decode b_Mo_input 32 = .ok (.aload_n 0, 1) := by decide +kernel
theorem d_Mo_input_33 : decode b_Mo_input 33 = .ok (.getfield 26, 3) := by decide +kernel
theorem d_Mo_input_36 : decode b_Mo_input 36 = .ok (.iload_n 1, 1) := by decide +kernel
theorem d_Mo_input_37 : decode b_Mo_input 37 = .ok (.iaload, 1) := by decide +kernel
theorem d_Mo_input_38 : decode b_Mo_input 38 = .ok (.iadd, 1) := by decide +kernel
theorem d_Mo_input_39 : decode b_Mo_input 39 = .ok (.iload_n 2, 1) := by decide +kernel
theorem d_Mo_input_40 : decode b_Mo_input 40 = .ok (.iastore, 1) := by decide +kernel
theorem d_Mo_input_41 : decode b_Mo_input 41 = .ok (.aload_n 0, 1) := by decide +kernel
theorem d_Mo_input_42 : decode b_Mo_input 42 = .ok (.getfield 32, 3) := by decide +kernel
theorem d_Mo_input_45 : decode b_Mo_input 45 = .ok (.bipush 6, 2) := by decide +kernel
theorem d_Mo_input_47 : decode b_Mo_input 47 = .ok (.iload_n 1, 1) := by decide +kernel
theorem d_Mo_input_48 : decode b_Mo_input 48 = .ok (.imul, 1) := by decide +kernel
theorem d_Mo_input_49 : decode b_Mo_input 49 = .ok (.aload_n 0, 1) := by decide +kernel
theorem d_Mo_input_50 : decode b_Mo_input 50 = .ok (.getfield 26, 3) := by decide +kernel
theorem d_Mo_input_53 : decode b_Mo_input 53 = .ok (.iload_n 1, 1) := by decide +kernel
theorem d_Mo_input_54 : decode b_Mo_input 54 = .ok (.iaload, 1) := by decide +kernel
theorem d_Mo_input_55 : decode b_Mo_input 55 = .ok (.iadd, 1) := by decide +kernel
theorem d_Mo_input_56 : decode b_Mo_input 56 = .ok (.iload_n 3, 1) := by decide +kernel
theorem d_Mo_input_57 : decode b_Mo_input 57 = .ok (.iastore, 1) := by decide +kernel
theorem d_Mo_input_58 : decode b_Mo_input 58 = .ok (.aload_n 0, 1) := by decide +kernel
theorem d_Mo_input_59 : decode b_Mo_input 59 = .ok (.getfield 26, 3) := by decide +kernel
theorem d_Mo_input_62 : decode b_Mo_input 62 = .ok (.iload_n 1, 1) := by decide +kernel
theorem d_Mo_input_63 : decode b_Mo_input 63 = .ok (.aload_n 0, 1) := by decide +kernel
theorem d_Mo_input_64 : decode b_Mo_input 64 = .ok (.getfield 26, 3) := by decide +kernel
theorem d_Mo_input_67 : decode b_Mo_input 67 = .ok (.iload_n 1, 1) := by decide +kernel
theorem d_Mo_input_68 : decode b_Mo_input 68 = .ok (.iaload, 1) := by decide +kernel
theorem d_Mo_input_69 : decode b_Mo_input 69 = .ok (.iconst 1, 1) := by decide +kernel
theorem d_Mo_input_70 : decode b_Mo_input 70 = .ok (.iadd, 1) := by decide +kernel
theorem d_Mo_input_71 : decode b_Mo_input 71 = .ok (.iastore, 1) := by decide +kernel
theorem d_Mo_input_72 : decode b_Mo_input 72 = .ok (.iconst 1, 1) := by decide +kernel
theorem d_Mo_input_73 : decode b_Mo_input 73 = .ok (.ireturn, 1) := by decide +kernel
noncomputable def pr_Mo_input : List (Nat × tw_Op) := [(0, tw_il 1), (1, tw_cs 1 fn_Mo_guest), (4, tw_ifeq 22), (7, tw_il 2), (8, tw_iflt 22), (11, tw_al 0), (12, tw_gr 22 28), (15, tw_il 1), (16, tw_ia), (17, tw_ic (6)), (19, tw_clt 24), (22, tw_ic 0), (23, tw_rz), (24, tw_al 0), (25, tw_gr 22 29), (28, tw_ic (6)), (30, tw_il 1), (31, tw_bin (· * ·)), (32, tw_al 0), (33, tw_gr 22 28), (36, tw_il 1), (37, tw_ia), (38, tw_bin (· + ·)), (39, tw_il 2), (40, tw_ias 22 37), (41, tw_al 0), (42, tw_gr 22 30), (45, tw_ic (6)), (47, tw_il 1), (48, tw_bin (· * ·)), (49, tw_al 0), (50, tw_gr 22 28), (53, tw_il 1), (54, tw_ia), (55, tw_bin (· + ·)), (56, tw_il 3), (57, tw_ias 22 37), (58, tw_al 0), (59, tw_gr 22 28), (62, tw_il 1), (63, tw_al 0), (64, tw_gr 22 28), (67, tw_il 1), (68, tw_ia), (69, tw_ic 1), (70, tw_bin (· + ·)), (71, tw_ias 22 37), (72, tw_ic 1), (73, tw_rz)]
set_option maxRecDepth 100000 in
set_option maxHeartbeats 4000000 in
theorem ok_Mo_input {p : Program} {l : Launch} {e : Env} {s : State} {m : MethodId} {args : Array Value} {below : List Frame} {meth : Method} {c : Code} {E : tw_E} {D : va_G} {ρ : tw_R} (hC : tw_Cx p s m args meth c b_Mo_input 4 (some .boolean) "TwinHostModel" E D) : tw_Ok p l e (tw_rmd 1) s m args below meth c 0 0 (MQ below (tw_Qc E D ρ) args s 0 0 (tw_A E)) 4 E D ρ pr_Mo_input :=
  ⟨ts_iload_n hC d_Mo_input_0 rfl,
   ts_calls hC con_Mo_guest wd_524 wd_30 (by decide +kernel) ⟨by decide, by decide⟩ ⟨Nat.zero_le _, Nat.zero_le _⟩ wd_522 wd_523 d_Mo_input_1,
   ts_ifeq hC d_Mo_input_4 (by decide),
   ts_iload_n hC d_Mo_input_7 rfl,
   ts_iflt hC d_Mo_input_8 (by decide),
   ts_aload_n hC d_Mo_input_11 rfl,
   ts_gr (j := 8) (C := R_Mo) (T := T_Mo) hC rfl rfl rfl (by decide) u_Mo wd_464 rfl d_Mo_input_12,
   ts_iload_n hC d_Mo_input_15 rfl,
   ts_iaload hC d_Mo_input_16,
   ts_bipush hC d_Mo_input_17 (by decide),
   ts_clt hC d_Mo_input_19 (by decide),
   ts_iconst hC d_Mo_input_22 (by decide),
   ts_zret hC rfl d_Mo_input_23,
   ts_aload_n hC d_Mo_input_24 rfl,
   ts_gr (j := 9) (C := R_Mo) (T := T_Mo) hC rfl rfl rfl (by decide) u_Mo wd_465 rfl d_Mo_input_25,
   ts_bipush hC d_Mo_input_28 (by decide),
   ts_iload_n hC d_Mo_input_30 rfl,
   ts_imul hC d_Mo_input_31,
   ts_aload_n hC d_Mo_input_32 rfl,
   ts_gr (j := 8) (C := R_Mo) (T := T_Mo) hC rfl rfl rfl (by decide) u_Mo wd_464 rfl d_Mo_input_33,
   ts_iload_n hC d_Mo_input_36 rfl,
   ts_iaload hC d_Mo_input_37,
   ts_iadd hC d_Mo_input_38,
   ts_iload_n hC d_Mo_input_39 rfl,
   ts_iastore hC d_Mo_input_40,
   ts_aload_n hC d_Mo_input_41 rfl,
   ts_gr (j := 10) (C := R_Mo) (T := T_Mo) hC rfl rfl rfl (by decide) u_Mo wd_466 rfl d_Mo_input_42,
   ts_bipush hC d_Mo_input_45 (by decide),
   ts_iload_n hC d_Mo_input_47 rfl,
   ts_imul hC d_Mo_input_48,
   ts_aload_n hC d_Mo_input_49 rfl,
   ts_gr (j := 8) (C := R_Mo) (T := T_Mo) hC rfl rfl rfl (by decide) u_Mo wd_464 rfl d_Mo_input_50,
   ts_iload_n hC d_Mo_input_53 rfl,
   ts_iaload hC d_Mo_input_54,
   ts_iadd hC d_Mo_input_55,
   ts_iload_n hC d_Mo_input_56 rfl,
   ts_iastore hC d_Mo_input_57,
   ts_aload_n hC d_Mo_input_58 rfl,
   ts_gr (j := 8) (C := R_Mo) (T := T_Mo) hC rfl rfl rfl (by decide) u_Mo wd_464 rfl d_Mo_input_59,
   ts_iload_n hC d_Mo_input_62 rfl,
   ts_aload_n hC d_Mo_input_63 rfl,
   ts_gr (j := 8) (C := R_Mo) (T := T_Mo) hC rfl rfl rfl (by decide) u_Mo wd_464 rfl d_Mo_input_64,
   ts_iload_n hC d_Mo_input_67 rfl,
   ts_iaload hC d_Mo_input_68,
   ts_iconst hC d_Mo_input_69 (by decide),
   ts_iadd hC d_Mo_input_70,
   ts_iastore hC d_Mo_input_71,
   ts_iconst hC d_Mo_input_72 (by decide),
   ts_zret hC rfl d_Mo_input_73,
   trivial⟩
noncomputable def fn_Mo_input : tw_Fn := tw_fl 4 4 51 pr_Mo_input
theorem con_Mo_input : tw_Con y_Mo_input b_Mo_input 4 (some .boolean) 1 fn_Mo_input := tw_met (by decide +kernel) (tw_fl_len (n := 4) (by decide)) (fun p l e s m args below meth c E D vs σ ρ hC h => tw_sound (ok_Mo_input hC) 51 pr_Mo_input (ok_Mo_input hC) _ _ _ (tw_fl_get h))

-- TwinHostModel.pc(I)I: 10 instructions, depth 1, calls Mo_guest
theorem d_Mo_pc_0 : decode b_Mo_pc 0 = .ok (.iload_n 1, 1) := by decide +kernel
theorem d_Mo_pc_1 : decode b_Mo_pc 1 = .ok (.invokestatic 62, 3) := by decide +kernel
theorem d_Mo_pc_4 : decode b_Mo_pc 4 = .ok (.ifCond .eq 12, 3) := by decide +kernel
theorem d_Mo_pc_7 : decode b_Mo_pc 7 = .ok (.aload_n 0, 1) := by decide +kernel
theorem d_Mo_pc_8 : decode b_Mo_pc 8 = .ok (.getfield 19, 3) := by decide +kernel
theorem d_Mo_pc_11 : decode b_Mo_pc 11 = .ok (.iload_n 1, 1) := by decide +kernel
theorem d_Mo_pc_12 : decode b_Mo_pc 12 = .ok (.iaload, 1) := by decide +kernel
theorem d_Mo_pc_13 : decode b_Mo_pc 13 = .ok (.goto 4, 3) := by decide +kernel
theorem d_Mo_pc_16 : decode b_Mo_pc 16 = .ok (.iconst 0, 1) := by decide +kernel
theorem d_Mo_pc_17 : decode b_Mo_pc 17 = .ok (.ireturn, 1) := by decide +kernel
noncomputable def pr_Mo_pc : List (Nat × tw_Op) := [(0, tw_il 1), (1, tw_cs 1 fn_Mo_guest), (4, tw_ifeq 16), (7, tw_al 0), (8, tw_gr 22 26), (11, tw_il 1), (12, tw_ia), (13, tw_jmp 17), (16, tw_ic 0), (17, tw_ri)]
set_option maxRecDepth 100000 in
set_option maxHeartbeats 4000000 in
theorem ok_Mo_pc {p : Program} {l : Launch} {e : Env} {s : State} {m : MethodId} {args : Array Value} {below : List Frame} {meth : Method} {c : Code} {E : tw_E} {D : va_G} {ρ : tw_R} (hC : tw_Cx p s m args meth c b_Mo_pc 2 (some .int) "TwinHostModel" E D) : tw_Ok p l e (tw_rmd 1) s m args below meth c 0 0 (MQ below (tw_Qc E D ρ) args s 0 0 (tw_A E)) 2 E D ρ pr_Mo_pc :=
  ⟨ts_iload_n hC d_Mo_pc_0 rfl,
   ts_calls hC con_Mo_guest wd_524 wd_30 (by decide +kernel) ⟨by decide, by decide⟩ ⟨Nat.zero_le _, Nat.zero_le _⟩ wd_522 wd_523 d_Mo_pc_1,
   ts_ifeq hC d_Mo_pc_4 (by decide),
   ts_aload_n hC d_Mo_pc_7 rfl,
   ts_gr (j := 6) (C := R_Mo) (T := T_Mo) hC rfl rfl rfl (by decide) u_Mo wd_462 rfl d_Mo_pc_8,
   ts_iload_n hC d_Mo_pc_11 rfl,
   ts_iaload hC d_Mo_pc_12,
   ts_goto hC d_Mo_pc_13 (by decide),
   ts_iconst hC d_Mo_pc_16 (by decide),
   ts_iret hC rfl d_Mo_pc_17,
   trivial⟩
noncomputable def fn_Mo_pc : tw_Fn := tw_fl 2 2 12 pr_Mo_pc
theorem con_Mo_pc : tw_Con y_Mo_pc b_Mo_pc 2 (some .int) 1 fn_Mo_pc := tw_met (by decide +kernel) (tw_fl_len (n := 2) (by decide)) (fun p l e s m args below meth c E D vs σ ρ hC h => tw_sound (ok_Mo_pc hC) 12 pr_Mo_pc (ok_Mo_pc hC) _ _ _ (tw_fl_get h))

-- TwinHostModel.peek(II)I: 19 instructions, depth 1, calls Mo_guest
theorem d_Mo_peek_0 : decode b_Mo_peek 0 = .ok (.iload_n 1, 1) := by decide +kernel
theorem d_Mo_peek_1 : decode b_Mo_peek 1 = .ok (.invokestatic 62, 3) := by decide +kernel
theorem d_Mo_peek_4 : decode b_Mo_peek 4 = .ok (.ifCond .eq 28, 3) := by decide +kernel
theorem d_Mo_peek_7 : decode b_Mo_peek 7 = .ok (.iload_n 2, 1) := by decide +kernel
theorem d_Mo_peek_8 : decode b_Mo_peek 8 = .ok (.ifCond .lt 24, 3) := by decide +kernel
theorem d_Mo_peek_11 : decode b_Mo_peek 11 = .ok (.iload_n 2, 1) := by decide +kernel
theorem d_Mo_peek_12 : decode b_Mo_peek 12 = .ok (.bipush 127, 2) := by decide +kernel
theorem d_Mo_peek_14 : decode b_Mo_peek 14 = .ok (.if_icmp .gt 18, 3) := by decide +kernel
theorem d_Mo_peek_17 : decode b_Mo_peek 17 = .ok (.aload_n 0, 1) := by decide +kernel
theorem d_Mo_peek_18 : decode b_Mo_peek 18 = .ok (.getfield 7, 3) := by decide +kernel
theorem d_Mo_peek_21 : decode b_Mo_peek 21 = .ok (.sipush 128, 3) := by decide +kernel
theorem d_Mo_peek_24 : decode b_Mo_peek 24 = .ok (.iload_n 1, 1) := by decide +kernel
theorem d_Mo_peek_25 : decode b_Mo_peek 25 = .ok (.imul, 1) := by decide +kernel
theorem d_Mo_peek_26 : decode b_Mo_peek 26 = .ok (.iload_n 2, 1) := by decide +kernel
theorem d_Mo_peek_27 : decode b_Mo_peek 27 = .ok (.iadd, 1) := by decide +kernel
theorem d_Mo_peek_28 : decode b_Mo_peek 28 = .ok (.iaload, 1) := by decide +kernel
theorem d_Mo_peek_29 : decode b_Mo_peek 29 = .ok (.goto 4, 3) := by decide +kernel
theorem d_Mo_peek_32 : decode b_Mo_peek 32 = .ok (.iconst 0, 1) := by decide +kernel
theorem d_Mo_peek_33 : decode b_Mo_peek 33 = .ok (.ireturn, 1) := by decide +kernel
noncomputable def pr_Mo_peek : List (Nat × tw_Op) := [(0, tw_il 1), (1, tw_cs 1 fn_Mo_guest), (4, tw_ifeq 32), (7, tw_il 2), (8, tw_iflt 32), (11, tw_il 2), (12, tw_ic (127)), (14, tw_cgt 32), (17, tw_al 0), (18, tw_gr 22 23), (21, tw_ic (128)), (24, tw_il 1), (25, tw_bin (· * ·)), (26, tw_il 2), (27, tw_bin (· + ·)), (28, tw_ia), (29, tw_jmp 33), (32, tw_ic 0), (33, tw_ri)]
set_option maxRecDepth 100000 in
set_option maxHeartbeats 4000000 in
theorem ok_Mo_peek {p : Program} {l : Launch} {e : Env} {s : State} {m : MethodId} {args : Array Value} {below : List Frame} {meth : Method} {c : Code} {E : tw_E} {D : va_G} {ρ : tw_R} (hC : tw_Cx p s m args meth c b_Mo_peek 3 (some .int) "TwinHostModel" E D) : tw_Ok p l e (tw_rmd 1) s m args below meth c 0 0 (MQ below (tw_Qc E D ρ) args s 0 0 (tw_A E)) 3 E D ρ pr_Mo_peek :=
  ⟨ts_iload_n hC d_Mo_peek_0 rfl,
   ts_calls hC con_Mo_guest wd_524 wd_30 (by decide +kernel) ⟨by decide, by decide⟩ ⟨Nat.zero_le _, Nat.zero_le _⟩ wd_522 wd_523 d_Mo_peek_1,
   ts_ifeq hC d_Mo_peek_4 (by decide),
   ts_iload_n hC d_Mo_peek_7 rfl,
   ts_iflt hC d_Mo_peek_8 (by decide),
   ts_iload_n hC d_Mo_peek_11 rfl,
   ts_bipush hC d_Mo_peek_12 (by decide),
   ts_cgt hC d_Mo_peek_14 (by decide),
   ts_aload_n hC d_Mo_peek_17 rfl,
   ts_gr (j := 3) (C := R_Mo) (T := T_Mo) hC rfl rfl rfl (by decide) u_Mo wd_459 rfl d_Mo_peek_18,
   ts_sipush hC d_Mo_peek_21 (by decide),
   ts_iload_n hC d_Mo_peek_24 rfl,
   ts_imul hC d_Mo_peek_25,
   ts_iload_n hC d_Mo_peek_26 rfl,
   ts_iadd hC d_Mo_peek_27,
   ts_iaload hC d_Mo_peek_28,
   ts_goto hC d_Mo_peek_29 (by decide),
   ts_iconst hC d_Mo_peek_32 (by decide),
   ts_iret hC rfl d_Mo_peek_33,
   trivial⟩
noncomputable def fn_Mo_peek : tw_Fn := tw_fl 3 3 21 pr_Mo_peek
theorem con_Mo_peek : tw_Con y_Mo_peek b_Mo_peek 3 (some .int) 1 fn_Mo_peek := tw_met (by decide +kernel) (tw_fl_len (n := 3) (by decide)) (fun p l e s m args below meth c E D vs σ ρ hC h => tw_sound (ok_Mo_peek hC) 21 pr_Mo_peek (ok_Mo_peek hC) _ _ _ (tw_fl_get h))

-- TwinHostModel.pending(I)I: 29 instructions, depth 1, calls Mo_isThere
theorem d_Mo_pending_0 : decode b_Mo_pending 0 = .ok (.aload_n 0, 1) := by decide +kernel
theorem d_Mo_pending_1 : decode b_Mo_pending 1 = .ok (.getfield 16, 3) := by decide +kernel
theorem d_Mo_pending_4 : decode b_Mo_pending 4 = .ok (.bipush 12, 2) := by decide +kernel
theorem d_Mo_pending_6 : decode b_Mo_pending 6 = .ok (.iload_n 1, 1) := by decide +kernel
theorem d_Mo_pending_7 : decode b_Mo_pending 7 = .ok (.imul, 1) := by decide +kernel
theorem d_Mo_pending_8 : decode b_Mo_pending 8 = .ok (.bipush 10, 2) := by decide +kernel
theorem d_Mo_pending_10 : decode b_Mo_pending 10 = .ok (.iadd, 1) := by decide +kernel
theorem d_Mo_pending_11 : decode b_Mo_pending 11 = .ok (.iaload, 1) := by decide +kernel
theorem d_Mo_pending_12 : decode b_Mo_pending 12 = .ok (.aload_n 0, 1) := by decide +kernel
theorem d_Mo_pending_13 : decode b_Mo_pending 13 = .ok (.getfield 16, 3) := by decide +kernel
theorem d_Mo_pending_16 : decode b_Mo_pending 16 = .ok (.bipush 12, 2) := by decide +kernel
theorem d_Mo_pending_18 : decode b_Mo_pending 18 = .ok (.iload_n 1, 1) := by decide +kernel
theorem d_Mo_pending_19 : decode b_Mo_pending 19 = .ok (.imul, 1) := by decide +kernel
theorem d_Mo_pending_20 : decode b_Mo_pending 20 = .ok (.bipush 9, 2) := by decide +kernel
theorem d_Mo_pending_22 : decode b_Mo_pending 22 = .ok (.iadd, 1) := by decide +kernel
theorem d_Mo_pending_23 : decode b_Mo_pending 23 = .ok (.iaload, 1) := by decide +kernel
theorem d_Mo_pending_24 : decode b_Mo_pending 24 = .ok (.if_icmp .lt 7, 3) := by decide +kernel
theorem d_Mo_pending_27 : decode b_Mo_pending 27 = .ok (.iconst 1, 1) := by decide +kernel
theorem d_Mo_pending_28 : decode b_Mo_pending 28 = .ok (.goto 4, 3) := by decide +kernel
theorem d_Mo_pending_31 : decode b_Mo_pending 31 = .ok (.iconst 0, 1) := by decide +kernel
theorem d_Mo_pending_32 : decode b_Mo_pending 32 = .ok (.aload_n 0, 1) := by decide +kernel
theorem d_Mo_pending_33 : decode b_Mo_pending 33 = .ok (.iload_n 1, 1) := by decide +kernel
theorem d_Mo_pending_34 : decode b_Mo_pending 34 = .ok (.invokevirtual 83, 3) := by decide +kernel
theorem d_Mo_pending_37 : decode b_Mo_pending 37 = .ok (.ifCond .eq 7, 3) := by decide +kernel
theorem d_Mo_pending_40 : decode b_Mo_pending 40 = .ok (.iconst 2, 1) := by decide +kernel
theorem d_Mo_pending_41 : decode b_Mo_pending 41 = .ok (.goto 4, 3) := by decide +kernel
theorem d_Mo_pending_44 : decode b_Mo_pending 44 = .ok (.iconst 0, 1) := by decide +kernel
theorem d_Mo_pending_45 : decode b_Mo_pending 45 = .ok (.iadd, 1) := by decide +kernel
theorem d_Mo_pending_46 : decode b_Mo_pending 46 = .ok (.ireturn, 1) := by decide +kernel
noncomputable def pr_Mo_pending : List (Nat × tw_Op) := [(0, tw_al 0), (1, tw_gr 22 25), (4, tw_ic (12)), (6, tw_il 1), (7, tw_bin (· * ·)), (8, tw_ic (10)), (10, tw_bin (· + ·)), (11, tw_ia), (12, tw_al 0), (13, tw_gr 22 25), (16, tw_ic (12)), (18, tw_il 1), (19, tw_bin (· * ·)), (20, tw_ic (9)), (22, tw_bin (· + ·)), (23, tw_ia), (24, tw_clt 31), (27, tw_ic 1), (28, tw_jmp 32), (31, tw_ic 0), (32, tw_al 0), (33, tw_il 1), (34, tw_cv 1 22 fn_Mo_isThere), (37, tw_ifeq 44), (40, tw_ic 2), (41, tw_jmp 45), (44, tw_ic 0), (45, tw_bin (· + ·)), (46, tw_ri)]
set_option maxRecDepth 100000 in
set_option maxHeartbeats 4000000 in
theorem ok_Mo_pending {p : Program} {l : Launch} {e : Env} {s : State} {m : MethodId} {args : Array Value} {below : List Frame} {meth : Method} {c : Code} {E : tw_E} {D : va_G} {ρ : tw_R} (hC : tw_Cx p s m args meth c b_Mo_pending 2 (some .int) "TwinHostModel" E D) : tw_Ok p l e (tw_rmd 1) s m args below meth c 0 0 (MQ below (tw_Qc E D ρ) args s 0 0 (tw_A E)) 2 E D ρ pr_Mo_pending :=
  ⟨ts_aload_n hC d_Mo_pending_0 rfl,
   ts_gr (j := 5) (C := R_Mo) (T := T_Mo) hC rfl rfl rfl (by decide) u_Mo wd_461 rfl d_Mo_pending_1,
   ts_bipush hC d_Mo_pending_4 (by decide),
   ts_iload_n hC d_Mo_pending_6 rfl,
   ts_imul hC d_Mo_pending_7,
   ts_bipush hC d_Mo_pending_8 (by decide),
   ts_iadd hC d_Mo_pending_10,
   ts_iaload hC d_Mo_pending_11,
   ts_aload_n hC d_Mo_pending_12 rfl,
   ts_gr (j := 5) (C := R_Mo) (T := T_Mo) hC rfl rfl rfl (by decide) u_Mo wd_461 rfl d_Mo_pending_13,
   ts_bipush hC d_Mo_pending_16 (by decide),
   ts_iload_n hC d_Mo_pending_18 rfl,
   ts_imul hC d_Mo_pending_19,
   ts_bipush hC d_Mo_pending_20 (by decide),
   ts_iadd hC d_Mo_pending_22,
   ts_iaload hC d_Mo_pending_23,
   ts_clt hC d_Mo_pending_24 (by decide),
   ts_iconst hC d_Mo_pending_27 (by decide),
   ts_goto hC d_Mo_pending_28 (by decide),
   ts_iconst hC d_Mo_pending_31 (by decide),
   ts_aload_n hC d_Mo_pending_32 rfl,
   ts_iload_n hC d_Mo_pending_33 rfl,
   ts_callv (C := R_Mo) (T := T_Mo) hC con_Mo_isThere wd_579 wd_30 (by decide +kernel) ⟨by decide, by decide⟩ ⟨Nat.zero_le _, Nat.zero_le _⟩ wd_576 rfl rfl wd_578 wd_6 d_Mo_pending_34,
   ts_ifeq hC d_Mo_pending_37 (by decide),
   ts_iconst hC d_Mo_pending_40 (by decide),
   ts_goto hC d_Mo_pending_41 (by decide),
   ts_iconst hC d_Mo_pending_44 (by decide),
   ts_iadd hC d_Mo_pending_45,
   ts_iret hC rfl d_Mo_pending_46,
   trivial⟩
noncomputable def fn_Mo_pending : tw_Fn := tw_fl 2 2 31 pr_Mo_pending
theorem con_Mo_pending : tw_Con y_Mo_pending b_Mo_pending 2 (some .int) 1 fn_Mo_pending := tw_met (by decide +kernel) (tw_fl_len (n := 2) (by decide)) (fun p l e s m args below meth c E D vs σ ρ hC h => tw_sound (ok_Mo_pending hC) 31 pr_Mo_pending (ok_Mo_pending hC) _ _ _ (tw_fl_get h))

-- TwinHostModel.place(IIZ)Z: 17 instructions, depth 1, calls Mo_guest
theorem d_Mo_place_0 : decode b_Mo_place 0 = .ok (.iload_n 1, 1) := by decide +kernel
theorem d_Mo_place_1 : decode b_Mo_place 1 = .ok (.invokestatic 62, 3) := by decide +kernel
theorem d_Mo_place_4 : decode b_Mo_place 4 = .ok (.ifCond .ne 5, 3) := by decide +kernel
theorem d_Mo_place_7 : decode b_Mo_place 7 = .ok (.iconst 0, 1) := by decide +kernel
theorem d_Mo_place_8 : decode b_Mo_place 8 = .ok (.ireturn, 1) := by decide +kernel
theorem d_Mo_place_9 : decode b_Mo_place 9 = .ok (.aload_n 0, 1) := by decide +kernel
theorem d_Mo_place_10 : decode b_Mo_place 10 = .ok (.getfield 19, 3) := by decide +kernel
theorem d_Mo_place_13 : decode b_Mo_place 13 = .ok (.iload_n 1, 1) := by decide +kernel
theorem d_Mo_place_14 : decode b_Mo_place 14 = .ok (.iload_n 2, 1) := by decide +kernel
theorem d_Mo_place_15 : decode b_Mo_place 15 = .ok (.iastore, 1) := by decide +kernel
theorem d_Mo_place_16 : decode b_Mo_place 16 = .ok (.aload_n 0, 1) := by decide +kernel
theorem d_Mo_place_17 : decode b_Mo_place 17 = .ok (.getfield 22, 3) := by decide +kernel
theorem d_Mo_place_20 : decode b_Mo_place 20 = .ok (.iload_n 1, 1) := by decide +kernel
theorem d_Mo_place_21 : decode b_Mo_place 21 = .ok (.iload_n 3, 1) := by decide +kernel
theorem d_Mo_place_22 : decode b_Mo_place 22 = .ok (.bastore, 1) := by decide +kernel
theorem d_Mo_place_23 : decode b_Mo_place 23 = .ok (.iconst 1, 1) := by decide +kernel
theorem d_Mo_place_24 : decode b_Mo_place 24 = .ok (.ireturn, 1) := by decide +kernel
noncomputable def pr_Mo_place : List (Nat × tw_Op) := [(0, tw_il 1), (1, tw_cs 1 fn_Mo_guest), (4, tw_ifne 9), (7, tw_ic 0), (8, tw_rz), (9, tw_al 0), (10, tw_gr 22 26), (13, tw_il 1), (14, tw_il 2), (15, tw_ias 22 37), (16, tw_al 0), (17, tw_gr 22 27), (20, tw_il 1), (21, tw_il 3), (22, tw_zas 22 37), (23, tw_ic 1), (24, tw_rz)]
set_option maxRecDepth 100000 in
set_option maxHeartbeats 4000000 in
theorem ok_Mo_place {p : Program} {l : Launch} {e : Env} {s : State} {m : MethodId} {args : Array Value} {below : List Frame} {meth : Method} {c : Code} {E : tw_E} {D : va_G} {ρ : tw_R} (hC : tw_Cx p s m args meth c b_Mo_place 4 (some .boolean) "TwinHostModel" E D) : tw_Ok p l e (tw_rmd 1) s m args below meth c 0 0 (MQ below (tw_Qc E D ρ) args s 0 0 (tw_A E)) 4 E D ρ pr_Mo_place :=
  ⟨ts_iload_n hC d_Mo_place_0 rfl,
   ts_calls hC con_Mo_guest wd_524 wd_30 (by decide +kernel) ⟨by decide, by decide⟩ ⟨Nat.zero_le _, Nat.zero_le _⟩ wd_522 wd_523 d_Mo_place_1,
   ts_ifne hC d_Mo_place_4 (by decide),
   ts_iconst hC d_Mo_place_7 (by decide),
   ts_zret hC rfl d_Mo_place_8,
   ts_aload_n hC d_Mo_place_9 rfl,
   ts_gr (j := 6) (C := R_Mo) (T := T_Mo) hC rfl rfl rfl (by decide) u_Mo wd_462 rfl d_Mo_place_10,
   ts_iload_n hC d_Mo_place_13 rfl,
   ts_iload_n hC d_Mo_place_14 rfl,
   ts_iastore hC d_Mo_place_15,
   ts_aload_n hC d_Mo_place_16 rfl,
   ts_gr (j := 7) (C := R_Mo) (T := T_Mo) hC rfl rfl rfl (by decide) u_Mo wd_463 rfl d_Mo_place_17,
   ts_iload_n hC d_Mo_place_20 rfl,
   ts_iload_n hC d_Mo_place_21 rfl,
   ts_bastore hC d_Mo_place_22,
   ts_iconst hC d_Mo_place_23 (by decide),
   ts_zret hC rfl d_Mo_place_24,
   trivial⟩
noncomputable def fn_Mo_place : tw_Fn := tw_fl 4 4 19 pr_Mo_place
theorem con_Mo_place : tw_Con y_Mo_place b_Mo_place 4 (some .boolean) 1 fn_Mo_place := tw_met (by decide +kernel) (tw_fl_len (n := 4) (by decide)) (fun p l e s m args below meth c E D vs σ ρ hC h => tw_sound (ok_Mo_place hC) 19 pr_Mo_place (ok_Mo_place hC) _ _ _ (tw_fl_get h))

-- TwinHostModel.register(II)I: 19 instructions, depth 1, calls Mo_guest
theorem d_Mo_register_0 : decode b_Mo_register 0 = .ok (.iload_n 1, 1) := by decide +kernel
theorem d_Mo_register_1 : decode b_Mo_register 1 = .ok (.invokestatic 62, 3) := by decide +kernel
theorem d_Mo_register_4 : decode b_Mo_register 4 = .ok (.ifCond .eq 27, 3) := by decide +kernel
theorem d_Mo_register_7 : decode b_Mo_register 7 = .ok (.iload_n 2, 1) := by decide +kernel
theorem d_Mo_register_8 : decode b_Mo_register 8 = .ok (.ifCond .lt 23, 3) := by decide +kernel
theorem d_Mo_register_11 : decode b_Mo_register 11 = .ok (.iload_n 2, 1) := by decide +kernel
theorem d_Mo_register_12 : decode b_Mo_register 12 = .ok (.bipush 7, 2) := by decide +kernel
theorem d_Mo_register_14 : decode b_Mo_register 14 = .ok (.if_icmp .gt 17, 3) := by decide +kernel
theorem d_Mo_register_17 : decode b_Mo_register 17 = .ok (.aload_n 0, 1) := by decide +kernel
theorem d_Mo_register_18 : decode b_Mo_register 18 = .ok (.getfield 13, 3) := by decide +kernel
theorem d_Mo_register_21 : decode b_Mo_register 21 = .ok (.bipush 8, 2) := by decide +kernel
theorem d_Mo_register_23 : decode b_Mo_register 23 = .ok (.iload_n 1, 1) := by decide +kernel
theorem d_Mo_register_24 : decode b_Mo_register 24 = .ok (.imul, 1) := by decide +kernel
theorem d_Mo_register_25 : decode b_Mo_register 25 = .ok (.iload_n 2, 1) := by decide +kernel
theorem d_Mo_register_26 : decode b_Mo_register 26 = .ok (.iadd, 1) := by decide +kernel
theorem d_Mo_register_27 : decode b_Mo_register 27 = .ok (.iaload, 1) := by decide +kernel
theorem d_Mo_register_28 : decode b_Mo_register 28 = .ok (.goto 4, 3) := by decide +kernel
theorem d_Mo_register_31 : decode b_Mo_register 31 = .ok (.iconst 0, 1) := by decide +kernel
theorem d_Mo_register_32 : decode b_Mo_register 32 = .ok (.ireturn, 1) := by decide +kernel
noncomputable def pr_Mo_register : List (Nat × tw_Op) := [(0, tw_il 1), (1, tw_cs 1 fn_Mo_guest), (4, tw_ifeq 31), (7, tw_il 2), (8, tw_iflt 31), (11, tw_il 2), (12, tw_ic (7)), (14, tw_cgt 31), (17, tw_al 0), (18, tw_gr 22 24), (21, tw_ic (8)), (23, tw_il 1), (24, tw_bin (· * ·)), (25, tw_il 2), (26, tw_bin (· + ·)), (27, tw_ia), (28, tw_jmp 32), (31, tw_ic 0), (32, tw_ri)]
set_option maxRecDepth 100000 in
set_option maxHeartbeats 4000000 in
theorem ok_Mo_register {p : Program} {l : Launch} {e : Env} {s : State} {m : MethodId} {args : Array Value} {below : List Frame} {meth : Method} {c : Code} {E : tw_E} {D : va_G} {ρ : tw_R} (hC : tw_Cx p s m args meth c b_Mo_register 3 (some .int) "TwinHostModel" E D) : tw_Ok p l e (tw_rmd 1) s m args below meth c 0 0 (MQ below (tw_Qc E D ρ) args s 0 0 (tw_A E)) 3 E D ρ pr_Mo_register :=
  ⟨ts_iload_n hC d_Mo_register_0 rfl,
   ts_calls hC con_Mo_guest wd_524 wd_30 (by decide +kernel) ⟨by decide, by decide⟩ ⟨Nat.zero_le _, Nat.zero_le _⟩ wd_522 wd_523 d_Mo_register_1,
   ts_ifeq hC d_Mo_register_4 (by decide),
   ts_iload_n hC d_Mo_register_7 rfl,
   ts_iflt hC d_Mo_register_8 (by decide),
   ts_iload_n hC d_Mo_register_11 rfl,
   ts_bipush hC d_Mo_register_12 (by decide),
   ts_cgt hC d_Mo_register_14 (by decide),
   ts_aload_n hC d_Mo_register_17 rfl,
   ts_gr (j := 4) (C := R_Mo) (T := T_Mo) hC rfl rfl rfl (by decide) u_Mo wd_460 rfl d_Mo_register_18,
   ts_bipush hC d_Mo_register_21 (by decide),
   ts_iload_n hC d_Mo_register_23 rfl,
   ts_imul hC d_Mo_register_24,
   ts_iload_n hC d_Mo_register_25 rfl,
   ts_iadd hC d_Mo_register_26,
   ts_iaload hC d_Mo_register_27,
   ts_goto hC d_Mo_register_28 (by decide),
   ts_iconst hC d_Mo_register_31 (by decide),
   ts_iret hC rfl d_Mo_register_32,
   trivial⟩
noncomputable def fn_Mo_register : tw_Fn := tw_fl 3 3 21 pr_Mo_register
theorem con_Mo_register : tw_Con y_Mo_register b_Mo_register 3 (some .int) 1 fn_Mo_register := tw_met (by decide +kernel) (tw_fl_len (n := 3) (by decide)) (fun p l e s m args below meth c E D vs σ ρ hC h => tw_sound (ok_Mo_register hC) 21 pr_Mo_register (ok_Mo_register hC) _ _ _ (tw_fl_get h))

-- TwinHostModel.shadow(II)I: 46 instructions, depth 1, calls Mo_guest
theorem d_Mo_shadow_0 : decode b_Mo_shadow 0 = .ok (.iload_n 1, 1) := by decide +kernel
theorem d_Mo_shadow_1 : decode b_Mo_shadow 1 = .ok (.invokestatic 62, 3) := by decide +kernel
theorem d_Mo_shadow_4 : decode b_Mo_shadow 4 = .ok (.ifCond .eq 27, 3) := by decide +kernel
theorem d_Mo_shadow_7 : decode b_Mo_shadow 7 = .ok (.iload_n 2, 1) := by decide +kernel
theorem d_Mo_shadow_8 : decode b_Mo_shadow 8 = .ok (.ifCond .lt 23, 3) := by decide +kernel
theorem d_Mo_shadow_11 : decode b_Mo_shadow 11 = .ok (.iload_n 2, 1) := by decide +kernel
theorem d_Mo_shadow_12 : decode b_Mo_shadow 12 = .ok (.bipush 15, 2) := by decide +kernel
theorem d_Mo_shadow_14 : decode b_Mo_shadow 14 = .ok (.if_icmp .gt 17, 3) := by decide +kernel
theorem d_Mo_shadow_17 : decode b_Mo_shadow 17 = .ok (.aload_n 0, 1) := by decide +kernel
theorem d_Mo_shadow_18 : decode b_Mo_shadow 18 = .ok (.getfield 38, 3) := by decide +kernel
theorem d_Mo_shadow_21 : decode b_Mo_shadow 21 = .ok (.bipush 16, 2) := by decide +kernel
theorem d_Mo_shadow_23 : decode b_Mo_shadow 23 = .ok (.iload_n 1, 1) := by decide +kernel
theorem d_Mo_shadow_24 : decode b_Mo_shadow 24 = .ok (.imul, 1) := by decide +kernel
theorem d_Mo_shadow_25 : decode b_Mo_shadow 25 = .ok (.iload_n 2, 1) := by decide +kernel
theorem d_Mo_shadow_26 : decode b_Mo_shadow 26 = .ok (.iadd, 1) := by decide +kernel
theorem d_Mo_shadow_27 : decode b_Mo_shadow 27 = .ok (.iaload, 1) := by decide +kernel
theorem d_Mo_shadow_28 : decode b_Mo_shadow 28 = .ok (.ifCond .ge 5, 3) := by decide +kernel
theorem d_Mo_shadow_31 : decode b_Mo_shadow 31 = .ok (.iconst (-1), 1) := by decide +kernel
theorem d_Mo_shadow_32 : decode b_Mo_shadow 32 = .ok (.ireturn, 1) := by decide +kernel
theorem d_Mo_shadow_33 : decode b_Mo_shadow 33 = .ok (.bipush 16, 2) := by decide +kernel
theorem d_Mo_shadow_35 : decode b_Mo_shadow 35 = .ok (.iload_n 1, 1) := by decide +kernel
theorem d_Mo_shadow_36 : decode b_Mo_shadow 36 = .ok (.imul, 1) := by decide +kernel
theorem d_Mo_shadow_37 : decode b_Mo_shadow 37 = .ok (.iload_n 2, 1) := by decide +kernel
theorem d_Mo_shadow_38 : decode b_Mo_shadow 38 = .ok (.iadd, 1) := by decide +kernel
theorem d_Mo_shadow_39 : decode b_Mo_shadow 39 = .ok (.istore_n 3, 1) := by decide +kernel
theorem d_Mo_shadow_40 : decode b_Mo_shadow 40 = .ok (.aload_n 0, 1) := by decide +kernel
theorem d_Mo_shadow_41 : decode b_Mo_shadow 41 = .ok (.getfield 38, 3) := by decide +kernel
theorem d_Mo_shadow_44 : decode b_Mo_shadow 44 = .ok (.iload_n 3, 1) := by decide +kernel
theorem d_Mo_shadow_45 : decode b_Mo_shadow 45 = .ok (.iaload, 1) := by decide +kernel
theorem d_Mo_shadow_46 : decode b_Mo_shadow 46 = .ok (.bipush 8, 2) := by decide +kernel
theorem d_Mo_shadow_48 : decode b_Mo_shadow 48 = .ok (.aload_n 0, 1) := by decide +kernel
theorem d_Mo_shadow_49 : decode b_Mo_shadow 49 = .ok (.getfield 41, 3) := by decide +kernel
theorem d_Mo_shadow_52 : decode b_Mo_shadow 52 = .ok (.iload_n 3, 1) := by decide +kernel
theorem d_Mo_shadow_53 : decode b_Mo_shadow 53 = .ok (.iaload, 1) := by decide +kernel
theorem d_Mo_shadow_54 : decode b_Mo_shadow 54 = .ok (.imul, 1) := by decide +kernel
theorem d_Mo_shadow_55 : decode b_Mo_shadow 55 = .ok (.iadd, 1) := by decide +kernel
theorem d_Mo_shadow_56 : decode b_Mo_shadow 56 = .ok (.aload_n 0, 1) := by decide +kernel
theorem d_Mo_shadow_57 : decode b_Mo_shadow 57 = .ok (.getfield 44, 3) := by decide +kernel
theorem d_Mo_shadow_60 : decode b_Mo_shadow 60 = .ok (.iload_n 3, 1) := by decide +kernel
theorem d_Mo_shadow_61 : decode b_Mo_shadow 61 = .ok (.baload, 1) := by decide +kernel
theorem d_Mo_shadow_62 : decode b_Mo_shadow 62 = .ok (.ifCond .eq 9, 3) := by decide +kernel
theorem d_Mo_shadow_65 : decode b_Mo_shadow 65 = .ok (.sipush 512, 3) := by decide +kernel
theorem d_Mo_shadow_68 : decode b_Mo_shadow 68 = .ok (.goto 4, 3) := by decide +kernel
theorem d_Mo_shadow_71 : decode b_Mo_shadow 71 = .ok (.iconst 0, 1) := by decide +kernel
theorem d_Mo_shadow_72 : decode b_Mo_shadow 72 = .ok (.iadd, 1) := by decide +kernel
theorem d_Mo_shadow_73 : decode b_Mo_shadow 73 = .ok (.ireturn, 1) := by decide +kernel
noncomputable def pr_Mo_shadow : List (Nat × tw_Op) := [(0, tw_il 1), (1, tw_cs 1 fn_Mo_guest), (4, tw_ifeq 31), (7, tw_il 2), (8, tw_iflt 31), (11, tw_il 2), (12, tw_ic (15)), (14, tw_cgt 31), (17, tw_al 0), (18, tw_gr 22 32), (21, tw_ic (16)), (23, tw_il 1), (24, tw_bin (· * ·)), (25, tw_il 2), (26, tw_bin (· + ·)), (27, tw_ia), (28, tw_ifge 33), (31, tw_ic (-1)), (32, tw_ri), (33, tw_ic (16)), (35, tw_il 1), (36, tw_bin (· * ·)), (37, tw_il 2), (38, tw_bin (· + ·)), (39, tw_is 3), (40, tw_al 0), (41, tw_gr 22 32), (44, tw_il 3), (45, tw_ia), (46, tw_ic (8)), (48, tw_al 0), (49, tw_gr 22 33), (52, tw_il 3), (53, tw_ia), (54, tw_bin (· * ·)), (55, tw_bin (· + ·)), (56, tw_al 0), (57, tw_gr 22 34), (60, tw_il 3), (61, tw_za), (62, tw_ifeq 71), (65, tw_ic (512)), (68, tw_jmp 72), (71, tw_ic 0), (72, tw_bin (· + ·)), (73, tw_ri)]
set_option maxRecDepth 100000 in
set_option maxHeartbeats 4000000 in
theorem ok_Mo_shadow {p : Program} {l : Launch} {e : Env} {s : State} {m : MethodId} {args : Array Value} {below : List Frame} {meth : Method} {c : Code} {E : tw_E} {D : va_G} {ρ : tw_R} (hC : tw_Cx p s m args meth c b_Mo_shadow 4 (some .int) "TwinHostModel" E D) : tw_Ok p l e (tw_rmd 1) s m args below meth c 0 0 (MQ below (tw_Qc E D ρ) args s 0 0 (tw_A E)) 4 E D ρ pr_Mo_shadow :=
  ⟨ts_iload_n hC d_Mo_shadow_0 rfl,
   ts_calls hC con_Mo_guest wd_524 wd_30 (by decide +kernel) ⟨by decide, by decide⟩ ⟨Nat.zero_le _, Nat.zero_le _⟩ wd_522 wd_523 d_Mo_shadow_1,
   ts_ifeq hC d_Mo_shadow_4 (by decide),
   ts_iload_n hC d_Mo_shadow_7 rfl,
   ts_iflt hC d_Mo_shadow_8 (by decide),
   ts_iload_n hC d_Mo_shadow_11 rfl,
   ts_bipush hC d_Mo_shadow_12 (by decide),
   ts_cgt hC d_Mo_shadow_14 (by decide),
   ts_aload_n hC d_Mo_shadow_17 rfl,
   ts_gr (j := 12) (C := R_Mo) (T := T_Mo) hC rfl rfl rfl (by decide) u_Mo wd_468 rfl d_Mo_shadow_18,
   ts_bipush hC d_Mo_shadow_21 (by decide),
   ts_iload_n hC d_Mo_shadow_23 rfl,
   ts_imul hC d_Mo_shadow_24,
   ts_iload_n hC d_Mo_shadow_25 rfl,
   ts_iadd hC d_Mo_shadow_26,
   ts_iaload hC d_Mo_shadow_27,
   ts_ifge hC d_Mo_shadow_28 (by decide),
   ts_iconst hC d_Mo_shadow_31 (by decide),
   ts_iret hC rfl d_Mo_shadow_32,
   ts_bipush hC d_Mo_shadow_33 (by decide),
   ts_iload_n hC d_Mo_shadow_35 rfl,
   ts_imul hC d_Mo_shadow_36,
   ts_iload_n hC d_Mo_shadow_37 rfl,
   ts_iadd hC d_Mo_shadow_38,
   ts_istore_n hC d_Mo_shadow_39 rfl (by decide),
   ts_aload_n hC d_Mo_shadow_40 rfl,
   ts_gr (j := 12) (C := R_Mo) (T := T_Mo) hC rfl rfl rfl (by decide) u_Mo wd_468 rfl d_Mo_shadow_41,
   ts_iload_n hC d_Mo_shadow_44 rfl,
   ts_iaload hC d_Mo_shadow_45,
   ts_bipush hC d_Mo_shadow_46 (by decide),
   ts_aload_n hC d_Mo_shadow_48 rfl,
   ts_gr (j := 13) (C := R_Mo) (T := T_Mo) hC rfl rfl rfl (by decide) u_Mo wd_469 rfl d_Mo_shadow_49,
   ts_iload_n hC d_Mo_shadow_52 rfl,
   ts_iaload hC d_Mo_shadow_53,
   ts_imul hC d_Mo_shadow_54,
   ts_iadd hC d_Mo_shadow_55,
   ts_aload_n hC d_Mo_shadow_56 rfl,
   ts_gr (j := 14) (C := R_Mo) (T := T_Mo) hC rfl rfl rfl (by decide) u_Mo wd_470 rfl d_Mo_shadow_57,
   ts_iload_n hC d_Mo_shadow_60 rfl,
   ts_baload hC d_Mo_shadow_61,
   ts_ifeq hC d_Mo_shadow_62 (by decide),
   ts_sipush hC d_Mo_shadow_65 (by decide),
   ts_goto hC d_Mo_shadow_68 (by decide),
   ts_iconst hC d_Mo_shadow_71 (by decide),
   ts_iadd hC d_Mo_shadow_72,
   ts_iret hC rfl d_Mo_shadow_73,
   trivial⟩
noncomputable def fn_Mo_shadow : tw_Fn := tw_fl 3 4 48 pr_Mo_shadow
theorem con_Mo_shadow : tw_Con y_Mo_shadow b_Mo_shadow 4 (some .int) 1 fn_Mo_shadow := tw_met (by decide +kernel) (tw_fl_len (n := 3) (by decide)) (fun p l e s m args below meth c E D vs σ ρ hC h => tw_sound (ok_Mo_shadow hC) 48 pr_Mo_shadow (ok_Mo_shadow hC) _ _ _ (tw_fl_get h))

-- TwinHostModel.traced(II)Z: 59 instructions, depth 1, calls Mo_guest
theorem d_Mo_traced_0 : decode b_Mo_traced 0 = .ok (.iload_n 1, 1) := by decide +kernel
theorem d_Mo_traced_1 : decode b_Mo_traced 1 = .ok (.invokestatic 62, 3) := by decide +kernel
theorem d_Mo_traced_4 : decode b_Mo_traced 4 = .ok (.ifCond .eq 13, 3) := by decide +kernel
theorem d_Mo_traced_7 : decode b_Mo_traced 7 = .ok (.iload_n 2, 1) := by decide +kernel
theorem d_Mo_traced_8 : decode b_Mo_traced 8 = .ok (.ifCond .lt 9, 3) := by decide +kernel
theorem d_Mo_traced_11 : decode b_Mo_traced 11 = .ok (.iload_n 2, 1) := by decide +kernel
theorem d_Mo_traced_12 : decode b_Mo_traced 12 = .ok (.bipush 7, 2) := by decide +kernel
theorem d_Mo_traced_14 : decode b_Mo_traced 14 = .ok (.if_icmp .le 5, 3) := by decide +kernel
theorem d_Mo_traced_17 : decode b_Mo_traced 17 = .ok (.iconst 0, 1) := by decide +kernel
theorem d_Mo_traced_18 : decode b_Mo_traced 18 = .ok (.ireturn, 1) := by decide +kernel
theorem d_Mo_traced_19 : decode b_Mo_traced 19 = .ok (.iconst 0, 1) := by decide +kernel
theorem d_Mo_traced_20 : decode b_Mo_traced 20 = .ok (.istore_n 3, 1) := by decide +kernel
theorem d_Mo_traced_21 : decode b_Mo_traced 21 = .ok (.bipush 16, 2) := by decide +kernel
theorem d_Mo_traced_23 : decode b_Mo_traced 23 = .ok (.iload_n 1, 1) := by decide +kernel
theorem d_Mo_traced_24 : decode b_Mo_traced 24 = .ok (.imul, 1) := by decide +kernel
theorem d_Mo_traced_25 : decode b_Mo_traced 25 = .ok (.istore 4, 2) := by decide +kernel
theorem d_Mo_traced_27 : decode b_Mo_traced 27 = .ok (.iload 4, 2) := by decide +kernel
theorem d_Mo_traced_29 : decode b_Mo_traced 29 = .ok (.bipush 16, 2) := by decide +kernel
theorem d_Mo_traced_31 : decode b_Mo_traced 31 = .ok (.iload_n 1, 1) := by decide +kernel
theorem d_Mo_traced_32 : decode b_Mo_traced 32 = .ok (.imul, 1) := by decide +kernel
theorem d_Mo_traced_33 : decode b_Mo_traced 33 = .ok (.bipush 16, 2) := by decide +kernel
theorem d_Mo_traced_35 : decode b_Mo_traced 35 = .ok (.iadd, 1) := by decide +kernel
theorem d_Mo_traced_36 : decode b_Mo_traced 36 = .ok (.if_icmp .ge 67, 3) := by decide +kernel
theorem d_Mo_traced_39 : decode b_Mo_traced 39 = .ok (.iload_n 3, 1) := by decide +kernel
theorem d_Mo_traced_40 : decode b_Mo_traced 40 = .ok (.ifCond .ne 51, 3) := by decide +kernel
theorem d_Mo_traced_43 : decode b_Mo_traced 43 = .ok (.aload_n 0, 1) := by decide +kernel
theorem d_Mo_traced_44 : decode b_Mo_traced 44 = .ok (.getfield 38, 3) := by decide +kernel
theorem d_Mo_traced_47 : decode b_Mo_traced 47 = .ok (.iload 4, 2) := by decide +kernel
theorem d_Mo_traced_49 : decode b_Mo_traced 49 = .ok (.iaload, 1) := by decide +kernel
theorem d_Mo_traced_50 : decode b_Mo_traced 50 = .ok (.ifCond .lt 45, 3) := by decide +kernel
theorem d_Mo_traced_53 : decode b_Mo_traced 53 = .ok (.aload_n 0, 1) := by decide +kernel
theorem d_Mo_traced_54 : decode b_Mo_traced 54 = .ok (.getfield 47, 3) := by decide +kernel
theorem d_Mo_traced_57 : decode b_Mo_traced 57 = .ok (.iload 4, 2) := by decide +kernel
theorem d_Mo_traced_59 : decode b_Mo_traced 59 = .ok (.iaload, 1) := by decide +kernel
theorem d_Mo_traced_60 : decode b_Mo_traced 60 = .ok (.bipush 16, 2) := by decide +kernel
theorem d_Mo_traced_62 : decode b_Mo_traced 62 = .ok (.idiv, 1) := by decide +kernel
theorem d_Mo_traced_63 : decode b_Mo_traced 63 = .ok (.iload_n 2, 1) := by decide +kernel
theorem d_Mo_traced_64 : decode b_Mo_traced 64 = .ok (.if_icmp .eq 27, 3) := by decide +kernel
theorem d_Mo_traced_67 : decode b_Mo_traced 67 = .ok (.aload_n 0, 1) := by decide +kernel
theorem d_Mo_traced_68 : decode b_Mo_traced 68 = .ok (.getfield 50, 3) := by decide +kernel
theorem d_Mo_traced_71 : decode b_Mo_traced 71 = .ok (.iload 4, 2) := by decide +kernel
theorem d_Mo_traced_73 : decode b_Mo_traced 73 = .ok (.iaload, 1) := by decide +kernel
theorem d_Mo_traced_74 : decode b_Mo_traced 74 = .ok (.ifCond .lt 21, 3) := by decide +kernel
theorem d_Mo_traced_77 : decode b_Mo_traced 77 = .ok (.aload_n 0, 1) := by decide +kernel
theorem d_Mo_traced_78 : decode b_Mo_traced 78 = .ok (.getfield 50, 3) := by decide +kernel
theorem d_Mo_traced_81 : decode b_Mo_traced 81 = .ok (.iload 4, 2) := by decide +kernel
theorem d_Mo_traced_83 : decode b_Mo_traced 83 = .ok (.iaload, 1) := by decide +kernel
theorem d_Mo_traced_84 : decode b_Mo_traced 84 = .ok (.bipush 16, 2) := by decide +kernel
theorem d_Mo_traced_86 : decode b_Mo_traced 86 = .ok (.idiv, 1) := by decide +kernel
theorem d_Mo_traced_87 : decode b_Mo_traced 87 = .ok (.iload_n 2, 1) := by decide +kernel
theorem d_Mo_traced_88 : decode b_Mo_traced 88 = .ok (.if_icmp .ne 7, 3) := by decide +kernel
theorem d_Mo_traced_91 : decode b_Mo_traced 91 = .ok (.iconst 1, 1) := by decide +kernel
theorem d_Mo_traced_92 : decode b_Mo_traced 92 = .ok (.goto 4, 3) := by decide +kernel
theorem d_Mo_traced_95 : decode b_Mo_traced 95 = .ok (.iconst 0, 1) := by decide +kernel
theorem d_Mo_traced_96 : decode b_Mo_traced 96 = .ok (.istore_n 3, 1) := by decide +kernel
theorem d_Mo_traced_97 : decode b_Mo_traced 97 = .ok (.iinc 4 1, 3) := by decide +kernel
theorem d_Mo_traced_100 : decode b_Mo_traced 100 = .ok (.goto (-73), 3) := by decide +kernel
theorem d_Mo_traced_103 : decode b_Mo_traced 103 = .ok (.iload_n 3, 1) := by decide +kernel
theorem d_Mo_traced_104 : decode b_Mo_traced 104 = .ok (.ireturn, 1) := by decide +kernel
noncomputable def pr_Mo_traced : List (Nat × tw_Op) := [(0, tw_il 1), (1, tw_cs 1 fn_Mo_guest), (4, tw_ifeq 17), (7, tw_il 2), (8, tw_iflt 17), (11, tw_il 2), (12, tw_ic (7)), (14, tw_cle 19), (17, tw_ic 0), (18, tw_rz), (19, tw_ic 0), (20, tw_is 3), (21, tw_ic (16)), (23, tw_il 1), (24, tw_bin (· * ·)), (25, tw_is 4), (27, tw_il 4), (29, tw_ic (16)), (31, tw_il 1), (32, tw_bin (· * ·)), (33, tw_ic (16)), (35, tw_bin (· + ·)), (36, tw_cge 103), (39, tw_il 3), (40, tw_ifne 91), (43, tw_al 0), (44, tw_gr 22 32), (47, tw_il 4), (49, tw_ia), (50, tw_iflt 95), (53, tw_al 0), (54, tw_gr 22 35), (57, tw_il 4), (59, tw_ia), (60, tw_ic (16)), (62, tw_div), (63, tw_il 2), (64, tw_ceq 91), (67, tw_al 0), (68, tw_gr 22 36), (71, tw_il 4), (73, tw_ia), (74, tw_iflt 95), (77, tw_al 0), (78, tw_gr 22 36), (81, tw_il 4), (83, tw_ia), (84, tw_ic (16)), (86, tw_div), (87, tw_il 2), (88, tw_cne 95), (91, tw_ic 1), (92, tw_jmp 96), (95, tw_ic 0), (96, tw_is 3), (97, tw_inc 4 (1)), (100, tw_jmp 27), (103, tw_il 3), (104, tw_rz)]
set_option maxRecDepth 100000 in
set_option maxHeartbeats 4000000 in
theorem ok_Mo_traced {p : Program} {l : Launch} {e : Env} {s : State} {m : MethodId} {args : Array Value} {below : List Frame} {meth : Method} {c : Code} {E : tw_E} {D : va_G} {ρ : tw_R} (hC : tw_Cx p s m args meth c b_Mo_traced 5 (some .boolean) "TwinHostModel" E D) : tw_Ok p l e (tw_rmd 1) s m args below meth c 0 0 (MQ below (tw_Qc E D ρ) args s 0 0 (tw_A E)) 5 E D ρ pr_Mo_traced :=
  ⟨ts_iload_n hC d_Mo_traced_0 rfl,
   ts_calls hC con_Mo_guest wd_524 wd_30 (by decide +kernel) ⟨by decide, by decide⟩ ⟨Nat.zero_le _, Nat.zero_le _⟩ wd_522 wd_523 d_Mo_traced_1,
   ts_ifeq hC d_Mo_traced_4 (by decide),
   ts_iload_n hC d_Mo_traced_7 rfl,
   ts_iflt hC d_Mo_traced_8 (by decide),
   ts_iload_n hC d_Mo_traced_11 rfl,
   ts_bipush hC d_Mo_traced_12 (by decide),
   ts_cle hC d_Mo_traced_14 (by decide),
   ts_iconst hC d_Mo_traced_17 (by decide),
   ts_zret hC rfl d_Mo_traced_18,
   ts_iconst hC d_Mo_traced_19 (by decide),
   ts_istore_n hC d_Mo_traced_20 rfl (by decide),
   ts_bipush hC d_Mo_traced_21 (by decide),
   ts_iload_n hC d_Mo_traced_23 rfl,
   ts_imul hC d_Mo_traced_24,
   ts_istore hC d_Mo_traced_25 (by decide),
   ts_iload hC d_Mo_traced_27,
   ts_bipush hC d_Mo_traced_29 (by decide),
   ts_iload_n hC d_Mo_traced_31 rfl,
   ts_imul hC d_Mo_traced_32,
   ts_bipush hC d_Mo_traced_33 (by decide),
   ts_iadd hC d_Mo_traced_35,
   ts_cge hC d_Mo_traced_36 (by decide),
   ts_iload_n hC d_Mo_traced_39 rfl,
   ts_ifne hC d_Mo_traced_40 (by decide),
   ts_aload_n hC d_Mo_traced_43 rfl,
   ts_gr (j := 12) (C := R_Mo) (T := T_Mo) hC rfl rfl rfl (by decide) u_Mo wd_468 rfl d_Mo_traced_44,
   ts_iload hC d_Mo_traced_47,
   ts_iaload hC d_Mo_traced_49,
   ts_iflt hC d_Mo_traced_50 (by decide),
   ts_aload_n hC d_Mo_traced_53 rfl,
   ts_gr (j := 15) (C := R_Mo) (T := T_Mo) hC rfl rfl rfl (by decide) u_Mo wd_471 rfl d_Mo_traced_54,
   ts_iload hC d_Mo_traced_57,
   ts_iaload hC d_Mo_traced_59,
   ts_bipush hC d_Mo_traced_60 (by decide),
   ts_idiv hC d_Mo_traced_62,
   ts_iload_n hC d_Mo_traced_63 rfl,
   ts_ceq hC d_Mo_traced_64 (by decide),
   ts_aload_n hC d_Mo_traced_67 rfl,
   ts_gr (j := 16) (C := R_Mo) (T := T_Mo) hC rfl rfl rfl (by decide) u_Mo wd_472 rfl d_Mo_traced_68,
   ts_iload hC d_Mo_traced_71,
   ts_iaload hC d_Mo_traced_73,
   ts_iflt hC d_Mo_traced_74 (by decide),
   ts_aload_n hC d_Mo_traced_77 rfl,
   ts_gr (j := 16) (C := R_Mo) (T := T_Mo) hC rfl rfl rfl (by decide) u_Mo wd_472 rfl d_Mo_traced_78,
   ts_iload hC d_Mo_traced_81,
   ts_iaload hC d_Mo_traced_83,
   ts_bipush hC d_Mo_traced_84 (by decide),
   ts_idiv hC d_Mo_traced_86,
   ts_iload_n hC d_Mo_traced_87 rfl,
   ts_cne hC d_Mo_traced_88 (by decide),
   ts_iconst hC d_Mo_traced_91 (by decide),
   ts_goto hC d_Mo_traced_92 (by decide),
   ts_iconst hC d_Mo_traced_95 (by decide),
   ts_istore_n hC d_Mo_traced_96 rfl (by decide),
   ts_iinc hC d_Mo_traced_97 (by decide) (by decide),
   ts_goto hC d_Mo_traced_100 (by decide),
   ts_iload_n hC d_Mo_traced_103 rfl,
   ts_zret hC rfl d_Mo_traced_104,
   trivial⟩
noncomputable def fn_Mo_traced : tw_Fn := tw_fl 3 5 1200 pr_Mo_traced
theorem con_Mo_traced : tw_Con y_Mo_traced b_Mo_traced 5 (some .boolean) 1 fn_Mo_traced := tw_met (by decide +kernel) (tw_fl_len (n := 3) (by decide)) (fun p l e s m args below meth c E D vs σ ρ hC h => tw_sound (ok_Mo_traced hC) 1200 pr_Mo_traced (ok_Mo_traced hC) _ _ _ (tw_fl_get h))

-- TwinHostModel.trap(III)V: 97 instructions, depth 1, calls Mo_add
theorem d_Mo_trap_0 : decode b_Mo_trap 0 = .ok (.bipush 12, 2) := by decide +kernel
theorem d_Mo_trap_2 : decode b_Mo_trap 2 = .ok (.iload_n 1, 1) := by decide +kernel
theorem d_Mo_trap_3 : decode b_Mo_trap 3 = .ok (.imul, 1) := by decide +kernel
theorem d_Mo_trap_4 : decode b_Mo_trap 4 = .ok (.istore 4, 2) := by decide +kernel
theorem d_Mo_trap_6 : decode b_Mo_trap 6 = .ok (.aload_n 0, 1) := by decide +kernel
theorem d_Mo_trap_7 : decode b_Mo_trap 7 = .ok (.getfield 16, 3) := by decide +kernel
theorem d_Mo_trap_10 : decode b_Mo_trap 10 = .ok (.iload 4, 2) := by decide +kernel
theorem d_Mo_trap_12 : decode b_Mo_trap 12 = .ok (.iconst 3, 1) := by decide +kernel
theorem d_Mo_trap_13 : decode b_Mo_trap 13 = .ok (.iadd, 1) := by decide +kernel
theorem d_Mo_trap_14 : decode b_Mo_trap 14 = .ok (.iload_n 2, 1) := by decide +kernel
theorem d_Mo_trap_15 : decode b_Mo_trap 15 = .ok (.iastore, 1) := by decide +kernel
theorem d_Mo_trap_16 : decode b_Mo_trap 16 = .ok (.aload_n 0, 1) := by decide +kernel
theorem d_Mo_trap_17 : decode b_Mo_trap 17 = .ok (.getfield 16, 3) := by decide +kernel
theorem d_Mo_trap_20 : decode b_Mo_trap 20 = .ok (.iload 4, 2) := by decide +kernel
theorem d_Mo_trap_22 : decode b_Mo_trap 22 = .ok (.iconst 4, 1) := by decide +kernel
theorem d_Mo_trap_23 : decode b_Mo_trap 23 = .ok (.iadd, 1) := by decide +kernel
theorem d_Mo_trap_24 : decode b_Mo_trap 24 = .ok (.iload_n 3, 1) := by decide +kernel
theorem d_Mo_trap_25 : decode b_Mo_trap 25 = .ok (.iastore, 1) := by decide +kernel
theorem d_Mo_trap_26 : decode b_Mo_trap 26 = .ok (.aload_n 0, 1) := by decide +kernel
theorem d_Mo_trap_27 : decode b_Mo_trap 27 = .ok (.getfield 16, 3) := by decide +kernel
theorem d_Mo_trap_30 : decode b_Mo_trap 30 = .ok (.iload 4, 2) := by decide +kernel
theorem d_Mo_trap_32 : decode b_Mo_trap 32 = .ok (.iconst 2, 1) := by decide +kernel
theorem d_Mo_trap_33 : decode b_Mo_trap 33 = .ok (.iadd, 1) := by decide +kernel
theorem d_Mo_trap_34 : decode b_Mo_trap 34 = .ok (.aload_n 0, 1) := by decide +kernel
theorem d_Mo_trap_35 : decode b_Mo_trap 35 = .ok (.getfield 19, 3) := by decide +kernel
theorem d_Mo_trap_38 : decode b_Mo_trap 38 = .ok (.iload_n 1, 1) := by decide +kernel
theorem d_Mo_trap_39 : decode b_Mo_trap 39 = .ok (.iaload, 1) := by decide +kernel
theorem d_Mo_trap_40 : decode b_Mo_trap 40 = .ok (.iastore, 1) := by decide +kernel
theorem d_Mo_trap_41 : decode b_Mo_trap 41 = .ok (.aload_n 0, 1) := by decide +kernel
theorem d_Mo_trap_42 : decode b_Mo_trap 42 = .ok (.getfield 16, 3) := by decide +kernel
theorem d_Mo_trap_45 : decode b_Mo_trap 45 = .ok (.iload 4, 2) := by decide +kernel
theorem d_Mo_trap_47 : decode b_Mo_trap 47 = .ok (.iaload, 1) := by decide +kernel
theorem d_Mo_trap_48 : decode b_Mo_trap 48 = .ok (.iconst 1, 1) := by decide +kernel
theorem d_Mo_trap_49 : decode b_Mo_trap 49 = .ok (.iand, 1) := by decide +kernel
theorem d_Mo_trap_50 : decode b_Mo_trap 50 = .ok (.istore 5, 2) := by decide +kernel
theorem d_Mo_trap_52 : decode b_Mo_trap 52 = .ok (.aload_n 0, 1) := by decide +kernel
theorem d_Mo_trap_53 : decode b_Mo_trap 53 = .ok (.getfield 16, 3) := by decide +kernel
theorem d_Mo_trap_56 : decode b_Mo_trap 56 = .ok (.iload 4, 2) := by decide +kernel
theorem d_Mo_trap_58 : decode b_Mo_trap 58 = .ok (.aload_n 0, 1) := by decide +kernel
theorem d_Mo_trap_59 : decode b_Mo_trap 59 = .ok (.getfield 16, 3) := by decide +kernel
theorem d_Mo_trap_62 : decode b_Mo_trap 62 = .ok (.iload 4, 2) := by decide +kernel
theorem d_Mo_trap_64 : decode b_Mo_trap 64 = .ok (.iaload, 1) := by decide +kernel
theorem d_Mo_trap_65 : decode b_Mo_trap 65 = .ok (.bipush 8, 2) := by decide +kernel
theorem d_Mo_trap_67 : decode b_Mo_trap 67 = .ok (.iand, 1) := by decide +kernel
theorem d_Mo_trap_68 : decode b_Mo_trap 68 = .ok (.iload 5, 2) := by decide +kernel
theorem d_Mo_trap_70 : decode b_Mo_trap 70 = .ok (.iconst 1, 1) := by decide +kernel
theorem d_Mo_trap_71 : decode b_Mo_trap 71 = .ok (.ishl, 1) := by decide +kernel
theorem d_Mo_trap_72 : decode b_Mo_trap 72 = .ok (.ior, 1) := by decide +kernel
theorem d_Mo_trap_73 : decode b_Mo_trap 73 = .ok (.aload_n 0, 1) := by decide +kernel
theorem d_Mo_trap_74 : decode b_Mo_trap 74 = .ok (.getfield 22, 3) := by decide +kernel
theorem d_Mo_trap_77 : decode b_Mo_trap 77 = .ok (.iload_n 1, 1) := by decide +kernel
theorem d_Mo_trap_78 : decode b_Mo_trap 78 = .ok (.baload, 1) := by decide +kernel
theorem d_Mo_trap_79 : decode b_Mo_trap 79 = .ok (.ifCond .eq 7, 3) := by decide +kernel
theorem d_Mo_trap_82 : decode b_Mo_trap 82 = .ok (.iconst 0, 1) := by decide +kernel
theorem d_Mo_trap_83 : decode b_Mo_trap 83 = .ok (.goto 4, 3) := by decide +kernel
theorem d_Mo_trap_86 : decode b_Mo_trap 86 = .ok (.iconst 4, 1) := by decide +kernel
theorem d_Mo_trap_87 : decode b_Mo_trap 87 = .ok (.ior, 1) := by decide +kernel
theorem d_Mo_trap_88 : decode b_Mo_trap 88 = .ok (.iastore, 1) := by decide +kernel
theorem d_Mo_trap_89 : decode b_Mo_trap 89 = .ok (.aload_n 0, 1) := by decide +kernel
theorem d_Mo_trap_90 : decode b_Mo_trap 90 = .ok (.getfield 22, 3) := by decide +kernel
theorem d_Mo_trap_93 : decode b_Mo_trap 93 = .ok (.iload_n 1, 1) := by decide +kernel
theorem d_Mo_trap_94 : decode b_Mo_trap 94 = .ok (.iconst 0, 1) := by decide +kernel
theorem d_Mo_trap_95 : decode b_Mo_trap 95 = .ok (.bastore, 1) := by decide +kernel
theorem d_Mo_trap_96 : decode b_Mo_trap 96 = .ok (.aload_n 0, 1) := by decide +kernel
theorem d_Mo_trap_97 : decode b_Mo_trap 97 = .ok (.getfield 19, 3) := by decide +kernel
theorem d_Mo_trap_100 : decode b_Mo_trap 100 = .ok (.iload_n 1, 1) := by decide +kernel
theorem d_Mo_trap_101 : decode b_Mo_trap 101 = .ok (.aload_n 0, 1) := by decide +kernel
theorem d_Mo_trap_102 : decode b_Mo_trap 102 = .ok (.getfield 16, 3) := by decide +kernel
theorem d_Mo_trap_105 : decode b_Mo_trap 105 = .ok (.iload 4, 2) := by decide +kernel
theorem d_Mo_trap_107 : decode b_Mo_trap 107 = .ok (.iconst 1, 1) := by decide +kernel
theorem d_Mo_trap_108 : decode b_Mo_trap 108 = .ok (.iadd, 1) := by decide +kernel
theorem d_Mo_trap_109 : decode b_Mo_trap 109 = .ok (.iaload, 1) := by decide +kernel
theorem d_Mo_trap_110 : decode b_Mo_trap 110 = .ok (.iastore, 1) := by decide +kernel
theorem d_Mo_trap_111 : decode b_Mo_trap 111 = .ok (.iload_n 2, 1) := by decide +kernel
theorem d_Mo_trap_112 : decode b_Mo_trap 112 = .ok (.iconst 1, 1) := by decide +kernel
theorem d_Mo_trap_113 : decode b_Mo_trap 113 = .ok (.if_icmp .eq 32, 3) := by decide +kernel
theorem d_Mo_trap_116 : decode b_Mo_trap 116 = .ok (.iload_n 2, 1) := by decide +kernel
theorem d_Mo_trap_117 : decode b_Mo_trap 117 = .ok (.iconst 5, 1) := by decide +kernel
theorem d_Mo_trap_118 : decode b_Mo_trap 118 = .ok (.if_icmp .eq 27, 3) := by decide +kernel
theorem d_Mo_trap_121 : decode b_Mo_trap 121 = .ok (.iload_n 2, 1) := by decide +kernel
theorem d_Mo_trap_122 : decode b_Mo_trap 122 = .ok (.bipush 7, 2) := by decide +kernel
theorem d_Mo_trap_124 : decode b_Mo_trap 124 = .ok (.if_icmp .eq 21, 3) := by decide +kernel
theorem d_Mo_trap_127 : decode b_Mo_trap 127 = .ok (.iload_n 2, 1) := by decide +kernel
theorem d_Mo_trap_128 : decode b_Mo_trap 128 = .ok (.bipush 12, 2) := by decide +kernel
theorem d_Mo_trap_130 : decode b_Mo_trap 130 = .ok (.if_icmp .eq 15, 3) := by decide +kernel
theorem d_Mo_trap_133 : decode b_Mo_trap 133 = .ok (.iload_n 2, 1) := by decide +kernel
theorem d_Mo_trap_134 : decode b_Mo_trap 134 = .ok (.bipush 13, 2) := by decide +kernel
theorem d_Mo_trap_136 : decode b_Mo_trap 136 = .ok (.if_icmp .eq 9, 3) := by decide +kernel
theorem d_Mo_trap_139 : decode b_Mo_trap 139 = .ok (.iload_n 2, 1) := by decide +kernel
theorem d_Mo_trap_140 : decode b_Mo_trap 140 = .ok (.bipush 15, 2) := by decide +kernel
theorem d_Mo_trap_142 : decode b_Mo_trap 142 = .ok (.if_icmp .ne 10, 3) := by decide +kernel
theorem d_Mo_trap_145 : decode b_Mo_trap 145 = .ok (.aload_n 0, 1) := by decide +kernel
theorem d_Mo_trap_146 : decode b_Mo_trap 146 = .ok (.iload_n 1, 1) := by decide +kernel
theorem d_Mo_trap_147 : decode b_Mo_trap 147 = .ok (.iconst 2, 1) := by decide +kernel
theorem d_Mo_trap_148 : decode b_Mo_trap 148 = .ok (.iconst 1, 1) := by decide +kernel
theorem d_Mo_trap_149 : decode b_Mo_trap 149 = .ok (.invokevirtual 58, 3) := by decide +kernel
theorem d_Mo_trap_152 : decode b_Mo_trap 152 = .ok (.return_, 1) := by decide +kernel
noncomputable def pr_Mo_trap : List (Nat × tw_Op) := [(0, tw_ic (12)), (2, tw_il 1), (3, tw_bin (· * ·)), (4, tw_is 4), (6, tw_al 0), (7, tw_gr 22 25), (10, tw_il 4), (12, tw_ic 3), (13, tw_bin (· + ·)), (14, tw_il 2), (15, tw_ias 22 37), (16, tw_al 0), (17, tw_gr 22 25), (20, tw_il 4), (22, tw_ic 4), (23, tw_bin (· + ·)), (24, tw_il 3), (25, tw_ias 22 37), (26, tw_al 0), (27, tw_gr 22 25), (30, tw_il 4), (32, tw_ic 2), (33, tw_bin (· + ·)), (34, tw_al 0), (35, tw_gr 22 26), (38, tw_il 1), (39, tw_ia), (40, tw_ias 22 37), (41, tw_al 0), (42, tw_gr 22 25), (45, tw_il 4), (47, tw_ia), (48, tw_ic 1), (49, tw_bin (· &&& ·)), (50, tw_is 5), (52, tw_al 0), (53, tw_gr 22 25), (56, tw_il 4), (58, tw_al 0), (59, tw_gr 22 25), (62, tw_il 4), (64, tw_ia), (65, tw_ic (8)), (67, tw_bin (· &&& ·)), (68, tw_il 5), (70, tw_ic 1), (71, tw_bin (fun x y => x <<< (y &&& 31))), (72, tw_bin (· ||| ·)), (73, tw_al 0), (74, tw_gr 22 27), (77, tw_il 1), (78, tw_za), (79, tw_ifeq 86), (82, tw_ic 0), (83, tw_jmp 87), (86, tw_ic 4), (87, tw_bin (· ||| ·)), (88, tw_ias 22 37), (89, tw_al 0), (90, tw_gr 22 27), (93, tw_il 1), (94, tw_ic 0), (95, tw_zas 22 37), (96, tw_al 0), (97, tw_gr 22 26), (100, tw_il 1), (101, tw_al 0), (102, tw_gr 22 25), (105, tw_il 4), (107, tw_ic 1), (108, tw_bin (· + ·)), (109, tw_ia), (110, tw_ias 22 37), (111, tw_il 2), (112, tw_ic 1), (113, tw_ceq 145), (116, tw_il 2), (117, tw_ic 5), (118, tw_ceq 145), (121, tw_il 2), (122, tw_ic (7)), (124, tw_ceq 145), (127, tw_il 2), (128, tw_ic (12)), (130, tw_ceq 145), (133, tw_il 2), (134, tw_ic (13)), (136, tw_ceq 145), (139, tw_il 2), (140, tw_ic (15)), (142, tw_cne 152), (145, tw_al 0), (146, tw_il 1), (147, tw_ic 2), (148, tw_ic 1), (149, tw_cv 3 22 fn_Mo_add), (152, tw_r0)]
set_option maxRecDepth 100000 in
set_option maxHeartbeats 4000000 in
theorem ok_Mo_trap {p : Program} {l : Launch} {e : Env} {s : State} {m : MethodId} {args : Array Value} {below : List Frame} {meth : Method} {c : Code} {E : tw_E} {D : va_G} {ρ : tw_R} (hC : tw_Cx p s m args meth c b_Mo_trap 6 none "TwinHostModel" E D) : tw_Ok p l e (tw_rmd 1) s m args below meth c 0 0 (MQ below (tw_Qc E D ρ) args s 0 0 (tw_A E)) 6 E D ρ pr_Mo_trap :=
  ⟨ts_bipush hC d_Mo_trap_0 (by decide),
   ts_iload_n hC d_Mo_trap_2 rfl,
   ts_imul hC d_Mo_trap_3,
   ts_istore hC d_Mo_trap_4 (by decide),
   ts_aload_n hC d_Mo_trap_6 rfl,
   ts_gr (j := 5) (C := R_Mo) (T := T_Mo) hC rfl rfl rfl (by decide) u_Mo wd_461 rfl d_Mo_trap_7,
   ts_iload hC d_Mo_trap_10,
   ts_iconst hC d_Mo_trap_12 (by decide),
   ts_iadd hC d_Mo_trap_13,
   ts_iload_n hC d_Mo_trap_14 rfl,
   ts_iastore hC d_Mo_trap_15,
   ts_aload_n hC d_Mo_trap_16 rfl,
   ts_gr (j := 5) (C := R_Mo) (T := T_Mo) hC rfl rfl rfl (by decide) u_Mo wd_461 rfl d_Mo_trap_17,
   ts_iload hC d_Mo_trap_20,
   ts_iconst hC d_Mo_trap_22 (by decide),
   ts_iadd hC d_Mo_trap_23,
   ts_iload_n hC d_Mo_trap_24 rfl,
   ts_iastore hC d_Mo_trap_25,
   ts_aload_n hC d_Mo_trap_26 rfl,
   ts_gr (j := 5) (C := R_Mo) (T := T_Mo) hC rfl rfl rfl (by decide) u_Mo wd_461 rfl d_Mo_trap_27,
   ts_iload hC d_Mo_trap_30,
   ts_iconst hC d_Mo_trap_32 (by decide),
   ts_iadd hC d_Mo_trap_33,
   ts_aload_n hC d_Mo_trap_34 rfl,
   ts_gr (j := 6) (C := R_Mo) (T := T_Mo) hC rfl rfl rfl (by decide) u_Mo wd_462 rfl d_Mo_trap_35,
   ts_iload_n hC d_Mo_trap_38 rfl,
   ts_iaload hC d_Mo_trap_39,
   ts_iastore hC d_Mo_trap_40,
   ts_aload_n hC d_Mo_trap_41 rfl,
   ts_gr (j := 5) (C := R_Mo) (T := T_Mo) hC rfl rfl rfl (by decide) u_Mo wd_461 rfl d_Mo_trap_42,
   ts_iload hC d_Mo_trap_45,
   ts_iaload hC d_Mo_trap_47,
   ts_iconst hC d_Mo_trap_48 (by decide),
   ts_iand hC d_Mo_trap_49,
   ts_istore hC d_Mo_trap_50 (by decide),
   ts_aload_n hC d_Mo_trap_52 rfl,
   ts_gr (j := 5) (C := R_Mo) (T := T_Mo) hC rfl rfl rfl (by decide) u_Mo wd_461 rfl d_Mo_trap_53,
   ts_iload hC d_Mo_trap_56,
   ts_aload_n hC d_Mo_trap_58 rfl,
   ts_gr (j := 5) (C := R_Mo) (T := T_Mo) hC rfl rfl rfl (by decide) u_Mo wd_461 rfl d_Mo_trap_59,
   ts_iload hC d_Mo_trap_62,
   ts_iaload hC d_Mo_trap_64,
   ts_bipush hC d_Mo_trap_65 (by decide),
   ts_iand hC d_Mo_trap_67,
   ts_iload hC d_Mo_trap_68,
   ts_iconst hC d_Mo_trap_70 (by decide),
   ts_ishl hC d_Mo_trap_71,
   ts_ior hC d_Mo_trap_72,
   ts_aload_n hC d_Mo_trap_73 rfl,
   ts_gr (j := 7) (C := R_Mo) (T := T_Mo) hC rfl rfl rfl (by decide) u_Mo wd_463 rfl d_Mo_trap_74,
   ts_iload_n hC d_Mo_trap_77 rfl,
   ts_baload hC d_Mo_trap_78,
   ts_ifeq hC d_Mo_trap_79 (by decide),
   ts_iconst hC d_Mo_trap_82 (by decide),
   ts_goto hC d_Mo_trap_83 (by decide),
   ts_iconst hC d_Mo_trap_86 (by decide),
   ts_ior hC d_Mo_trap_87,
   ts_iastore hC d_Mo_trap_88,
   ts_aload_n hC d_Mo_trap_89 rfl,
   ts_gr (j := 7) (C := R_Mo) (T := T_Mo) hC rfl rfl rfl (by decide) u_Mo wd_463 rfl d_Mo_trap_90,
   ts_iload_n hC d_Mo_trap_93 rfl,
   ts_iconst hC d_Mo_trap_94 (by decide),
   ts_bastore hC d_Mo_trap_95,
   ts_aload_n hC d_Mo_trap_96 rfl,
   ts_gr (j := 6) (C := R_Mo) (T := T_Mo) hC rfl rfl rfl (by decide) u_Mo wd_462 rfl d_Mo_trap_97,
   ts_iload_n hC d_Mo_trap_100 rfl,
   ts_aload_n hC d_Mo_trap_101 rfl,
   ts_gr (j := 5) (C := R_Mo) (T := T_Mo) hC rfl rfl rfl (by decide) u_Mo wd_461 rfl d_Mo_trap_102,
   ts_iload hC d_Mo_trap_105,
   ts_iconst hC d_Mo_trap_107 (by decide),
   ts_iadd hC d_Mo_trap_108,
   ts_iaload hC d_Mo_trap_109,
   ts_iastore hC d_Mo_trap_110,
   ts_iload_n hC d_Mo_trap_111 rfl,
   ts_iconst hC d_Mo_trap_112 (by decide),
   ts_ceq hC d_Mo_trap_113 (by decide),
   ts_iload_n hC d_Mo_trap_116 rfl,
   ts_iconst hC d_Mo_trap_117 (by decide),
   ts_ceq hC d_Mo_trap_118 (by decide),
   ts_iload_n hC d_Mo_trap_121 rfl,
   ts_bipush hC d_Mo_trap_122 (by decide),
   ts_ceq hC d_Mo_trap_124 (by decide),
   ts_iload_n hC d_Mo_trap_127 rfl,
   ts_bipush hC d_Mo_trap_128 (by decide),
   ts_ceq hC d_Mo_trap_130 (by decide),
   ts_iload_n hC d_Mo_trap_133 rfl,
   ts_bipush hC d_Mo_trap_134 (by decide),
   ts_ceq hC d_Mo_trap_136 (by decide),
   ts_iload_n hC d_Mo_trap_139 rfl,
   ts_bipush hC d_Mo_trap_140 (by decide),
   ts_cne hC d_Mo_trap_142 (by decide),
   ts_aload_n hC d_Mo_trap_145 rfl,
   ts_iload_n hC d_Mo_trap_146 rfl,
   ts_iconst hC d_Mo_trap_147 (by decide),
   ts_iconst hC d_Mo_trap_148 (by decide),
   ts_callv (C := R_Mo) (T := T_Mo) hC con_Mo_add wd_540 wd_30 (by decide +kernel) ⟨by decide, by decide⟩ ⟨Nat.zero_le _, Nat.zero_le _⟩ wd_537 rfl rfl wd_539 wd_2 d_Mo_trap_149,
   ts_vret hC rfl d_Mo_trap_152,
   trivial⟩
noncomputable def fn_Mo_trap : tw_Fn := tw_fl 4 6 99 pr_Mo_trap
theorem con_Mo_trap : tw_Con y_Mo_trap b_Mo_trap 6 none 1 fn_Mo_trap := tw_met (by decide +kernel) (tw_fl_len (n := 4) (by decide)) (fun p l e s m args below meth c E D vs σ ρ hC h => tw_sound (ok_Mo_trap hC) 99 pr_Mo_trap (ok_Mo_trap hC) _ _ _ (tw_fl_get h))

-- TwinHostModel.user(I)Z: 12 instructions, depth 1, calls Mo_guest
theorem d_Mo_user_0 : decode b_Mo_user 0 = .ok (.iload_n 1, 1) := by decide +kernel
theorem d_Mo_user_1 : decode b_Mo_user 1 = .ok (.invokestatic 62, 3) := by decide +kernel
theorem d_Mo_user_4 : decode b_Mo_user 4 = .ok (.ifCond .eq 16, 3) := by decide +kernel
theorem d_Mo_user_7 : decode b_Mo_user 7 = .ok (.aload_n 0, 1) := by decide +kernel
theorem d_Mo_user_8 : decode b_Mo_user 8 = .ok (.getfield 22, 3) := by decide +kernel
theorem d_Mo_user_11 : decode b_Mo_user 11 = .ok (.iload_n 1, 1) := by decide +kernel
theorem d_Mo_user_12 : decode b_Mo_user 12 = .ok (.baload, 1) := by decide +kernel
theorem d_Mo_user_13 : decode b_Mo_user 13 = .ok (.ifCond .eq 7, 3) := by decide +kernel
theorem d_Mo_user_16 : decode b_Mo_user 16 = .ok (.iconst 1, 1) := by decide +kernel
theorem d_Mo_user_17 : decode b_Mo_user 17 = .ok (.goto 4, 3) := by decide +kernel
theorem d_Mo_user_20 : decode b_Mo_user 20 = .ok (.iconst 0, 1) := by decide +kernel
theorem d_Mo_user_21 : decode b_Mo_user 21 = .ok (.ireturn, 1) := by decide +kernel
noncomputable def pr_Mo_user : List (Nat × tw_Op) := [(0, tw_il 1), (1, tw_cs 1 fn_Mo_guest), (4, tw_ifeq 20), (7, tw_al 0), (8, tw_gr 22 27), (11, tw_il 1), (12, tw_za), (13, tw_ifeq 20), (16, tw_ic 1), (17, tw_jmp 21), (20, tw_ic 0), (21, tw_rz)]
set_option maxRecDepth 100000 in
set_option maxHeartbeats 4000000 in
theorem ok_Mo_user {p : Program} {l : Launch} {e : Env} {s : State} {m : MethodId} {args : Array Value} {below : List Frame} {meth : Method} {c : Code} {E : tw_E} {D : va_G} {ρ : tw_R} (hC : tw_Cx p s m args meth c b_Mo_user 2 (some .boolean) "TwinHostModel" E D) : tw_Ok p l e (tw_rmd 1) s m args below meth c 0 0 (MQ below (tw_Qc E D ρ) args s 0 0 (tw_A E)) 2 E D ρ pr_Mo_user :=
  ⟨ts_iload_n hC d_Mo_user_0 rfl,
   ts_calls hC con_Mo_guest wd_524 wd_30 (by decide +kernel) ⟨by decide, by decide⟩ ⟨Nat.zero_le _, Nat.zero_le _⟩ wd_522 wd_523 d_Mo_user_1,
   ts_ifeq hC d_Mo_user_4 (by decide),
   ts_aload_n hC d_Mo_user_7 rfl,
   ts_gr (j := 7) (C := R_Mo) (T := T_Mo) hC rfl rfl rfl (by decide) u_Mo wd_463 rfl d_Mo_user_8,
   ts_iload_n hC d_Mo_user_11 rfl,
   ts_baload hC d_Mo_user_12,
   ts_ifeq hC d_Mo_user_13 (by decide),
   ts_iconst hC d_Mo_user_16 (by decide),
   ts_goto hC d_Mo_user_17 (by decide),
   ts_iconst hC d_Mo_user_20 (by decide),
   ts_zret hC rfl d_Mo_user_21,
   trivial⟩
noncomputable def fn_Mo_user : tw_Fn := tw_fl 2 2 14 pr_Mo_user
theorem con_Mo_user : tw_Con y_Mo_user b_Mo_user 2 (some .boolean) 1 fn_Mo_user := tw_met (by decide +kernel) (tw_fl_len (n := 2) (by decide)) (fun p l e s m args below meth c E D vs σ ρ hC h => tw_sound (ok_Mo_user hC) 14 pr_Mo_user (ok_Mo_user hC) _ _ _ (tw_fl_get h))
