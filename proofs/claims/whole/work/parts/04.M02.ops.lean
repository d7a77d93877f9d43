-- TwinHostModel.assign(III)V: 36 instructions, depth 2, calls Mo_flush
theorem d_Mo_assign_0 : decode b_Mo_assign 0 = .ok (.aload_n 0, 1) := by decide +kernel
theorem d_Mo_assign_1 : decode b_Mo_assign 1 = .ok (.getfield 16, 3) := by decide +kernel
theorem d_Mo_assign_4 : decode b_Mo_assign 4 = .ok (.bipush 12, 2) := by decide +kernel
theorem d_Mo_assign_6 : decode b_Mo_assign 6 = .ok (.iload_n 1, 1) := by decide +kernel
theorem d_Mo_assign_7 : decode b_Mo_assign 7 = .ok (.imul, 1) := by decide +kernel
theorem d_Mo_assign_8 : decode b_Mo_assign 8 = .ok (.iload_n 2, 1) := by decide +kernel
theorem d_Mo_assign_9 : decode b_Mo_assign 9 = .ok (.iadd, 1) := by decide +kernel
theorem d_Mo_assign_10 : decode b_Mo_assign 10 = .ok (.iload_n 2, 1) := by decide +kernel
theorem d_Mo_assign_11 : decode b_Mo_assign 11 = .ok (.ifCond .ne 10, 3) := by decide +kernel
theorem d_Mo_assign_14 : decode b_Mo_assign 14 = .ok (.iload_n 3, 1) := by decide +kernel
theorem d_Mo_assign_15 : decode b_Mo_assign 15 = .ok (.bipush 15, 2) := by decide +kernel
theorem d_Mo_assign_17 : decode b_Mo_assign 17 = .ok (.iand, 1) := by decide +kernel
theorem d_Mo_assign_18 : decode b_Mo_assign 18 = .ok (.goto 30, 3) := by decide +kernel
theorem d_Mo_assign_21 : decode b_Mo_assign 21 = .ok (.iload_n 2, 1) := by decide +kernel
theorem d_Mo_assign_22 : decode b_Mo_assign 22 = .ok (.bipush 6, 2) := by decide +kernel
theorem d_Mo_assign_24 : decode b_Mo_assign 24 = .ok (.if_icmp .ne 11, 3) := by decide +kernel
theorem d_Mo_assign_27 : decode b_Mo_assign 27 = .ok (.iload_n 3, 1) := by decide +kernel
theorem d_Mo_assign_28 : decode b_Mo_assign 28 = .ok (.sipush 143, 3) := by decide +kernel
theorem d_Mo_assign_31 : decode b_Mo_assign 31 = .ok (.iand, 1) := by decide +kernel
theorem d_Mo_assign_32 : decode b_Mo_assign 32 = .ok (.goto 16, 3) := by decide +kernel
theorem d_Mo_assign_35 : decode b_Mo_assign 35 = .ok (.iload_n 2, 1) := by decide +kernel
theorem d_Mo_assign_36 : decode b_Mo_assign 36 = .ok (.bipush 7, 2) := by decide +kernel
theorem d_Mo_assign_38 : decode b_Mo_assign 38 = .ok (.if_icmp .ne 9, 3) := by decide +kernel
theorem d_Mo_assign_41 : decode b_Mo_assign 41 = .ok (.iload_n 3, 1) := by decide +kernel
theorem d_Mo_assign_42 : decode b_Mo_assign 42 = .ok (.iconst 3, 1) := by decide +kernel
theorem d_Mo_assign_43 : decode b_Mo_assign 43 = .ok (.iand, 1) := by decide +kernel
theorem d_Mo_assign_44 : decode b_Mo_assign 44 = .ok (.goto 4, 3) := by decide +kernel
theorem d_Mo_assign_47 : decode b_Mo_assign 47 = .ok (.iload_n 3, 1) := by decide +kernel
theorem d_Mo_assign_48 : decode b_Mo_assign 48 = .ok (.iastore, 1) := by decide +kernel
theorem d_Mo_assign_49 : decode b_Mo_assign 49 = .ok (.iload_n 2, 1) := by decide +kernel
theorem d_Mo_assign_50 : decode b_Mo_assign 50 = .ok (.bipush 6, 2) := by decide +kernel
theorem d_Mo_assign_52 : decode b_Mo_assign 52 = .ok (.if_icmp .ne 8, 3) := by decide +kernel
theorem d_Mo_assign_55 : decode b_Mo_assign 55 = .ok (.aload_n 0, 1) := by decide +kernel
theorem d_Mo_assign_56 : decode b_Mo_assign 56 = .ok (.iload_n 1, 1) := by decide +kernel
theorem d_Mo_assign_57 : decode b_Mo_assign 57 = .ok (.invokevirtual 73, 3) := by decide +kernel
theorem d_Mo_assign_60 : decode b_Mo_assign 60 = .ok (.return_, 1) := by decide +kernel
noncomputable def pr_Mo_assign : List (Nat × tw_Op) := [(0, tw_al 0), (1, tw_gr 22 25), (4, tw_ic (12)), (6, tw_il 1), (7, tw_bin (· * ·)), (8, tw_il 2), (9, tw_bin (· + ·)), (10, tw_il 2), (11, tw_ifne 21), (14, tw_il 3), (15, tw_ic (15)), (17, tw_bin (· &&& ·)), (18, tw_jmp 48), (21, tw_il 2), (22, tw_ic (6)), (24, tw_cne 35), (27, tw_il 3), (28, tw_ic (143)), (31, tw_bin (· &&& ·)), (32, tw_jmp 48), (35, tw_il 2), (36, tw_ic (7)), (38, tw_cne 47), (41, tw_il 3), (42, tw_ic 3), (43, tw_bin (· &&& ·)), (44, tw_jmp 48), (47, tw_il 3), (48, tw_ias 22 37), (49, tw_il 2), (50, tw_ic (6)), (52, tw_cne 60), (55, tw_al 0), (56, tw_il 1), (57, tw_cv 1 22 fn_Mo_flush), (60, tw_r0)]
set_option maxRecDepth 100000 in
set_option maxHeartbeats 4000000 in
theorem ok_Mo_assign {p : Program} {l : Launch} {e : Env} {s : State} {m : MethodId} {args : Array Value} {below : List Frame} {meth : Method} {c : Code} {E : tw_E} {D : va_G} {ρ : tw_R} (hC : tw_Cx p s m args meth c b_Mo_assign 4 none "TwinHostModel" E D) : tw_Ok p l e (tw_rmd 2) s m args below meth c 0 0 (MQ below (tw_Qc E D ρ) args s 0 0 (tw_A E)) 4 E D ρ pr_Mo_assign :=
  ⟨ts_aload_n hC d_Mo_assign_0 rfl,
   ts_gr (j := 5) (C := R_Mo) (T := T_Mo) hC rfl rfl rfl (by decide) u_Mo wd_461 rfl d_Mo_assign_1,
   ts_bipush hC d_Mo_assign_4 (by decide),
   ts_iload_n hC d_Mo_assign_6 rfl,
   ts_imul hC d_Mo_assign_7,
   ts_iload_n hC d_Mo_assign_8 rfl,
   ts_iadd hC d_Mo_assign_9,
   ts_iload_n hC d_Mo_assign_10 rfl,
   ts_ifne hC d_Mo_assign_11 (by decide),
   ts_iload_n hC d_Mo_assign_14 rfl,
   ts_bipush hC d_Mo_assign_15 (by decide),
   ts_iand hC d_Mo_assign_17,
   ts_goto hC d_Mo_assign_18 (by decide),
   ts_iload_n hC d_Mo_assign_21 rfl,
   ts_bipush hC d_Mo_assign_22 (by decide),
   ts_cne hC d_Mo_assign_24 (by decide),
   ts_iload_n hC d_Mo_assign_27 rfl,
   ts_sipush hC d_Mo_assign_28 (by decide),
   ts_iand hC d_Mo_assign_31,
   ts_goto hC d_Mo_assign_32 (by decide),
   ts_iload_n hC d_Mo_assign_35 rfl,
   ts_bipush hC d_Mo_assign_36 (by decide),
   ts_cne hC d_Mo_assign_38 (by decide),
   ts_iload_n hC d_Mo_assign_41 rfl,
   ts_iconst hC d_Mo_assign_42 (by decide),
   ts_iand hC d_Mo_assign_43,
   ts_goto hC d_Mo_assign_44 (by decide),
   ts_iload_n hC d_Mo_assign_47 rfl,
   ts_iastore hC d_Mo_assign_48,
   ts_iload_n hC d_Mo_assign_49 rfl,
   ts_bipush hC d_Mo_assign_50 (by decide),
   ts_cne hC d_Mo_assign_52 (by decide),
   ts_aload_n hC d_Mo_assign_55 rfl,
   ts_iload_n hC d_Mo_assign_56 rfl,
   ts_callv (C := R_Mo) (T := T_Mo) hC con_Mo_flush wd_571 wd_30 (by decide +kernel) ⟨by decide, by decide⟩ ⟨Nat.zero_le _, Nat.zero_le _⟩ wd_568 rfl rfl wd_570 wd_5 d_Mo_assign_57,
   ts_vret hC rfl d_Mo_assign_60,
   trivial⟩
noncomputable def fn_Mo_assign : tw_Fn := tw_fl 4 4 38 pr_Mo_assign
theorem con_Mo_assign : tw_Con y_Mo_assign b_Mo_assign 4 none 2 fn_Mo_assign := tw_met (by decide +kernel) (tw_fl_len (n := 4) (by decide)) (fun p l e s m args below meth c E D vs σ ρ hC h => tw_sound (ok_Mo_assign hC) 38 pr_Mo_assign (ok_Mo_assign hC) _ _ _ (tw_fl_get h))

-- TwinHostModel.control(II)I: 42 instructions, depth 2, calls Mo_guest Mo_isThere Mo_pending
theorem d_Mo_control_0 : decode b_Mo_control 0 = .ok (.iload_n 1, 1) := by decide +kernel
theorem d_Mo_control_1 : decode b_Mo_control 1 = .ok (.invokestatic 62, 3) := by decide +kernel
theorem d_Mo_control_4 : decode b_Mo_control 4 = .ok (.ifCond .eq 13, 3) := by decide +kernel
theorem d_Mo_control_7 : decode b_Mo_control 7 = .ok (.iload_n 2, 1) := by decide +kernel
theorem d_Mo_control_8 : decode b_Mo_control 8 = .ok (.ifCond .lt 9, 3) := by decide +kernel
theorem d_Mo_control_11 : decode b_Mo_control 11 = .ok (.iload_n 2, 1) := by decide +kernel
theorem d_Mo_control_12 : decode b_Mo_control 12 = .ok (.bipush 11, 2) := by decide +kernel
theorem d_Mo_control_14 : decode b_Mo_control 14 = .ok (.if_icmp .le 5, 3) := by decide +kernel
theorem d_Mo_control_17 : decode b_Mo_control 17 = .ok (.iconst 0, 1) := by decide +kernel
theorem d_Mo_control_18 : decode b_Mo_control 18 = .ok (.ireturn, 1) := by decide +kernel
theorem d_Mo_control_19 : decode b_Mo_control 19 = .ok (.iload_n 2, 1) := by decide +kernel
theorem d_Mo_control_20 : decode b_Mo_control 20 = .ok (.bipush 11, 2) := by decide +kernel
theorem d_Mo_control_22 : decode b_Mo_control 22 = .ok (.if_icmp .ne 25, 3) := by decide +kernel
theorem d_Mo_control_25 : decode b_Mo_control 25 = .ok (.aload_n 0, 1) := by decide +kernel
theorem d_Mo_control_26 : decode b_Mo_control 26 = .ok (.iload_n 1, 1) := by decide +kernel
theorem d_Mo_control_27 : decode b_Mo_control 27 = .ok (.invokevirtual 83, 3) := by decide +kernel
theorem d_Mo_control_30 : decode b_Mo_control 30 = .ok (.ifCond .eq 15, 3) := by decide +kernel
theorem d_Mo_control_33 : decode b_Mo_control 33 = .ok (.aload_n 0, 1) := by decide +kernel
theorem d_Mo_control_34 : decode b_Mo_control 34 = .ok (.getfield 32, 3) := by decide +kernel
theorem d_Mo_control_37 : decode b_Mo_control 37 = .ok (.bipush 6, 2) := by decide +kernel
theorem d_Mo_control_39 : decode b_Mo_control 39 = .ok (.iload_n 1, 1) := by decide +kernel
theorem d_Mo_control_40 : decode b_Mo_control 40 = .ok (.imul, 1) := by decide +kernel
theorem d_Mo_control_41 : decode b_Mo_control 41 = .ok (.iaload, 1) := by decide +kernel
theorem d_Mo_control_42 : decode b_Mo_control 42 = .ok (.goto 4, 3) := by decide +kernel
theorem d_Mo_control_45 : decode b_Mo_control 45 = .ok (.iconst 0, 1) := by decide +kernel
theorem d_Mo_control_46 : decode b_Mo_control 46 = .ok (.ireturn, 1) := by decide +kernel
theorem d_Mo_control_47 : decode b_Mo_control 47 = .ok (.iload_n 2, 1) := by decide +kernel
theorem d_Mo_control_48 : decode b_Mo_control 48 = .ok (.bipush 8, 2) := by decide +kernel
theorem d_Mo_control_50 : decode b_Mo_control 50 = .ok (.if_icmp .ne 11, 3) := by decide +kernel
theorem d_Mo_control_53 : decode b_Mo_control 53 = .ok (.aload_n 0, 1) := by decide +kernel
theorem d_Mo_control_54 : decode b_Mo_control 54 = .ok (.iload_n 1, 1) := by decide +kernel
theorem d_Mo_control_55 : decode b_Mo_control 55 = .ok (.invokevirtual 86, 3) := by decide +kernel
theorem d_Mo_control_58 : decode b_Mo_control 58 = .ok (.goto 14, 3) := by decide +kernel
theorem d_Mo_control_61 : decode b_Mo_control 61 = .ok (.aload_n 0, 1) := by decide +kernel
theorem d_Mo_control_62 : decode b_Mo_control 62 = .ok (.getfield 16, 3) := by decide +kernel
theorem d_Mo_control_65 : decode b_Mo_control 65 = .ok (.bipush 12, 2) := by decide +kernel
theorem d_Mo_control_67 : decode b_Mo_control 67 = .ok (.iload_n 1, 1) := by decide +kernel
theorem d_Mo_control_68 : decode b_Mo_control 68 = .ok (.imul, 1) := by decide +kernel
theorem d_Mo_control_69 : decode b_Mo_control 69 = .ok (.iload_n 2, 1) := by decide +kernel
theorem d_Mo_control_70 : decode b_Mo_control 70 = .ok (.iadd, 1) := by decide +kernel
theorem d_Mo_control_71 : decode b_Mo_control 71 = .ok (.iaload, 1) := by decide +kernel
theorem d_Mo_control_72 : decode b_Mo_control 72 = .ok (.ireturn, 1) := by decide +kernel
noncomputable def pr_Mo_control : List (Nat × tw_Op) := [(0, tw_il 1), (1, tw_cs 1 fn_Mo_guest), (4, tw_ifeq 17), (7, tw_il 2), (8, tw_iflt 17), (11, tw_il 2), (12, tw_ic (11)), (14, tw_cle 19), (17, tw_ic 0), (18, tw_ri), (19, tw_il 2), (20, tw_ic (11)), (22, tw_cne 47), (25, tw_al 0), (26, tw_il 1), (27, tw_cv 1 22 fn_Mo_isThere), (30, tw_ifeq 45), (33, tw_al 0), (34, tw_gr 22 30), (37, tw_ic (6)), (39, tw_il 1), (40, tw_bin (· * ·)), (41, tw_ia), (42, tw_jmp 46), (45, tw_ic 0), (46, tw_ri), (47, tw_il 2), (48, tw_ic (8)), (50, tw_cne 61), (53, tw_al 0), (54, tw_il 1), (55, tw_cv 1 22 fn_Mo_pending), (58, tw_jmp 72), (61, tw_al 0), (62, tw_gr 22 25), (65, tw_ic (12)), (67, tw_il 1), (68, tw_bin (· * ·)), (69, tw_il 2), (70, tw_bin (· + ·)), (71, tw_ia), (72, tw_ri)]
set_option maxRecDepth 100000 in
set_option maxHeartbeats 4000000 in
theorem ok_Mo_control {p : Program} {l : Launch} {e : Env} {s : State} {m : MethodId} {args : Array Value} {below : List Frame} {meth : Method} {c : Code} {E : tw_E} {D : va_G} {ρ : tw_R} (hC : tw_Cx p s m args meth c b_Mo_control 3 (some .int) "TwinHostModel" E D) : tw_Ok p l e (tw_rmd 2) s m args below meth c 0 0 (MQ below (tw_Qc E D ρ) args s 0 0 (tw_A E)) 3 E D ρ pr_Mo_control :=
  ⟨ts_iload_n hC d_Mo_control_0 rfl,
   ts_calls hC con_Mo_guest wd_524 wd_30 (by decide +kernel) ⟨by decide, by decide⟩ ⟨Nat.zero_le _, Nat.zero_le _⟩ wd_522 wd_523 d_Mo_control_1,
   ts_ifeq hC d_Mo_control_4 (by decide),
   ts_iload_n hC d_Mo_control_7 rfl,
   ts_iflt hC d_Mo_control_8 (by decide),
   ts_iload_n hC d_Mo_control_11 rfl,
   ts_bipush hC d_Mo_control_12 (by decide),
   ts_cle hC d_Mo_control_14 (by decide),
   ts_iconst hC d_Mo_control_17 (by decide),
   ts_iret hC rfl d_Mo_control_18,
   ts_iload_n hC d_Mo_control_19 rfl,
   ts_bipush hC d_Mo_control_20 (by decide),
   ts_cne hC d_Mo_control_22 (by decide),
   ts_aload_n hC d_Mo_control_25 rfl,
   ts_iload_n hC d_Mo_control_26 rfl,
   ts_callv (C := R_Mo) (T := T_Mo) hC con_Mo_isThere wd_579 wd_30 (by decide +kernel) ⟨by decide, by decide⟩ ⟨Nat.zero_le _, Nat.zero_le _⟩ wd_576 rfl rfl wd_578 wd_6 d_Mo_control_27,
   ts_ifeq hC d_Mo_control_30 (by decide),
   ts_aload_n hC d_Mo_control_33 rfl,
   ts_gr (j := 10) (C := R_Mo) (T := T_Mo) hC rfl rfl rfl (by decide) u_Mo wd_466 rfl d_Mo_control_34,
   ts_bipush hC d_Mo_control_37 (by decide),
   ts_iload_n hC d_Mo_control_39 rfl,
   ts_imul hC d_Mo_control_40,
   ts_iaload hC d_Mo_control_41,
   ts_goto hC d_Mo_control_42 (by decide),
   ts_iconst hC d_Mo_control_45 (by decide),
   ts_iret hC rfl d_Mo_control_46,
   ts_iload_n hC d_Mo_control_47 rfl,
   ts_bipush hC d_Mo_control_48 (by decide),
   ts_cne hC d_Mo_control_50 (by decide),
   ts_aload_n hC d_Mo_control_53 rfl,
   ts_iload_n hC d_Mo_control_54 rfl,
   ts_callv (C := R_Mo) (T := T_Mo) hC con_Mo_pending wd_583 wd_30 (by decide +kernel) ⟨by decide, by decide⟩ ⟨Nat.zero_le _, Nat.zero_le _⟩ wd_580 rfl rfl wd_582 wd_7 d_Mo_control_55,
   ts_goto hC d_Mo_control_58 (by decide),
   ts_aload_n hC d_Mo_control_61 rfl,
   ts_gr (j := 5) (C := R_Mo) (T := T_Mo) hC rfl rfl rfl (by decide) u_Mo wd_461 rfl d_Mo_control_62,
   ts_bipush hC d_Mo_control_65 (by decide),
   ts_iload_n hC d_Mo_control_67 rfl,
   ts_imul hC d_Mo_control_68,
   ts_iload_n hC d_Mo_control_69 rfl,
   ts_iadd hC d_Mo_control_70,
   ts_iaload hC d_Mo_control_71,
   ts_iret hC rfl d_Mo_control_72,
   trivial⟩
noncomputable def fn_Mo_control : tw_Fn := tw_fl 3 3 44 pr_Mo_control
theorem con_Mo_control : tw_Con y_Mo_control b_Mo_control 3 (some .int) 2 fn_Mo_control := tw_met (by decide +kernel) (tw_fl_len (n := 3) (by decide)) (fun p l e s m args below meth c E D vs σ ρ hC h => tw_sound (ok_Mo_control hC) 44 pr_Mo_control (ok_Mo_control hC) _ _ _ (tw_fl_get h))

-- TwinHostModel.fault(III)I: 16 instructions, depth 2, calls Mo_trap
theorem d_Mo_fault_0 : decode b_Mo_fault 0 = .ok (.aload_n 0, 1) := by decide +kernel
theorem d_Mo_fault_1 : decode b_Mo_fault 1 = .ok (.iload_n 1, 1) := by decide +kernel
theorem d_Mo_fault_2 : decode b_Mo_fault 2 = .ok (.iload_n 3, 1) := by decide +kernel
theorem d_Mo_fault_3 : decode b_Mo_fault 3 = .ok (.ifCond .ne 8, 3) := by decide +kernel
theorem d_Mo_fault_6 : decode b_Mo_fault 6 = .ok (.bipush 12, 2) := by decide +kernel
theorem d_Mo_fault_8 : decode b_Mo_fault 8 = .ok (.goto 15, 3) := by decide +kernel
theorem d_Mo_fault_11 : decode b_Mo_fault 11 = .ok (.iload_n 3, 1) := by decide +kernel
theorem d_Mo_fault_12 : decode b_Mo_fault 12 = .ok (.iconst 1, 1) := by decide +kernel
theorem d_Mo_fault_13 : decode b_Mo_fault 13 = .ok (.if_icmp .ne 8, 3) := by decide +kernel
theorem d_Mo_fault_16 : decode b_Mo_fault 16 = .ok (.bipush 13, 2) := by decide +kernel
theorem d_Mo_fault_18 : decode b_Mo_fault 18 = .ok (.goto 5, 3) := by decide +kernel
theorem d_Mo_fault_21 : decode b_Mo_fault 21 = .ok (.bipush 15, 2) := by decide +kernel
theorem d_Mo_fault_23 : decode b_Mo_fault 23 = .ok (.iload_n 2, 1) := by decide +kernel
theorem d_Mo_fault_24 : decode b_Mo_fault 24 = .ok (.invokevirtual 90, 3) := by decide +kernel
theorem d_Mo_fault_27 : decode b_Mo_fault 27 = .ok (.iconst (-1), 1) := by decide +kernel
theorem d_Mo_fault_28 : decode b_Mo_fault 28 = .ok (.ireturn, 1) := by decide +kernel
noncomputable def pr_Mo_fault : List (Nat × tw_Op) := [(0, tw_al 0), (1, tw_il 1), (2, tw_il 3), (3, tw_ifne 11), (6, tw_ic (12)), (8, tw_jmp 23), (11, tw_il 3), (12, tw_ic 1), (13, tw_cne 21), (16, tw_ic (13)), (18, tw_jmp 23), (21, tw_ic (15)), (23, tw_il 2), (24, tw_cv 3 22 fn_Mo_trap), (27, tw_ic (-1)), (28, tw_ri)]
set_option maxRecDepth 100000 in
set_option maxHeartbeats 4000000 in
theorem ok_Mo_fault {p : Program} {l : Launch} {e : Env} {s : State} {m : MethodId} {args : Array Value} {below : List Frame} {meth : Method} {c : Code} {E : tw_E} {D : va_G} {ρ : tw_R} (hC : tw_Cx p s m args meth c b_Mo_fault 4 (some .int) "TwinHostModel" E D) : tw_Ok p l e (tw_rmd 2) s m args below meth c 0 0 (MQ below (tw_Qc E D ρ) args s 0 0 (tw_A E)) 4 E D ρ pr_Mo_fault :=
  ⟨ts_aload_n hC d_Mo_fault_0 rfl,
   ts_iload_n hC d_Mo_fault_1 rfl,
   ts_iload_n hC d_Mo_fault_2 rfl,
   ts_ifne hC d_Mo_fault_3 (by decide),
   ts_bipush hC d_Mo_fault_6 (by decide),
   ts_goto hC d_Mo_fault_8 (by decide),
   ts_iload_n hC d_Mo_fault_11 rfl,
   ts_iconst hC d_Mo_fault_12 (by decide),
   ts_cne hC d_Mo_fault_13 (by decide),
   ts_bipush hC d_Mo_fault_16 (by decide),
   ts_goto hC d_Mo_fault_18 (by decide),
   ts_bipush hC d_Mo_fault_21 (by decide),
   ts_iload_n hC d_Mo_fault_23 rfl,
   ts_callv (C := R_Mo) (T := T_Mo) hC con_Mo_trap wd_612 wd_30 (by decide +kernel) ⟨by decide, by decide⟩ ⟨Nat.zero_le _, Nat.zero_le _⟩ wd_609 rfl rfl wd_611 wd_9 d_Mo_fault_24,
   ts_iconst hC d_Mo_fault_27 (by decide),
   ts_iret hC rfl d_Mo_fault_28,
   trivial⟩
noncomputable def fn_Mo_fault : tw_Fn := tw_fl 4 4 18 pr_Mo_fault
theorem con_Mo_fault : tw_Con y_Mo_fault b_Mo_fault 4 (some .int) 2 fn_Mo_fault := tw_met (by decide +kernel) (tw_fl_len (n := 4) (by decide)) (fun p l e s m args below meth c E D vs σ ρ hC h => tw_sound (ok_Mo_fault hC) 18 pr_Mo_fault (ok_Mo_fault hC) _ _ _ (tw_fl_get h))

-- TwinHostModel.illegal(II)I: 7 instructions, depth 2, calls Mo_trap
theorem d_Mo_illegal_0 : decode b_Mo_illegal 0 = .ok (.aload_n 0, 1) := by decide +kernel
theorem d_Mo_illegal_1 : decode b_Mo_illegal 1 = .ok (.iload_n 1, 1) := by decide +kernel
theorem d_Mo_illegal_2 : decode b_Mo_illegal 2 = .ok (.iconst 2, 1) := by decide +kernel
theorem d_Mo_illegal_3 : decode b_Mo_illegal 3 = .ok (.iload_n 2, 1) := by decide +kernel
theorem d_Mo_illegal_4 : decode b_Mo_illegal 4 = .ok (.invokevirtual 90, 3) := by decide +kernel
theorem d_Mo_illegal_7 : decode b_Mo_illegal 7 = .ok (.iconst 0, 1) := by decide +kernel
theorem d_Mo_illegal_8 : decode b_Mo_illegal 8 = .ok (.ireturn, 1) := by decide +kernel
noncomputable def pr_Mo_illegal : List (Nat × tw_Op) := [(0, tw_al 0), (1, tw_il 1), (2, tw_ic 2), (3, tw_il 2), (4, tw_cv 3 22 fn_Mo_trap), (7, tw_ic 0), (8, tw_ri)]
set_option maxRecDepth 100000 in
set_option maxHeartbeats 4000000 in
theorem ok_Mo_illegal {p : Program} {l : Launch} {e : Env} {s : State} {m : MethodId} {args : Array Value} {below : List Frame} {meth : Method} {c : Code} {E : tw_E} {D : va_G} {ρ : tw_R} (hC : tw_Cx p s m args meth c b_Mo_illegal 3 (some .int) "TwinHostModel" E D) : tw_Ok p l e (tw_rmd 2) s m args below meth c 0 0 (MQ below (tw_Qc E D ρ) args s 0 0 (tw_A E)) 3 E D ρ pr_Mo_illegal :=
  ⟨ts_aload_n hC d_Mo_illegal_0 rfl,
   ts_iload_n hC d_Mo_illegal_1 rfl,
   ts_iconst hC d_Mo_illegal_2 (by decide),
   ts_iload_n hC d_Mo_illegal_3 rfl,
   ts_callv (C := R_Mo) (T := T_Mo) hC con_Mo_trap wd_612 wd_30 (by decide +kernel) ⟨by decide, by decide⟩ ⟨Nat.zero_le _, Nat.zero_le _⟩ wd_609 rfl rfl wd_611 wd_9 d_Mo_illegal_4,
   ts_iconst hC d_Mo_illegal_7 (by decide),
   ts_iret hC rfl d_Mo_illegal_8,
   trivial⟩
noncomputable def fn_Mo_illegal : tw_Fn := tw_fl 3 3 9 pr_Mo_illegal
theorem con_Mo_illegal : tw_Con y_Mo_illegal b_Mo_illegal 3 (some .int) 2 fn_Mo_illegal := tw_met (by decide +kernel) (tw_fl_len (n := 3) (by decide)) (fun p l e s m args below meth c E D vs σ ρ hC h => tw_sound (ok_Mo_illegal hC) 9 pr_Mo_illegal (ok_Mo_illegal hC) _ _ _ (tw_fl_get h))

-- TwinHostModel.outside(III)I: 16 instructions, depth 2, calls Mo_trap
theorem d_Mo_outside_0 : decode b_Mo_outside 0 = .ok (.aload_n 0, 1) := by decide +kernel
theorem d_Mo_outside_1 : decode b_Mo_outside 1 = .ok (.iload_n 1, 1) := by decide +kernel
theorem d_Mo_outside_2 : decode b_Mo_outside 2 = .ok (.iload_n 3, 1) := by decide +kernel
theorem d_Mo_outside_3 : decode b_Mo_outside 3 = .ok (.ifCond .ne 7, 3) := by decide +kernel
theorem d_Mo_outside_6 : decode b_Mo_outside 6 = .ok (.iconst 1, 1) := by decide +kernel
theorem d_Mo_outside_7 : decode b_Mo_outside 7 = .ok (.goto 14, 3) := by decide +kernel
theorem d_Mo_outside_10 : decode b_Mo_outside 10 = .ok (.iload_n 3, 1) := by decide +kernel
theorem d_Mo_outside_11 : decode b_Mo_outside 11 = .ok (.iconst 1, 1) := by decide +kernel
theorem d_Mo_outside_12 : decode b_Mo_outside 12 = .ok (.if_icmp .ne 7, 3) := by decide +kernel
theorem d_Mo_outside_15 : decode b_Mo_outside 15 = .ok (.iconst 5, 1) := by decide +kernel
theorem d_Mo_outside_16 : decode b_Mo_outside 16 = .ok (.goto 5, 3) := by decide +kernel
theorem d_Mo_outside_19 : decode b_Mo_outside 19 = .ok (.bipush 7, 2) := by decide +kernel
theorem d_Mo_outside_21 : decode b_Mo_outside 21 = .ok (.iload_n 2, 1) := by decide +kernel
theorem d_Mo_outside_22 : decode b_Mo_outside 22 = .ok (.invokevirtual 90, 3) := by decide +kernel
theorem d_Mo_outside_25 : decode b_Mo_outside 25 = .ok (.iconst (-1), 1) := by decide +kernel
theorem d_Mo_outside_26 : decode b_Mo_outside 26 = .ok (.ireturn, 1) := by decide +kernel
noncomputable def pr_Mo_outside : List (Nat × tw_Op) := [(0, tw_al 0), (1, tw_il 1), (2, tw_il 3), (3, tw_ifne 10), (6, tw_ic 1), (7, tw_jmp 21), (10, tw_il 3), (11, tw_ic 1), (12, tw_cne 19), (15, tw_ic 5), (16, tw_jmp 21), (19, tw_ic (7)), (21, tw_il 2), (22, tw_cv 3 22 fn_Mo_trap), (25, tw_ic (-1)), (26, tw_ri)]
set_option maxRecDepth 100000 in
set_option maxHeartbeats 4000000 in
theorem ok_Mo_outside {p : Program} {l : Launch} {e : Env} {s : State} {m : MethodId} {args : Array Value} {below : List Frame} {meth : Method} {c : Code} {E : tw_E} {D : va_G} {ρ : tw_R} (hC : tw_Cx p s m args meth c b_Mo_outside 4 (some .int) "TwinHostModel" E D) : tw_Ok p l e (tw_rmd 2) s m args below meth c 0 0 (MQ below (tw_Qc E D ρ) args s 0 0 (tw_A E)) 4 E D ρ pr_Mo_outside :=
  ⟨ts_aload_n hC d_Mo_outside_0 rfl,
   ts_iload_n hC d_Mo_outside_1 rfl,
   ts_iload_n hC d_Mo_outside_2 rfl,
   ts_ifne hC d_Mo_outside_3 (by decide),
   ts_iconst hC d_Mo_outside_6 (by decide),
   ts_goto hC d_Mo_outside_7 (by decide),
   ts_iload_n hC d_Mo_outside_10 rfl,
   ts_iconst hC d_Mo_outside_11 (by decide),
   ts_cne hC d_Mo_outside_12 (by decide),
   ts_iconst hC d_Mo_outside_15 (by decide),
   ts_goto hC d_Mo_outside_16 (by decide),
   ts_bipush hC d_Mo_outside_19 (by decide),
   ts_iload_n hC d_Mo_outside_21 rfl,
   ts_callv (C := R_Mo) (T := T_Mo) hC con_Mo_trap wd_612 wd_30 (by decide +kernel) ⟨by decide, by decide⟩ ⟨Nat.zero_le _, Nat.zero_le _⟩ wd_609 rfl rfl wd_611 wd_9 d_Mo_outside_22,
   ts_iconst hC d_Mo_outside_25 (by decide),
   ts_iret hC rfl d_Mo_outside_26,
   trivial⟩
noncomputable def fn_Mo_outside : tw_Fn := tw_fl 4 4 18 pr_Mo_outside
theorem con_Mo_outside : tw_Con y_Mo_outside b_Mo_outside 4 (some .int) 2 fn_Mo_outside := tw_met (by decide +kernel) (tw_fl_len (n := 4) (by decide)) (fun p l e s m args below meth c E D vs σ ρ hC h => tw_sound (ok_Mo_outside hC) 18 pr_Mo_outside (ok_Mo_outside hC) _ _ _ (tw_fl_get h))

-- TwinHostModel.poke(III)I: 34 instructions, depth 2, calls Mo_guest Mo_drop
theorem d_Mo_poke_0 : decode b_Mo_poke 0 = .ok (.iload_n 1, 1) := by decide +kernel
theorem d_Mo_poke_1 : decode b_Mo_poke 1 = .ok (.invokestatic 62, 3) := by decide +kernel
theorem d_Mo_poke_4 : decode b_Mo_poke 4 = .ok (.ifCond .eq 13, 3) := by decide +kernel
theorem d_Mo_poke_7 : decode b_Mo_poke 7 = .ok (.iload_n 2, 1) := by decide +kernel
theorem d_Mo_poke_8 : decode b_Mo_poke 8 = .ok (.ifCond .lt 9, 3) := by decide +kernel
theorem d_Mo_poke_11 : decode b_Mo_poke 11 = .ok (.iload_n 2, 1) := by decide +kernel
theorem d_Mo_poke_12 : decode b_Mo_poke 12 = .ok (.bipush 127, 2) := by decide +kernel
theorem d_Mo_poke_14 : decode b_Mo_poke 14 = .ok (.if_icmp .le 5, 3) := by decide +kernel
theorem d_Mo_poke_17 : decode b_Mo_poke 17 = .ok (.iconst 0, 1) := by decide +kernel
theorem d_Mo_poke_18 : decode b_Mo_poke 18 = .ok (.ireturn, 1) := by decide +kernel
theorem d_Mo_poke_19 : decode b_Mo_poke 19 = .ok (.aload_n 0, 1) := by decide +kernel
theorem d_Mo_poke_20 : decode b_Mo_poke 20 = .ok (.getfield 7, 3) := by decide +kernel
theorem d_Mo_poke_23 : decode b_Mo_poke 23 = .ok (.sipush 128, 3) := by decide +kernel
theorem d_Mo_poke_26 : decode b_Mo_poke 26 = .ok (.iload_n 1, 1) := by decide +kernel
theorem d_Mo_poke_27 : decode b_Mo_poke 27 = .ok (.imul, 1) := by decide +kernel
theorem d_Mo_poke_28 : decode b_Mo_poke 28 = .ok (.iload_n 2, 1) := by decide +kernel
theorem d_Mo_poke_29 : decode b_Mo_poke 29 = .ok (.iadd, 1) := by decide +kernel
theorem d_Mo_poke_30 : decode b_Mo_poke 30 = .ok (.iaload, 1) := by decide +kernel
theorem d_Mo_poke_31 : decode b_Mo_poke 31 = .ok (.istore 4, 2) := by decide +kernel
theorem d_Mo_poke_33 : decode b_Mo_poke 33 = .ok (.aload_n 0, 1) := by decide +kernel
theorem d_Mo_poke_34 : decode b_Mo_poke 34 = .ok (.getfield 7, 3) := by decide +kernel
theorem d_Mo_poke_37 : decode b_Mo_poke 37 = .ok (.sipush 128, 3) := by decide +kernel
theorem d_Mo_poke_40 : decode b_Mo_poke 40 = .ok (.iload_n 1, 1) := by decide +kernel
theorem d_Mo_poke_41 : decode b_Mo_poke 41 = .ok (.imul, 1) := by decide +kernel
theorem d_Mo_poke_42 : decode b_Mo_poke 42 = .ok (.iload_n 2, 1) := by decide +kernel
theorem d_Mo_poke_43 : decode b_Mo_poke 43 = .ok (.iadd, 1) := by decide +kernel
theorem d_Mo_poke_44 : decode b_Mo_poke 44 = .ok (.iload_n 3, 1) := by decide +kernel
theorem d_Mo_poke_45 : decode b_Mo_poke 45 = .ok (.iastore, 1) := by decide +kernel
theorem d_Mo_poke_46 : decode b_Mo_poke 46 = .ok (.aload_n 0, 1) := by decide +kernel
theorem d_Mo_poke_47 : decode b_Mo_poke 47 = .ok (.iload_n 1, 1) := by decide +kernel
theorem d_Mo_poke_48 : decode b_Mo_poke 48 = .ok (.iload_n 2, 1) := by decide +kernel
theorem d_Mo_poke_49 : decode b_Mo_poke 49 = .ok (.invokevirtual 66, 3) := by decide +kernel
theorem d_Mo_poke_52 : decode b_Mo_poke 52 = .ok (.iload 4, 2) := by decide +kernel
theorem d_Mo_poke_54 : decode b_Mo_poke 54 = .ok (.ireturn, 1) := by decide +kernel
noncomputable def pr_Mo_poke : List (Nat × tw_Op) := [(0, tw_il 1), (1, tw_cs 1 fn_Mo_guest), (4, tw_ifeq 17), (7, tw_il 2), (8, tw_iflt 17), (11, tw_il 2), (12, tw_ic (127)), (14, tw_cle 19), (17, tw_ic 0), (18, tw_ri), (19, tw_al 0), (20, tw_gr 22 23), (23, tw_ic (128)), (26, tw_il 1), (27, tw_bin (· * ·)), (28, tw_il 2), (29, tw_bin (· + ·)), (30, tw_ia), (31, tw_is 4), (33, tw_al 0), (34, tw_gr 22 23), (37, tw_ic (128)), (40, tw_il 1), (41, tw_bin (· * ·)), (42, tw_il 2), (43, tw_bin (· + ·)), (44, tw_il 3), (45, tw_ias 22 37), (46, tw_al 0), (47, tw_il 1), (48, tw_il 2), (49, tw_cv 2 22 fn_Mo_drop), (52, tw_il 4), (54, tw_ri)]
set_option maxRecDepth 100000 in
set_option maxHeartbeats 4000000 in
theorem ok_Mo_poke {p : Program} {l : Launch} {e : Env} {s : State} {m : MethodId} {args : Array Value} {below : List Frame} {meth : Method} {c : Code} {E : tw_E} {D : va_G} {ρ : tw_R} (hC : tw_Cx p s m args meth c b_Mo_poke 5 (some .int) "TwinHostModel" E D) : tw_Ok p l e (tw_rmd 2) s m args below meth c 0 0 (MQ below (tw_Qc E D ρ) args s 0 0 (tw_A E)) 5 E D ρ pr_Mo_poke :=
  ⟨ts_iload_n hC d_Mo_poke_0 rfl,
   ts_calls hC con_Mo_guest wd_524 wd_30 (by decide +kernel) ⟨by decide, by decide⟩ ⟨Nat.zero_le _, Nat.zero_le _⟩ wd_522 wd_523 d_Mo_poke_1,
   ts_ifeq hC d_Mo_poke_4 (by decide),
   ts_iload_n hC d_Mo_poke_7 rfl,
   ts_iflt hC d_Mo_poke_8 (by decide),
   ts_iload_n hC d_Mo_poke_11 rfl,
   ts_bipush hC d_Mo_poke_12 (by decide),
   ts_cle hC d_Mo_poke_14 (by decide),
   ts_iconst hC d_Mo_poke_17 (by decide),
   ts_iret hC rfl d_Mo_poke_18,
   ts_aload_n hC d_Mo_poke_19 rfl,
   ts_gr (j := 3) (C := R_Mo) (T := T_Mo) hC rfl rfl rfl (by decide) u_Mo wd_459 rfl d_Mo_poke_20,
   ts_sipush hC d_Mo_poke_23 (by decide),
   ts_iload_n hC d_Mo_poke_26 rfl,
   ts_imul hC d_Mo_poke_27,
   ts_iload_n hC d_Mo_poke_28 rfl,
   ts_iadd hC d_Mo_poke_29,
   ts_iaload hC d_Mo_poke_30,
   ts_istore hC d_Mo_poke_31 (by decide),
   ts_aload_n hC d_Mo_poke_33 rfl,
   ts_gr (j := 3) (C := R_Mo) (T := T_Mo) hC rfl rfl rfl (by decide) u_Mo wd_459 rfl d_Mo_poke_34,
   ts_sipush hC d_Mo_poke_37 (by decide),
   ts_iload_n hC d_Mo_poke_40 rfl,
   ts_imul hC d_Mo_poke_41,
   ts_iload_n hC d_Mo_poke_42 rfl,
   ts_iadd hC d_Mo_poke_43,
   ts_iload_n hC d_Mo_poke_44 rfl,
   ts_iastore hC d_Mo_poke_45,
   ts_aload_n hC d_Mo_poke_46 rfl,
   ts_iload_n hC d_Mo_poke_47 rfl,
   ts_iload_n hC d_Mo_poke_48 rfl,
   ts_callv (C := R_Mo) (T := T_Mo) hC con_Mo_drop wd_536 wd_30 (by decide +kernel) ⟨by decide, by decide⟩ ⟨Nat.zero_le _, Nat.zero_le _⟩ wd_533 rfl rfl wd_535 wd_1 d_Mo_poke_49,
   ts_iload hC d_Mo_poke_52,
   ts_iret hC rfl d_Mo_poke_54,
   trivial⟩
noncomputable def fn_Mo_poke : tw_Fn := tw_fl 4 5 36 pr_Mo_poke
theorem con_Mo_poke : tw_Con y_Mo_poke b_Mo_poke 5 (some .int) 2 fn_Mo_poke := tw_met (by decide +kernel) (tw_fl_len (n := 4) (by decide)) (fun p l e s m args below meth c E D vs σ ρ hC h => tw_sound (ok_Mo_poke hC) 36 pr_Mo_poke (ok_Mo_poke hC) _ _ _ (tw_fl_get h))
