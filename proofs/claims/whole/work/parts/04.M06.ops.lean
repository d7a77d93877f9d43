-- TwinHostModel.data(IIIII)I: 65 instructions, depth 6, calls Mo_access Mo_put Mo_traced Mo_add Mo_drop Mo_retire
theorem d_Mo_data_0 : decode b_Mo_data 0 = .ok (.aload_n 0, 1) := by decide +kernel
theorem d_Mo_data_1 : decode b_Mo_data 1 = .ok (.iload_n 1, 1) := by decide +kernel
theorem d_Mo_data_2 : decode b_Mo_data 2 = .ok (.iload 4, 2) := by decide +kernel
theorem d_Mo_data_4 : decode b_Mo_data 4 = .ok (.iload_n 2, 1) := by decide +kernel
theorem d_Mo_data_5 : decode b_Mo_data 5 = .ok (.bipush 9, 2) := by decide +kernel
theorem d_Mo_data_7 : decode b_Mo_data 7 = .ok (.isub, 1) := by decide +kernel
theorem d_Mo_data_8 : decode b_Mo_data 8 = .ok (.invokevirtual 129, 3) := by decide +kernel
theorem d_Mo_data_11 : decode b_Mo_data 11 = .ok (.istore 6, 2) := by decide +kernel
theorem d_Mo_data_13 : decode b_Mo_data 13 = .ok (.iload 6, 2) := by decide +kernel
theorem d_Mo_data_15 : decode b_Mo_data 15 = .ok (.ifCond .ge 5, 3) := by decide +kernel
theorem d_Mo_data_18 : decode b_Mo_data 18 = .ok (.iconst 0, 1) := by decide +kernel
theorem d_Mo_data_19 : decode b_Mo_data 19 = .ok (.ireturn, 1) := by decide +kernel
theorem d_Mo_data_20 : decode b_Mo_data 20 = .ok (.iload_n 2, 1) := by decide +kernel
theorem d_Mo_data_21 : decode b_Mo_data 21 = .ok (.bipush 10, 2) := by decide +kernel
theorem d_Mo_data_23 : decode b_Mo_data 23 = .ok (.if_icmp .ne 25, 3) := by decide +kernel
theorem d_Mo_data_26 : decode b_Mo_data 26 = .ok (.aload_n 0, 1) := by decide +kernel
theorem d_Mo_data_27 : decode b_Mo_data 27 = .ok (.iload_n 1, 1) := by decide +kernel
theorem d_Mo_data_28 : decode b_Mo_data 28 = .ok (.iload_n 3, 1) := by decide +kernel
theorem d_Mo_data_29 : decode b_Mo_data 29 = .ok (.aload_n 0, 1) := by decide +kernel
theorem d_Mo_data_30 : decode b_Mo_data 30 = .ok (.getfield 7, 3) := by decide +kernel
theorem d_Mo_data_33 : decode b_Mo_data 33 = .ok (.sipush 128, 3) := by decide +kernel
theorem d_Mo_data_36 : decode b_Mo_data 36 = .ok (.iload_n 1, 1) := by decide +kernel
theorem d_Mo_data_37 : decode b_Mo_data 37 = .ok (.imul, 1) := by decide +kernel
theorem d_Mo_data_38 : decode b_Mo_data 38 = .ok (.iload 6, 2) := by decide +kernel
theorem d_Mo_data_40 : decode b_Mo_data 40 = .ok (.iadd, 1) := by decide +kernel
theorem d_Mo_data_41 : decode b_Mo_data 41 = .ok (.iaload, 1) := by decide +kernel
theorem d_Mo_data_42 : decode b_Mo_data 42 = .ok (.invokevirtual 70, 3) := by decide +kernel
theorem d_Mo_data_45 : decode b_Mo_data 45 = .ok (.goto 49, 3) := by decide +kernel
theorem d_Mo_data_48 : decode b_Mo_data 48 = .ok (.aload_n 0, 1) := by decide +kernel
theorem d_Mo_data_49 : decode b_Mo_data 49 = .ok (.iload_n 1, 1) := by decide +kernel
theorem d_Mo_data_50 : decode b_Mo_data 50 = .ok (.iload 6, 2) := by decide +kernel
theorem d_Mo_data_52 : decode b_Mo_data 52 = .ok (.bipush 16, 2) := by decide +kernel
theorem d_Mo_data_54 : decode b_Mo_data 54 = .ok (.idiv, 1) := by decide +kernel
theorem d_Mo_data_55 : decode b_Mo_data 55 = .ok (.invokevirtual 146, 3) := by decide +kernel
theorem d_Mo_data_58 : decode b_Mo_data 58 = .ok (.istore 7, 2) := by decide +kernel
theorem d_Mo_data_60 : decode b_Mo_data 60 = .ok (.aload_n 0, 1) := by decide +kernel
theorem d_Mo_data_61 : decode b_Mo_data 61 = .ok (.getfield 7, 3) := by decide +kernel
theorem d_Mo_data_64 : decode b_Mo_data 64 = .ok (.sipush 128, 3) := by decide +kernel
theorem d_Mo_data_67 : decode b_Mo_data 67 = .ok (.iload_n 1, 1) := by decide +kernel
theorem d_Mo_data_68 : decode b_Mo_data 68 = .ok (.imul, 1) := by decide +kernel
theorem d_Mo_data_69 : decode b_Mo_data 69 = .ok (.iload 6, 2) := by decide +kernel
theorem d_Mo_data_71 : decode b_Mo_data 71 = .ok (.iadd, 1) := by decide +kernel
theorem d_Mo_data_72 : decode b_Mo_data 72 = .ok (.iload 5, 2) := by decide +kernel
theorem d_Mo_data_74 : decode b_Mo_data 74 = .ok (.iastore, 1) := by decide +kernel
theorem d_Mo_data_75 : decode b_Mo_data 75 = .ok (.iload 7, 2) := by decide +kernel
theorem d_Mo_data_77 : decode b_Mo_data 77 = .ok (.ifCond .eq 10, 3) := by decide +kernel
theorem d_Mo_data_80 : decode b_Mo_data 80 = .ok (.aload_n 0, 1) := by decide +kernel
theorem d_Mo_data_81 : decode b_Mo_data 81 = .ok (.iload_n 1, 1) := by decide +kernel
theorem d_Mo_data_82 : decode b_Mo_data 82 = .ok (.iconst 3, 1) := by decide +kernel
theorem d_Mo_data_83 : decode b_Mo_data 83 = .ok (.iconst 1, 1) := by decide +kernel
theorem d_Mo_data_84 : decode b_Mo_data 84 = .ok (.invokevirtual 58, 3) := by decide +kernel
theorem d_Mo_data_87 : decode b_Mo_data 87 = .ok (.aload_n 0, 1) := by decide +kernel
theorem d_Mo_data_88 : decode b_Mo_data 88 = .ok (.iload_n 1, 1) := by decide +kernel
theorem d_Mo_data_89 : decode b_Mo_data 89 = .ok (.iload 6, 2) := by decide +kernel
theorem d_Mo_data_91 : decode b_Mo_data 91 = .ok (.invokevirtual 66, 3) := by decide +kernel
theorem d_Mo_data_94 : decode b_Mo_data 94 = .ok (.aload_n 0, 1) := by decide +kernel
theorem d_Mo_data_95 : decode b_Mo_data 95 = .ok (.iload_n 1, 1) := by decide +kernel
theorem d_Mo_data_96 : decode b_Mo_data 96 = .ok (.aload_n 0, 1) := by decide +kernel
theorem d_Mo_data_97 : decode b_Mo_data 97 = .ok (.getfield 19, 3) := by decide +kernel
theorem d_Mo_data_100 : decode b_Mo_data 100 = .ok (.iload_n 1, 1) := by decide +kernel
theorem d_Mo_data_101 : decode b_Mo_data 101 = .ok (.iaload, 1) := by decide +kernel
theorem d_Mo_data_102 : decode b_Mo_data 102 = .ok (.iconst 1, 1) := by decide +kernel
theorem d_Mo_data_103 : decode b_Mo_data 103 = .ok (.iadd, 1) := by decide +kernel
theorem d_Mo_data_104 : decode b_Mo_data 104 = .ok (.invokevirtual 138, 3) := by decide +kernel
theorem d_Mo_data_107 : decode b_Mo_data 107 = .ok (.ireturn, 1) := by decide +kernel
noncomputable def pr_Mo_data : List (Nat × tw_Op) := [(0, tw_al 0), (1, tw_il 1), (2, tw_il 4), (4, tw_il 2), (5, tw_ic (9)), (7, tw_bin (· - ·)), (8, tw_cv 3 22 fn_Mo_access), (11, tw_is 6), (13, tw_il 6), (15, tw_ifge 20), (18, tw_ic 0), (19, tw_ri), (20, tw_il 2), (21, tw_ic (10)), (23, tw_cne 48), (26, tw_al 0), (27, tw_il 1), (28, tw_il 3), (29, tw_al 0), (30, tw_gr 22 23), (33, tw_ic (128)), (36, tw_il 1), (37, tw_bin (· * ·)), (38, tw_il 6), (40, tw_bin (· + ·)), (41, tw_ia), (42, tw_cv 3 22 fn_Mo_put), (45, tw_jmp 94), (48, tw_al 0), (49, tw_il 1), (50, tw_il 6), (52, tw_ic (16)), (54, tw_div), (55, tw_cv 2 22 fn_Mo_traced), (58, tw_is 7), (60, tw_al 0), (61, tw_gr 22 23), (64, tw_ic (128)), (67, tw_il 1), (68, tw_bin (· * ·)), (69, tw_il 6), (71, tw_bin (· + ·)), (72, tw_il 5), (74, tw_ias 22 37), (75, tw_il 7), (77, tw_ifeq 87), (80, tw_al 0), (81, tw_il 1), (82, tw_ic 3), (83, tw_ic 1), (84, tw_cv 3 22 fn_Mo_add), (87, tw_al 0), (88, tw_il 1), (89, tw_il 6), (91, tw_cv 2 22 fn_Mo_drop), (94, tw_al 0), (95, tw_il 1), (96, tw_al 0), (97, tw_gr 22 26), (100, tw_il 1), (101, tw_ia), (102, tw_ic 1), (103, tw_bin (· + ·)), (104, tw_cv 2 22 fn_Mo_retire), (107, tw_ri)]
set_option maxRecDepth 100000 in
set_option maxHeartbeats 4000000 in
theorem ok_Mo_data {p : Program} {l : Launch} {e : Env} {s : State} {m : MethodId} {args : Array Value} {below : List Frame} {meth : Method} {c : Code} {E : tw_E} {D : va_G} {ρ : tw_R} (hC : tw_Cx p s m args meth c b_Mo_data 8 (some .int) "TwinHostModel" E D) : tw_Ok p l e (tw_rmd 6) s m args below meth c 0 0 (MQ below (tw_Qc E D ρ) args s 0 0 (tw_A E)) 8 E D ρ pr_Mo_data :=
  ⟨ts_aload_n hC d_Mo_data_0 rfl,
   ts_iload_n hC d_Mo_data_1 rfl,
   ts_iload hC d_Mo_data_2,
   ts_iload_n hC d_Mo_data_4 rfl,
   ts_bipush hC d_Mo_data_5 (by decide),
   ts_isub hC d_Mo_data_7,
   ts_callv (C := R_Mo) (T := T_Mo) hC con_Mo_access wd_616 wd_30 (by decide +kernel) ⟨by decide, by decide⟩ ⟨Nat.zero_le _, Nat.zero_le _⟩ wd_613 rfl rfl wd_615 wd_10 d_Mo_data_8,
   ts_istore hC d_Mo_data_11 (by decide),
   ts_iload hC d_Mo_data_13,
   ts_ifge hC d_Mo_data_15 (by decide),
   ts_iconst hC d_Mo_data_18 (by decide),
   ts_iret hC rfl d_Mo_data_19,
   ts_iload_n hC d_Mo_data_20 rfl,
   ts_bipush hC d_Mo_data_21 (by decide),
   ts_cne hC d_Mo_data_23 (by decide),
   ts_aload_n hC d_Mo_data_26 rfl,
   ts_iload_n hC d_Mo_data_27 rfl,
   ts_iload_n hC d_Mo_data_28 rfl,
   ts_aload_n hC d_Mo_data_29 rfl,
   ts_gr (j := 3) (C := R_Mo) (T := T_Mo) hC rfl rfl rfl (by decide) u_Mo wd_459 rfl d_Mo_data_30,
   ts_sipush hC d_Mo_data_33 (by decide),
   ts_iload_n hC d_Mo_data_36 rfl,
   ts_imul hC d_Mo_data_37,
   ts_iload hC d_Mo_data_38,
   ts_iadd hC d_Mo_data_40,
   ts_iaload hC d_Mo_data_41,
   ts_callv (C := R_Mo) (T := T_Mo) hC con_Mo_put wd_552 wd_30 (by decide +kernel) ⟨by decide, by decide⟩ ⟨Nat.zero_le _, Nat.zero_le _⟩ wd_549 rfl rfl wd_551 wd_3 d_Mo_data_42,
   ts_goto hC d_Mo_data_45 (by decide),
   ts_aload_n hC d_Mo_data_48 rfl,
   ts_iload_n hC d_Mo_data_49 rfl,
   ts_iload hC d_Mo_data_50,
   ts_bipush hC d_Mo_data_52 (by decide),
   ts_idiv hC d_Mo_data_54,
   ts_callv (C := R_Mo) (T := T_Mo) hC con_Mo_traced wd_528 wd_30 (by decide +kernel) ⟨by decide, by decide⟩ ⟨Nat.zero_le _, Nat.zero_le _⟩ wd_672 rfl rfl wd_526 wd_527 d_Mo_data_55,
   ts_istore hC d_Mo_data_58 (by decide),
   ts_aload_n hC d_Mo_data_60 rfl,
   ts_gr (j := 3) (C := R_Mo) (T := T_Mo) hC rfl rfl rfl (by decide) u_Mo wd_459 rfl d_Mo_data_61,
   ts_sipush hC d_Mo_data_64 (by decide),
   ts_iload_n hC d_Mo_data_67 rfl,
   ts_imul hC d_Mo_data_68,
   ts_iload hC d_Mo_data_69,
   ts_iadd hC d_Mo_data_71,
   ts_iload hC d_Mo_data_72,
   ts_iastore hC d_Mo_data_74,
   ts_iload hC d_Mo_data_75,
   ts_ifeq hC d_Mo_data_77 (by decide),
   ts_aload_n hC d_Mo_data_80 rfl,
   ts_iload_n hC d_Mo_data_81 rfl,
   ts_iconst hC d_Mo_data_82 (by decide),
   ts_iconst hC d_Mo_data_83 (by decide),
   ts_callv (C := R_Mo) (T := T_Mo) hC con_Mo_add wd_540 wd_30 (by decide +kernel) ⟨by decide, by decide⟩ ⟨Nat.zero_le _, Nat.zero_le _⟩ wd_537 rfl rfl wd_539 wd_2 d_Mo_data_84,
   ts_aload_n hC d_Mo_data_87 rfl,
   ts_iload_n hC d_Mo_data_88 rfl,
   ts_iload hC d_Mo_data_89,
   ts_callv (C := R_Mo) (T := T_Mo) hC con_Mo_drop wd_536 wd_30 (by decide +kernel) ⟨by decide, by decide⟩ ⟨Nat.zero_le _, Nat.zero_le _⟩ wd_533 rfl rfl wd_535 wd_1 d_Mo_data_91,
   ts_aload_n hC d_Mo_data_94 rfl,
   ts_iload_n hC d_Mo_data_95 rfl,
   ts_aload_n hC d_Mo_data_96 rfl,
   ts_gr (j := 6) (C := R_Mo) (T := T_Mo) hC rfl rfl rfl (by decide) u_Mo wd_462 rfl d_Mo_data_97,
   ts_iload_n hC d_Mo_data_100 rfl,
   ts_iaload hC d_Mo_data_101,
   ts_iconst hC d_Mo_data_102 (by decide),
   ts_iadd hC d_Mo_data_103,
   ts_callv (C := R_Mo) (T := T_Mo) hC con_Mo_retire wd_664 wd_30 (by decide +kernel) ⟨by decide, by decide⟩ ⟨Nat.zero_le _, Nat.zero_le _⟩ wd_661 rfl rfl wd_663 wd_21 d_Mo_data_104,
   ts_iret hC rfl d_Mo_data_107,
   trivial⟩
noncomputable def fn_Mo_data : tw_Fn := tw_fl 6 8 67 pr_Mo_data
theorem con_Mo_data : tw_Con y_Mo_data b_Mo_data 8 (some .int) 6 fn_Mo_data := tw_met (by decide +kernel) (tw_fl_len (n := 6) (by decide)) (fun p l e s m args below meth c E D vs σ ρ hC h => tw_sound (ok_Mo_data hC) 67 pr_Mo_data (ok_Mo_data hC) _ _ _ (tw_fl_get h))
