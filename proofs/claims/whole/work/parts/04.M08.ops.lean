-- TwinHostModel.run(I)I: 67 instructions, depth 8, calls Mo_step Mo_add
theorem d_Mo_run_0 : decode b_Mo_run 0 = .ok (.iload_n 1, 1) := by decide +kernel
theorem d_Mo_run_1 : decode b_Mo_run 1 = .ok (.iconst 1, 1) := by decide +kernel
theorem d_Mo_run_2 : decode b_Mo_run 2 = .ok (.if_icmp .lt 9, 3) := by decide +kernel
theorem d_Mo_run_5 : decode b_Mo_run 5 = .ok (.iload_n 1, 1) := by decide +kernel
theorem d_Mo_run_6 : decode b_Mo_run 6 = .ok (.bipush 64, 2) := by decide +kernel
theorem d_Mo_run_8 : decode b_Mo_run 8 = .ok (.if_icmp .le 5, 3) := by decide +kernel
theorem d_Mo_run_11 : decode b_Mo_run 11 = .ok (.iconst (-1), 1) := by decide +kernel
theorem d_Mo_run_12 : decode b_Mo_run 12 = .ok (.ireturn, 1) := by decide +kernel
theorem d_Mo_run_13 : decode b_Mo_run 13 = .ok (.iconst 0, 1) := by decide +kernel
theorem d_Mo_run_14 : decode b_Mo_run 14 = .ok (.istore_n 2, 1) := by decide +kernel
theorem d_Mo_run_15 : decode b_Mo_run 15 = .ok (.iconst 0, 1) := by decide +kernel
theorem d_Mo_run_16 : decode b_Mo_run 16 = .ok (.istore_n 3, 1) := by decide +kernel
theorem d_Mo_run_17 : decode b_Mo_run 17 = .ok (.iload_n 3, 1) := by decide +kernel
theorem d_Mo_run_18 : decode b_Mo_run 18 = .ok (.iload_n 1, 1) := by decide +kernel
theorem d_Mo_run_19 : decode b_Mo_run 19 = .ok (.if_icmp .ge 95, 3) := by decide +kernel
theorem d_Mo_run_22 : decode b_Mo_run 22 = .ok (.aload_n 0, 1) := by decide +kernel
theorem d_Mo_run_23 : decode b_Mo_run 23 = .ok (.getfield 161, 3) := by decide +kernel
theorem d_Mo_run_26 : decode b_Mo_run 26 = .ok (.istore 4, 2) := by decide +kernel
theorem d_Mo_run_28 : decode b_Mo_run 28 = .ok (.aload_n 0, 1) := by decide +kernel
theorem d_Mo_run_29 : decode b_Mo_run 29 = .ok (.iload 4, 2) := by decide +kernel
theorem d_Mo_run_31 : decode b_Mo_run 31 = .ok (.invokevirtual 164, 3) := by decide +kernel
theorem d_Mo_run_34 : decode b_Mo_run 34 = .ok (.istore 5, 2) := by decide +kernel
theorem d_Mo_run_36 : decode b_Mo_run 36 = .ok (.aload_n 0, 1) := by decide +kernel
theorem d_Mo_run_37 : decode b_Mo_run 37 = .ok (.iload 4, 2) := by decide +kernel
theorem d_Mo_run_39 : decode b_Mo_run 39 = .ok (.bipush 8, 2) := by decide +kernel
theorem d_Mo_run_41 : decode b_Mo_run 41 = .ok (.iconst 1, 1) := by decide +kernel
theorem d_Mo_run_42 : decode b_Mo_run 42 = .ok (.invokevirtual 58, 3) := by decide +kernel
theorem d_Mo_run_45 : decode b_Mo_run 45 = .ok (.iload 5, 2) := by decide +kernel
theorem d_Mo_run_47 : decode b_Mo_run 47 = .ok (.iconst 1, 1) := by decide +kernel
theorem d_Mo_run_48 : decode b_Mo_run 48 = .ok (.if_icmp .ne 9, 3) := by decide +kernel
theorem d_Mo_run_51 : decode b_Mo_run 51 = .ok (.iload_n 2, 1) := by decide +kernel
theorem d_Mo_run_52 : decode b_Mo_run 52 = .ok (.iconst 1, 1) := by decide +kernel
theorem d_Mo_run_53 : decode b_Mo_run 53 = .ok (.iadd, 1) := by decide +kernel
theorem d_Mo_run_54 : decode b_Mo_run 54 = .ok (.goto 4, 3) := by decide +kernel
theorem d_Mo_run_57 : decode b_Mo_run 57 = .ok (.iload_n 2, 1) := by decide +kernel
theorem d_Mo_run_58 : decode b_Mo_run 58 = .ok (.istore_n 2, 1) := by decide +kernel
theorem d_Mo_run_59 : decode b_Mo_run 59 = .ok (.aload_n 0, 1) := by decide +kernel
theorem d_Mo_run_60 : decode b_Mo_run 60 = .ok (.aload_n 0, 1) := by decide +kernel
theorem d_Mo_run_61 : decode b_Mo_run 61 = .ok (.getfield 167, 3) := by decide +kernel
theorem d_Mo_run_64 : decode b_Mo_run 64 = .ok (.iconst 1, 1) := by decide +kernel
theorem d_Mo_run_65 : decode b_Mo_run 65 = .ok (.iadd, 1) := by decide +kernel
theorem d_Mo_run_66 : decode b_Mo_run 66 = .ok (.putfield 167, 3) := by decide +kernel
theorem d_Mo_run_69 : decode b_Mo_run 69 = .ok (.iload 5, 2) := by decide +kernel
theorem d_Mo_run_71 : decode b_Mo_run 71 = .ok (.iconst 2, 1) := by decide +kernel
theorem d_Mo_run_72 : decode b_Mo_run 72 = .ok (.if_icmp .eq 14, 3) := by decide +kernel
theorem d_Mo_run_75 : decode b_Mo_run 75 = .ok (.aload_n 0, 1) := by decide +kernel
theorem d_Mo_run_76 : decode b_Mo_run 76 = .ok (.getfield 167, 3) := by decide +kernel
theorem d_Mo_run_79 : decode b_Mo_run 79 = .ok (.aload_n 0, 1) := by decide +kernel
theorem d_Mo_run_80 : decode b_Mo_run 80 = .ok (.getfield 53, 3) := by decide +kernel
theorem d_Mo_run_83 : decode b_Mo_run 83 = .ok (.if_icmp .lt 25, 3) := by decide +kernel
theorem d_Mo_run_86 : decode b_Mo_run 86 = .ok (.aload_n 0, 1) := by decide +kernel
theorem d_Mo_run_87 : decode b_Mo_run 87 = .ok (.iload 4, 2) := by decide +kernel
theorem d_Mo_run_89 : decode b_Mo_run 89 = .ok (.bipush 7, 2) := by decide +kernel
theorem d_Mo_run_91 : decode b_Mo_run 91 = .ok (.iconst 1, 1) := by decide +kernel
theorem d_Mo_run_92 : decode b_Mo_run 92 = .ok (.invokevirtual 58, 3) := by decide +kernel
theorem d_Mo_run_95 : decode b_Mo_run 95 = .ok (.aload_n 0, 1) := by decide +kernel
theorem d_Mo_run_96 : decode b_Mo_run 96 = .ok (.iconst 1, 1) := by decide +kernel
theorem d_Mo_run_97 : decode b_Mo_run 97 = .ok (.iload 4, 2) := by decide +kernel
theorem d_Mo_run_99 : decode b_Mo_run 99 = .ok (.isub, 1) := by decide +kernel
theorem d_Mo_run_100 : decode b_Mo_run 100 = .ok (.putfield 161, 3) := by decide +kernel
theorem d_Mo_run_103 : decode b_Mo_run 103 = .ok (.aload_n 0, 1) := by decide +kernel
theorem d_Mo_run_104 : decode b_Mo_run 104 = .ok (.iconst 0, 1) := by decide +kernel
theorem d_Mo_run_105 : decode b_Mo_run 105 = .ok (.putfield 167, 3) := by decide +kernel
theorem d_Mo_run_108 : decode b_Mo_run 108 = .ok (.iinc 3 1, 3) := by decide +kernel
theorem d_Mo_run_111 : decode b_Mo_run 111 = .ok (.goto (-94), 3) := by decide +kernel
theorem d_Mo_run_114 : decode b_Mo_run 114 = .ok (.iload_n 2, 1) := by decide +kernel
theorem d_Mo_run_115 : decode b_Mo_run 115 = .ok (.ireturn, 1) := by decide +kernel
noncomputable def pr_Mo_run : List (Nat × tw_Op) := [(0, tw_il 1), (1, tw_ic 1), (2, tw_clt 11), (5, tw_il 1), (6, tw_ic (64)), (8, tw_cle 13), (11, tw_ic (-1)), (12, tw_ri), (13, tw_ic 0), (14, tw_is 2), (15, tw_ic 0), (16, tw_is 3), (17, tw_il 3), (18, tw_il 1), (19, tw_cge 114), (22, tw_al 0), (23, tw_gi 22 1), (26, tw_is 4), (28, tw_al 0), (29, tw_il 4), (31, tw_cv 1 22 fn_Mo_step), (34, tw_is 5), (36, tw_al 0), (37, tw_il 4), (39, tw_ic (8)), (41, tw_ic 1), (42, tw_cv 3 22 fn_Mo_add), (45, tw_il 5), (47, tw_ic 1), (48, tw_cne 57), (51, tw_il 2), (52, tw_ic 1), (53, tw_bin (· + ·)), (54, tw_jmp 58), (57, tw_il 2), (58, tw_is 2), (59, tw_al 0), (60, tw_al 0), (61, tw_gi 22 2), (64, tw_ic 1), (65, tw_bin (· + ·)), (66, tw_pi 22 2), (69, tw_il 5), (71, tw_ic 2), (72, tw_ceq 86), (75, tw_al 0), (76, tw_gi 22 2), (79, tw_al 0), (80, tw_gi 22 0), (83, tw_clt 108), (86, tw_al 0), (87, tw_il 4), (89, tw_ic (7)), (91, tw_ic 1), (92, tw_cv 3 22 fn_Mo_add), (95, tw_al 0), (96, tw_ic 1), (97, tw_il 4), (99, tw_bin (· - ·)), (100, tw_pi 22 1), (103, tw_al 0), (104, tw_ic 0), (105, tw_pi 22 2), (108, tw_inc 3 (1)), (111, tw_jmp 17), (114, tw_il 2), (115, tw_ri)]
set_option maxRecDepth 100000 in
set_option maxHeartbeats 4000000 in
theorem ok_Mo_run {p : Program} {l : Launch} {e : Env} {s : State} {m : MethodId} {args : Array Value} {below : List Frame} {meth : Method} {c : Code} {E : tw_E} {D : va_G} {ρ : tw_R} (hC : tw_Cx p s m args meth c b_Mo_run 6 (some .int) "TwinHostModel" E D) : tw_Ok p l e (tw_rmd 8) s m args below meth c 0 0 (MQ below (tw_Qc E D ρ) args s 0 0 (tw_A E)) 6 E D ρ pr_Mo_run :=
  ⟨ts_iload_n hC d_Mo_run_0 rfl,
   ts_iconst hC d_Mo_run_1 (by decide),
   ts_clt hC d_Mo_run_2 (by decide),
   ts_iload_n hC d_Mo_run_5 rfl,
   ts_bipush hC d_Mo_run_6 (by decide),
   ts_cle hC d_Mo_run_8 (by decide),
   ts_iconst hC d_Mo_run_11 (by decide),
   ts_iret hC rfl d_Mo_run_12,
   ts_iconst hC d_Mo_run_13 (by decide),
   ts_istore_n hC d_Mo_run_14 rfl (by decide),
   ts_iconst hC d_Mo_run_15 (by decide),
   ts_istore_n hC d_Mo_run_16 rfl (by decide),
   ts_iload_n hC d_Mo_run_17 rfl,
   ts_iload_n hC d_Mo_run_18 rfl,
   ts_cge hC d_Mo_run_19 (by decide),
   ts_aload_n hC d_Mo_run_22 rfl,
   ts_gi (j := 1) (C := R_Mo) (T := T_Mo) hC rfl rfl rfl (by decide) u_Mo wd_457 rfl d_Mo_run_23,
   ts_istore hC d_Mo_run_26 (by decide),
   ts_aload_n hC d_Mo_run_28 rfl,
   ts_iload hC d_Mo_run_29,
   ts_callv (C := R_Mo) (T := T_Mo) hC con_Mo_step wd_607 wd_30 (by decide +kernel) ⟨by decide, by decide⟩ ⟨Nat.zero_le _, Nat.zero_le _⟩ wd_604 rfl rfl wd_606 wd_8 d_Mo_run_31,
   ts_istore hC d_Mo_run_34 (by decide),
   ts_aload_n hC d_Mo_run_36 rfl,
   ts_iload hC d_Mo_run_37,
   ts_bipush hC d_Mo_run_39 (by decide),
   ts_iconst hC d_Mo_run_41 (by decide),
   ts_callv (C := R_Mo) (T := T_Mo) hC con_Mo_add wd_540 wd_30 (by decide +kernel) ⟨by decide, by decide⟩ ⟨Nat.zero_le _, Nat.zero_le _⟩ wd_537 rfl rfl wd_539 wd_2 d_Mo_run_42,
   ts_iload hC d_Mo_run_45,
   ts_iconst hC d_Mo_run_47 (by decide),
   ts_cne hC d_Mo_run_48 (by decide),
   ts_iload_n hC d_Mo_run_51 rfl,
   ts_iconst hC d_Mo_run_52 (by decide),
   ts_iadd hC d_Mo_run_53,
   ts_goto hC d_Mo_run_54 (by decide),
   ts_iload_n hC d_Mo_run_57 rfl,
   ts_istore_n hC d_Mo_run_58 rfl (by decide),
   ts_aload_n hC d_Mo_run_59 rfl,
   ts_aload_n hC d_Mo_run_60 rfl,
   ts_gi (j := 2) (C := R_Mo) (T := T_Mo) hC rfl rfl rfl (by decide) u_Mo wd_458 rfl d_Mo_run_61,
   ts_iconst hC d_Mo_run_64 (by decide),
   ts_iadd hC d_Mo_run_65,
   ts_pi (j := 2) (C := R_Mo) (T := T_Mo) hC rfl rfl rfl (by decide) u_Mo wd_458 rfl t_Mo_ok n_Mo rfl (by decide +kernel) d_Mo_run_66,
   ts_iload hC d_Mo_run_69,
   ts_iconst hC d_Mo_run_71 (by decide),
   ts_ceq hC d_Mo_run_72 (by decide),
   ts_aload_n hC d_Mo_run_75 rfl,
   ts_gi (j := 2) (C := R_Mo) (T := T_Mo) hC rfl rfl rfl (by decide) u_Mo wd_458 rfl d_Mo_run_76,
   ts_aload_n hC d_Mo_run_79 rfl,
   ts_gi (j := 0) (C := R_Mo) (T := T_Mo) hC rfl rfl rfl (by decide) u_Mo wd_456 rfl d_Mo_run_80,
   ts_clt hC d_Mo_run_83 (by decide),
   ts_aload_n hC d_Mo_run_86 rfl,
   ts_iload hC d_Mo_run_87,
   ts_bipush hC d_Mo_run_89 (by decide),
   ts_iconst hC d_Mo_run_91 (by decide),
   ts_callv (C := R_Mo) (T := T_Mo) hC con_Mo_add wd_540 wd_30 (by decide +kernel) ⟨by decide, by decide⟩ ⟨Nat.zero_le _, Nat.zero_le _⟩ wd_537 rfl rfl wd_539 wd_2 d_Mo_run_92,
   ts_aload_n hC d_Mo_run_95 rfl,
   ts_iconst hC d_Mo_run_96 (by decide),
   ts_iload hC d_Mo_run_97,
   ts_isub hC d_Mo_run_99,
   ts_pi (j := 1) (C := R_Mo) (T := T_Mo) hC rfl rfl rfl (by decide) u_Mo wd_457 rfl t_Mo_ok n_Mo rfl (by decide +kernel) d_Mo_run_100,
   ts_aload_n hC d_Mo_run_103 rfl,
   ts_iconst hC d_Mo_run_104 (by decide),
   ts_pi (j := 2) (C := R_Mo) (T := T_Mo) hC rfl rfl rfl (by decide) u_Mo wd_458 rfl t_Mo_ok n_Mo rfl (by decide +kernel) d_Mo_run_105,
   ts_iinc hC d_Mo_run_108 (by decide) (by decide),
   ts_goto hC d_Mo_run_111 (by decide),
   ts_iload_n hC d_Mo_run_114 rfl,
   ts_iret hC rfl d_Mo_run_115,
   trivial⟩
noncomputable def fn_Mo_run : tw_Fn := tw_fl 2 6 8000 pr_Mo_run
theorem con_Mo_run : tw_Con y_Mo_run b_Mo_run 6 (some .int) 8 fn_Mo_run := tw_met (by decide +kernel) (tw_fl_len (n := 2) (by decide)) (fun p l e s m args below meth c E D vs σ ρ hC h => tw_sound (ok_Mo_run hC) 8000 pr_Mo_run (ok_Mo_run hC) _ _ _ (tw_fl_get h))
