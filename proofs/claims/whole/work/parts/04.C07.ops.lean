-- TwinHost.run(I)I: 33 instructions, depth 7, calls Gu_step TH_passTurnAfter
theorem d_TH_run_0 : decode b_TH_run 0 = .ok (.iload_n 1, 1) := by decide +kernel
theorem d_TH_run_1 : decode b_TH_run 1 = .ok (.iconst 1, 1) := by decide +kernel
theorem d_TH_run_2 : decode b_TH_run 2 = .ok (.if_icmp .lt 9, 3) := by decide +kernel
theorem d_TH_run_5 : decode b_TH_run 5 = .ok (.iload_n 1, 1) := by decide +kernel
theorem d_TH_run_6 : decode b_TH_run 6 = .ok (.bipush 64, 2) := by decide +kernel
theorem d_TH_run_8 : decode b_TH_run 8 = .ok (.if_icmp .le 5, 3) := by decide +kernel
theorem d_TH_run_11 : decode b_TH_run 11 = .ok (.iconst (-1), 1) := by decide +kernel
theorem d_TH_run_12 : decode b_TH_run 12 = .ok (.ireturn, 1) := by decide +kernel
theorem d_TH_run_13 : decode b_TH_run 13 = .ok (.iconst 0, 1) := by decide +kernel
theorem d_TH_run_14 : decode b_TH_run 14 = .ok (.istore_n 2, 1) := by decide +kernel
theorem d_TH_run_15 : decode b_TH_run 15 = .ok (.iconst 0, 1) := by decide +kernel
theorem d_TH_run_16 : decode b_TH_run 16 = .ok (.istore_n 3, 1) := by decide +kernel
theorem d_TH_run_17 : decode b_TH_run 17 = .ok (.iload_n 3, 1) := by decide +kernel
theorem d_TH_run_18 : decode b_TH_run 18 = .ok (.iload_n 1, 1) := by decide +kernel
theorem d_TH_run_19 : decode b_TH_run 19 = .ok (.if_icmp .ge 40, 3) := by decide +kernel
theorem d_TH_run_22 : decode b_TH_run 22 = .ok (.aload_n 0, 1) := by decide +kernel
theorem d_TH_run_23 : decode b_TH_run 23 = .ok (.getfield 16, 3) := by decide +kernel
theorem d_TH_run_26 : decode b_TH_run 26 = .ok (.aload_n 0, 1) := by decide +kernel
theorem d_TH_run_27 : decode b_TH_run 27 = .ok (.getfield 81, 3) := by decide +kernel
theorem d_TH_run_30 : decode b_TH_run 30 = .ok (.aaload, 1) := by decide +kernel
theorem d_TH_run_31 : decode b_TH_run 31 = .ok (.invokevirtual 84, 3) := by decide +kernel
theorem d_TH_run_34 : decode b_TH_run 34 = .ok (.astore 4, 2) := by decide +kernel
theorem d_TH_run_36 : decode b_TH_run 36 = .ok (.aload 4, 2) := by decide +kernel
theorem d_TH_run_38 : decode b_TH_run 38 = .ok (.getstatic 88, 3) := by decide +kernel
theorem d_TH_run_41 : decode b_TH_run 41 = .ok (.if_acmp .ne 6, 3) := by decide +kernel
theorem d_TH_run_44 : decode b_TH_run 44 = .ok (.iinc 2 1, 3) := by decide +kernel
theorem d_TH_run_47 : decode b_TH_run 47 = .ok (.aload_n 0, 1) := by decide +kernel
theorem d_TH_run_48 : decode b_TH_run 48 = .ok (.aload 4, 2) := by decide +kernel
theorem d_TH_run_50 : decode b_TH_run 50 = .ok (.invokevirtual 94, 3) := by decide +kernel
theorem d_TH_run_53 : decode b_TH_run 53 = .ok (.iinc 3 1, 3) := by decide +kernel
theorem d_TH_run_56 : decode b_TH_run 56 = .ok (.goto (-39), 3) := by decide +kernel
theorem d_TH_run_59 : decode b_TH_run 59 = .ok (.iload_n 2, 1) := by decide +kernel
theorem d_TH_run_60 : decode b_TH_run 60 = .ok (.ireturn, 1) := by decide +kernel
noncomputable def pr_TH_run : List (Nat × tw_Op) := [(0, tw_il 1), (1, tw_ic 1), (2, tw_clt 11), (5, tw_il 1), (6, tw_ic (64)), (8, tw_cle 13), (11, tw_ic (-1)), (12, tw_ri), (13, tw_ic 0), (14, tw_is 2), (15, tw_ic 0), (16, tw_is 3), (17, tw_il 3), (18, tw_il 1), (19, tw_cge 59), (22, tw_al 0), (23, tw_gr 20 21), (26, tw_al 0), (27, tw_gi 20 2), (30, tw_ga), (31, tw_cv 0 0 fn_Gu_step), (34, tw_as 4), (36, tw_al 4), (38, tw_en 60), (41, tw_ane 47), (44, tw_inc 2 (1)), (47, tw_al 0), (48, tw_al 4), (50, tw_cv 1 20 fn_TH_passTurnAfter), (53, tw_inc 3 (1)), (56, tw_jmp 17), (59, tw_il 2), (60, tw_ri)]
set_option maxRecDepth 100000 in
set_option maxHeartbeats 4000000 in
theorem ok_TH_run {p : Program} {l : Launch} {e : Env} {s : State} {m : MethodId} {args : Array Value} {below : List Frame} {meth : Method} {c : Code} {E : tw_E} {D : va_G} {ρ : tw_R} (hC : tw_Cx p s m args meth c b_TH_run 5 (some .int) "TwinHost" E D) : tw_Ok p l e (tw_rmd 7) s m args below meth c 0 0 (MQ below (tw_Qc E D ρ) args s 0 0 (tw_A E)) 5 E D ρ pr_TH_run :=
  ⟨ts_iload_n hC d_TH_run_0 rfl,
   ts_iconst hC d_TH_run_1 (by decide),
   ts_clt hC d_TH_run_2 (by decide),
   ts_iload_n hC d_TH_run_5 rfl,
   ts_bipush hC d_TH_run_6 (by decide),
   ts_cle hC d_TH_run_8 (by decide),
   ts_iconst hC d_TH_run_11 (by decide),
   ts_iret hC rfl d_TH_run_12,
   ts_iconst hC d_TH_run_13 (by decide),
   ts_istore_n hC d_TH_run_14 rfl (by decide),
   ts_iconst hC d_TH_run_15 (by decide),
   ts_istore_n hC d_TH_run_16 rfl (by decide),
   ts_iload_n hC d_TH_run_17 rfl,
   ts_iload_n hC d_TH_run_18 rfl,
   ts_cge hC d_TH_run_19 (by decide),
   ts_aload_n hC d_TH_run_22 rfl,
   ts_gr (j := 0) (C := R_TH) (T := T_TH) hC rfl rfl rfl (by decide) u_TH wd_164 rfl d_TH_run_23,
   ts_aload_n hC d_TH_run_26 rfl,
   ts_gi (j := 2) (C := R_TH) (T := T_TH) hC rfl rfl rfl (by decide) u_TH wd_166 rfl d_TH_run_27,
   ts_aaload hC d_TH_run_30,
   ts_callv (C := R_Gu) (T := T_Gu) hC con_Gu_step wd_284 wd_25 (by decide +kernel) ⟨by decide, by decide⟩ ⟨Nat.zero_le _, Nat.zero_le _⟩ wd_281 rfl rfl wd_282 wd_283 d_TH_run_31,
   ts_astore hC d_TH_run_34 (by decide),
   ts_aload hC d_TH_run_36,
   ts_getO (i := 0) hC (by decide) rfl wd_419 d_TH_run_38,
   ts_ane hC d_TH_run_41 (by decide),
   ts_iinc hC d_TH_run_44 (by decide) (by decide),
   ts_aload_n hC d_TH_run_47 rfl,
   ts_aload hC d_TH_run_48,
   ts_callv (C := R_TH) (T := T_TH) hC con_TH_passTurnAfter wd_423 wd_24 (by decide +kernel) ⟨by decide, by decide⟩ ⟨Nat.zero_le _, Nat.zero_le _⟩ wd_420 rfl rfl wd_422 wd_0 d_TH_run_50,
   ts_iinc hC d_TH_run_53 (by decide) (by decide),
   ts_goto hC d_TH_run_56 (by decide),
   ts_iload_n hC d_TH_run_59 rfl,
   ts_iret hC rfl d_TH_run_60,
   trivial⟩
noncomputable def fn_TH_run : tw_Fn := tw_fl 2 5 4000 pr_TH_run
theorem con_TH_run : tw_Con y_TH_run b_TH_run 5 (some .int) 7 fn_TH_run := tw_met (by decide +kernel) (tw_fl_len (n := 2) (by decide)) (fun p l e s m args below meth c E D vs σ ρ hC h => tw_sound (ok_TH_run hC) 4000 pr_TH_run (ok_TH_run hC) _ _ _ (tw_fl_get h))
