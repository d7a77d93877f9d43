-- TwinHost$Guest.changeControl(I)LTwinHost$Outcome;: 70 instructions, depth 4, calls Co_exists Co_isStoredTo Gu_trap Co_take Gu_setRegister Gu_changed Gu_storeControl Gu_retireAt
theorem d_Gu_changeControl_0 : decode b_Gu_changeControl 0 = .ok (.iload_n 1, 1) := by decide +kernel
theorem d_Gu_changeControl_1 : decode b_Gu_changeControl 1 = .ok (.bipush 31, 2) := by decide +kernel
theorem d_Gu_changeControl_3 : decode b_Gu_changeControl 3 = .ok (.iand, 1) := by decide +kernel
theorem d_Gu_changeControl_4 : decode b_Gu_changeControl 4 = .ok (.istore_n 2, 1) := by decide +kernel
theorem d_Gu_changeControl_5 : decode b_Gu_changeControl 5 = .ok (.iload_n 1, 1) := by decide +kernel
theorem d_Gu_changeControl_6 : decode b_Gu_changeControl 6 = .ok (.bipush 8, 2) := by decide +kernel
theorem d_Gu_changeControl_8 : decode b_Gu_changeControl 8 = .ok (.ishr, 1) := by decide +kernel
theorem d_Gu_changeControl_9 : decode b_Gu_changeControl 9 = .ok (.bipush 7, 2) := by decide +kernel
theorem d_Gu_changeControl_11 : decode b_Gu_changeControl 11 = .ok (.iand, 1) := by decide +kernel
theorem d_Gu_changeControl_12 : decode b_Gu_changeControl 12 = .ok (.istore_n 3, 1) := by decide +kernel
theorem d_Gu_changeControl_13 : decode b_Gu_changeControl 13 = .ok (.iload_n 1, 1) := by decide +kernel
theorem d_Gu_changeControl_14 : decode b_Gu_changeControl 14 = .ok (.bipush 16, 2) := by decide +kernel
theorem d_Gu_changeControl_16 : decode b_Gu_changeControl 16 = .ok (.ishr, 1) := by decide +kernel
theorem d_Gu_changeControl_17 : decode b_Gu_changeControl 17 = .ok (.istore 4, 2) := by decide +kernel
theorem d_Gu_changeControl_19 : decode b_Gu_changeControl 19 = .ok (.iload_n 2, 1) := by decide +kernel
theorem d_Gu_changeControl_20 : decode b_Gu_changeControl 20 = .ok (.bipush 19, 2) := by decide +kernel
theorem d_Gu_changeControl_22 : decode b_Gu_changeControl 22 = .ok (.if_icmp .eq 7, 3) := by decide +kernel
theorem d_Gu_changeControl_25 : decode b_Gu_changeControl 25 = .ok (.iload_n 3, 1) := by decide +kernel
theorem d_Gu_changeControl_26 : decode b_Gu_changeControl 26 = .ok (.ifCond .eq 7, 3) := by decide +kernel
theorem d_Gu_changeControl_29 : decode b_Gu_changeControl 29 = .ok (.iconst 1, 1) := by decide +kernel
theorem d_Gu_changeControl_30 : decode b_Gu_changeControl 30 = .ok (.goto 4, 3) := by decide +kernel
theorem d_Gu_changeControl_33 : decode b_Gu_changeControl 33 = .ok (.iconst 0, 1) := by decide +kernel
theorem d_Gu_changeControl_34 : decode b_Gu_changeControl 34 = .ok (.istore 5, 2) := by decide +kernel
theorem d_Gu_changeControl_36 : decode b_Gu_changeControl 36 = .ok (.iload 4, 2) := by decide +kernel
theorem d_Gu_changeControl_38 : decode b_Gu_changeControl 38 = .ok (.invokestatic 138, 3) := by decide +kernel
theorem d_Gu_changeControl_41 : decode b_Gu_changeControl 41 = .ok (.ifCond .eq 16, 3) := by decide +kernel
theorem d_Gu_changeControl_44 : decode b_Gu_changeControl 44 = .ok (.iload 5, 2) := by decide +kernel
theorem d_Gu_changeControl_46 : decode b_Gu_changeControl 46 = .ok (.ifCond .eq 18, 3) := by decide +kernel
theorem d_Gu_changeControl_49 : decode b_Gu_changeControl 49 = .ok (.iload 4, 2) := by decide +kernel
theorem d_Gu_changeControl_51 : decode b_Gu_changeControl 51 = .ok (.invokestatic 141, 3) := by decide +kernel
theorem d_Gu_changeControl_54 : decode b_Gu_changeControl 54 = .ok (.ifCond .ne 10, 3) := by decide +kernel
theorem d_Gu_changeControl_57 : decode b_Gu_changeControl 57 = .ok (.aload_n 0, 1) := by decide +kernel
theorem d_Gu_changeControl_58 : decode b_Gu_changeControl 58 = .ok (.iconst 2, 1) := by decide +kernel
theorem d_Gu_changeControl_59 : decode b_Gu_changeControl 59 = .ok (.iload_n 1, 1) := by decide +kernel
theorem d_Gu_changeControl_60 : decode b_Gu_changeControl 60 = .ok (.invokevirtual 58, 3) := by decide +kernel
theorem d_Gu_changeControl_63 : decode b_Gu_changeControl 63 = .ok (.areturn, 1) := by decide +kernel
theorem d_Gu_changeControl_64 : decode b_Gu_changeControl 64 = .ok (.aload_n 0, 1) := by decide +kernel
theorem d_Gu_changeControl_65 : decode b_Gu_changeControl 65 = .ok (.getfield 15, 3) := by decide +kernel
theorem d_Gu_changeControl_68 : decode b_Gu_changeControl 68 = .ok (.iload_n 3, 1) := by decide +kernel
theorem d_Gu_changeControl_69 : decode b_Gu_changeControl 69 = .ok (.iaload, 1) := by decide +kernel
theorem d_Gu_changeControl_70 : decode b_Gu_changeControl 70 = .ok (.istore 6, 2) := by decide +kernel
theorem d_Gu_changeControl_72 : decode b_Gu_changeControl 72 = .ok (.aload_n 0, 1) := by decide +kernel
theorem d_Gu_changeControl_73 : decode b_Gu_changeControl 73 = .ok (.getfield 26, 3) := by decide +kernel
theorem d_Gu_changeControl_76 : decode b_Gu_changeControl 76 = .ok (.iload 4, 2) := by decide +kernel
theorem d_Gu_changeControl_78 : decode b_Gu_changeControl 78 = .ok (.invokevirtual 144, 3) := by decide +kernel
theorem d_Gu_changeControl_81 : decode b_Gu_changeControl 81 = .ok (.istore 7, 2) := by decide +kernel
theorem d_Gu_changeControl_83 : decode b_Gu_changeControl 83 = .ok (.aload_n 0, 1) := by decide +kernel
theorem d_Gu_changeControl_84 : decode b_Gu_changeControl 84 = .ok (.iload_n 1, 1) := by decide +kernel
theorem d_Gu_changeControl_85 : decode b_Gu_changeControl 85 = .ok (.iconst 5, 1) := by decide +kernel
theorem d_Gu_changeControl_86 : decode b_Gu_changeControl 86 = .ok (.ishr, 1) := by decide +kernel
theorem d_Gu_changeControl_87 : decode b_Gu_changeControl 87 = .ok (.bipush 7, 2) := by decide +kernel
theorem d_Gu_changeControl_89 : decode b_Gu_changeControl 89 = .ok (.iand, 1) := by decide +kernel
theorem d_Gu_changeControl_90 : decode b_Gu_changeControl 90 = .ok (.iload 7, 2) := by decide +kernel
theorem d_Gu_changeControl_92 : decode b_Gu_changeControl 92 = .ok (.invokevirtual 102, 3) := by decide +kernel
theorem d_Gu_changeControl_95 : decode b_Gu_changeControl 95 = .ok (.iload 5, 2) := by decide +kernel
theorem d_Gu_changeControl_97 : decode b_Gu_changeControl 97 = .ok (.ifCond .eq 17, 3) := by decide +kernel
theorem d_Gu_changeControl_100 : decode b_Gu_changeControl 100 = .ok (.aload_n 0, 1) := by decide +kernel
theorem d_Gu_changeControl_101 : decode b_Gu_changeControl 101 = .ok (.iload 4, 2) := by decide +kernel
theorem d_Gu_changeControl_103 : decode b_Gu_changeControl 103 = .ok (.iload_n 2, 1) := by decide +kernel
theorem d_Gu_changeControl_104 : decode b_Gu_changeControl 104 = .ok (.iload 7, 2) := by decide +kernel
theorem d_Gu_changeControl_106 : decode b_Gu_changeControl 106 = .ok (.iload 6, 2) := by decide +kernel
theorem d_Gu_changeControl_108 : decode b_Gu_changeControl 108 = .ok (.invokestatic 148, 3) := by decide +kernel
theorem d_Gu_changeControl_111 : decode b_Gu_changeControl 111 = .ok (.invokevirtual 152, 3) := by decide +kernel
theorem d_Gu_changeControl_114 : decode b_Gu_changeControl 114 = .ok (.aload_n 0, 1) := by decide +kernel
theorem d_Gu_changeControl_115 : decode b_Gu_changeControl 115 = .ok (.aload_n 0, 1) := by decide +kernel
theorem d_Gu_changeControl_116 : decode b_Gu_changeControl 116 = .ok (.getfield 62, 3) := by decide +kernel
theorem d_Gu_changeControl_119 : decode b_Gu_changeControl 119 = .ok (.iconst 1, 1) := by decide +kernel
theorem d_Gu_changeControl_120 : decode b_Gu_changeControl 120 = .ok (.iadd, 1) := by decide +kernel
theorem d_Gu_changeControl_121 : decode b_Gu_changeControl 121 = .ok (.invokevirtual 92, 3) := by decide +kernel
theorem d_Gu_changeControl_124 : decode b_Gu_changeControl 124 = .ok (.areturn, 1) := by decide +kernel
noncomputable def pr_Gu_changeControl : List (Nat × tw_Op) := [(0, tw_il 1), (1, tw_ic (31)), (3, tw_bin (· &&& ·)), (4, tw_is 2), (5, tw_il 1), (6, tw_ic (8)), (8, tw_bin (fun x y => x >>> (y &&& 31))), (9, tw_ic (7)), (11, tw_bin (· &&& ·)), (12, tw_is 3), (13, tw_il 1), (14, tw_ic (16)), (16, tw_bin (fun x y => x >>> (y &&& 31))), (17, tw_is 4), (19, tw_il 2), (20, tw_ic (19)), (22, tw_ceq 29), (25, tw_il 3), (26, tw_ifeq 33), (29, tw_ic 1), (30, tw_jmp 34), (33, tw_ic 0), (34, tw_is 5), (36, tw_il 4), (38, tw_cs 1 fn_Co_exists), (41, tw_ifeq 57), (44, tw_il 5), (46, tw_ifeq 64), (49, tw_il 4), (51, tw_cs 1 fn_Co_isStoredTo), (54, tw_ifne 64), (57, tw_al 0), (58, tw_ic 2), (59, tw_il 1), (60, tw_cv 2 0 fn_Gu_trap), (63, tw_ra), (64, tw_al 0), (65, tw_gr 0 2), (68, tw_il 3), (69, tw_ia), (70, tw_is 6), (72, tw_al 0), (73, tw_gr 0 4), (76, tw_il 4), (78, tw_cv 1 4 fn_Co_take), (81, tw_is 7), (83, tw_al 0), (84, tw_il 1), (85, tw_ic 5), (86, tw_bin (fun x y => x >>> (y &&& 31))), (87, tw_ic (7)), (89, tw_bin (· &&& ·)), (90, tw_il 7), (92, tw_cv 2 0 fn_Gu_setRegister), (95, tw_il 5), (97, tw_ifeq 114), (100, tw_al 0), (101, tw_il 4), (103, tw_il 2), (104, tw_il 7), (106, tw_il 6), (108, tw_cs 3 fn_Gu_changed), (111, tw_cv 2 0 fn_Gu_storeControl), (114, tw_al 0), (115, tw_al 0), (116, tw_gi 0 6), (119, tw_ic 1), (120, tw_bin (· + ·)), (121, tw_cv 1 0 fn_Gu_retireAt), (124, tw_ra)]
set_option maxRecDepth 100000 in
set_option maxHeartbeats 4000000 in
theorem ok_Gu_changeControl {p : Program} {l : Launch} {e : Env} {s : State} {m : MethodId} {args : Array Value} {below : List Frame} {meth : Method} {c : Code} {E : tw_E} {D : va_G} {ρ : tw_R} (hC : tw_Cx p s m args meth c b_Gu_changeControl 8 (some (.object "TwinHost$Outcome")) "TwinHost$Guest" E D) : tw_Ok p l e (tw_rmd 4) s m args below meth c 0 0 (MQ below (tw_Qc E D ρ) args s 0 0 (tw_A E)) 8 E D ρ pr_Gu_changeControl :=
  ⟨ts_iload_n hC d_Gu_changeControl_0 rfl,
   ts_bipush hC d_Gu_changeControl_1 (by decide),
   ts_iand hC d_Gu_changeControl_3,
   ts_istore_n hC d_Gu_changeControl_4 rfl (by decide),
   ts_iload_n hC d_Gu_changeControl_5 rfl,
   ts_bipush hC d_Gu_changeControl_6 (by decide),
   ts_ishr hC d_Gu_changeControl_8,
   ts_bipush hC d_Gu_changeControl_9 (by decide),
   ts_iand hC d_Gu_changeControl_11,
   ts_istore_n hC d_Gu_changeControl_12 rfl (by decide),
   ts_iload_n hC d_Gu_changeControl_13 rfl,
   ts_bipush hC d_Gu_changeControl_14 (by decide),
   ts_ishr hC d_Gu_changeControl_16,
   ts_istore hC d_Gu_changeControl_17 (by decide),
   ts_iload_n hC d_Gu_changeControl_19 rfl,
   ts_bipush hC d_Gu_changeControl_20 (by decide),
   ts_ceq hC d_Gu_changeControl_22 (by decide),
   ts_iload_n hC d_Gu_changeControl_25 rfl,
   ts_ifeq hC d_Gu_changeControl_26 (by decide),
   ts_iconst hC d_Gu_changeControl_29 (by decide),
   ts_goto hC d_Gu_changeControl_30 (by decide),
   ts_iconst hC d_Gu_changeControl_33 (by decide),
   ts_istore hC d_Gu_changeControl_34 (by decide),
   ts_iload hC d_Gu_changeControl_36,
   ts_calls hC con_Co_exists wd_223 wd_26 (by decide +kernel) ⟨by decide, by decide⟩ ⟨Nat.zero_le _, Nat.zero_le _⟩ wd_404 wd_222 d_Gu_changeControl_38,
   ts_ifeq hC d_Gu_changeControl_41 (by decide),
   ts_iload hC d_Gu_changeControl_44,
   ts_ifeq hC d_Gu_changeControl_46 (by decide),
   ts_iload hC d_Gu_changeControl_49,
   ts_calls hC con_Co_isStoredTo wd_220 wd_26 (by decide +kernel) ⟨by decide, by decide⟩ ⟨Nat.zero_le _, Nat.zero_le _⟩ wd_405 wd_219 d_Gu_changeControl_51,
   ts_ifne hC d_Gu_changeControl_54 (by decide),
   ts_aload_n hC d_Gu_changeControl_57 rfl,
   ts_iconst hC d_Gu_changeControl_58 (by decide),
   ts_iload_n hC d_Gu_changeControl_59 rfl,
   ts_callv (C := R_Gu) (T := T_Gu) hC con_Gu_trap wd_298 wd_25 (by decide +kernel) ⟨by decide, by decide⟩ ⟨Nat.zero_le _, Nat.zero_le _⟩ wd_295 rfl rfl wd_296 wd_297 d_Gu_changeControl_60,
   ts_aret hC rfl d_Gu_changeControl_63,
   ts_aload_n hC d_Gu_changeControl_64 rfl,
   ts_gr (j := 1) (C := R_Gu) (T := T_Gu) hC rfl rfl rfl (by decide) u_Gu wd_134 rfl d_Gu_changeControl_65,
   ts_iload_n hC d_Gu_changeControl_68 rfl,
   ts_iaload hC d_Gu_changeControl_69,
   ts_istore hC d_Gu_changeControl_70 (by decide),
   ts_aload_n hC d_Gu_changeControl_72 rfl,
   ts_gr (j := 3) (C := R_Gu) (T := T_Gu) hC rfl rfl rfl (by decide) u_Gu wd_138 rfl d_Gu_changeControl_73,
   ts_iload hC d_Gu_changeControl_76,
   ts_callv (C := R_Co) (T := T_Co) hC con_Co_take wd_409 wd_26 (by decide +kernel) ⟨by decide, by decide⟩ ⟨Nat.zero_le _, Nat.zero_le _⟩ wd_406 rfl rfl wd_407 wd_408 d_Gu_changeControl_78,
   ts_istore hC d_Gu_changeControl_81 (by decide),
   ts_aload_n hC d_Gu_changeControl_83 rfl,
   ts_iload_n hC d_Gu_changeControl_84 rfl,
   ts_iconst hC d_Gu_changeControl_85 (by decide),
   ts_ishr hC d_Gu_changeControl_86,
   ts_bipush hC d_Gu_changeControl_87 (by decide),
   ts_iand hC d_Gu_changeControl_89,
   ts_iload hC d_Gu_changeControl_90,
   ts_callv (C := R_Gu) (T := T_Gu) hC con_Gu_setRegister wd_209 wd_25 (by decide +kernel) ⟨by decide, by decide⟩ ⟨Nat.zero_le _, Nat.zero_le _⟩ wd_364 rfl rfl wd_207 wd_208 d_Gu_changeControl_92,
   ts_iload hC d_Gu_changeControl_95,
   ts_ifeq hC d_Gu_changeControl_97 (by decide),
   ts_aload_n hC d_Gu_changeControl_100 rfl,
   ts_iload hC d_Gu_changeControl_101,
   ts_iload_n hC d_Gu_changeControl_103 rfl,
   ts_iload hC d_Gu_changeControl_104,
   ts_iload hC d_Gu_changeControl_106,
   ts_calls hC con_Gu_changed wd_417 wd_25 (by decide +kernel) ⟨by decide, by decide⟩ ⟨Nat.zero_le _, Nat.zero_le _⟩ wd_415 wd_416 d_Gu_changeControl_108,
   ts_callv (C := R_Gu) (T := T_Gu) hC con_Gu_storeControl wd_227 wd_25 (by decide +kernel) ⟨by decide, by decide⟩ ⟨Nat.zero_le _, Nat.zero_le _⟩ wd_418 rfl rfl wd_225 wd_226 d_Gu_changeControl_111,
   ts_aload_n hC d_Gu_changeControl_114 rfl,
   ts_aload_n hC d_Gu_changeControl_115 rfl,
   ts_gi (j := 6) (C := R_Gu) (T := T_Gu) hC rfl rfl rfl (by decide) u_Gu wd_143 rfl d_Gu_changeControl_116,
   ts_iconst hC d_Gu_changeControl_119 (by decide),
   ts_iadd hC d_Gu_changeControl_120,
   ts_callv (C := R_Gu) (T := T_Gu) hC con_Gu_retireAt wd_368 wd_25 (by decide +kernel) ⟨by decide, by decide⟩ ⟨Nat.zero_le _, Nat.zero_le _⟩ wd_365 rfl rfl wd_366 wd_367 d_Gu_changeControl_121,
   ts_aret hC rfl d_Gu_changeControl_124,
   trivial⟩
noncomputable def fn_Gu_changeControl : tw_Fn := tw_fl 2 8 72 pr_Gu_changeControl
theorem con_Gu_changeControl : tw_Con y_Gu_changeControl b_Gu_changeControl 8 (some (.object "TwinHost$Outcome")) 4 fn_Gu_changeControl := tw_met (by decide +kernel) (tw_fl_len (n := 2) (by decide)) (fun p l e s m args below meth c E D vs σ ρ hC h => tw_sound (ok_Gu_changeControl hC) 72 pr_Gu_changeControl (ok_Gu_changeControl hC) _ _ _ (tw_fl_get h))

-- TwinHost$Guest.load(II)LTwinHost$Outcome;: 27 instructions, depth 4, calls Gu_reach Gu_fault Gu_setRegister Gu_retireAt
theorem d_Gu_load_0 : decode b_Gu_load 0 = .ok (.aload_n 0, 1) := by decide +kernel
theorem d_Gu_load_1 : decode b_Gu_load 1 = .ok (.iload_n 2, 1) := by decide +kernel
theorem d_Gu_load_2 : decode b_Gu_load 2 = .ok (.getstatic 106, 3) := by decide +kernel
theorem d_Gu_load_5 : decode b_Gu_load 5 = .ok (.invokevirtual 72, 3) := by decide +kernel
theorem d_Gu_load_8 : decode b_Gu_load 8 = .ok (.istore_n 3, 1) := by decide +kernel
theorem d_Gu_load_9 : decode b_Gu_load 9 = .ok (.iload_n 3, 1) := by decide +kernel
theorem d_Gu_load_10 : decode b_Gu_load 10 = .ok (.ifCond .ge 11, 3) := by decide +kernel
theorem d_Gu_load_13 : decode b_Gu_load 13 = .ok (.aload_n 0, 1) := by decide +kernel
theorem d_Gu_load_14 : decode b_Gu_load 14 = .ok (.iload_n 3, 1) := by decide +kernel
theorem d_Gu_load_15 : decode b_Gu_load 15 = .ok (.ineg, 1) := by decide +kernel
theorem d_Gu_load_16 : decode b_Gu_load 16 = .ok (.iload_n 2, 1) := by decide +kernel
theorem d_Gu_load_17 : decode b_Gu_load 17 = .ok (.invokevirtual 76, 3) := by decide +kernel
theorem d_Gu_load_20 : decode b_Gu_load 20 = .ok (.areturn, 1) := by decide +kernel
theorem d_Gu_load_21 : decode b_Gu_load 21 = .ok (.aload_n 0, 1) := by decide +kernel
theorem d_Gu_load_22 : decode b_Gu_load 22 = .ok (.iload_n 1, 1) := by decide +kernel
theorem d_Gu_load_23 : decode b_Gu_load 23 = .ok (.aload_n 0, 1) := by decide +kernel
theorem d_Gu_load_24 : decode b_Gu_load 24 = .ok (.getfield 9, 3) := by decide +kernel
theorem d_Gu_load_27 : decode b_Gu_load 27 = .ok (.iload_n 3, 1) := by decide +kernel
theorem d_Gu_load_28 : decode b_Gu_load 28 = .ok (.iaload, 1) := by decide +kernel
theorem d_Gu_load_29 : decode b_Gu_load 29 = .ok (.invokevirtual 102, 3) := by decide +kernel
theorem d_Gu_load_32 : decode b_Gu_load 32 = .ok (.aload_n 0, 1) := by decide +kernel
theorem d_Gu_load_33 : decode b_Gu_load 33 = .ok (.aload_n 0, 1) := by decide +kernel
theorem d_Gu_load_34 : decode b_Gu_load 34 = .ok (.getfield 62, 3) := by decide +kernel
theorem d_Gu_load_37 : decode b_Gu_load 37 = .ok (.iconst 1, 1) := by decide +kernel
theorem d_Gu_load_38 : decode b_Gu_load 38 = .ok (.iadd, 1) := by decide +kernel
theorem d_Gu_load_39 : decode b_Gu_load 39 = .ok (.invokevirtual 92, 3) := by decide +kernel
theorem d_Gu_load_42 : decode b_Gu_load 42 = .ok (.areturn, 1) := by decide +kernel
noncomputable def pr_Gu_load : List (Nat × tw_Op) := [(0, tw_al 0), (1, tw_il 2), (2, tw_en 51), (5, tw_cv 2 0 fn_Gu_reach), (8, tw_is 3), (9, tw_il 3), (10, tw_ifge 21), (13, tw_al 0), (14, tw_il 3), (15, tw_neg), (16, tw_il 2), (17, tw_cv 2 0 fn_Gu_fault), (20, tw_ra), (21, tw_al 0), (22, tw_il 1), (23, tw_al 0), (24, tw_gr 0 1), (27, tw_il 3), (28, tw_ia), (29, tw_cv 2 0 fn_Gu_setRegister), (32, tw_al 0), (33, tw_al 0), (34, tw_gi 0 6), (37, tw_ic 1), (38, tw_bin (· + ·)), (39, tw_cv 1 0 fn_Gu_retireAt), (42, tw_ra)]
set_option maxRecDepth 100000 in
set_option maxHeartbeats 4000000 in
theorem ok_Gu_load {p : Program} {l : Launch} {e : Env} {s : State} {m : MethodId} {args : Array Value} {below : List Frame} {meth : Method} {c : Code} {E : tw_E} {D : va_G} {ρ : tw_R} (hC : tw_Cx p s m args meth c b_Gu_load 4 (some (.object "TwinHost$Outcome")) "TwinHost$Guest" E D) : tw_Ok p l e (tw_rmd 4) s m args below meth c 0 0 (MQ below (tw_Qc E D ρ) args s 0 0 (tw_A E)) 4 E D ρ pr_Gu_load :=
  ⟨ts_aload_n hC d_Gu_load_0 rfl,
   ts_iload_n hC d_Gu_load_1 rfl,
   ts_getA (i := 1) hC (by decide) rfl wd_362 d_Gu_load_2,
   ts_callv (C := R_Gu) (T := T_Gu) hC con_Gu_reach wd_311 wd_25 (by decide +kernel) ⟨by decide, by decide⟩ ⟨Nat.zero_le _, Nat.zero_le _⟩ wd_308 rfl rfl wd_309 wd_310 d_Gu_load_5,
   ts_istore_n hC d_Gu_load_8 rfl (by decide),
   ts_iload_n hC d_Gu_load_9 rfl,
   ts_ifge hC d_Gu_load_10 (by decide),
   ts_aload_n hC d_Gu_load_13 rfl,
   ts_iload_n hC d_Gu_load_14 rfl,
   ts_ineg hC d_Gu_load_15,
   ts_iload_n hC d_Gu_load_16 rfl,
   ts_callv (C := R_Gu) (T := T_Gu) hC con_Gu_fault wd_353 wd_25 (by decide +kernel) ⟨by decide, by decide⟩ ⟨Nat.zero_le _, Nat.zero_le _⟩ wd_350 rfl rfl wd_351 wd_352 d_Gu_load_17,
   ts_aret hC rfl d_Gu_load_20,
   ts_aload_n hC d_Gu_load_21 rfl,
   ts_iload_n hC d_Gu_load_22 rfl,
   ts_aload_n hC d_Gu_load_23 rfl,
   ts_gr (j := 0) (C := R_Gu) (T := T_Gu) hC rfl rfl rfl (by decide) u_Gu wd_132 rfl d_Gu_load_24,
   ts_iload_n hC d_Gu_load_27 rfl,
   ts_iaload hC d_Gu_load_28,
   ts_callv (C := R_Gu) (T := T_Gu) hC con_Gu_setRegister wd_209 wd_25 (by decide +kernel) ⟨by decide, by decide⟩ ⟨Nat.zero_le _, Nat.zero_le _⟩ wd_364 rfl rfl wd_207 wd_208 d_Gu_load_29,
   ts_aload_n hC d_Gu_load_32 rfl,
   ts_aload_n hC d_Gu_load_33 rfl,
   ts_gi (j := 6) (C := R_Gu) (T := T_Gu) hC rfl rfl rfl (by decide) u_Gu wd_143 rfl d_Gu_load_34,
   ts_iconst hC d_Gu_load_37 (by decide),
   ts_iadd hC d_Gu_load_38,
   ts_callv (C := R_Gu) (T := T_Gu) hC con_Gu_retireAt wd_368 wd_25 (by decide +kernel) ⟨by decide, by decide⟩ ⟨Nat.zero_le _, Nat.zero_le _⟩ wd_365 rfl rfl wd_366 wd_367 d_Gu_load_39,
   ts_aret hC rfl d_Gu_load_42,
   trivial⟩
noncomputable def fn_Gu_load : tw_Fn := tw_fl 3 4 29 pr_Gu_load
theorem con_Gu_load : tw_Con y_Gu_load b_Gu_load 4 (some (.object "TwinHost$Outcome")) 4 fn_Gu_load := tw_met (by decide +kernel) (tw_fl_len (n := 3) (by decide)) (fun p l e s m args below meth c E D vs σ ρ hC h => tw_sound (ok_Gu_load hC) 29 pr_Gu_load (ok_Gu_load hC) _ _ _ (tw_fl_get h))

-- TwinHost$Guest.store(II)LTwinHost$Outcome;: 40 instructions, depth 4, calls Gu_reach Gu_fault Sh_isTraced Gu_overwrite Gu_retireAt
theorem d_Gu_store_0 : decode b_Gu_store 0 = .ok (.aload_n 0, 1) := by decide +kernel
theorem d_Gu_store_1 : decode b_Gu_store 1 = .ok (.iload_n 1, 1) := by decide +kernel
theorem d_Gu_store_2 : decode b_Gu_store 2 = .ok (.getstatic 109, 3) := by decide +kernel
theorem d_Gu_store_5 : decode b_Gu_store 5 = .ok (.invokevirtual 72, 3) := by decide +kernel
theorem d_Gu_store_8 : decode b_Gu_store 8 = .ok (.istore_n 3, 1) := by decide +kernel
theorem d_Gu_store_9 : decode b_Gu_store 9 = .ok (.iload_n 3, 1) := by decide +kernel
theorem d_Gu_store_10 : decode b_Gu_store 10 = .ok (.ifCond .ge 11, 3) := by decide +kernel
theorem d_Gu_store_13 : decode b_Gu_store 13 = .ok (.aload_n 0, 1) := by decide +kernel
theorem d_Gu_store_14 : decode b_Gu_store 14 = .ok (.iload_n 3, 1) := by decide +kernel
theorem d_Gu_store_15 : decode b_Gu_store 15 = .ok (.ineg, 1) := by decide +kernel
theorem d_Gu_store_16 : decode b_Gu_store 16 = .ok (.iload_n 1, 1) := by decide +kernel
theorem d_Gu_store_17 : decode b_Gu_store 17 = .ok (.invokevirtual 76, 3) := by decide +kernel
theorem d_Gu_store_20 : decode b_Gu_store 20 = .ok (.areturn, 1) := by decide +kernel
theorem d_Gu_store_21 : decode b_Gu_store 21 = .ok (.aload_n 0, 1) := by decide +kernel
theorem d_Gu_store_22 : decode b_Gu_store 22 = .ok (.getfield 33, 3) := by decide +kernel
theorem d_Gu_store_25 : decode b_Gu_store 25 = .ok (.iload_n 3, 1) := by decide +kernel
theorem d_Gu_store_26 : decode b_Gu_store 26 = .ok (.iconst 4, 1) := by decide +kernel
theorem d_Gu_store_27 : decode b_Gu_store 27 = .ok (.ishr, 1) := by decide +kernel
theorem d_Gu_store_28 : decode b_Gu_store 28 = .ok (.invokevirtual 112, 3) := by decide +kernel
theorem d_Gu_store_31 : decode b_Gu_store 31 = .ok (.ifCond .eq 13, 3) := by decide +kernel
theorem d_Gu_store_34 : decode b_Gu_store 34 = .ok (.aload_n 0, 1) := by decide +kernel
theorem d_Gu_store_35 : decode b_Gu_store 35 = .ok (.getfield 20, 3) := by decide +kernel
theorem d_Gu_store_38 : decode b_Gu_store 38 = .ok (.iconst 3, 1) := by decide +kernel
theorem d_Gu_store_39 : decode b_Gu_store 39 = .ok (.dup2, 1) := by decide +kernel
theorem d_Gu_store_40 : decode b_Gu_store 40 = .ok (.iaload, 1) := by decide +kernel
theorem d_Gu_store_41 : decode b_Gu_store 41 = .ok (.iconst 1, 1) := by decide +kernel
theorem d_Gu_store_42 : decode b_Gu_store 42 = .ok (.iadd, 1) := by decide +kernel
theorem d_Gu_store_43 : decode b_Gu_store 43 = .ok (.iastore, 1) := by decide +kernel
theorem d_Gu_store_44 : decode b_Gu_store 44 = .ok (.aload_n 0, 1) := by decide +kernel
theorem d_Gu_store_45 : decode b_Gu_store 45 = .ok (.iload_n 3, 1) := by decide +kernel
theorem d_Gu_store_46 : decode b_Gu_store 46 = .ok (.iload_n 2, 1) := by decide +kernel
theorem d_Gu_store_47 : decode b_Gu_store 47 = .ok (.invokevirtual 115, 3) := by decide +kernel
theorem d_Gu_store_50 : decode b_Gu_store 50 = .ok (.pop, 1) := by decide +kernel
theorem d_Gu_store_51 : decode b_Gu_store 51 = .ok (.aload_n 0, 1) := by decide +kernel
theorem d_Gu_store_52 : decode b_Gu_store 52 = .ok (.aload_n 0, 1) := by decide +kernel
theorem d_Gu_store_53 : decode b_Gu_store 53 = .ok (.getfield 62, 3) := by decide +kernel
theorem d_Gu_store_56 : decode b_Gu_store 56 = .ok (.iconst 1, 1) := by decide +kernel
theorem d_Gu_store_57 : decode b_Gu_store 57 = .ok (.iadd, 1) := by decide +kernel
theorem d_Gu_store_58 : decode b_Gu_store 58 = .ok (.invokevirtual 92, 3) := by decide +kernel
theorem d_Gu_store_61 : decode b_Gu_store 61 = .ok (.areturn, 1) := by decide +kernel
noncomputable def pr_Gu_store : List (Nat × tw_Op) := [(0, tw_al 0), (1, tw_il 1), (2, tw_en 52), (5, tw_cv 2 0 fn_Gu_reach), (8, tw_is 3), (9, tw_il 3), (10, tw_ifge 21), (13, tw_al 0), (14, tw_il 3), (15, tw_neg), (16, tw_il 1), (17, tw_cv 2 0 fn_Gu_fault), (20, tw_ra), (21, tw_al 0), (22, tw_gr 0 9), (25, tw_il 3), (26, tw_ic 4), (27, tw_bin (fun x y => x >>> (y &&& 31))), (28, tw_cv 1 9 fn_Sh_isTraced), (31, tw_ifeq 44), (34, tw_al 0), (35, tw_gr 0 3), (38, tw_ic 3), (39, tw_d2), (40, tw_ia), (41, tw_ic 1), (42, tw_bin (· + ·)), (43, tw_ias 0 22), (44, tw_al 0), (45, tw_il 3), (46, tw_il 2), (47, tw_cv 2 0 fn_Gu_overwrite), (50, tw_pop), (51, tw_al 0), (52, tw_al 0), (53, tw_gi 0 6), (56, tw_ic 1), (57, tw_bin (· + ·)), (58, tw_cv 1 0 fn_Gu_retireAt), (61, tw_ra)]
set_option maxRecDepth 100000 in
set_option maxHeartbeats 4000000 in
theorem ok_Gu_store {p : Program} {l : Launch} {e : Env} {s : State} {m : MethodId} {args : Array Value} {below : List Frame} {meth : Method} {c : Code} {E : tw_E} {D : va_G} {ρ : tw_R} (hC : tw_Cx p s m args meth c b_Gu_store 4 (some (.object "TwinHost$Outcome")) "TwinHost$Guest" E D) : tw_Ok p l e (tw_rmd 4) s m args below meth c 0 0 (MQ below (tw_Qc E D ρ) args s 0 0 (tw_A E)) 4 E D ρ pr_Gu_store :=
  ⟨ts_aload_n hC d_Gu_store_0 rfl,
   ts_iload_n hC d_Gu_store_1 rfl,
   ts_getA (i := 2) hC (by decide) rfl wd_345 d_Gu_store_2,
   ts_callv (C := R_Gu) (T := T_Gu) hC con_Gu_reach wd_311 wd_25 (by decide +kernel) ⟨by decide, by decide⟩ ⟨Nat.zero_le _, Nat.zero_le _⟩ wd_308 rfl rfl wd_309 wd_310 d_Gu_store_5,
   ts_istore_n hC d_Gu_store_8 rfl (by decide),
   ts_iload_n hC d_Gu_store_9 rfl,
   ts_ifge hC d_Gu_store_10 (by decide),
   ts_aload_n hC d_Gu_store_13 rfl,
   ts_iload_n hC d_Gu_store_14 rfl,
   ts_ineg hC d_Gu_store_15,
   ts_iload_n hC d_Gu_store_16 rfl,
   ts_callv (C := R_Gu) (T := T_Gu) hC con_Gu_fault wd_353 wd_25 (by decide +kernel) ⟨by decide, by decide⟩ ⟨Nat.zero_le _, Nat.zero_le _⟩ wd_350 rfl rfl wd_351 wd_352 d_Gu_store_17,
   ts_aret hC rfl d_Gu_store_20,
   ts_aload_n hC d_Gu_store_21 rfl,
   ts_gr (j := 4) (C := R_Gu) (T := T_Gu) hC rfl rfl rfl (by decide) u_Gu wd_140 rfl d_Gu_store_22,
   ts_iload_n hC d_Gu_store_25 rfl,
   ts_iconst hC d_Gu_store_26 (by decide),
   ts_ishr hC d_Gu_store_27,
   ts_callv (C := R_Sh) (T := T_Sh) hC con_Sh_isTraced wd_378 wd_28 (by decide +kernel) ⟨by decide, by decide⟩ ⟨Nat.zero_le _, Nat.zero_le _⟩ wd_375 rfl rfl wd_376 wd_377 d_Gu_store_28,
   ts_ifeq hC d_Gu_store_31 (by decide),
   ts_aload_n hC d_Gu_store_34 rfl,
   ts_gr (j := 2) (C := R_Gu) (T := T_Gu) hC rfl rfl rfl (by decide) u_Gu wd_136 rfl d_Gu_store_35,
   ts_iconst hC d_Gu_store_38 (by decide),
   ts_dup2 hC d_Gu_store_39,
   ts_iaload hC d_Gu_store_40,
   ts_iconst hC d_Gu_store_41 (by decide),
   ts_iadd hC d_Gu_store_42,
   ts_iastore hC d_Gu_store_43,
   ts_aload_n hC d_Gu_store_44 rfl,
   ts_iload_n hC d_Gu_store_45 rfl,
   ts_iload_n hC d_Gu_store_46 rfl,
   ts_callv (C := R_Gu) (T := T_Gu) hC con_Gu_overwrite wd_190 wd_25 (by decide +kernel) ⟨by decide, by decide⟩ ⟨Nat.zero_le _, Nat.zero_le _⟩ wd_382 rfl rfl wd_188 wd_189 d_Gu_store_47,
   ts_pop hC d_Gu_store_50,
   ts_aload_n hC d_Gu_store_51 rfl,
   ts_aload_n hC d_Gu_store_52 rfl,
   ts_gi (j := 6) (C := R_Gu) (T := T_Gu) hC rfl rfl rfl (by decide) u_Gu wd_143 rfl d_Gu_store_53,
   ts_iconst hC d_Gu_store_56 (by decide),
   ts_iadd hC d_Gu_store_57,
   ts_callv (C := R_Gu) (T := T_Gu) hC con_Gu_retireAt wd_368 wd_25 (by decide +kernel) ⟨by decide, by decide⟩ ⟨Nat.zero_le _, Nat.zero_le _⟩ wd_365 rfl rfl wd_366 wd_367 d_Gu_store_58,
   ts_aret hC rfl d_Gu_store_61,
   trivial⟩
noncomputable def fn_Gu_store : tw_Fn := tw_fl 3 4 42 pr_Gu_store
theorem con_Gu_store : tw_Con y_Gu_store b_Gu_store 4 (some (.object "TwinHost$Outcome")) 4 fn_Gu_store := tw_met (by decide +kernel) (tw_fl_len (n := 3) (by decide)) (fun p l e s m args below meth c E D vs σ ρ hC h => tw_sound (ok_Gu_store hC) 42 pr_Gu_store (ok_Gu_store hC) _ _ _ (tw_fl_get h))
