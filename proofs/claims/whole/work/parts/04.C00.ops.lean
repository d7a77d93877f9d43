-- TwinHost$Controls.exists(I)Z: 9 instructions, depth 0, calls 
theorem d_Co_exists_0 : decode b_Co_exists 0 = .ok (.iload_n 0, 1) := by decide +kernel
theorem d_Co_exists_1 : decode b_Co_exists 1 = .ok (.ifCond .lt 13, 3) := by decide +kernel
theorem d_Co_exists_4 : decode b_Co_exists 4 = .ok (.iload_n 0, 1) := by decide +kernel
theorem d_Co_exists_5 : decode b_Co_exists 5 = .ok (.bipush 12, 2) := by decide +kernel
theorem d_Co_exists_7 : decode b_Co_exists 7 = .ok (.if_icmp .ge 7, 3) := by decide +kernel
theorem d_Co_exists_10 : decode b_Co_exists 10 = .ok (.iconst 1, 1) := by decide +kernel
theorem d_Co_exists_11 : decode b_Co_exists 11 = .ok (.goto 4, 3) := by decide +kernel
theorem d_Co_exists_14 : decode b_Co_exists 14 = .ok (.iconst 0, 1) := by decide +kernel
theorem d_Co_exists_15 : decode b_Co_exists 15 = .ok (.ireturn, 1) := by decide +kernel
noncomputable def pr_Co_exists : List (Nat × tw_Op) := [(0, tw_il 0), (1, tw_iflt 14), (4, tw_il 0), (5, tw_ic (12)), (7, tw_cge 14), (10, tw_ic 1), (11, tw_jmp 15), (14, tw_ic 0), (15, tw_rz)]
set_option maxRecDepth 100000 in
set_option maxHeartbeats 4000000 in
theorem ok_Co_exists {p : Program} {l : Launch} {e : Env} {s : State} {m : MethodId} {args : Array Value} {below : List Frame} {meth : Method} {c : Code} {E : tw_E} {D : va_G} {ρ : tw_R} (hC : tw_Cx p s m args meth c b_Co_exists 1 (some .boolean) "TwinHost$Controls" E D) : tw_Ok p l e (tw_rmd 0) s m args below meth c 0 0 (MQ below (tw_Qc E D ρ) args s 0 0 (tw_A E)) 1 E D ρ pr_Co_exists :=
  ⟨ts_iload_n hC d_Co_exists_0 rfl,
   ts_iflt hC d_Co_exists_1 (by decide),
   ts_iload_n hC d_Co_exists_4 rfl,
   ts_bipush hC d_Co_exists_5 (by decide),
   ts_cge hC d_Co_exists_7 (by decide),
   ts_iconst hC d_Co_exists_10 (by decide),
   ts_goto hC d_Co_exists_11 (by decide),
   ts_iconst hC d_Co_exists_14 (by decide),
   ts_zret hC rfl d_Co_exists_15,
   trivial⟩
noncomputable def fn_Co_exists : tw_Fn := tw_fl 1 1 11 pr_Co_exists
theorem con_Co_exists : tw_Con y_Co_exists b_Co_exists 1 (some .boolean) 0 fn_Co_exists := tw_met (by decide +kernel) (tw_fl_len (n := 1) (by decide)) (fun p l e s m args below meth c E D vs σ ρ hC h => tw_sound (ok_Co_exists hC) 11 pr_Co_exists (ok_Co_exists hC) _ _ _ (tw_fl_get h))

-- TwinHost$Controls.isOn(I)Z: 11 instructions, depth 0, calls 
theorem d_Co_isOn_0 : decode b_Co_isOn 0 = .ok (.aload_n 0, 1) := by decide +kernel
theorem d_Co_isOn_1 : decode b_Co_isOn 1 = .ok (.getfield 9, 3) := by decide +kernel
theorem d_Co_isOn_4 : decode b_Co_isOn 4 = .ok (.iconst 0, 1) := by decide +kernel
theorem d_Co_isOn_5 : decode b_Co_isOn 5 = .ok (.iaload, 1) := by decide +kernel
theorem d_Co_isOn_6 : decode b_Co_isOn 6 = .ok (.iload_n 1, 1) := by decide +kernel
theorem d_Co_isOn_7 : decode b_Co_isOn 7 = .ok (.iand, 1) := by decide +kernel
theorem d_Co_isOn_8 : decode b_Co_isOn 8 = .ok (.ifCond .eq 7, 3) := by decide +kernel
theorem d_Co_isOn_11 : decode b_Co_isOn 11 = .ok (.iconst 1, 1) := by decide +kernel
theorem d_Co_isOn_12 : decode b_Co_isOn 12 = .ok (.goto 4, 3) := by decide +kernel
theorem d_Co_isOn_15 : decode b_Co_isOn 15 = .ok (.iconst 0, 1) := by decide +kernel
theorem d_Co_isOn_16 : decode b_Co_isOn 16 = .ok (.ireturn, 1) := by decide +kernel
noncomputable def pr_Co_isOn : List (Nat × tw_Op) := [(0, tw_al 0), (1, tw_gr 4 5), (4, tw_ic 0), (5, tw_ia), (6, tw_il 1), (7, tw_bin (· &&& ·)), (8, tw_ifeq 15), (11, tw_ic 1), (12, tw_jmp 16), (15, tw_ic 0), (16, tw_rz)]
set_option maxRecDepth 100000 in
set_option maxHeartbeats 4000000 in
theorem ok_Co_isOn {p : Program} {l : Launch} {e : Env} {s : State} {m : MethodId} {args : Array Value} {below : List Frame} {meth : Method} {c : Code} {E : tw_E} {D : va_G} {ρ : tw_R} (hC : tw_Cx p s m args meth c b_Co_isOn 2 (some .boolean) "TwinHost$Controls" E D) : tw_Ok p l e (tw_rmd 0) s m args below meth c 0 0 (MQ below (tw_Qc E D ρ) args s 0 0 (tw_A E)) 2 E D ρ pr_Co_isOn :=
  ⟨ts_aload_n hC d_Co_isOn_0 rfl,
   ts_gr (j := 0) (C := R_Co) (T := T_Co) hC rfl rfl rfl (by decide) u_Co wd_75 rfl d_Co_isOn_1,
   ts_iconst hC d_Co_isOn_4 (by decide),
   ts_iaload hC d_Co_isOn_5,
   ts_iload_n hC d_Co_isOn_6 rfl,
   ts_iand hC d_Co_isOn_7,
   ts_ifeq hC d_Co_isOn_8 (by decide),
   ts_iconst hC d_Co_isOn_11 (by decide),
   ts_goto hC d_Co_isOn_12 (by decide),
   ts_iconst hC d_Co_isOn_15 (by decide),
   ts_zret hC rfl d_Co_isOn_16,
   trivial⟩
noncomputable def fn_Co_isOn : tw_Fn := tw_fl 2 2 13 pr_Co_isOn
theorem con_Co_isOn : tw_Con y_Co_isOn b_Co_isOn 2 (some .boolean) 0 fn_Co_isOn := tw_met (by decide +kernel) (tw_fl_len (n := 2) (by decide)) (fun p l e s m args below meth c E D vs σ ρ hC h => tw_sound (ok_Co_isOn hC) 13 pr_Co_isOn (ok_Co_isOn hC) _ _ _ (tw_fl_get h))

-- TwinHost$Controls.keptBits(I)I: 10 instructions, depth 0, calls 
theorem d_Co_keptBits_0 : decode b_Co_keptBits 0 = .ok (.iload_n 0, 1) := by decide +kernel
theorem d_Co_keptBits_1 : decode b_Co_keptBits 1 = .ok (.lookupswitch 44 #[(0, 35), (6, 38), (7, 42)], 35) := by decide +kernel
theorem d_Co_keptBits_36 : decode b_Co_keptBits 36 = .ok (.bipush 15, 2) := by decide +kernel
theorem d_Co_keptBits_38 : decode b_Co_keptBits 38 = .ok (.ireturn, 1) := by decide +kernel
theorem d_Co_keptBits_39 : decode b_Co_keptBits 39 = .ok (.sipush 143, 3) := by decide +kernel
theorem d_Co_keptBits_42 : decode b_Co_keptBits 42 = .ok (.ireturn, 1) := by decide +kernel
theorem d_Co_keptBits_43 : decode b_Co_keptBits 43 = .ok (.iconst 3, 1) := by decide +kernel
theorem d_Co_keptBits_44 : decode b_Co_keptBits 44 = .ok (.ireturn, 1) := by decide +kernel
theorem d_Co_keptBits_45 : decode b_Co_keptBits 45 = .ok (.iconst (-1), 1) := by decide +kernel
theorem d_Co_keptBits_46 : decode b_Co_keptBits 46 = .ok (.ireturn, 1) := by decide +kernel
noncomputable def pr_Co_keptBits : List (Nat × tw_Op) := [(0, tw_il 0), (1, tw_sw [(0, 36), (6, 39), (7, 43)] 45), (36, tw_ic (15)), (38, tw_ri), (39, tw_ic (143)), (42, tw_ri), (43, tw_ic 3), (44, tw_ri), (45, tw_ic (-1)), (46, tw_ri)]
set_option maxRecDepth 100000 in
set_option maxHeartbeats 4000000 in
theorem ok_Co_keptBits {p : Program} {l : Launch} {e : Env} {s : State} {m : MethodId} {args : Array Value} {below : List Frame} {meth : Method} {c : Code} {E : tw_E} {D : va_G} {ρ : tw_R} (hC : tw_Cx p s m args meth c b_Co_keptBits 1 (some .int) "TwinHost$Controls" E D) : tw_Ok p l e (tw_rmd 0) s m args below meth c 0 0 (MQ below (tw_Qc E D ρ) args s 0 0 (tw_A E)) 1 E D ρ pr_Co_keptBits :=
  ⟨ts_iload_n hC d_Co_keptBits_0 rfl,
   ts_lookup hC _ d_Co_keptBits_1 (by decide +kernel) (by decide) rfl (by decide +kernel),
   ts_bipush hC d_Co_keptBits_36 (by decide),
   ts_iret hC rfl d_Co_keptBits_38,
   ts_sipush hC d_Co_keptBits_39 (by decide),
   ts_iret hC rfl d_Co_keptBits_42,
   ts_iconst hC d_Co_keptBits_43 (by decide),
   ts_iret hC rfl d_Co_keptBits_44,
   ts_iconst hC d_Co_keptBits_45 (by decide),
   ts_iret hC rfl d_Co_keptBits_46,
   trivial⟩
noncomputable def fn_Co_keptBits : tw_Fn := tw_fl 1 1 12 pr_Co_keptBits
theorem con_Co_keptBits : tw_Con y_Co_keptBits b_Co_keptBits 1 (some .int) 0 fn_Co_keptBits := tw_met (by decide +kernel) (tw_fl_len (n := 1) (by decide)) (fun p l e s m args below meth c E D vs σ ρ hC h => tw_sound (ok_Co_keptBits hC) 12 pr_Co_keptBits (ok_Co_keptBits hC) _ _ _ (tw_fl_get h))

-- TwinHost$Controls.translates()Z: 11 instructions, depth 0, calls 
theorem d_Co_translates_0 : decode b_Co_translates 0 = .ok (.aload_n 0, 1) := by decide +kernel
theorem d_Co_translates_1 : decode b_Co_translates 1 = .ok (.getfield 9, 3) := by decide +kernel
theorem d_Co_translates_4 : decode b_Co_translates 4 = .ok (.bipush 6, 2) := by decide +kernel
theorem d_Co_translates_6 : decode b_Co_translates 6 = .ok (.iaload, 1) := by decide +kernel
theorem d_Co_translates_7 : decode b_Co_translates 7 = .ok (.sipush 128, 3) := by decide +kernel
theorem d_Co_translates_10 : decode b_Co_translates 10 = .ok (.iand, 1) := by decide +kernel
theorem d_Co_translates_11 : decode b_Co_translates 11 = .ok (.ifCond .eq 7, 3) := by decide +kernel
theorem d_Co_translates_14 : decode b_Co_translates 14 = .ok (.iconst 1, 1) := by decide +kernel
theorem d_Co_translates_15 : decode b_Co_translates 15 = .ok (.goto 4, 3) := by decide +kernel
theorem d_Co_translates_18 : decode b_Co_translates 18 = .ok (.iconst 0, 1) := by decide +kernel
theorem d_Co_translates_19 : decode b_Co_translates 19 = .ok (.ireturn, 1) := by decide +kernel
noncomputable def pr_Co_translates : List (Nat × tw_Op) := [(0, tw_al 0), (1, tw_gr 4 5), (4, tw_ic (6)), (6, tw_ia), (7, tw_ic (128)), (10, tw_bin (· &&& ·)), (11, tw_ifeq 18), (14, tw_ic 1), (15, tw_jmp 19), (18, tw_ic 0), (19, tw_rz)]
set_option maxRecDepth 100000 in
set_option maxHeartbeats 4000000 in
theorem ok_Co_translates {p : Program} {l : Launch} {e : Env} {s : State} {m : MethodId} {args : Array Value} {below : List Frame} {meth : Method} {c : Code} {E : tw_E} {D : va_G} {ρ : tw_R} (hC : tw_Cx p s m args meth c b_Co_translates 1 (some .boolean) "TwinHost$Controls" E D) : tw_Ok p l e (tw_rmd 0) s m args below meth c 0 0 (MQ below (tw_Qc E D ρ) args s 0 0 (tw_A E)) 1 E D ρ pr_Co_translates :=
  ⟨ts_aload_n hC d_Co_translates_0 rfl,
   ts_gr (j := 0) (C := R_Co) (T := T_Co) hC rfl rfl rfl (by decide) u_Co wd_75 rfl d_Co_translates_1,
   ts_bipush hC d_Co_translates_4 (by decide),
   ts_iaload hC d_Co_translates_6,
   ts_sipush hC d_Co_translates_7 (by decide),
   ts_iand hC d_Co_translates_10,
   ts_ifeq hC d_Co_translates_11 (by decide),
   ts_iconst hC d_Co_translates_14 (by decide),
   ts_goto hC d_Co_translates_15 (by decide),
   ts_iconst hC d_Co_translates_18 (by decide),
   ts_zret hC rfl d_Co_translates_19,
   trivial⟩
noncomputable def fn_Co_translates : tw_Fn := tw_fl 1 1 13 pr_Co_translates
theorem con_Co_translates : tw_Con y_Co_translates b_Co_translates 1 (some .boolean) 0 fn_Co_translates := tw_met (by decide +kernel) (tw_fl_len (n := 1) (by decide)) (fun p l e s m args below meth c E D vs σ ρ hC h => tw_sound (ok_Co_translates hC) 13 pr_Co_translates (ok_Co_translates hC) _ _ _ (tw_fl_get h))

-- TwinHost$Entry.allows(ILTwinHost$Access;ZZ)Z: 30 instructions, depth 0, calls 
theorem d_En_allows_0 : decode b_En_allows 0 = .ok (.iload_n 0, 1) := by decide +kernel
theorem d_En_allows_1 : decode b_En_allows 1 = .ok (.aload_n 1, 1) := by decide +kernel
theorem d_En_allows_2 : decode b_En_allows 2 = .ok (.getfield 9, 3) := by decide +kernel
theorem d_En_allows_5 : decode b_En_allows 5 = .ok (.iand, 1) := by decide +kernel
theorem d_En_allows_6 : decode b_En_allows 6 = .ok (.ifCond .ne 5, 3) := by decide +kernel
theorem d_En_allows_9 : decode b_En_allows 9 = .ok (.iconst 0, 1) := by decide +kernel
theorem d_En_allows_10 : decode b_En_allows 10 = .ok (.ireturn, 1) := by decide +kernel
theorem d_En_allows_11 : decode b_En_allows 11 = .ok (.iload_n 0, 1) := by decide +kernel
theorem d_En_allows_12 : decode b_En_allows 12 = .ok (.bipush 16, 2) := by decide +kernel
theorem d_En_allows_14 : decode b_En_allows 14 = .ok (.iand, 1) := by decide +kernel
theorem d_En_allows_15 : decode b_En_allows 15 = .ok (.ifCond .eq 7, 3) := by decide +kernel
theorem d_En_allows_18 : decode b_En_allows 18 = .ok (.iconst 1, 1) := by decide +kernel
theorem d_En_allows_19 : decode b_En_allows 19 = .ok (.goto 4, 3) := by decide +kernel
theorem d_En_allows_22 : decode b_En_allows 22 = .ok (.iconst 0, 1) := by decide +kernel
theorem d_En_allows_23 : decode b_En_allows 23 = .ok (.istore 4, 2) := by decide +kernel
theorem d_En_allows_25 : decode b_En_allows 25 = .ok (.iload_n 2, 1) := by decide +kernel
theorem d_En_allows_26 : decode b_En_allows 26 = .ok (.ifCond .eq 6, 3) := by decide +kernel
theorem d_En_allows_29 : decode b_En_allows 29 = .ok (.iload 4, 2) := by decide +kernel
theorem d_En_allows_31 : decode b_En_allows 31 = .ok (.ireturn, 1) := by decide +kernel
theorem d_En_allows_32 : decode b_En_allows 32 = .ok (.iload 4, 2) := by decide +kernel
theorem d_En_allows_34 : decode b_En_allows 34 = .ok (.ifCond .eq 14, 3) := by decide +kernel
theorem d_En_allows_37 : decode b_En_allows 37 = .ok (.iload_n 3, 1) := by decide +kernel
theorem d_En_allows_38 : decode b_En_allows 38 = .ok (.ifCond .eq 14, 3) := by decide +kernel
theorem d_En_allows_41 : decode b_En_allows 41 = .ok (.aload_n 1, 1) := by decide +kernel
theorem d_En_allows_42 : decode b_En_allows 42 = .ok (.getstatic 15, 3) := by decide +kernel
theorem d_En_allows_45 : decode b_En_allows 45 = .ok (.if_acmp .eq 7, 3) := by decide +kernel
theorem d_En_allows_48 : decode b_En_allows 48 = .ok (.iconst 1, 1) := by decide +kernel
theorem d_En_allows_49 : decode b_En_allows 49 = .ok (.goto 4, 3) := by decide +kernel
theorem d_En_allows_52 : decode b_En_allows 52 = .ok (.iconst 0, 1) := by decide +kernel
theorem d_En_allows_53 : decode b_En_allows 53 = .ok (.ireturn, 1) := by decide +kernel
noncomputable def pr_En_allows : List (Nat × tw_Op) := [(0, tw_il 0), (1, tw_al 1), (2, tw_ge 0), (5, tw_bin (· &&& ·)), (6, tw_ifne 11), (9, tw_ic 0), (10, tw_rz), (11, tw_il 0), (12, tw_ic (16)), (14, tw_bin (· &&& ·)), (15, tw_ifeq 22), (18, tw_ic 1), (19, tw_jmp 23), (22, tw_ic 0), (23, tw_is 4), (25, tw_il 2), (26, tw_ifeq 32), (29, tw_il 4), (31, tw_rz), (32, tw_il 4), (34, tw_ifeq 48), (37, tw_il 3), (38, tw_ifeq 52), (41, tw_al 1), (42, tw_en 50), (45, tw_aeq 52), (48, tw_ic 1), (49, tw_jmp 53), (52, tw_ic 0), (53, tw_rz)]
set_option maxRecDepth 100000 in
set_option maxHeartbeats 4000000 in
theorem ok_En_allows {p : Program} {l : Launch} {e : Env} {s : State} {m : MethodId} {args : Array Value} {below : List Frame} {meth : Method} {c : Code} {E : tw_E} {D : va_G} {ρ : tw_R} (hC : tw_Cx p s m args meth c b_En_allows 5 (some .boolean) "TwinHost$Entry" E D) : tw_Ok p l e (tw_rmd 0) s m args below meth c 0 0 (MQ below (tw_Qc E D ρ) args s 0 0 (tw_A E)) 5 E D ρ pr_En_allows :=
  ⟨ts_iload_n hC d_En_allows_0 rfl,
   ts_aload_n hC d_En_allows_1 rfl,
   ts_ge (q0 := ("TwinHost$Access", "need", "I", [8, 2, 4])) hC (by decide) (by decide) rfl wd_683 d_En_allows_2,
   ts_iand hC d_En_allows_5,
   ts_ifne hC d_En_allows_6 (by decide),
   ts_iconst hC d_En_allows_9 (by decide),
   ts_zret hC rfl d_En_allows_10,
   ts_iload_n hC d_En_allows_11 rfl,
   ts_bipush hC d_En_allows_12 (by decide),
   ts_iand hC d_En_allows_14,
   ts_ifeq hC d_En_allows_15 (by decide),
   ts_iconst hC d_En_allows_18 (by decide),
   ts_goto hC d_En_allows_19 (by decide),
   ts_iconst hC d_En_allows_22 (by decide),
   ts_istore hC d_En_allows_23 (by decide),
   ts_iload_n hC d_En_allows_25 rfl,
   ts_ifeq hC d_En_allows_26 (by decide),
   ts_iload hC d_En_allows_29,
   ts_zret hC rfl d_En_allows_31,
   ts_iload hC d_En_allows_32,
   ts_ifeq hC d_En_allows_34 (by decide),
   ts_iload_n hC d_En_allows_37 rfl,
   ts_ifeq hC d_En_allows_38 (by decide),
   ts_aload_n hC d_En_allows_41 rfl,
   ts_getA (i := 0) hC (by decide) rfl wd_324 d_En_allows_42,
   ts_aeq hC d_En_allows_45 (by decide),
   ts_iconst hC d_En_allows_48 (by decide),
   ts_goto hC d_En_allows_49 (by decide),
   ts_iconst hC d_En_allows_52 (by decide),
   ts_zret hC rfl d_En_allows_53,
   trivial⟩
noncomputable def fn_En_allows : tw_Fn := tw_fl 4 5 32 pr_En_allows
theorem con_En_allows : tw_Con y_En_allows b_En_allows 5 (some .boolean) 0 fn_En_allows := tw_met (by decide +kernel) (tw_fl_len (n := 4) (by decide)) (fun p l e s m args below meth c E D vs σ ρ hC h => tw_sound (ok_En_allows hC) 32 pr_En_allows (ok_En_allows hC) _ _ _ (tw_fl_get h))

-- TwinHost$Entry.isBroken(I)Z: 13 instructions, depth 0, calls 
theorem d_En_isBroken_0 : decode b_En_isBroken 0 = .ok (.iload_n 0, 1) := by decide +kernel
theorem d_En_isBroken_1 : decode b_En_isBroken 1 = .ok (.iconst 1, 1) := by decide +kernel
theorem d_En_isBroken_2 : decode b_En_isBroken 2 = .ok (.iand, 1) := by decide +kernel
theorem d_En_isBroken_3 : decode b_En_isBroken 3 = .ok (.ifCond .eq 11, 3) := by decide +kernel
theorem d_En_isBroken_6 : decode b_En_isBroken 6 = .ok (.iload_n 0, 1) := by decide +kernel
theorem d_En_isBroken_7 : decode b_En_isBroken 7 = .ok (.bipush 6, 2) := by decide +kernel
theorem d_En_isBroken_9 : decode b_En_isBroken 9 = .ok (.iand, 1) := by decide +kernel
theorem d_En_isBroken_10 : decode b_En_isBroken 10 = .ok (.iconst 4, 1) := by decide +kernel
theorem d_En_isBroken_11 : decode b_En_isBroken 11 = .ok (.if_icmp .ne 7, 3) := by decide +kernel
theorem d_En_isBroken_14 : decode b_En_isBroken 14 = .ok (.iconst 1, 1) := by decide +kernel
theorem d_En_isBroken_15 : decode b_En_isBroken 15 = .ok (.goto 4, 3) := by decide +kernel
theorem d_En_isBroken_18 : decode b_En_isBroken 18 = .ok (.iconst 0, 1) := by decide +kernel
theorem d_En_isBroken_19 : decode b_En_isBroken 19 = .ok (.ireturn, 1) := by decide +kernel
noncomputable def pr_En_isBroken : List (Nat × tw_Op) := [(0, tw_il 0), (1, tw_ic 1), (2, tw_bin (· &&& ·)), (3, tw_ifeq 14), (6, tw_il 0), (7, tw_ic (6)), (9, tw_bin (· &&& ·)), (10, tw_ic 4), (11, tw_cne 18), (14, tw_ic 1), (15, tw_jmp 19), (18, tw_ic 0), (19, tw_rz)]
set_option maxRecDepth 100000 in
set_option maxHeartbeats 4000000 in
theorem ok_En_isBroken {p : Program} {l : Launch} {e : Env} {s : State} {m : MethodId} {args : Array Value} {below : List Frame} {meth : Method} {c : Code} {E : tw_E} {D : va_G} {ρ : tw_R} (hC : tw_Cx p s m args meth c b_En_isBroken 1 (some .boolean) "TwinHost$Entry" E D) : tw_Ok p l e (tw_rmd 0) s m args below meth c 0 0 (MQ below (tw_Qc E D ρ) args s 0 0 (tw_A E)) 1 E D ρ pr_En_isBroken :=
  ⟨ts_iload_n hC d_En_isBroken_0 rfl,
   ts_iconst hC d_En_isBroken_1 (by decide),
   ts_iand hC d_En_isBroken_2,
   ts_ifeq hC d_En_isBroken_3 (by decide),
   ts_iload_n hC d_En_isBroken_6 rfl,
   ts_bipush hC d_En_isBroken_7 (by decide),
   ts_iand hC d_En_isBroken_9,
   ts_iconst hC d_En_isBroken_10 (by decide),
   ts_cne hC d_En_isBroken_11 (by decide),
   ts_iconst hC d_En_isBroken_14 (by decide),
   ts_goto hC d_En_isBroken_15 (by decide),
   ts_iconst hC d_En_isBroken_18 (by decide),
   ts_zret hC rfl d_En_isBroken_19,
   trivial⟩
noncomputable def fn_En_isBroken : tw_Fn := tw_fl 1 1 15 pr_En_isBroken
theorem con_En_isBroken : tw_Con y_En_isBroken b_En_isBroken 1 (some .boolean) 0 fn_En_isBroken := tw_met (by decide +kernel) (tw_fl_len (n := 1) (by decide)) (fun p l e s m args below meth c E D vs σ ρ hC h => tw_sound (ok_En_isBroken hC) 15 pr_En_isBroken (ok_En_isBroken hC) _ _ _ (tw_fl_get h))

-- TwinHost$Entry.isLeaf(I)Z: 8 instructions, depth 0, calls 
theorem d_En_isLeaf_0 : decode b_En_isLeaf 0 = .ok (.iload_n 0, 1) := by decide +kernel
theorem d_En_isLeaf_1 : decode b_En_isLeaf 1 = .ok (.bipush 10, 2) := by decide +kernel
theorem d_En_isLeaf_3 : decode b_En_isLeaf 3 = .ok (.iand, 1) := by decide +kernel
theorem d_En_isLeaf_4 : decode b_En_isLeaf 4 = .ok (.ifCond .eq 7, 3) := by decide +kernel
theorem d_En_isLeaf_7 : decode b_En_isLeaf 7 = .ok (.iconst 1, 1) := by decide +kernel
theorem d_En_isLeaf_8 : decode b_En_isLeaf 8 = .ok (.goto 4, 3) := by decide +kernel
theorem d_En_isLeaf_11 : decode b_En_isLeaf 11 = .ok (.iconst 0, 1) := by decide +kernel
theorem d_En_isLeaf_12 : decode b_En_isLeaf 12 = .ok (.ireturn, 1) := by decide +kernel
noncomputable def pr_En_isLeaf : List (Nat × tw_Op) := [(0, tw_il 0), (1, tw_ic (10)), (3, tw_bin (· &&& ·)), (4, tw_ifeq 11), (7, tw_ic 1), (8, tw_jmp 12), (11, tw_ic 0), (12, tw_rz)]
set_option maxRecDepth 100000 in
set_option maxHeartbeats 4000000 in
theorem ok_En_isLeaf {p : Program} {l : Launch} {e : Env} {s : State} {m : MethodId} {args : Array Value} {below : List Frame} {meth : Method} {c : Code} {E : tw_E} {D : va_G} {ρ : tw_R} (hC : tw_Cx p s m args meth c b_En_isLeaf 1 (some .boolean) "TwinHost$Entry" E D) : tw_Ok p l e (tw_rmd 0) s m args below meth c 0 0 (MQ below (tw_Qc E D ρ) args s 0 0 (tw_A E)) 1 E D ρ pr_En_isLeaf :=
  ⟨ts_iload_n hC d_En_isLeaf_0 rfl,
   ts_bipush hC d_En_isLeaf_1 (by decide),
   ts_iand hC d_En_isLeaf_3,
   ts_ifeq hC d_En_isLeaf_4 (by decide),
   ts_iconst hC d_En_isLeaf_7 (by decide),
   ts_goto hC d_En_isLeaf_8 (by decide),
   ts_iconst hC d_En_isLeaf_11 (by decide),
   ts_zret hC rfl d_En_isLeaf_12,
   trivial⟩
noncomputable def fn_En_isLeaf : tw_Fn := tw_fl 1 1 10 pr_En_isLeaf
theorem con_En_isLeaf : tw_Con y_En_isLeaf b_En_isLeaf 1 (some .boolean) 0 fn_En_isLeaf := tw_met (by decide +kernel) (tw_fl_len (n := 1) (by decide)) (fun p l e s m args below meth c E D vs σ ρ hC h => tw_sound (ok_En_isLeaf hC) 10 pr_En_isLeaf (ok_En_isLeaf hC) _ _ _ (tw_fl_get h))

-- TwinHost$Entry.pageNumber(I)I: 6 instructions, depth 0, calls 
theorem d_En_pageNumber_0 : decode b_En_pageNumber 0 = .ok (.iload_n 0, 1) := by decide +kernel
theorem d_En_pageNumber_1 : decode b_En_pageNumber 1 = .ok (.bipush 8, 2) := by decide +kernel
theorem d_En_pageNumber_3 : decode b_En_pageNumber 3 = .ok (.ishr, 1) := by decide +kernel
theorem d_En_pageNumber_4 : decode b_En_pageNumber 4 = .ok (.bipush 15, 2) := by decide +kernel
theorem d_En_pageNumber_6 : decode b_En_pageNumber 6 = .ok (.iand, 1) := by decide +kernel
theorem d_En_pageNumber_7 : decode b_En_pageNumber 7 = .ok (.ireturn, 1) := by decide +kernel
noncomputable def pr_En_pageNumber : List (Nat × tw_Op) := [(0, tw_il 0), (1, tw_ic (8)), (3, tw_bin (fun x y => x >>> (y &&& 31))), (4, tw_ic (15)), (6, tw_bin (· &&& ·)), (7, tw_ri)]
set_option maxRecDepth 100000 in
set_option maxHeartbeats 4000000 in
theorem ok_En_pageNumber {p : Program} {l : Launch} {e : Env} {s : State} {m : MethodId} {args : Array Value} {below : List Frame} {meth : Method} {c : Code} {E : tw_E} {D : va_G} {ρ : tw_R} (hC : tw_Cx p s m args meth c b_En_pageNumber 1 (some .int) "TwinHost$Entry" E D) : tw_Ok p l e (tw_rmd 0) s m args below meth c 0 0 (MQ below (tw_Qc E D ρ) args s 0 0 (tw_A E)) 1 E D ρ pr_En_pageNumber :=
  ⟨ts_iload_n hC d_En_pageNumber_0 rfl,
   ts_bipush hC d_En_pageNumber_1 (by decide),
   ts_ishr hC d_En_pageNumber_3,
   ts_bipush hC d_En_pageNumber_4 (by decide),
   ts_iand hC d_En_pageNumber_6,
   ts_iret hC rfl d_En_pageNumber_7,
   trivial⟩
noncomputable def fn_En_pageNumber : tw_Fn := tw_fl 1 1 8 pr_En_pageNumber
theorem con_En_pageNumber : tw_Con y_En_pageNumber b_En_pageNumber 1 (some .int) 0 fn_En_pageNumber := tw_met (by decide +kernel) (tw_fl_len (n := 1) (by decide)) (fun p l e s m args below meth c E D vs σ ρ hC h => tw_sound (ok_En_pageNumber hC) 8 pr_En_pageNumber (ok_En_pageNumber hC) _ _ _ (tw_fl_get h))

-- TwinHost$Guest.changed(III)I: 14 instructions, depth 0, calls 
theorem d_Gu_changed_0 : decode b_Gu_changed 0 = .ok (.iload_n 0, 1) := by decide +kernel
theorem d_Gu_changed_1 : decode b_Gu_changed 1 = .ok (.lookupswitch 37 #[(20, 27), (21, 31)], 27) := by decide +kernel
theorem d_Gu_changed_28 : decode b_Gu_changed 28 = .ok (.iload_n 1, 1) := by decide +kernel
theorem d_Gu_changed_29 : decode b_Gu_changed 29 = .ok (.iload_n 2, 1) := by decide +kernel
theorem d_Gu_changed_30 : decode b_Gu_changed 30 = .ok (.ior, 1) := by decide +kernel
theorem d_Gu_changed_31 : decode b_Gu_changed 31 = .ok (.ireturn, 1) := by decide +kernel
theorem d_Gu_changed_32 : decode b_Gu_changed 32 = .ok (.iload_n 1, 1) := by decide +kernel
theorem d_Gu_changed_33 : decode b_Gu_changed 33 = .ok (.iload_n 2, 1) := by decide +kernel
theorem d_Gu_changed_34 : decode b_Gu_changed 34 = .ok (.iconst (-1), 1) := by decide +kernel
theorem d_Gu_changed_35 : decode b_Gu_changed 35 = .ok (.ixor, 1) := by decide +kernel
theorem d_Gu_changed_36 : decode b_Gu_changed 36 = .ok (.iand, 1) := by decide +kernel
theorem d_Gu_changed_37 : decode b_Gu_changed 37 = .ok (.ireturn, 1) := by decide +kernel
theorem d_Gu_changed_38 : decode b_Gu_changed 38 = .ok (.iload_n 2, 1) := by decide +kernel
theorem d_Gu_changed_39 : decode b_Gu_changed 39 = .ok (.ireturn, 1) := by decide +kernel
noncomputable def pr_Gu_changed : List (Nat × tw_Op) := [(0, tw_il 0), (1, tw_sw [(20, 28), (21, 32)] 38), (28, tw_il 1), (29, tw_il 2), (30, tw_bin (· ||| ·)), (31, tw_ri), (32, tw_il 1), (33, tw_il 2), (34, tw_ic (-1)), (35, tw_bin (· ^^^ ·)), (36, tw_bin (· &&& ·)), (37, tw_ri), (38, tw_il 2), (39, tw_ri)]
set_option maxRecDepth 100000 in
set_option maxHeartbeats 4000000 in
theorem ok_Gu_changed {p : Program} {l : Launch} {e : Env} {s : State} {m : MethodId} {args : Array Value} {below : List Frame} {meth : Method} {c : Code} {E : tw_E} {D : va_G} {ρ : tw_R} (hC : tw_Cx p s m args meth c b_Gu_changed 3 (some .int) "TwinHost$Guest" E D) : tw_Ok p l e (tw_rmd 0) s m args below meth c 0 0 (MQ below (tw_Qc E D ρ) args s 0 0 (tw_A E)) 3 E D ρ pr_Gu_changed :=
  ⟨ts_iload_n hC d_Gu_changed_0 rfl,
   ts_lookup hC _ d_Gu_changed_1 (by decide +kernel) (by decide) rfl (by decide +kernel),
   ts_iload_n hC d_Gu_changed_28 rfl,
   ts_iload_n hC d_Gu_changed_29 rfl,
   ts_ior hC d_Gu_changed_30,
   ts_iret hC rfl d_Gu_changed_31,
   ts_iload_n hC d_Gu_changed_32 rfl,
   ts_iload_n hC d_Gu_changed_33 rfl,
   ts_iconst hC d_Gu_changed_34 (by decide),
   ts_ixor hC d_Gu_changed_35,
   ts_iand hC d_Gu_changed_36,
   ts_iret hC rfl d_Gu_changed_37,
   ts_iload_n hC d_Gu_changed_38 rfl,
   ts_iret hC rfl d_Gu_changed_39,
   trivial⟩
noncomputable def fn_Gu_changed : tw_Fn := tw_fl 3 3 16 pr_Gu_changed
theorem con_Gu_changed : tw_Con y_Gu_changed b_Gu_changed 3 (some .int) 0 fn_Gu_changed := tw_met (by decide +kernel) (tw_fl_len (n := 3) (by decide)) (fun p l e s m args below meth c E D vs σ ρ hC h => tw_sound (ok_Gu_changed hC) 16 pr_Gu_changed (ok_Gu_changed hC) _ _ _ (tw_fl_get h))

-- TwinHost$Guest.compute(IIII)I: 49 instructions, depth 0, calls 
theorem d_Gu_compute_0 : decode b_Gu_compute 0 = .ok (.iload_n 0, 1) := by decide +kernel
theorem d_Gu_compute_1 : decode b_Gu_compute 1 = .ok (.tableswitch 100 0 8 #[51, 55, 59, 63, 67, 71, 75, 86, 93], 51) := by decide +kernel
theorem d_Gu_compute_52 : decode b_Gu_compute 52 = .ok (.iload_n 1, 1) := by decide +kernel
theorem d_Gu_compute_53 : decode b_Gu_compute 53 = .ok (.iload_n 3, 1) := by decide +kernel
theorem d_Gu_compute_54 : decode b_Gu_compute 54 = .ok (.iadd, 1) := by decide +kernel
theorem d_Gu_compute_55 : decode b_Gu_compute 55 = .ok (.ireturn, 1) := by decide +kernel
theorem d_Gu_compute_56 : decode b_Gu_compute 56 = .ok (.iload_n 1, 1) := by decide +kernel
theorem d_Gu_compute_57 : decode b_Gu_compute 57 = .ok (.iload_n 2, 1) := by decide +kernel
theorem d_Gu_compute_58 : decode b_Gu_compute 58 = .ok (.iadd, 1) := by decide +kernel
theorem d_Gu_compute_59 : decode b_Gu_compute 59 = .ok (.ireturn, 1) := by decide +kernel
theorem d_Gu_compute_60 : decode b_Gu_compute 60 = .ok (.iload_n 1, 1) := by decide +kernel
theorem d_Gu_compute_61 : decode b_Gu_compute 61 = .ok (.iload_n 2, 1) := by decide +kernel
theorem d_Gu_compute_62 : decode b_Gu_compute 62 = .ok (.isub, 1) := by decide +kernel
theorem d_Gu_compute_63 : decode b_Gu_compute 63 = .ok (.ireturn, 1) := by decide +kernel
theorem d_Gu_compute_64 : decode b_Gu_compute 64 = .ok (.iload_n 1, 1) := by decide +kernel
theorem d_Gu_compute_65 : decode b_Gu_compute 65 = .ok (.iload_n 2, 1) := by decide +kernel
theorem d_Gu_compute_66 : decode b_Gu_compute 66 = .ok (.iand, 1) := by decide +kernel
theorem d_Gu_compute_67 : decode b_Gu_compute 67 = .ok (.ireturn, 1) := by decide +kernel
theorem d_Gu_compute_68 : decode b_Gu_compute 68 = .ok (.iload_n 1, 1) := by decide +kernel
theorem d_Gu_compute_69 : decode b_Gu_compute 69 = .ok (.iload_n 2, 1) := by decide +kernel
theorem d_Gu_compute_70 : decode b_Gu_compute 70 = .ok (.ior, 1) := by decide +kernel
theorem d_Gu_compute_71 : decode b_Gu_compute 71 = .ok (.ireturn, 1) := by decide +kernel
theorem d_Gu_compute_72 : decode b_Gu_compute 72 = .ok (.iload_n 1, 1) := by decide +kernel
theorem d_Gu_compute_73 : decode b_Gu_compute 73 = .ok (.iload_n 2, 1) := by decide +kernel
theorem d_Gu_compute_74 : decode b_Gu_compute 74 = .ok (.ixor, 1) := by decide +kernel
theorem d_Gu_compute_75 : decode b_Gu_compute 75 = .ok (.ireturn, 1) := by decide +kernel
theorem d_Gu_compute_76 : decode b_Gu_compute 76 = .ok (.iload_n 1, 1) := by decide +kernel
theorem d_Gu_compute_77 : decode b_Gu_compute 77 = .ok (.iload_n 2, 1) := by decide +kernel
theorem d_Gu_compute_78 : decode b_Gu_compute 78 = .ok (.if_icmp .ge 7, 3) := by decide +kernel
theorem d_Gu_compute_81 : decode b_Gu_compute 81 = .ok (.iconst 1, 1) := by decide +kernel
theorem d_Gu_compute_82 : decode b_Gu_compute 82 = .ok (.goto 4, 3) := by decide +kernel
theorem d_Gu_compute_85 : decode b_Gu_compute 85 = .ok (.iconst 0, 1) := by decide +kernel
theorem d_Gu_compute_86 : decode b_Gu_compute 86 = .ok (.ireturn, 1) := by decide +kernel
theorem d_Gu_compute_87 : decode b_Gu_compute 87 = .ok (.iload_n 1, 1) := by decide +kernel
theorem d_Gu_compute_88 : decode b_Gu_compute 88 = .ok (.iload_n 2, 1) := by decide +kernel
theorem d_Gu_compute_89 : decode b_Gu_compute 89 = .ok (.bipush 31, 2) := by decide +kernel
theorem d_Gu_compute_91 : decode b_Gu_compute 91 = .ok (.iand, 1) := by decide +kernel
theorem d_Gu_compute_92 : decode b_Gu_compute 92 = .ok (.ishl, 1) := by decide +kernel
theorem d_Gu_compute_93 : decode b_Gu_compute 93 = .ok (.ireturn, 1) := by decide +kernel
theorem d_Gu_compute_94 : decode b_Gu_compute 94 = .ok (.iload_n 1, 1) := by decide +kernel
theorem d_Gu_compute_95 : decode b_Gu_compute 95 = .ok (.iload_n 2, 1) := by decide +kernel
theorem d_Gu_compute_96 : decode b_Gu_compute 96 = .ok (.bipush 31, 2) := by decide +kernel
theorem d_Gu_compute_98 : decode b_Gu_compute 98 = .ok (.iand, 1) := by decide +kernel
theorem d_Gu_compute_99 : decode b_Gu_compute 99 = .ok (.ishr, 1) := by decide +kernel
theorem d_Gu_compute_100 : decode b_Gu_compute 100 = .ok (.ireturn, 1) := by decide +kernel
theorem d_Gu_compute_101 : decode b_Gu_compute 101 = .ok (.iload_n 3, 1) := by decide +kernel
theorem d_Gu_compute_102 : decode b_Gu_compute 102 = .ok (.bipush 16, 2) := by decide +kernel
theorem d_Gu_compute_104 : decode b_Gu_compute 104 = .ok (.ishl, 1) := by decide +kernel
theorem d_Gu_compute_105 : decode b_Gu_compute 105 = .ok (.ireturn, 1) := by decide +kernel
noncomputable def pr_Gu_compute : List (Nat × tw_Op) := [(0, tw_il 0), (1, tw_sw [(0, 52), (1, 56), (2, 60), (3, 64), (4, 68), (5, 72), (6, 76), (7, 87), (8, 94)] 101), (52, tw_il 1), (53, tw_il 3), (54, tw_bin (· + ·)), (55, tw_ri), (56, tw_il 1), (57, tw_il 2), (58, tw_bin (· + ·)), (59, tw_ri), (60, tw_il 1), (61, tw_il 2), (62, tw_bin (· - ·)), (63, tw_ri), (64, tw_il 1), (65, tw_il 2), (66, tw_bin (· &&& ·)), (67, tw_ri), (68, tw_il 1), (69, tw_il 2), (70, tw_bin (· ||| ·)), (71, tw_ri), (72, tw_il 1), (73, tw_il 2), (74, tw_bin (· ^^^ ·)), (75, tw_ri), (76, tw_il 1), (77, tw_il 2), (78, tw_cge 85), (81, tw_ic 1), (82, tw_jmp 86), (85, tw_ic 0), (86, tw_ri), (87, tw_il 1), (88, tw_il 2), (89, tw_ic (31)), (91, tw_bin (· &&& ·)), (92, tw_bin (fun x y => x <<< (y &&& 31))), (93, tw_ri), (94, tw_il 1), (95, tw_il 2), (96, tw_ic (31)), (98, tw_bin (· &&& ·)), (99, tw_bin (fun x y => x >>> (y &&& 31))), (100, tw_ri), (101, tw_il 3), (102, tw_ic (16)), (104, tw_bin (fun x y => x <<< (y &&& 31))), (105, tw_ri)]
set_option maxRecDepth 100000 in
set_option maxHeartbeats 4000000 in
theorem ok_Gu_compute {p : Program} {l : Launch} {e : Env} {s : State} {m : MethodId} {args : Array Value} {below : List Frame} {meth : Method} {c : Code} {E : tw_E} {D : va_G} {ρ : tw_R} (hC : tw_Cx p s m args meth c b_Gu_compute 4 (some .int) "TwinHost$Guest" E D) : tw_Ok p l e (tw_rmd 0) s m args below meth c 0 0 (MQ below (tw_Qc E D ρ) args s 0 0 (tw_A E)) 4 E D ρ pr_Gu_compute :=
  ⟨ts_iload_n hC d_Gu_compute_0 rfl,
   ts_table (n := 8) hC _ d_Gu_compute_1 (by decide) (by decide) (by decide +kernel) (by decide +kernel),
   ts_iload_n hC d_Gu_compute_52 rfl,
   ts_iload_n hC d_Gu_compute_53 rfl,
   ts_iadd hC d_Gu_compute_54,
   ts_iret hC rfl d_Gu_compute_55,
   ts_iload_n hC d_Gu_compute_56 rfl,
   ts_iload_n hC d_Gu_compute_57 rfl,
   ts_iadd hC d_Gu_compute_58,
   ts_iret hC rfl d_Gu_compute_59,
   ts_iload_n hC d_Gu_compute_60 rfl,
   ts_iload_n hC d_Gu_compute_61 rfl,
   ts_isub hC d_Gu_compute_62,
   ts_iret hC rfl d_Gu_compute_63,
   ts_iload_n hC d_Gu_compute_64 rfl,
   ts_iload_n hC d_Gu_compute_65 rfl,
   ts_iand hC d_Gu_compute_66,
   ts_iret hC rfl d_Gu_compute_67,
   ts_iload_n hC d_Gu_compute_68 rfl,
   ts_iload_n hC d_Gu_compute_69 rfl,
   ts_ior hC d_Gu_compute_70,
   ts_iret hC rfl d_Gu_compute_71,
   ts_iload_n hC d_Gu_compute_72 rfl,
   ts_iload_n hC d_Gu_compute_73 rfl,
   ts_ixor hC d_Gu_compute_74,
   ts_iret hC rfl d_Gu_compute_75,
   ts_iload_n hC d_Gu_compute_76 rfl,
   ts_iload_n hC d_Gu_compute_77 rfl,
   ts_cge hC d_Gu_compute_78 (by decide),
   ts_iconst hC d_Gu_compute_81 (by decide),
   ts_goto hC d_Gu_compute_82 (by decide),
   ts_iconst hC d_Gu_compute_85 (by decide),
   ts_iret hC rfl d_Gu_compute_86,
   ts_iload_n hC d_Gu_compute_87 rfl,
   ts_iload_n hC d_Gu_compute_88 rfl,
   ts_bipush hC d_Gu_compute_89 (by decide),
   ts_iand hC d_Gu_compute_91,
   ts_ishl hC d_Gu_compute_92,
   ts_iret hC rfl d_Gu_compute_93,
   ts_iload_n hC d_Gu_compute_94 rfl,
   ts_iload_n hC d_Gu_compute_95 rfl,
   ts_bipush hC d_Gu_compute_96 (by decide),
   ts_iand hC d_Gu_compute_98,
   ts_ishr hC d_Gu_compute_99,
   ts_iret hC rfl d_Gu_compute_100,
   ts_iload_n hC d_Gu_compute_101 rfl,
   ts_bipush hC d_Gu_compute_102 (by decide),
   ts_ishl hC d_Gu_compute_104,
   ts_iret hC rfl d_Gu_compute_105,
   trivial⟩
noncomputable def fn_Gu_compute : tw_Fn := tw_fl 4 4 51 pr_Gu_compute
theorem con_Gu_compute : tw_Con y_Gu_compute b_Gu_compute 4 (some .int) 0 fn_Gu_compute := tw_met (by decide +kernel) (tw_fl_len (n := 4) (by decide)) (fun p l e s m args below meth c E D vs σ ρ hC h => tw_sound (ok_Gu_compute hC) 51 pr_Gu_compute (ok_Gu_compute hC) _ _ _ (tw_fl_get h))

-- TwinHost$Guest.retireAt(I)LTwinHost$Outcome;: 14 instructions, depth 0, calls 
theorem d_Gu_retireAt_0 : decode b_Gu_retireAt 0 = .ok (.aload_n 0, 1) := by decide +kernel
theorem d_Gu_retireAt_1 : decode b_Gu_retireAt 1 = .ok (.getfield 26, 3) := by decide +kernel
theorem d_Gu_retireAt_4 : decode b_Gu_retireAt 4 = .ok (.getfield 123, 3) := by decide +kernel
theorem d_Gu_retireAt_7 : decode b_Gu_retireAt 7 = .ok (.bipush 10, 2) := by decide +kernel
theorem d_Gu_retireAt_9 : decode b_Gu_retireAt 9 = .ok (.dup2, 1) := by decide +kernel
theorem d_Gu_retireAt_10 : decode b_Gu_retireAt 10 = .ok (.iaload, 1) := by decide +kernel
theorem d_Gu_retireAt_11 : decode b_Gu_retireAt 11 = .ok (.iconst 1, 1) := by decide +kernel
theorem d_Gu_retireAt_12 : decode b_Gu_retireAt 12 = .ok (.iadd, 1) := by decide +kernel
theorem d_Gu_retireAt_13 : decode b_Gu_retireAt 13 = .ok (.iastore, 1) := by decide +kernel
theorem d_Gu_retireAt_14 : decode b_Gu_retireAt 14 = .ok (.aload_n 0, 1) := by decide +kernel
theorem d_Gu_retireAt_15 : decode b_Gu_retireAt 15 = .ok (.iload_n 1, 1) := by decide +kernel
theorem d_Gu_retireAt_16 : decode b_Gu_retireAt 16 = .ok (.putfield 62, 3) := by decide +kernel
theorem d_Gu_retireAt_19 : decode b_Gu_retireAt 19 = .ok (.getstatic 155, 3) := by decide +kernel
theorem d_Gu_retireAt_22 : decode b_Gu_retireAt 22 = .ok (.areturn, 1) := by decide +kernel
noncomputable def pr_Gu_retireAt : List (Nat × tw_Op) := [(0, tw_al 0), (1, tw_gr 0 4), (4, tw_gr 4 5), (7, tw_ic (10)), (9, tw_d2), (10, tw_ia), (11, tw_ic 1), (12, tw_bin (· + ·)), (13, tw_ias 0 22), (14, tw_al 0), (15, tw_il 1), (16, tw_pi 0 6), (19, tw_en 60), (22, tw_ra)]
set_option maxRecDepth 100000 in
set_option maxHeartbeats 4000000 in
theorem ok_Gu_retireAt {p : Program} {l : Launch} {e : Env} {s : State} {m : MethodId} {args : Array Value} {below : List Frame} {meth : Method} {c : Code} {E : tw_E} {D : va_G} {ρ : tw_R} (hC : tw_Cx p s m args meth c b_Gu_retireAt 2 (some (.object "TwinHost$Outcome")) "TwinHost$Guest" E D) : tw_Ok p l e (tw_rmd 0) s m args below meth c 0 0 (MQ below (tw_Qc E D ρ) args s 0 0 (tw_A E)) 2 E D ρ pr_Gu_retireAt :=
  ⟨ts_aload_n hC d_Gu_retireAt_0 rfl,
   ts_gr (j := 3) (C := R_Gu) (T := T_Gu) hC rfl rfl rfl (by decide) u_Gu wd_138 rfl d_Gu_retireAt_1,
   ts_gr (j := 0) (C := R_Co) (T := T_Co) hC rfl rfl rfl (by decide) u_Co wd_76 rfl d_Gu_retireAt_4,
   ts_bipush hC d_Gu_retireAt_7 (by decide),
   ts_dup2 hC d_Gu_retireAt_9,
   ts_iaload hC d_Gu_retireAt_10,
   ts_iconst hC d_Gu_retireAt_11 (by decide),
   ts_iadd hC d_Gu_retireAt_12,
   ts_iastore hC d_Gu_retireAt_13,
   ts_aload_n hC d_Gu_retireAt_14 rfl,
   ts_iload_n hC d_Gu_retireAt_15 rfl,
   ts_pi (j := 6) (C := R_Gu) (T := T_Gu) hC rfl rfl rfl (by decide) u_Gu wd_143 rfl t_Gu_ok n_Gu rfl (by decide +kernel) d_Gu_retireAt_16,
   ts_getO (i := 0) hC (by decide) rfl wd_369 d_Gu_retireAt_19,
   ts_aret hC rfl d_Gu_retireAt_22,
   trivial⟩
noncomputable def fn_Gu_retireAt : tw_Fn := tw_fl 2 2 16 pr_Gu_retireAt
theorem con_Gu_retireAt : tw_Con y_Gu_retireAt b_Gu_retireAt 2 (some (.object "TwinHost$Outcome")) 0 fn_Gu_retireAt := tw_met (by decide +kernel) (tw_fl_len (n := 2) (by decide)) (fun p l e s m args below meth c E D vs σ ρ hC h => tw_sound (ok_Gu_retireAt hC) 16 pr_Gu_retireAt (ok_Gu_retireAt hC) _ _ _ (tw_fl_get h))

-- TwinHost$Guest.setRegister(II)V: 8 instructions, depth 0, calls 
theorem d_Gu_setRegister_0 : decode b_Gu_setRegister 0 = .ok (.iload_n 1, 1) := by decide +kernel
theorem d_Gu_setRegister_1 : decode b_Gu_setRegister 1 = .ok (.ifCond .eq 10, 3) := by decide +kernel
theorem d_Gu_setRegister_4 : decode b_Gu_setRegister 4 = .ok (.aload_n 0, 1) := by decide +kernel
theorem d_Gu_setRegister_5 : decode b_Gu_setRegister 5 = .ok (.getfield 15, 3) := by decide +kernel
theorem d_Gu_setRegister_8 : decode b_Gu_setRegister 8 = .ok (.iload_n 1, 1) := by decide +kernel
theorem d_Gu_setRegister_9 : decode b_Gu_setRegister 9 = .ok (.iload_n 2, 1) := by decide +kernel
theorem d_Gu_setRegister_10 : decode b_Gu_setRegister 10 = .ok (.iastore, 1) := by decide +kernel
theorem d_Gu_setRegister_11 : decode b_Gu_setRegister 11 = .ok (.return_, 1) := by decide +kernel
noncomputable def pr_Gu_setRegister : List (Nat × tw_Op) := [(0, tw_il 1), (1, tw_ifeq 11), (4, tw_al 0), (5, tw_gr 0 2), (8, tw_il 1), (9, tw_il 2), (10, tw_ias 0 22), (11, tw_r0)]
set_option maxRecDepth 100000 in
set_option maxHeartbeats 4000000 in
theorem ok_Gu_setRegister {p : Program} {l : Launch} {e : Env} {s : State} {m : MethodId} {args : Array Value} {below : List Frame} {meth : Method} {c : Code} {E : tw_E} {D : va_G} {ρ : tw_R} (hC : tw_Cx p s m args meth c b_Gu_setRegister 3 none "TwinHost$Guest" E D) : tw_Ok p l e (tw_rmd 0) s m args below meth c 0 0 (MQ below (tw_Qc E D ρ) args s 0 0 (tw_A E)) 3 E D ρ pr_Gu_setRegister :=
  ⟨ts_iload_n hC d_Gu_setRegister_0 rfl,
   ts_ifeq hC d_Gu_setRegister_1 (by decide),
   ts_aload_n hC d_Gu_setRegister_4 rfl,
   ts_gr (j := 1) (C := R_Gu) (T := T_Gu) hC rfl rfl rfl (by decide) u_Gu wd_134 rfl d_Gu_setRegister_5,
   ts_iload_n hC d_Gu_setRegister_8 rfl,
   ts_iload_n hC d_Gu_setRegister_9 rfl,
   ts_iastore hC d_Gu_setRegister_10,
   ts_vret hC rfl d_Gu_setRegister_11,
   trivial⟩
noncomputable def fn_Gu_setRegister : tw_Fn := tw_fl 3 3 10 pr_Gu_setRegister
theorem con_Gu_setRegister : tw_Con y_Gu_setRegister b_Gu_setRegister 3 none 0 fn_Gu_setRegister := tw_met (by decide +kernel) (tw_fl_len (n := 3) (by decide)) (fun p l e s m args below meth c E D vs σ ρ hC h => tw_sound (ok_Gu_setRegister hC) 10 pr_Gu_setRegister (ok_Gu_setRegister hC) _ _ _ (tw_fl_get h))

-- TwinHost$Inputs.append(II)Z: 26 instructions, depth 0, calls 
theorem d_In_append_0 : decode b_In_append 0 = .ok (.aload_n 0, 1) := by decide +kernel
theorem d_In_append_1 : decode b_In_append 1 = .ok (.getfield 16, 3) := by decide +kernel
theorem d_In_append_4 : decode b_In_append 4 = .ok (.bipush 6, 2) := by decide +kernel
theorem d_In_append_6 : decode b_In_append 6 = .ok (.if_icmp .lt 5, 3) := by decide +kernel
theorem d_In_append_9 : decode b_In_append 9 = .ok (.iconst 0, 1) := by decide +kernel
theorem d_In_append_10 : decode b_In_append 10 = .ok (.ireturn, 1) := by decide +kernel
theorem d_In_append_11 : decode b_In_append 11 = .ok (.aload_n 0, 1) := by decide +kernel
theorem d_In_append_12 : decode b_In_append 12 = .ok (.getfield 9, 3) := by decide +kernel
theorem d_In_append_15 : decode b_In_append 15 = .ok (.aload_n 0, 1) := by decide +kernel
theorem d_In_append_16 : decode b_In_append 16 = .ok (.getfield 16, 3) := by decide +kernel
theorem d_In_append_19 : decode b_In_append 19 = .ok (.iload_n 1, 1) := by decide +kernel
theorem d_In_append_20 : decode b_In_append 20 = .ok (.iastore, 1) := by decide +kernel
theorem d_In_append_21 : decode b_In_append 21 = .ok (.aload_n 0, 1) := by decide +kernel
theorem d_In_append_22 : decode b_In_append 22 = .ok (.getfield 13, 3) := by decide +kernel
theorem d_In_append_25 : decode b_In_append 25 = .ok (.aload_n 0, 1) := by decide +kernel
theorem d_In_append_26 : decode b_In_append 26 = .ok (.getfield 16, 3) := by decide +kernel
theorem d_In_append_29 : decode b_In_append 29 = .ok (.iload_n 2, 1) := by decide +kernel
theorem d_In_append_30 : decode b_In_append 30 = .ok (.iastore, 1) := by decide +kernel
theorem d_In_append_31 : decode b_In_append 31 = .ok (.aload_n 0, 1) := by decide +kernel
theorem d_In_append_32 : decode b_In_append 32 = .ok (.dup, 1) := by decide +kernel
theorem d_In_append_33 : decode b_In_append 33 = .ok (.getfield 16, 3) := by decide +kernel
theorem d_In_append_36 : decode b_In_append 36 = .ok (.iconst 1, 1) := by decide +kernel
theorem d_In_append_37 : decode b_In_append 37 = .ok (.iadd, 1) := by decide +kernel
theorem d_In_append_38 : decode b_In_append 38 = .ok (.putfield 16, 3) := by decide +kernel
theorem d_In_append_41 : decode b_In_append 41 = .ok (.iconst 1, 1) := by decide +kernel
theorem d_In_append_42 : decode b_In_append 42 = .ok (.ireturn, 1) := by decide +kernel
noncomputable def pr_In_append : List (Nat × tw_Op) := [(0, tw_al 0), (1, tw_gi 6 2), (4, tw_ic (6)), (6, tw_clt 11), (9, tw_ic 0), (10, tw_rz), (11, tw_al 0), (12, tw_gr 6 7), (15, tw_al 0), (16, tw_gi 6 2), (19, tw_il 1), (20, tw_ias 0 22), (21, tw_al 0), (22, tw_gr 6 8), (25, tw_al 0), (26, tw_gi 6 2), (29, tw_il 2), (30, tw_ias 0 22), (31, tw_al 0), (32, tw_dup), (33, tw_gi 6 2), (36, tw_ic 1), (37, tw_bin (· + ·)), (38, tw_pi 6 2), (41, tw_ic 1), (42, tw_rz)]
set_option maxRecDepth 100000 in
set_option maxHeartbeats 4000000 in
theorem ok_In_append {p : Program} {l : Launch} {e : Env} {s : State} {m : MethodId} {args : Array Value} {below : List Frame} {meth : Method} {c : Code} {E : tw_E} {D : va_G} {ρ : tw_R} (hC : tw_Cx p s m args meth c b_In_append 3 (some .boolean) "TwinHost$Inputs" E D) : tw_Ok p l e (tw_rmd 0) s m args below meth c 0 0 (MQ below (tw_Qc E D ρ) args s 0 0 (tw_A E)) 3 E D ρ pr_In_append :=
  ⟨ts_aload_n hC d_In_append_0 rfl,
   ts_gi (j := 2) (C := R_In) (T := T_In) hC rfl rfl rfl (by decide) u_In wd_65 rfl d_In_append_1,
   ts_bipush hC d_In_append_4 (by decide),
   ts_clt hC d_In_append_6 (by decide),
   ts_iconst hC d_In_append_9 (by decide),
   ts_zret hC rfl d_In_append_10,
   ts_aload_n hC d_In_append_11 rfl,
   ts_gr (j := 0) (C := R_In) (T := T_In) hC rfl rfl rfl (by decide) u_In wd_62 rfl d_In_append_12,
   ts_aload_n hC d_In_append_15 rfl,
   ts_gi (j := 2) (C := R_In) (T := T_In) hC rfl rfl rfl (by decide) u_In wd_65 rfl d_In_append_16,
   ts_iload_n hC d_In_append_19 rfl,
   ts_iastore hC d_In_append_20,
   ts_aload_n hC d_In_append_21 rfl,
   ts_gr (j := 1) (C := R_In) (T := T_In) hC rfl rfl rfl (by decide) u_In wd_63 rfl d_In_append_22,
   ts_aload_n hC d_In_append_25 rfl,
   ts_gi (j := 2) (C := R_In) (T := T_In) hC rfl rfl rfl (by decide) u_In wd_65 rfl d_In_append_26,
   ts_iload_n hC d_In_append_29 rfl,
   ts_iastore hC d_In_append_30,
   ts_aload_n hC d_In_append_31 rfl,
   ts_dup hC d_In_append_32,
   ts_gi (j := 2) (C := R_In) (T := T_In) hC rfl rfl rfl (by decide) u_In wd_65 rfl d_In_append_33,
   ts_iconst hC d_In_append_36 (by decide),
   ts_iadd hC d_In_append_37,
   ts_pi (j := 2) (C := R_In) (T := T_In) hC rfl rfl rfl (by decide) u_In wd_65 rfl t_In_ok n_In rfl (by decide +kernel) d_In_append_38,
   ts_iconst hC d_In_append_41 (by decide),
   ts_zret hC rfl d_In_append_42,
   trivial⟩
noncomputable def fn_In_append : tw_Fn := tw_fl 3 3 28 pr_In_append
theorem con_In_append : tw_Con y_In_append b_In_append 3 (some .boolean) 0 fn_In_append := tw_met (by decide +kernel) (tw_fl_len (n := 3) (by decide)) (fun p l e s m args below meth c E D vs σ ρ hC h => tw_sound (ok_In_append hC) 28 pr_In_append (ok_In_append hC) _ _ _ (tw_fl_get h))

-- TwinHost$Inputs.isThere(I)Z: 13 instructions, depth 0, calls 
theorem d_In_isThere_0 : decode b_In_isThere 0 = .ok (.aload_n 0, 1) := by decide +kernel
theorem d_In_isThere_1 : decode b_In_isThere 1 = .ok (.getfield 16, 3) := by decide +kernel
theorem d_In_isThere_4 : decode b_In_isThere 4 = .ok (.ifCond .le 17, 3) := by decide +kernel
theorem d_In_isThere_7 : decode b_In_isThere 7 = .ok (.aload_n 0, 1) := by decide +kernel
theorem d_In_isThere_8 : decode b_In_isThere 8 = .ok (.getfield 9, 3) := by decide +kernel
theorem d_In_isThere_11 : decode b_In_isThere 11 = .ok (.iconst 0, 1) := by decide +kernel
theorem d_In_isThere_12 : decode b_In_isThere 12 = .ok (.iaload, 1) := by decide +kernel
theorem d_In_isThere_13 : decode b_In_isThere 13 = .ok (.iload_n 1, 1) := by decide +kernel
theorem d_In_isThere_14 : decode b_In_isThere 14 = .ok (.if_icmp .gt 7, 3) := by decide +kernel
theorem d_In_isThere_17 : decode b_In_isThere 17 = .ok (.iconst 1, 1) := by decide +kernel
theorem d_In_isThere_18 : decode b_In_isThere 18 = .ok (.goto 4, 3) := by decide +kernel
theorem d_In_isThere_21 : decode b_In_isThere 21 = .ok (.iconst 0, 1) := by decide +kernel
theorem d_In_isThere_22 : decode b_In_isThere 22 = .ok (.ireturn, 1) := by decide +kernel
noncomputable def pr_In_isThere : List (Nat × tw_Op) := [(0, tw_al 0), (1, tw_gi 6 2), (4, tw_ifle 21), (7, tw_al 0), (8, tw_gr 6 7), (11, tw_ic 0), (12, tw_ia), (13, tw_il 1), (14, tw_cgt 21), (17, tw_ic 1), (18, tw_jmp 22), (21, tw_ic 0), (22, tw_rz)]
set_option maxRecDepth 100000 in
set_option maxHeartbeats 4000000 in
theorem ok_In_isThere {p : Program} {l : Launch} {e : Env} {s : State} {m : MethodId} {args : Array Value} {below : List Frame} {meth : Method} {c : Code} {E : tw_E} {D : va_G} {ρ : tw_R} (hC : tw_Cx p s m args meth c b_In_isThere 2 (some .boolean) "TwinHost$Inputs" E D) : tw_Ok p l e (tw_rmd 0) s m args below meth c 0 0 (MQ below (tw_Qc E D ρ) args s 0 0 (tw_A E)) 2 E D ρ pr_In_isThere :=
  ⟨ts_aload_n hC d_In_isThere_0 rfl,
   ts_gi (j := 2) (C := R_In) (T := T_In) hC rfl rfl rfl (by decide) u_In wd_65 rfl d_In_isThere_1,
   ts_ifle hC d_In_isThere_4 (by decide),
   ts_aload_n hC d_In_isThere_7 rfl,
   ts_gr (j := 0) (C := R_In) (T := T_In) hC rfl rfl rfl (by decide) u_In wd_62 rfl d_In_isThere_8,
   ts_iconst hC d_In_isThere_11 (by decide),
   ts_iaload hC d_In_isThere_12,
   ts_iload_n hC d_In_isThere_13 rfl,
   ts_cgt hC d_In_isThere_14 (by decide),
   ts_iconst hC d_In_isThere_17 (by decide),
   ts_goto hC d_In_isThere_18 (by decide),
   ts_iconst hC d_In_isThere_21 (by decide),
   ts_zret hC rfl d_In_isThere_22,
   trivial⟩
noncomputable def fn_In_isThere : tw_Fn := tw_fl 2 2 15 pr_In_isThere
theorem con_In_isThere : tw_Con y_In_isThere b_In_isThere 2 (some .boolean) 0 fn_In_isThere := tw_met (by decide +kernel) (tw_fl_len (n := 2) (by decide)) (fun p l e s m args below meth c E D vs σ ρ hC h => tw_sound (ok_In_isThere hC) 15 pr_In_isThere (ok_In_isThere hC) _ _ _ (tw_fl_get h))

-- TwinHost$Inputs.removeFirst()V: 39 instructions, depth 0, calls 
theorem d_In_removeFirst_0 : decode b_In_removeFirst 0 = .ok (.aload_n 0, 1) := by decide +kernel
theorem d_In_removeFirst_1 : decode b_In_removeFirst 1 = .ok (.getfield 16, 3) := by decide +kernel
theorem d_In_removeFirst_4 : decode b_In_removeFirst 4 = .ok (.ifCond .ne 4, 3) := by decide +kernel
theorem d_In_removeFirst_7 : decode b_In_removeFirst 7 = .ok (.return_, 1) := by decide +kernel
theorem d_In_removeFirst_8 : decode b_In_removeFirst 8 = .ok (.aload_n 0, 1) := by decide +kernel
theorem d_In_removeFirst_9 : decode b_In_removeFirst 9 = .ok (.dup, 1) := by decide +kernel
theorem d_In_removeFirst_10 : decode b_In_removeFirst 10 = .ok (.getfield 16, 3) := by decide +kernel
theorem d_In_removeFirst_13 : decode b_In_removeFirst 13 = .ok (.iconst 1, 1) := by decide +kernel
theorem d_In_removeFirst_14 : decode b_In_removeFirst 14 = .ok (.isub, 1) := by decide +kernel
theorem d_In_removeFirst_15 : decode b_In_removeFirst 15 = .ok (.putfield 16, 3) := by decide +kernel
theorem d_In_removeFirst_18 : decode b_In_removeFirst 18 = .ok (.iconst 0, 1) := by decide +kernel
theorem d_In_removeFirst_19 : decode b_In_removeFirst 19 = .ok (.istore_n 1, 1) := by decide +kernel
theorem d_In_removeFirst_20 : decode b_In_removeFirst 20 = .ok (.iload_n 1, 1) := by decide +kernel
theorem d_In_removeFirst_21 : decode b_In_removeFirst 21 = .ok (.aload_n 0, 1) := by decide +kernel
theorem d_In_removeFirst_22 : decode b_In_removeFirst 22 = .ok (.getfield 16, 3) := by decide +kernel
theorem d_In_removeFirst_25 : decode b_In_removeFirst 25 = .ok (.if_icmp .ge 37, 3) := by decide +kernel
theorem d_In_removeFirst_28 : decode b_In_removeFirst 28 = .ok (.aload_n 0, 1) := by decide +kernel
theorem d_In_removeFirst_29 : decode b_In_removeFirst 29 = .ok (.getfield 9, 3) := by decide +kernel
theorem d_In_removeFirst_32 : decode b_In_removeFirst 32 = .ok (.iload_n 1, 1) := by decide +kernel
theorem d_In_removeFirst_33 : decode b_In_removeFirst 33 = .ok (.aload_n 0, 1) := by decide +kernel
theorem d_In_removeFirst_34 : decode b_In_removeFirst 34 = .ok (.getfield 9, 3) := by decide +kernel
theorem d_In_removeFirst_37 : decode b_In_removeFirst 37 = .ok (.iload_n 1, 1) := by decide +kernel
theorem d_In_removeFirst_38 : decode b_In_removeFirst 38 = .ok (.iconst 1, 1) := by decide +kernel
theorem d_In_removeFirst_39 : decode b_In_removeFirst 39 = .ok (.iadd, 1) := by decide +kernel
theorem d_In_removeFirst_40 : decode b_In_removeFirst 40 = .ok (.iaload, 1) := by decide +kernel
theorem d_In_removeFirst_41 : decode b_In_removeFirst 41 = .ok (.iastore, 1) := by decide +kernel
theorem d_In_removeFirst_42 : decode b_In_removeFirst 42 = .ok (.aload_n 0, 1) := by decide +kernel
theorem d_In_removeFirst_43 : decode b_In_removeFirst 43 = .ok (.getfield 13, 3) := by decide +kernel
theorem d_In_removeFirst_46 : decode b_In_removeFirst 46 = .ok (.iload_n 1, 1) := by decide +kernel
theorem d_In_removeFirst_47 : decode b_In_removeFirst 47 = .ok (.aload_n 0, 1) := by decide +kernel
theorem d_In_removeFirst_48 : decode b_In_removeFirst 48 = .ok (.getfield 13, 3) := by decide +kernel
theorem d_In_removeFirst_51 : decode b_In_removeFirst 51 = .ok (.iload_n 1, 1) := by decide +kernel
theorem d_In_removeFirst_52 : decode b_In_removeFirst 52 = .ok (.iconst 1, 1) := by decide +kernel
theorem d_In_removeFirst_53 : decode b_In_removeFirst 53 = .ok (.iadd, 1) := by decide +kernel
theorem d_In_removeFirst_54 : decode b_In_removeFirst 54 = .ok (.iaload, 1) := by decide +kernel
theorem d_In_removeFirst_55 : decode b_In_removeFirst 55 = .ok (.iastore, 1) := by decide +kernel
theorem d_In_removeFirst_56 : decode b_In_removeFirst 56 = .ok (.iinc 1 1, 3) := by decide +kernel
theorem d_In_removeFirst_59 : decode b_In_removeFirst 59 = .ok (.goto (-39), 3) := by decide +kernel
theorem d_In_removeFirst_62 : decode b_In_removeFirst 62 = .ok (.return_, 1) := by decide +kernel
noncomputable def pr_In_removeFirst : List (Nat × tw_Op) := [(0, tw_al 0), (1, tw_gi 6 2), (4, tw_ifne 8), (7, tw_r0), (8, tw_al 0), (9, tw_dup), (10, tw_gi 6 2), (13, tw_ic 1), (14, tw_bin (· - ·)), (15, tw_pi 6 2), (18, tw_ic 0), (19, tw_is 1), (20, tw_il 1), (21, tw_al 0), (22, tw_gi 6 2), (25, tw_cge 62), (28, tw_al 0), (29, tw_gr 6 7), (32, tw_il 1), (33, tw_al 0), (34, tw_gr 6 7), (37, tw_il 1), (38, tw_ic 1), (39, tw_bin (· + ·)), (40, tw_ia), (41, tw_ias 0 22), (42, tw_al 0), (43, tw_gr 6 8), (46, tw_il 1), (47, tw_al 0), (48, tw_gr 6 8), (51, tw_il 1), (52, tw_ic 1), (53, tw_bin (· + ·)), (54, tw_ia), (55, tw_ias 0 22), (56, tw_inc 1 (1)), (59, tw_jmp 20), (62, tw_r0)]
set_option maxRecDepth 100000 in
set_option maxHeartbeats 4000000 in
theorem ok_In_removeFirst {p : Program} {l : Launch} {e : Env} {s : State} {m : MethodId} {args : Array Value} {below : List Frame} {meth : Method} {c : Code} {E : tw_E} {D : va_G} {ρ : tw_R} (hC : tw_Cx p s m args meth c b_In_removeFirst 2 none "TwinHost$Inputs" E D) : tw_Ok p l e (tw_rmd 0) s m args below meth c 0 0 (MQ below (tw_Qc E D ρ) args s 0 0 (tw_A E)) 2 E D ρ pr_In_removeFirst :=
  ⟨ts_aload_n hC d_In_removeFirst_0 rfl,
   ts_gi (j := 2) (C := R_In) (T := T_In) hC rfl rfl rfl (by decide) u_In wd_65 rfl d_In_removeFirst_1,
   ts_ifne hC d_In_removeFirst_4 (by decide),
   ts_vret hC rfl d_In_removeFirst_7,
   ts_aload_n hC d_In_removeFirst_8 rfl,
   ts_dup hC d_In_removeFirst_9,
   ts_gi (j := 2) (C := R_In) (T := T_In) hC rfl rfl rfl (by decide) u_In wd_65 rfl d_In_removeFirst_10,
   ts_iconst hC d_In_removeFirst_13 (by decide),
   ts_isub hC d_In_removeFirst_14,
   ts_pi (j := 2) (C := R_In) (T := T_In) hC rfl rfl rfl (by decide) u_In wd_65 rfl t_In_ok n_In rfl (by decide +kernel) d_In_removeFirst_15,
   ts_iconst hC d_In_removeFirst_18 (by decide),
   ts_istore_n hC d_In_removeFirst_19 rfl (by decide),
   ts_iload_n hC d_In_removeFirst_20 rfl,
   ts_aload_n hC d_In_removeFirst_21 rfl,
   ts_gi (j := 2) (C := R_In) (T := T_In) hC rfl rfl rfl (by decide) u_In wd_65 rfl d_In_removeFirst_22,
   ts_cge hC d_In_removeFirst_25 (by decide),
   ts_aload_n hC d_In_removeFirst_28 rfl,
   ts_gr (j := 0) (C := R_In) (T := T_In) hC rfl rfl rfl (by decide) u_In wd_62 rfl d_In_removeFirst_29,
   ts_iload_n hC d_In_removeFirst_32 rfl,
   ts_aload_n hC d_In_removeFirst_33 rfl,
   ts_gr (j := 0) (C := R_In) (T := T_In) hC rfl rfl rfl (by decide) u_In wd_62 rfl d_In_removeFirst_34,
   ts_iload_n hC d_In_removeFirst_37 rfl,
   ts_iconst hC d_In_removeFirst_38 (by decide),
   ts_iadd hC d_In_removeFirst_39,
   ts_iaload hC d_In_removeFirst_40,
   ts_iastore hC d_In_removeFirst_41,
   ts_aload_n hC d_In_removeFirst_42 rfl,
   ts_gr (j := 1) (C := R_In) (T := T_In) hC rfl rfl rfl (by decide) u_In wd_63 rfl d_In_removeFirst_43,
   ts_iload_n hC d_In_removeFirst_46 rfl,
   ts_aload_n hC d_In_removeFirst_47 rfl,
   ts_gr (j := 1) (C := R_In) (T := T_In) hC rfl rfl rfl (by decide) u_In wd_63 rfl d_In_removeFirst_48,
   ts_iload_n hC d_In_removeFirst_51 rfl,
   ts_iconst hC d_In_removeFirst_52 (by decide),
   ts_iadd hC d_In_removeFirst_53,
   ts_iaload hC d_In_removeFirst_54,
   ts_iastore hC d_In_removeFirst_55,
   ts_iinc hC d_In_removeFirst_56 (by decide) (by decide),
   ts_goto hC d_In_removeFirst_59 (by decide),
   ts_vret hC rfl d_In_removeFirst_62,
   trivial⟩
noncomputable def fn_In_removeFirst : tw_Fn := tw_fl 1 2 400 pr_In_removeFirst
theorem con_In_removeFirst : tw_Con y_In_removeFirst b_In_removeFirst 2 none 0 fn_In_removeFirst := tw_met (by decide +kernel) (tw_fl_len (n := 1) (by decide)) (fun p l e s m args below meth c E D vs σ ρ hC h => tw_sound (ok_In_removeFirst hC) 400 pr_In_removeFirst (ok_In_removeFirst hC) _ _ _ (tw_fl_get h))

-- TwinHost$Shadows.clear()V: 13 instructions, depth 0, calls 
theorem d_Sh_clear_0 : decode b_Sh_clear 0 = .ok (.iconst 0, 1) := by decide +kernel
theorem d_Sh_clear_1 : decode b_Sh_clear 1 = .ok (.istore_n 1, 1) := by decide +kernel
theorem d_Sh_clear_2 : decode b_Sh_clear 2 = .ok (.iload_n 1, 1) := by decide +kernel
theorem d_Sh_clear_3 : decode b_Sh_clear 3 = .ok (.bipush 16, 2) := by decide +kernel
theorem d_Sh_clear_5 : decode b_Sh_clear 5 = .ok (.if_icmp .ge 16, 3) := by decide +kernel
theorem d_Sh_clear_8 : decode b_Sh_clear 8 = .ok (.aload_n 0, 1) := by decide +kernel
theorem d_Sh_clear_9 : decode b_Sh_clear 9 = .ok (.getfield 9, 3) := by decide +kernel
theorem d_Sh_clear_12 : decode b_Sh_clear 12 = .ok (.iload_n 1, 1) := by decide +kernel
theorem d_Sh_clear_13 : decode b_Sh_clear 13 = .ok (.iconst (-1), 1) := by decide +kernel
theorem d_Sh_clear_14 : decode b_Sh_clear 14 = .ok (.iastore, 1) := by decide +kernel
theorem d_Sh_clear_15 : decode b_Sh_clear 15 = .ok (.iinc 1 1, 3) := by decide +kernel
theorem d_Sh_clear_18 : decode b_Sh_clear 18 = .ok (.goto (-16), 3) := by decide +kernel
theorem d_Sh_clear_21 : decode b_Sh_clear 21 = .ok (.return_, 1) := by decide +kernel
noncomputable def pr_Sh_clear : List (Nat × tw_Op) := [(0, tw_ic 0), (1, tw_is 1), (2, tw_il 1), (3, tw_ic (16)), (5, tw_cge 21), (8, tw_al 0), (9, tw_gr 9 10), (12, tw_il 1), (13, tw_ic (-1)), (14, tw_ias 0 22), (15, tw_inc 1 (1)), (18, tw_jmp 2), (21, tw_r0)]
set_option maxRecDepth 100000 in
set_option maxHeartbeats 4000000 in
theorem ok_Sh_clear {p : Program} {l : Launch} {e : Env} {s : State} {m : MethodId} {args : Array Value} {below : List Frame} {meth : Method} {c : Code} {E : tw_E} {D : va_G} {ρ : tw_R} (hC : tw_Cx p s m args meth c b_Sh_clear 2 none "TwinHost$Shadows" E D) : tw_Ok p l e (tw_rmd 0) s m args below meth c 0 0 (MQ below (tw_Qc E D ρ) args s 0 0 (tw_A E)) 2 E D ρ pr_Sh_clear :=
  ⟨ts_iconst hC d_Sh_clear_0 (by decide),
   ts_istore_n hC d_Sh_clear_1 rfl (by decide),
   ts_iload_n hC d_Sh_clear_2 rfl,
   ts_bipush hC d_Sh_clear_3 (by decide),
   ts_cge hC d_Sh_clear_5 (by decide),
   ts_aload_n hC d_Sh_clear_8 rfl,
   ts_gr (j := 0) (C := R_Sh) (T := T_Sh) hC rfl rfl rfl (by decide) u_Sh wd_94 rfl d_Sh_clear_9,
   ts_iload_n hC d_Sh_clear_12 rfl,
   ts_iconst hC d_Sh_clear_13 (by decide),
   ts_iastore hC d_Sh_clear_14,
   ts_iinc hC d_Sh_clear_15 (by decide) (by decide),
   ts_goto hC d_Sh_clear_18 (by decide),
   ts_vret hC rfl d_Sh_clear_21,
   trivial⟩
noncomputable def fn_Sh_clear : tw_Fn := tw_fl 1 2 400 pr_Sh_clear
theorem con_Sh_clear : tw_Con y_Sh_clear b_Sh_clear 2 none 0 fn_Sh_clear := tw_met (by decide +kernel) (tw_fl_len (n := 1) (by decide)) (fun p l e s m args below meth c E D vs σ ρ hC h => tw_sound (ok_Sh_clear hC) 400 pr_Sh_clear (ok_Sh_clear hC) _ _ _ (tw_fl_get h))

-- TwinHost$Shadows.describe(I)I: 35 instructions, depth 0, calls 
theorem d_Sh_describe_0 : decode b_Sh_describe 0 = .ok (.aload_n 0, 1) := by decide +kernel
theorem d_Sh_describe_1 : decode b_Sh_describe 1 = .ok (.getfield 9, 3) := by decide +kernel
theorem d_Sh_describe_4 : decode b_Sh_describe 4 = .ok (.iload_n 1, 1) := by decide +kernel
theorem d_Sh_describe_5 : decode b_Sh_describe 5 = .ok (.iaload, 1) := by decide +kernel
theorem d_Sh_describe_6 : decode b_Sh_describe 6 = .ok (.iconst (-1), 1) := by decide +kernel
theorem d_Sh_describe_7 : decode b_Sh_describe 7 = .ok (.if_icmp .ne 5, 3) := by decide +kernel
theorem d_Sh_describe_10 : decode b_Sh_describe 10 = .ok (.iconst (-1), 1) := by decide +kernel
theorem d_Sh_describe_11 : decode b_Sh_describe 11 = .ok (.ireturn, 1) := by decide +kernel
theorem d_Sh_describe_12 : decode b_Sh_describe 12 = .ok (.aload_n 0, 1) := by decide +kernel
theorem d_Sh_describe_13 : decode b_Sh_describe 13 = .ok (.getfield 15, 3) := by decide +kernel
theorem d_Sh_describe_16 : decode b_Sh_describe 16 = .ok (.iload_n 1, 1) := by decide +kernel
theorem d_Sh_describe_17 : decode b_Sh_describe 17 = .ok (.iaload, 1) := by decide +kernel
theorem d_Sh_describe_18 : decode b_Sh_describe 18 = .ok (.bipush (-65), 2) := by decide +kernel
theorem d_Sh_describe_20 : decode b_Sh_describe 20 = .ok (.iand, 1) := by decide +kernel
theorem d_Sh_describe_21 : decode b_Sh_describe 21 = .ok (.istore_n 2, 1) := by decide +kernel
theorem d_Sh_describe_22 : decode b_Sh_describe 22 = .ok (.aload_n 0, 1) := by decide +kernel
theorem d_Sh_describe_23 : decode b_Sh_describe 23 = .ok (.getfield 9, 3) := by decide +kernel
theorem d_Sh_describe_26 : decode b_Sh_describe 26 = .ok (.iload_n 1, 1) := by decide +kernel
theorem d_Sh_describe_27 : decode b_Sh_describe 27 = .ok (.iaload, 1) := by decide +kernel
theorem d_Sh_describe_28 : decode b_Sh_describe 28 = .ok (.bipush 8, 2) := by decide +kernel
theorem d_Sh_describe_30 : decode b_Sh_describe 30 = .ok (.iload_n 2, 1) := by decide +kernel
theorem d_Sh_describe_31 : decode b_Sh_describe 31 = .ok (.imul, 1) := by decide +kernel
theorem d_Sh_describe_32 : decode b_Sh_describe 32 = .ok (.iadd, 1) := by decide +kernel
theorem d_Sh_describe_33 : decode b_Sh_describe 33 = .ok (.aload_n 0, 1) := by decide +kernel
theorem d_Sh_describe_34 : decode b_Sh_describe 34 = .ok (.getfield 15, 3) := by decide +kernel
theorem d_Sh_describe_37 : decode b_Sh_describe 37 = .ok (.iload_n 1, 1) := by decide +kernel
theorem d_Sh_describe_38 : decode b_Sh_describe 38 = .ok (.iaload, 1) := by decide +kernel
theorem d_Sh_describe_39 : decode b_Sh_describe 39 = .ok (.bipush 64, 2) := by decide +kernel
theorem d_Sh_describe_41 : decode b_Sh_describe 41 = .ok (.iand, 1) := by decide +kernel
theorem d_Sh_describe_42 : decode b_Sh_describe 42 = .ok (.ifCond .eq 9, 3) := by decide +kernel
theorem d_Sh_describe_45 : decode b_Sh_describe 45 = .ok (.sipush 512, 3) := by decide +kernel
theorem d_Sh_describe_48 : decode b_Sh_describe 48 = .ok (.goto 4, 3) := by decide +kernel
theorem d_Sh_describe_51 : decode b_Sh_describe 51 = .ok (.iconst 0, 1) := by decide +kernel
theorem d_Sh_describe_52 : decode b_Sh_describe 52 = .ok (.iadd, 1) := by decide +kernel
theorem d_Sh_describe_53 : decode b_Sh_describe 53 = .ok (.ireturn, 1) := by decide +kernel
noncomputable def pr_Sh_describe : List (Nat × tw_Op) := [(0, tw_al 0), (1, tw_gr 9 10), (4, tw_il 1), (5, tw_ia), (6, tw_ic (-1)), (7, tw_cne 12), (10, tw_ic (-1)), (11, tw_ri), (12, tw_al 0), (13, tw_gr 9 11), (16, tw_il 1), (17, tw_ia), (18, tw_ic (-65)), (20, tw_bin (· &&& ·)), (21, tw_is 2), (22, tw_al 0), (23, tw_gr 9 10), (26, tw_il 1), (27, tw_ia), (28, tw_ic (8)), (30, tw_il 2), (31, tw_bin (· * ·)), (32, tw_bin (· + ·)), (33, tw_al 0), (34, tw_gr 9 11), (37, tw_il 1), (38, tw_ia), (39, tw_ic (64)), (41, tw_bin (· &&& ·)), (42, tw_ifeq 51), (45, tw_ic (512)), (48, tw_jmp 52), (51, tw_ic 0), (52, tw_bin (· + ·)), (53, tw_ri)]
set_option maxRecDepth 100000 in
set_option maxHeartbeats 4000000 in
theorem ok_Sh_describe {p : Program} {l : Launch} {e : Env} {s : State} {m : MethodId} {args : Array Value} {below : List Frame} {meth : Method} {c : Code} {E : tw_E} {D : va_G} {ρ : tw_R} (hC : tw_Cx p s m args meth c b_Sh_describe 3 (some .int) "TwinHost$Shadows" E D) : tw_Ok p l e (tw_rmd 0) s m args below meth c 0 0 (MQ below (tw_Qc E D ρ) args s 0 0 (tw_A E)) 3 E D ρ pr_Sh_describe :=
  ⟨ts_aload_n hC d_Sh_describe_0 rfl,
   ts_gr (j := 0) (C := R_Sh) (T := T_Sh) hC rfl rfl rfl (by decide) u_Sh wd_94 rfl d_Sh_describe_1,
   ts_iload_n hC d_Sh_describe_4 rfl,
   ts_iaload hC d_Sh_describe_5,
   ts_iconst hC d_Sh_describe_6 (by decide),
   ts_cne hC d_Sh_describe_7 (by decide),
   ts_iconst hC d_Sh_describe_10 (by decide),
   ts_iret hC rfl d_Sh_describe_11,
   ts_aload_n hC d_Sh_describe_12 rfl,
   ts_gr (j := 1) (C := R_Sh) (T := T_Sh) hC rfl rfl rfl (by decide) u_Sh wd_96 rfl d_Sh_describe_13,
   ts_iload_n hC d_Sh_describe_16 rfl,
   ts_iaload hC d_Sh_describe_17,
   ts_bipush hC d_Sh_describe_18 (by decide),
   ts_iand hC d_Sh_describe_20,
   ts_istore_n hC d_Sh_describe_21 rfl (by decide),
   ts_aload_n hC d_Sh_describe_22 rfl,
   ts_gr (j := 0) (C := R_Sh) (T := T_Sh) hC rfl rfl rfl (by decide) u_Sh wd_94 rfl d_Sh_describe_23,
   ts_iload_n hC d_Sh_describe_26 rfl,
   ts_iaload hC d_Sh_describe_27,
   ts_bipush hC d_Sh_describe_28 (by decide),
   ts_iload_n hC d_Sh_describe_30 rfl,
   ts_imul hC d_Sh_describe_31,
   ts_iadd hC d_Sh_describe_32,
   ts_aload_n hC d_Sh_describe_33 rfl,
   ts_gr (j := 1) (C := R_Sh) (T := T_Sh) hC rfl rfl rfl (by decide) u_Sh wd_96 rfl d_Sh_describe_34,
   ts_iload_n hC d_Sh_describe_37 rfl,
   ts_iaload hC d_Sh_describe_38,
   ts_bipush hC d_Sh_describe_39 (by decide),
   ts_iand hC d_Sh_describe_41,
   ts_ifeq hC d_Sh_describe_42 (by decide),
   ts_sipush hC d_Sh_describe_45 (by decide),
   ts_goto hC d_Sh_describe_48 (by decide),
   ts_iconst hC d_Sh_describe_51 (by decide),
   ts_iadd hC d_Sh_describe_52,
   ts_iret hC rfl d_Sh_describe_53,
   trivial⟩
noncomputable def fn_Sh_describe : tw_Fn := tw_fl 2 3 37 pr_Sh_describe
theorem con_Sh_describe : tw_Con y_Sh_describe b_Sh_describe 3 (some .int) 0 fn_Sh_describe := tw_met (by decide +kernel) (tw_fl_len (n := 2) (by decide)) (fun p l e s m args below meth c E D vs σ ρ hC h => tw_sound (ok_Sh_describe hC) 37 pr_Sh_describe (ok_Sh_describe hC) _ _ _ (tw_fl_get h))

-- TwinHost$Shadows.dropThoseOf(I)I: 35 instructions, depth 0, calls 
theorem d_Sh_dropThoseOf_0 : decode b_Sh_dropThoseOf 0 = .ok (.iconst 0, 1) := by decide +kernel
theorem d_Sh_dropThoseOf_1 : decode b_Sh_dropThoseOf 1 = .ok (.istore_n 2, 1) := by decide +kernel
theorem d_Sh_dropThoseOf_2 : decode b_Sh_dropThoseOf 2 = .ok (.iconst 0, 1) := by decide +kernel
theorem d_Sh_dropThoseOf_3 : decode b_Sh_dropThoseOf 3 = .ok (.istore_n 3, 1) := by decide +kernel
theorem d_Sh_dropThoseOf_4 : decode b_Sh_dropThoseOf 4 = .ok (.iload_n 3, 1) := by decide +kernel
theorem d_Sh_dropThoseOf_5 : decode b_Sh_dropThoseOf 5 = .ok (.bipush 16, 2) := by decide +kernel
theorem d_Sh_dropThoseOf_7 : decode b_Sh_dropThoseOf 7 = .ok (.if_icmp .ge 49, 3) := by decide +kernel
theorem d_Sh_dropThoseOf_10 : decode b_Sh_dropThoseOf 10 = .ok (.aload_n 0, 1) := by decide +kernel
theorem d_Sh_dropThoseOf_11 : decode b_Sh_dropThoseOf 11 = .ok (.getfield 9, 3) := by decide +kernel
theorem d_Sh_dropThoseOf_14 : decode b_Sh_dropThoseOf 14 = .ok (.iload_n 3, 1) := by decide +kernel
theorem d_Sh_dropThoseOf_15 : decode b_Sh_dropThoseOf 15 = .ok (.iaload, 1) := by decide +kernel
theorem d_Sh_dropThoseOf_16 : decode b_Sh_dropThoseOf 16 = .ok (.iconst (-1), 1) := by decide +kernel
theorem d_Sh_dropThoseOf_17 : decode b_Sh_dropThoseOf 17 = .ok (.if_icmp .eq 33, 3) := by decide +kernel
theorem d_Sh_dropThoseOf_20 : decode b_Sh_dropThoseOf 20 = .ok (.aload_n 0, 1) := by decide +kernel
theorem d_Sh_dropThoseOf_21 : decode b_Sh_dropThoseOf 21 = .ok (.getfield 18, 3) := by decide +kernel
theorem d_Sh_dropThoseOf_24 : decode b_Sh_dropThoseOf 24 = .ok (.iload_n 3, 1) := by decide +kernel
theorem d_Sh_dropThoseOf_25 : decode b_Sh_dropThoseOf 25 = .ok (.iaload, 1) := by decide +kernel
theorem d_Sh_dropThoseOf_26 : decode b_Sh_dropThoseOf 26 = .ok (.iload_n 1, 1) := by decide +kernel
theorem d_Sh_dropThoseOf_27 : decode b_Sh_dropThoseOf 27 = .ok (.if_icmp .eq 13, 3) := by decide +kernel
theorem d_Sh_dropThoseOf_30 : decode b_Sh_dropThoseOf 30 = .ok (.aload_n 0, 1) := by decide +kernel
theorem d_Sh_dropThoseOf_31 : decode b_Sh_dropThoseOf 31 = .ok (.getfield 21, 3) := by decide +kernel
theorem d_Sh_dropThoseOf_34 : decode b_Sh_dropThoseOf 34 = .ok (.iload_n 3, 1) := by decide +kernel
theorem d_Sh_dropThoseOf_35 : decode b_Sh_dropThoseOf 35 = .ok (.iaload, 1) := by decide +kernel
theorem d_Sh_dropThoseOf_36 : decode b_Sh_dropThoseOf 36 = .ok (.iload_n 1, 1) := by decide +kernel
theorem d_Sh_dropThoseOf_37 : decode b_Sh_dropThoseOf 37 = .ok (.if_icmp .ne 13, 3) := by decide +kernel
theorem d_Sh_dropThoseOf_40 : decode b_Sh_dropThoseOf 40 = .ok (.aload_n 0, 1) := by decide +kernel
theorem d_Sh_dropThoseOf_41 : decode b_Sh_dropThoseOf 41 = .ok (.getfield 9, 3) := by decide +kernel
theorem d_Sh_dropThoseOf_44 : decode b_Sh_dropThoseOf 44 = .ok (.iload_n 3, 1) := by decide +kernel
theorem d_Sh_dropThoseOf_45 : decode b_Sh_dropThoseOf 45 = .ok (.iconst (-1), 1) := by decide +kernel
theorem d_Sh_dropThoseOf_46 : decode b_Sh_dropThoseOf 46 = .ok (.iastore, 1) := by decide +kernel
theorem d_Sh_dropThoseOf_47 : decode b_Sh_dropThoseOf 47 = .ok (.iinc 2 1, 3) := by decide +kernel
theorem d_Sh_dropThoseOf_50 : decode b_Sh_dropThoseOf 50 = .ok (.iinc 3 1, 3) := by decide +kernel
theorem d_Sh_dropThoseOf_53 : decode b_Sh_dropThoseOf 53 = .ok (.goto (-49), 3) := by decide +kernel
theorem d_Sh_dropThoseOf_56 : decode b_Sh_dropThoseOf 56 = .ok (.iload_n 2, 1) := by decide +kernel
theorem d_Sh_dropThoseOf_57 : decode b_Sh_dropThoseOf 57 = .ok (.ireturn, 1) := by decide +kernel
noncomputable def pr_Sh_dropThoseOf : List (Nat × tw_Op) := [(0, tw_ic 0), (1, tw_is 2), (2, tw_ic 0), (3, tw_is 3), (4, tw_il 3), (5, tw_ic (16)), (7, tw_cge 56), (10, tw_al 0), (11, tw_gr 9 10), (14, tw_il 3), (15, tw_ia), (16, tw_ic (-1)), (17, tw_ceq 50), (20, tw_al 0), (21, tw_gr 9 12), (24, tw_il 3), (25, tw_ia), (26, tw_il 1), (27, tw_ceq 40), (30, tw_al 0), (31, tw_gr 9 13), (34, tw_il 3), (35, tw_ia), (36, tw_il 1), (37, tw_cne 50), (40, tw_al 0), (41, tw_gr 9 10), (44, tw_il 3), (45, tw_ic (-1)), (46, tw_ias 0 22), (47, tw_inc 2 (1)), (50, tw_inc 3 (1)), (53, tw_jmp 4), (56, tw_il 2), (57, tw_ri)]
set_option maxRecDepth 100000 in
set_option maxHeartbeats 4000000 in
theorem ok_Sh_dropThoseOf {p : Program} {l : Launch} {e : Env} {s : State} {m : MethodId} {args : Array Value} {below : List Frame} {meth : Method} {c : Code} {E : tw_E} {D : va_G} {ρ : tw_R} (hC : tw_Cx p s m args meth c b_Sh_dropThoseOf 4 (some .int) "TwinHost$Shadows" E D) : tw_Ok p l e (tw_rmd 0) s m args below meth c 0 0 (MQ below (tw_Qc E D ρ) args s 0 0 (tw_A E)) 4 E D ρ pr_Sh_dropThoseOf :=
  ⟨ts_iconst hC d_Sh_dropThoseOf_0 (by decide),
   ts_istore_n hC d_Sh_dropThoseOf_1 rfl (by decide),
   ts_iconst hC d_Sh_dropThoseOf_2 (by decide),
   ts_istore_n hC d_Sh_dropThoseOf_3 rfl (by decide),
   ts_iload_n hC d_Sh_dropThoseOf_4 rfl,
   ts_bipush hC d_Sh_dropThoseOf_5 (by decide),
   ts_cge hC d_Sh_dropThoseOf_7 (by decide),
   ts_aload_n hC d_Sh_dropThoseOf_10 rfl,
   ts_gr (j := 0) (C := R_Sh) (T := T_Sh) hC rfl rfl rfl (by decide) u_Sh wd_94 rfl d_Sh_dropThoseOf_11,
   ts_iload_n hC d_Sh_dropThoseOf_14 rfl,
   ts_iaload hC d_Sh_dropThoseOf_15,
   ts_iconst hC d_Sh_dropThoseOf_16 (by decide),
   ts_ceq hC d_Sh_dropThoseOf_17 (by decide),
   ts_aload_n hC d_Sh_dropThoseOf_20 rfl,
   ts_gr (j := 2) (C := R_Sh) (T := T_Sh) hC rfl rfl rfl (by decide) u_Sh wd_97 rfl d_Sh_dropThoseOf_21,
   ts_iload_n hC d_Sh_dropThoseOf_24 rfl,
   ts_iaload hC d_Sh_dropThoseOf_25,
   ts_iload_n hC d_Sh_dropThoseOf_26 rfl,
   ts_ceq hC d_Sh_dropThoseOf_27 (by decide),
   ts_aload_n hC d_Sh_dropThoseOf_30 rfl,
   ts_gr (j := 3) (C := R_Sh) (T := T_Sh) hC rfl rfl rfl (by decide) u_Sh wd_98 rfl d_Sh_dropThoseOf_31,
   ts_iload_n hC d_Sh_dropThoseOf_34 rfl,
   ts_iaload hC d_Sh_dropThoseOf_35,
   ts_iload_n hC d_Sh_dropThoseOf_36 rfl,
   ts_cne hC d_Sh_dropThoseOf_37 (by decide),
   ts_aload_n hC d_Sh_dropThoseOf_40 rfl,
   ts_gr (j := 0) (C := R_Sh) (T := T_Sh) hC rfl rfl rfl (by decide) u_Sh wd_94 rfl d_Sh_dropThoseOf_41,
   ts_iload_n hC d_Sh_dropThoseOf_44 rfl,
   ts_iconst hC d_Sh_dropThoseOf_45 (by decide),
   ts_iastore hC d_Sh_dropThoseOf_46,
   ts_iinc hC d_Sh_dropThoseOf_47 (by decide) (by decide),
   ts_iinc hC d_Sh_dropThoseOf_50 (by decide) (by decide),
   ts_goto hC d_Sh_dropThoseOf_53 (by decide),
   ts_iload_n hC d_Sh_dropThoseOf_56 rfl,
   ts_iret hC rfl d_Sh_dropThoseOf_57,
   trivial⟩
noncomputable def fn_Sh_dropThoseOf : tw_Fn := tw_fl 2 4 1200 pr_Sh_dropThoseOf
theorem con_Sh_dropThoseOf : tw_Con y_Sh_dropThoseOf b_Sh_dropThoseOf 4 (some .int) 0 fn_Sh_dropThoseOf := tw_met (by decide +kernel) (tw_fl_len (n := 2) (by decide)) (fun p l e s m args below meth c E D vs σ ρ hC h => tw_sound (ok_Sh_dropThoseOf hC) 1200 pr_Sh_dropThoseOf (ok_Sh_dropThoseOf hC) _ _ _ (tw_fl_get h))

-- TwinHost$Shadows.isIn(II)Z: 12 instructions, depth 0, calls 
theorem d_Sh_isIn_0 : decode b_Sh_isIn 0 = .ok (.iload_n 0, 1) := by decide +kernel
theorem d_Sh_isIn_1 : decode b_Sh_isIn 1 = .ok (.iconst (-1), 1) := by decide +kernel
theorem d_Sh_isIn_2 : decode b_Sh_isIn 2 = .ok (.if_icmp .eq 14, 3) := by decide +kernel
theorem d_Sh_isIn_5 : decode b_Sh_isIn 5 = .ok (.iload_n 0, 1) := by decide +kernel
theorem d_Sh_isIn_6 : decode b_Sh_isIn 6 = .ok (.iconst 4, 1) := by decide +kernel
theorem d_Sh_isIn_7 : decode b_Sh_isIn 7 = .ok (.ishr, 1) := by decide +kernel
theorem d_Sh_isIn_8 : decode b_Sh_isIn 8 = .ok (.iload_n 1, 1) := by decide +kernel
theorem d_Sh_isIn_9 : decode b_Sh_isIn 9 = .ok (.if_icmp .ne 7, 3) := by decide +kernel
theorem d_Sh_isIn_12 : decode b_Sh_isIn 12 = .ok (.iconst 1, 1) := by decide +kernel
theorem d_Sh_isIn_13 : decode b_Sh_isIn 13 = .ok (.goto 4, 3) := by decide +kernel
theorem d_Sh_isIn_16 : decode b_Sh_isIn 16 = .ok (.iconst 0, 1) := by decide +kernel
theorem d_Sh_isIn_17 : decode b_Sh_isIn 17 = .ok (.ireturn, 1) := by decide +kernel
noncomputable def pr_Sh_isIn : List (Nat × tw_Op) := [(0, tw_il 0), (1, tw_ic (-1)), (2, tw_ceq 16), (5, tw_il 0), (6, tw_ic 4), (7, tw_bin (fun x y => x >>> (y &&& 31))), (8, tw_il 1), (9, tw_cne 16), (12, tw_ic 1), (13, tw_jmp 17), (16, tw_ic 0), (17, tw_rz)]
set_option maxRecDepth 100000 in
set_option maxHeartbeats 4000000 in
theorem ok_Sh_isIn {p : Program} {l : Launch} {e : Env} {s : State} {m : MethodId} {args : Array Value} {below : List Frame} {meth : Method} {c : Code} {E : tw_E} {D : va_G} {ρ : tw_R} (hC : tw_Cx p s m args meth c b_Sh_isIn 2 (some .boolean) "TwinHost$Shadows" E D) : tw_Ok p l e (tw_rmd 0) s m args below meth c 0 0 (MQ below (tw_Qc E D ρ) args s 0 0 (tw_A E)) 2 E D ρ pr_Sh_isIn :=
  ⟨ts_iload_n hC d_Sh_isIn_0 rfl,
   ts_iconst hC d_Sh_isIn_1 (by decide),
   ts_ceq hC d_Sh_isIn_2 (by decide),
   ts_iload_n hC d_Sh_isIn_5 rfl,
   ts_iconst hC d_Sh_isIn_6 (by decide),
   ts_ishr hC d_Sh_isIn_7,
   ts_iload_n hC d_Sh_isIn_8 rfl,
   ts_cne hC d_Sh_isIn_9 (by decide),
   ts_iconst hC d_Sh_isIn_12 (by decide),
   ts_goto hC d_Sh_isIn_13 (by decide),
   ts_iconst hC d_Sh_isIn_16 (by decide),
   ts_zret hC rfl d_Sh_isIn_17,
   trivial⟩
noncomputable def fn_Sh_isIn : tw_Fn := tw_fl 2 2 14 pr_Sh_isIn
theorem con_Sh_isIn : tw_Con y_Sh_isIn b_Sh_isIn 2 (some .boolean) 0 fn_Sh_isIn := tw_met (by decide +kernel) (tw_fl_len (n := 2) (by decide)) (fun p l e s m args below meth c E D vs σ ρ hC h => tw_sound (ok_Sh_isIn hC) 14 pr_Sh_isIn (ok_Sh_isIn hC) _ _ _ (tw_fl_get h))

-- TwinHost$Shadows.put(IILTwinHost$Walk;)V: 26 instructions, depth 0, calls 
theorem d_Sh_put_0 : decode b_Sh_put 0 = .ok (.aload_n 0, 1) := by decide +kernel
theorem d_Sh_put_1 : decode b_Sh_put 1 = .ok (.getfield 9, 3) := by decide +kernel
theorem d_Sh_put_4 : decode b_Sh_put 4 = .ok (.iload_n 1, 1) := by decide +kernel
theorem d_Sh_put_5 : decode b_Sh_put 5 = .ok (.aload_n 3, 1) := by decide +kernel
theorem d_Sh_put_6 : decode b_Sh_put 6 = .ok (.getfield 27, 3) := by decide +kernel
theorem d_Sh_put_9 : decode b_Sh_put 9 = .ok (.iastore, 1) := by decide +kernel
theorem d_Sh_put_10 : decode b_Sh_put 10 = .ok (.aload_n 0, 1) := by decide +kernel
theorem d_Sh_put_11 : decode b_Sh_put 11 = .ok (.getfield 15, 3) := by decide +kernel
theorem d_Sh_put_14 : decode b_Sh_put 14 = .ok (.iload_n 1, 1) := by decide +kernel
theorem d_Sh_put_15 : decode b_Sh_put 15 = .ok (.iload_n 2, 1) := by decide +kernel
theorem d_Sh_put_16 : decode b_Sh_put 16 = .ok (.bipush 94, 2) := by decide +kernel
theorem d_Sh_put_18 : decode b_Sh_put 18 = .ok (.iand, 1) := by decide +kernel
theorem d_Sh_put_19 : decode b_Sh_put 19 = .ok (.iastore, 1) := by decide +kernel
theorem d_Sh_put_20 : decode b_Sh_put 20 = .ok (.aload_n 0, 1) := by decide +kernel
theorem d_Sh_put_21 : decode b_Sh_put 21 = .ok (.getfield 18, 3) := by decide +kernel
theorem d_Sh_put_24 : decode b_Sh_put 24 = .ok (.iload_n 1, 1) := by decide +kernel
theorem d_Sh_put_25 : decode b_Sh_put 25 = .ok (.aload_n 3, 1) := by decide +kernel
theorem d_Sh_put_26 : decode b_Sh_put 26 = .ok (.getfield 35, 3) := by decide +kernel
theorem d_Sh_put_29 : decode b_Sh_put 29 = .ok (.iastore, 1) := by decide +kernel
theorem d_Sh_put_30 : decode b_Sh_put 30 = .ok (.aload_n 0, 1) := by decide +kernel
theorem d_Sh_put_31 : decode b_Sh_put 31 = .ok (.getfield 21, 3) := by decide +kernel
theorem d_Sh_put_34 : decode b_Sh_put 34 = .ok (.iload_n 1, 1) := by decide +kernel
theorem d_Sh_put_35 : decode b_Sh_put 35 = .ok (.aload_n 3, 1) := by decide +kernel
theorem d_Sh_put_36 : decode b_Sh_put 36 = .ok (.getfield 38, 3) := by decide +kernel
theorem d_Sh_put_39 : decode b_Sh_put 39 = .ok (.iastore, 1) := by decide +kernel
theorem d_Sh_put_40 : decode b_Sh_put 40 = .ok (.return_, 1) := by decide +kernel
noncomputable def pr_Sh_put : List (Nat × tw_Op) := [(0, tw_al 0), (1, tw_gr 9 10), (4, tw_il 1), (5, tw_al 3), (6, tw_gi 14 3), (9, tw_ias 0 22), (10, tw_al 0), (11, tw_gr 9 11), (14, tw_il 1), (15, tw_il 2), (16, tw_ic (94)), (18, tw_bin (· &&& ·)), (19, tw_ias 0 22), (20, tw_al 0), (21, tw_gr 9 12), (24, tw_il 1), (25, tw_al 3), (26, tw_gi 14 0), (29, tw_ias 0 22), (30, tw_al 0), (31, tw_gr 9 13), (34, tw_il 1), (35, tw_al 3), (36, tw_gi 14 1), (39, tw_ias 0 22), (40, tw_r0)]
set_option maxRecDepth 100000 in
set_option maxHeartbeats 4000000 in
theorem ok_Sh_put {p : Program} {l : Launch} {e : Env} {s : State} {m : MethodId} {args : Array Value} {below : List Frame} {meth : Method} {c : Code} {E : tw_E} {D : va_G} {ρ : tw_R} (hC : tw_Cx p s m args meth c b_Sh_put 4 none "TwinHost$Shadows" E D) : tw_Ok p l e (tw_rmd 0) s m args below meth c 0 0 (MQ below (tw_Qc E D ρ) args s 0 0 (tw_A E)) 4 E D ρ pr_Sh_put :=
  ⟨ts_aload_n hC d_Sh_put_0 rfl,
   ts_gr (j := 0) (C := R_Sh) (T := T_Sh) hC rfl rfl rfl (by decide) u_Sh wd_94 rfl d_Sh_put_1,
   ts_iload_n hC d_Sh_put_4 rfl,
   ts_aload_n hC d_Sh_put_5 rfl,
   ts_gi (j := 3) (C := R_Wa) (T := T_Wa) hC rfl rfl rfl (by decide) u_Wa wd_121 rfl d_Sh_put_6,
   ts_iastore hC d_Sh_put_9,
   ts_aload_n hC d_Sh_put_10 rfl,
   ts_gr (j := 1) (C := R_Sh) (T := T_Sh) hC rfl rfl rfl (by decide) u_Sh wd_96 rfl d_Sh_put_11,
   ts_iload_n hC d_Sh_put_14 rfl,
   ts_iload_n hC d_Sh_put_15 rfl,
   ts_bipush hC d_Sh_put_16 (by decide),
   ts_iand hC d_Sh_put_18,
   ts_iastore hC d_Sh_put_19,
   ts_aload_n hC d_Sh_put_20 rfl,
   ts_gr (j := 2) (C := R_Sh) (T := T_Sh) hC rfl rfl rfl (by decide) u_Sh wd_97 rfl d_Sh_put_21,
   ts_iload_n hC d_Sh_put_24 rfl,
   ts_aload_n hC d_Sh_put_25 rfl,
   ts_gi (j := 0) (C := R_Wa) (T := T_Wa) hC rfl rfl rfl (by decide) u_Wa wd_115 rfl d_Sh_put_26,
   ts_iastore hC d_Sh_put_29,
   ts_aload_n hC d_Sh_put_30 rfl,
   ts_gr (j := 3) (C := R_Sh) (T := T_Sh) hC rfl rfl rfl (by decide) u_Sh wd_98 rfl d_Sh_put_31,
   ts_iload_n hC d_Sh_put_34 rfl,
   ts_aload_n hC d_Sh_put_35 rfl,
   ts_gi (j := 1) (C := R_Wa) (T := T_Wa) hC rfl rfl rfl (by decide) u_Wa wd_117 rfl d_Sh_put_36,
   ts_iastore hC d_Sh_put_39,
   ts_vret hC rfl d_Sh_put_40,
   trivial⟩
noncomputable def fn_Sh_put : tw_Fn := tw_fl 4 4 28 pr_Sh_put
theorem con_Sh_put : tw_Con y_Sh_put b_Sh_put 4 none 0 fn_Sh_put := tw_met (by decide +kernel) (tw_fl_len (n := 4) (by decide)) (fun p l e s m args below meth c E D vs σ ρ hC h => tw_sound (ok_Sh_put hC) 28 pr_Sh_put (ok_Sh_put hC) _ _ _ (tw_fl_get h))

-- TwinHost.isGuest(I)Z: 9 instructions, depth 0, calls 
theorem d_TH_isGuest_0 : decode b_TH_isGuest 0 = .ok (.iload_n 0, 1) := by decide +kernel
theorem d_TH_isGuest_1 : decode b_TH_isGuest 1 = .ok (.ifCond .lt 12, 3) := by decide +kernel
theorem d_TH_isGuest_4 : decode b_TH_isGuest 4 = .ok (.iload_n 0, 1) := by decide +kernel
theorem d_TH_isGuest_5 : decode b_TH_isGuest 5 = .ok (.iconst 2, 1) := by decide +kernel
theorem d_TH_isGuest_6 : decode b_TH_isGuest 6 = .ok (.if_icmp .ge 7, 3) := by decide +kernel
theorem d_TH_isGuest_9 : decode b_TH_isGuest 9 = .ok (.iconst 1, 1) := by decide +kernel
theorem d_TH_isGuest_10 : decode b_TH_isGuest 10 = .ok (.goto 4, 3) := by decide +kernel
theorem d_TH_isGuest_13 : decode b_TH_isGuest 13 = .ok (.iconst 0, 1) := by decide +kernel
theorem d_TH_isGuest_14 : decode b_TH_isGuest 14 = .ok (.ireturn, 1) := by decide +kernel
noncomputable def pr_TH_isGuest : List (Nat × tw_Op) := [(0, tw_il 0), (1, tw_iflt 13), (4, tw_il 0), (5, tw_ic 2), (6, tw_cge 13), (9, tw_ic 1), (10, tw_jmp 14), (13, tw_ic 0), (14, tw_rz)]
set_option maxRecDepth 100000 in
set_option maxHeartbeats 4000000 in
theorem ok_TH_isGuest {p : Program} {l : Launch} {e : Env} {s : State} {m : MethodId} {args : Array Value} {below : List Frame} {meth : Method} {c : Code} {E : tw_E} {D : va_G} {ρ : tw_R} (hC : tw_Cx p s m args meth c b_TH_isGuest 1 (some .boolean) "TwinHost" E D) : tw_Ok p l e (tw_rmd 0) s m args below meth c 0 0 (MQ below (tw_Qc E D ρ) args s 0 0 (tw_A E)) 1 E D ρ pr_TH_isGuest :=
  ⟨ts_iload_n hC d_TH_isGuest_0 rfl,
   ts_iflt hC d_TH_isGuest_1 (by decide),
   ts_iload_n hC d_TH_isGuest_4 rfl,
   ts_iconst hC d_TH_isGuest_5 (by decide),
   ts_cge hC d_TH_isGuest_6 (by decide),
   ts_iconst hC d_TH_isGuest_9 (by decide),
   ts_goto hC d_TH_isGuest_10 (by decide),
   ts_iconst hC d_TH_isGuest_13 (by decide),
   ts_zret hC rfl d_TH_isGuest_14,
   trivial⟩
noncomputable def fn_TH_isGuest : tw_Fn := tw_fl 1 1 11 pr_TH_isGuest
theorem con_TH_isGuest : tw_Con y_TH_isGuest b_TH_isGuest 1 (some .boolean) 0 fn_TH_isGuest := tw_met (by decide +kernel) (tw_fl_len (n := 1) (by decide)) (fun p l e s m args below meth c E D vs σ ρ hC h => tw_sound (ok_TH_isGuest hC) 11 pr_TH_isGuest (ok_TH_isGuest hC) _ _ _ (tw_fl_get h))

-- TwinHost.isRegister(I)Z: 9 instructions, depth 0, calls 
theorem d_TH_isRegister_0 : decode b_TH_isRegister 0 = .ok (.iload_n 0, 1) := by decide +kernel
theorem d_TH_isRegister_1 : decode b_TH_isRegister 1 = .ok (.ifCond .lt 13, 3) := by decide +kernel
theorem d_TH_isRegister_4 : decode b_TH_isRegister 4 = .ok (.iload_n 0, 1) := by decide +kernel
theorem d_TH_isRegister_5 : decode b_TH_isRegister 5 = .ok (.bipush 8, 2) := by decide +kernel
theorem d_TH_isRegister_7 : decode b_TH_isRegister 7 = .ok (.if_icmp .ge 7, 3) := by decide +kernel
theorem d_TH_isRegister_10 : decode b_TH_isRegister 10 = .ok (.iconst 1, 1) := by decide +kernel
theorem d_TH_isRegister_11 : decode b_TH_isRegister 11 = .ok (.goto 4, 3) := by decide +kernel
theorem d_TH_isRegister_14 : decode b_TH_isRegister 14 = .ok (.iconst 0, 1) := by decide +kernel
theorem d_TH_isRegister_15 : decode b_TH_isRegister 15 = .ok (.ireturn, 1) := by decide +kernel
noncomputable def pr_TH_isRegister : List (Nat × tw_Op) := [(0, tw_il 0), (1, tw_iflt 14), (4, tw_il 0), (5, tw_ic (8)), (7, tw_cge 14), (10, tw_ic 1), (11, tw_jmp 15), (14, tw_ic 0), (15, tw_rz)]
set_option maxRecDepth 100000 in
set_option maxHeartbeats 4000000 in
theorem ok_TH_isRegister {p : Program} {l : Launch} {e : Env} {s : State} {m : MethodId} {args : Array Value} {below : List Frame} {meth : Method} {c : Code} {E : tw_E} {D : va_G} {ρ : tw_R} (hC : tw_Cx p s m args meth c b_TH_isRegister 1 (some .boolean) "TwinHost" E D) : tw_Ok p l e (tw_rmd 0) s m args below meth c 0 0 (MQ below (tw_Qc E D ρ) args s 0 0 (tw_A E)) 1 E D ρ pr_TH_isRegister :=
  ⟨ts_iload_n hC d_TH_isRegister_0 rfl,
   ts_iflt hC d_TH_isRegister_1 (by decide),
   ts_iload_n hC d_TH_isRegister_4 rfl,
   ts_bipush hC d_TH_isRegister_5 (by decide),
   ts_cge hC d_TH_isRegister_7 (by decide),
   ts_iconst hC d_TH_isRegister_10 (by decide),
   ts_goto hC d_TH_isRegister_11 (by decide),
   ts_iconst hC d_TH_isRegister_14 (by decide),
   ts_zret hC rfl d_TH_isRegister_15,
   trivial⟩
noncomputable def fn_TH_isRegister : tw_Fn := tw_fl 1 1 11 pr_TH_isRegister
theorem con_TH_isRegister : tw_Con y_TH_isRegister b_TH_isRegister 1 (some .boolean) 0 fn_TH_isRegister := tw_met (by decide +kernel) (tw_fl_len (n := 1) (by decide)) (fun p l e s m args below meth c E D vs σ ρ hC h => tw_sound (ok_TH_isRegister hC) 11 pr_TH_isRegister (ok_TH_isRegister hC) _ _ _ (tw_fl_get h))

-- TwinHost.isWord(I)Z: 9 instructions, depth 0, calls 
theorem d_TH_isWord_0 : decode b_TH_isWord 0 = .ok (.iload_n 0, 1) := by decide +kernel
theorem d_TH_isWord_1 : decode b_TH_isWord 1 = .ok (.ifCond .lt 14, 3) := by decide +kernel
theorem d_TH_isWord_4 : decode b_TH_isWord 4 = .ok (.iload_n 0, 1) := by decide +kernel
theorem d_TH_isWord_5 : decode b_TH_isWord 5 = .ok (.sipush 128, 3) := by decide +kernel
theorem d_TH_isWord_8 : decode b_TH_isWord 8 = .ok (.if_icmp .ge 7, 3) := by decide +kernel
theorem d_TH_isWord_11 : decode b_TH_isWord 11 = .ok (.iconst 1, 1) := by decide +kernel
theorem d_TH_isWord_12 : decode b_TH_isWord 12 = .ok (.goto 4, 3) := by decide +kernel
theorem d_TH_isWord_15 : decode b_TH_isWord 15 = .ok (.iconst 0, 1) := by decide +kernel
theorem d_TH_isWord_16 : decode b_TH_isWord 16 = .ok (.ireturn, 1) := by decide +kernel
noncomputable def pr_TH_isWord : List (Nat × tw_Op) := [(0, tw_il 0), (1, tw_iflt 15), (4, tw_il 0), (5, tw_ic (128)), (8, tw_cge 15), (11, tw_ic 1), (12, tw_jmp 16), (15, tw_ic 0), (16, tw_rz)]
set_option maxRecDepth 100000 in
set_option maxHeartbeats 4000000 in
theorem ok_TH_isWord {p : Program} {l : Launch} {e : Env} {s : State} {m : MethodId} {args : Array Value} {below : List Frame} {meth : Method} {c : Code} {E : tw_E} {D : va_G} {ρ : tw_R} (hC : tw_Cx p s m args meth c b_TH_isWord 1 (some .boolean) "TwinHost" E D) : tw_Ok p l e (tw_rmd 0) s m args below meth c 0 0 (MQ below (tw_Qc E D ρ) args s 0 0 (tw_A E)) 1 E D ρ pr_TH_isWord :=
  ⟨ts_iload_n hC d_TH_isWord_0 rfl,
   ts_iflt hC d_TH_isWord_1 (by decide),
   ts_iload_n hC d_TH_isWord_4 rfl,
   ts_sipush hC d_TH_isWord_5 (by decide),
   ts_cge hC d_TH_isWord_8 (by decide),
   ts_iconst hC d_TH_isWord_11 (by decide),
   ts_goto hC d_TH_isWord_12 (by decide),
   ts_iconst hC d_TH_isWord_15 (by decide),
   ts_zret hC rfl d_TH_isWord_16,
   trivial⟩
noncomputable def fn_TH_isWord : tw_Fn := tw_fl 1 1 11 pr_TH_isWord
theorem con_TH_isWord : tw_Con y_TH_isWord b_TH_isWord 1 (some .boolean) 0 fn_TH_isWord := tw_met (by decide +kernel) (tw_fl_len (n := 1) (by decide)) (fun p l e s m args below meth c E D vs σ ρ hC h => tw_sound (ok_TH_isWord hC) 11 pr_TH_isWord (ok_TH_isWord hC) _ _ _ (tw_fl_get h))

-- TwinHost.passTurnAfter(LTwinHost$Outcome;)V: 37 instructions, depth 0, calls 
theorem d_TH_passTurnAfter_0 : decode b_TH_passTurnAfter 0 = .ok (.aload_n 0, 1) := by decide +kernel
theorem d_TH_passTurnAfter_1 : decode b_TH_passTurnAfter 1 = .ok (.dup, 1) := by decide +kernel
theorem d_TH_passTurnAfter_2 : decode b_TH_passTurnAfter 2 = .ok (.getfield 115, 3) := by decide +kernel
theorem d_TH_passTurnAfter_5 : decode b_TH_passTurnAfter 5 = .ok (.iconst 1, 1) := by decide +kernel
theorem d_TH_passTurnAfter_6 : decode b_TH_passTurnAfter 6 = .ok (.iadd, 1) := by decide +kernel
theorem d_TH_passTurnAfter_7 : decode b_TH_passTurnAfter 7 = .ok (.putfield 115, 3) := by decide +kernel
theorem d_TH_passTurnAfter_10 : decode b_TH_passTurnAfter 10 = .ok (.aload_n 0, 1) := by decide +kernel
theorem d_TH_passTurnAfter_11 : decode b_TH_passTurnAfter 11 = .ok (.getfield 115, 3) := by decide +kernel
theorem d_TH_passTurnAfter_14 : decode b_TH_passTurnAfter 14 = .ok (.aload_n 0, 1) := by decide +kernel
theorem d_TH_passTurnAfter_15 : decode b_TH_passTurnAfter 15 = .ok (.getfield 9, 3) := by decide +kernel
theorem d_TH_passTurnAfter_18 : decode b_TH_passTurnAfter 18 = .ok (.if_icmp .ge 11, 3) := by decide +kernel
theorem d_TH_passTurnAfter_21 : decode b_TH_passTurnAfter 21 = .ok (.aload_n 1, 1) := by decide +kernel
theorem d_TH_passTurnAfter_22 : decode b_TH_passTurnAfter 22 = .ok (.getstatic 118, 3) := by decide +kernel
theorem d_TH_passTurnAfter_25 : decode b_TH_passTurnAfter 25 = .ok (.if_acmp .eq 4, 3) := by decide +kernel
theorem d_TH_passTurnAfter_28 : decode b_TH_passTurnAfter 28 = .ok (.return_, 1) := by decide +kernel
theorem d_TH_passTurnAfter_29 : decode b_TH_passTurnAfter 29 = .ok (.aload_n 0, 1) := by decide +kernel
theorem d_TH_passTurnAfter_30 : decode b_TH_passTurnAfter 30 = .ok (.getfield 16, 3) := by decide +kernel
theorem d_TH_passTurnAfter_33 : decode b_TH_passTurnAfter 33 = .ok (.aload_n 0, 1) := by decide +kernel
theorem d_TH_passTurnAfter_34 : decode b_TH_passTurnAfter 34 = .ok (.getfield 81, 3) := by decide +kernel
theorem d_TH_passTurnAfter_37 : decode b_TH_passTurnAfter 37 = .ok (.aaload, 1) := by decide +kernel
theorem d_TH_passTurnAfter_38 : decode b_TH_passTurnAfter 38 = .ok (.getfield 112, 3) := by decide +kernel
theorem d_TH_passTurnAfter_41 : decode b_TH_passTurnAfter 41 = .ok (.bipush 7, 2) := by decide +kernel
theorem d_TH_passTurnAfter_43 : decode b_TH_passTurnAfter 43 = .ok (.dup2, 1) := by decide +kernel
theorem d_TH_passTurnAfter_44 : decode b_TH_passTurnAfter 44 = .ok (.iaload, 1) := by decide +kernel
theorem d_TH_passTurnAfter_45 : decode b_TH_passTurnAfter 45 = .ok (.iconst 1, 1) := by decide +kernel
theorem d_TH_passTurnAfter_46 : decode b_TH_passTurnAfter 46 = .ok (.iadd, 1) := by decide +kernel
theorem d_TH_passTurnAfter_47 : decode b_TH_passTurnAfter 47 = .ok (.iastore, 1) := by decide +kernel
theorem d_TH_passTurnAfter_48 : decode b_TH_passTurnAfter 48 = .ok (.aload_n 0, 1) := by decide +kernel
theorem d_TH_passTurnAfter_49 : decode b_TH_passTurnAfter 49 = .ok (.iconst 1, 1) := by decide +kernel
theorem d_TH_passTurnAfter_50 : decode b_TH_passTurnAfter 50 = .ok (.aload_n 0, 1) := by decide +kernel
theorem d_TH_passTurnAfter_51 : decode b_TH_passTurnAfter 51 = .ok (.getfield 81, 3) := by decide +kernel
theorem d_TH_passTurnAfter_54 : decode b_TH_passTurnAfter 54 = .ok (.isub, 1) := by decide +kernel
theorem d_TH_passTurnAfter_55 : decode b_TH_passTurnAfter 55 = .ok (.putfield 81, 3) := by decide +kernel
theorem d_TH_passTurnAfter_58 : decode b_TH_passTurnAfter 58 = .ok (.aload_n 0, 1) := by decide +kernel
theorem d_TH_passTurnAfter_59 : decode b_TH_passTurnAfter 59 = .ok (.iconst 0, 1) := by decide +kernel
theorem d_TH_passTurnAfter_60 : decode b_TH_passTurnAfter 60 = .ok (.putfield 115, 3) := by decide +kernel
theorem d_TH_passTurnAfter_63 : decode b_TH_passTurnAfter 63 = .ok (.return_, 1) := by decide +kernel
noncomputable def pr_TH_passTurnAfter : List (Nat × tw_Op) := [(0, tw_al 0), (1, tw_dup), (2, tw_gi 20 3), (5, tw_ic 1), (6, tw_bin (· + ·)), (7, tw_pi 20 3), (10, tw_al 0), (11, tw_gi 20 3), (14, tw_al 0), (15, tw_gi 20 1), (18, tw_cge 29), (21, tw_al 1), (22, tw_en 62), (25, tw_aeq 29), (28, tw_r0), (29, tw_al 0), (30, tw_gr 20 21), (33, tw_al 0), (34, tw_gi 20 2), (37, tw_ga), (38, tw_gr 0 3), (41, tw_ic (7)), (43, tw_d2), (44, tw_ia), (45, tw_ic 1), (46, tw_bin (· + ·)), (47, tw_ias 0 22), (48, tw_al 0), (49, tw_ic 1), (50, tw_al 0), (51, tw_gi 20 2), (54, tw_bin (· - ·)), (55, tw_pi 20 2), (58, tw_al 0), (59, tw_ic 0), (60, tw_pi 20 3), (63, tw_r0)]
set_option maxRecDepth 100000 in
set_option maxHeartbeats 4000000 in
theorem ok_TH_passTurnAfter {p : Program} {l : Launch} {e : Env} {s : State} {m : MethodId} {args : Array Value} {below : List Frame} {meth : Method} {c : Code} {E : tw_E} {D : va_G} {ρ : tw_R} (hC : tw_Cx p s m args meth c b_TH_passTurnAfter 2 none "TwinHost" E D) : tw_Ok p l e (tw_rmd 0) s m args below meth c 0 0 (MQ below (tw_Qc E D ρ) args s 0 0 (tw_A E)) 2 E D ρ pr_TH_passTurnAfter :=
  ⟨ts_aload_n hC d_TH_passTurnAfter_0 rfl,
   ts_dup hC d_TH_passTurnAfter_1,
   ts_gi (j := 3) (C := R_TH) (T := T_TH) hC rfl rfl rfl (by decide) u_TH wd_167 rfl d_TH_passTurnAfter_2,
   ts_iconst hC d_TH_passTurnAfter_5 (by decide),
   ts_iadd hC d_TH_passTurnAfter_6,
   ts_pi (j := 3) (C := R_TH) (T := T_TH) hC rfl rfl rfl (by decide) u_TH wd_167 rfl t_TH_ok n_TH rfl (by decide +kernel) d_TH_passTurnAfter_7,
   ts_aload_n hC d_TH_passTurnAfter_10 rfl,
   ts_gi (j := 3) (C := R_TH) (T := T_TH) hC rfl rfl rfl (by decide) u_TH wd_167 rfl d_TH_passTurnAfter_11,
   ts_aload_n hC d_TH_passTurnAfter_14 rfl,
   ts_gi (j := 1) (C := R_TH) (T := T_TH) hC rfl rfl rfl (by decide) u_TH wd_165 rfl d_TH_passTurnAfter_15,
   ts_cge hC d_TH_passTurnAfter_18 (by decide),
   ts_aload_n hC d_TH_passTurnAfter_21 rfl,
   ts_getO (i := 2) hC (by decide) rfl wd_424 d_TH_passTurnAfter_22,
   ts_aeq hC d_TH_passTurnAfter_25 (by decide),
   ts_vret hC rfl d_TH_passTurnAfter_28,
   ts_aload_n hC d_TH_passTurnAfter_29 rfl,
   ts_gr (j := 0) (C := R_TH) (T := T_TH) hC rfl rfl rfl (by decide) u_TH wd_164 rfl d_TH_passTurnAfter_30,
   ts_aload_n hC d_TH_passTurnAfter_33 rfl,
   ts_gi (j := 2) (C := R_TH) (T := T_TH) hC rfl rfl rfl (by decide) u_TH wd_166 rfl d_TH_passTurnAfter_34,
   ts_aaload hC d_TH_passTurnAfter_37,
   ts_gr (j := 2) (C := R_Gu) (T := T_Gu) hC rfl rfl rfl (by decide) u_Gu wd_137 rfl d_TH_passTurnAfter_38,
   ts_bipush hC d_TH_passTurnAfter_41 (by decide),
   ts_dup2 hC d_TH_passTurnAfter_43,
   ts_iaload hC d_TH_passTurnAfter_44,
   ts_iconst hC d_TH_passTurnAfter_45 (by decide),
   ts_iadd hC d_TH_passTurnAfter_46,
   ts_iastore hC d_TH_passTurnAfter_47,
   ts_aload_n hC d_TH_passTurnAfter_48 rfl,
   ts_iconst hC d_TH_passTurnAfter_49 (by decide),
   ts_aload_n hC d_TH_passTurnAfter_50 rfl,
   ts_gi (j := 2) (C := R_TH) (T := T_TH) hC rfl rfl rfl (by decide) u_TH wd_166 rfl d_TH_passTurnAfter_51,
   ts_isub hC d_TH_passTurnAfter_54,
   ts_pi (j := 2) (C := R_TH) (T := T_TH) hC rfl rfl rfl (by decide) u_TH wd_166 rfl t_TH_ok n_TH rfl (by decide +kernel) d_TH_passTurnAfter_55,
   ts_aload_n hC d_TH_passTurnAfter_58 rfl,
   ts_iconst hC d_TH_passTurnAfter_59 (by decide),
   ts_pi (j := 3) (C := R_TH) (T := T_TH) hC rfl rfl rfl (by decide) u_TH wd_167 rfl t_TH_ok n_TH rfl (by decide +kernel) d_TH_passTurnAfter_60,
   ts_vret hC rfl d_TH_passTurnAfter_63,
   trivial⟩
noncomputable def fn_TH_passTurnAfter : tw_Fn := tw_fl 2 2 39 pr_TH_passTurnAfter
theorem con_TH_passTurnAfter : tw_Con y_TH_passTurnAfter b_TH_passTurnAfter 2 none 0 fn_TH_passTurnAfter := tw_met (by decide +kernel) (tw_fl_len (n := 2) (by decide)) (fun p l e s m args below meth c E D vs σ ρ hC h => tw_sound (ok_TH_passTurnAfter hC) 39 pr_TH_passTurnAfter (ok_TH_passTurnAfter hC) _ _ _ (tw_fl_get h))

-- TwinHost.turn()I: 3 instructions, depth 0, calls 
theorem d_TH_turn_0 : decode b_TH_turn 0 = .ok (.aload_n 0, 1) := by decide +kernel
theorem d_TH_turn_1 : decode b_TH_turn 1 = .ok (.getfield 81, 3) := by decide +kernel
theorem d_TH_turn_4 : decode b_TH_turn 4 = .ok (.ireturn, 1) := by decide +kernel
noncomputable def pr_TH_turn : List (Nat × tw_Op) := [(0, tw_al 0), (1, tw_gi 20 2), (4, tw_ri)]
set_option maxRecDepth 100000 in
set_option maxHeartbeats 4000000 in
theorem ok_TH_turn {p : Program} {l : Launch} {e : Env} {s : State} {m : MethodId} {args : Array Value} {below : List Frame} {meth : Method} {c : Code} {E : tw_E} {D : va_G} {ρ : tw_R} (hC : tw_Cx p s m args meth c b_TH_turn 1 (some .int) "TwinHost" E D) : tw_Ok p l e (tw_rmd 0) s m args below meth c 0 0 (MQ below (tw_Qc E D ρ) args s 0 0 (tw_A E)) 1 E D ρ pr_TH_turn :=
  ⟨ts_aload_n hC d_TH_turn_0 rfl,
   ts_gi (j := 2) (C := R_TH) (T := T_TH) hC rfl rfl rfl (by decide) u_TH wd_166 rfl d_TH_turn_1,
   ts_iret hC rfl d_TH_turn_4,
   trivial⟩
noncomputable def fn_TH_turn : tw_Fn := tw_fl 1 1 5 pr_TH_turn
theorem con_TH_turn : tw_Con y_TH_turn b_TH_turn 1 (some .int) 0 fn_TH_turn := tw_met (by decide +kernel) (tw_fl_len (n := 1) (by decide)) (fun p l e s m args below meth c E D vs σ ρ hC h => tw_sound (ok_TH_turn hC) 5 pr_TH_turn (ok_TH_turn hC) _ _ _ (tw_fl_get h))
