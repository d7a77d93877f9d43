-- TwinHost$Controls.dueBits()I: 8 instructions, depth 2, calls Co_pendingBits
theorem d_Co_dueBits_0 : decode b_Co_dueBits 0 = .ok (.aload_n 0, 1) := by decide +kernel
theorem d_Co_dueBits_1 : decode b_Co_dueBits 1 = .ok (.getfield 9, 3) := by decide +kernel
theorem d_Co_dueBits_4 : decode b_Co_dueBits 4 = .ok (.bipush 7, 2) := by decide +kernel
theorem d_Co_dueBits_6 : decode b_Co_dueBits 6 = .ok (.iaload, 1) := by decide +kernel
theorem d_Co_dueBits_7 : decode b_Co_dueBits 7 = .ok (.aload_n 0, 1) := by decide +kernel
theorem d_Co_dueBits_8 : decode b_Co_dueBits 8 = .ok (.invokevirtual 25, 3) := by decide +kernel
theorem d_Co_dueBits_11 : decode b_Co_dueBits 11 = .ok (.iand, 1) := by decide +kernel
theorem d_Co_dueBits_12 : decode b_Co_dueBits 12 = .ok (.ireturn, 1) := by decide +kernel
noncomputable def pr_Co_dueBits : List (Nat × tw_Op) := [(0, tw_al 0), (1, tw_gr 4 5), (4, tw_ic (7)), (6, tw_ia), (7, tw_al 0), (8, tw_cv 0 4 fn_Co_pendingBits), (11, tw_bin (· &&& ·)), (12, tw_ri)]
set_option maxRecDepth 100000 in
set_option maxHeartbeats 4000000 in
theorem ok_Co_dueBits {p : Program} {l : Launch} {e : Env} {s : State} {m : MethodId} {args : Array Value} {below : List Frame} {meth : Method} {c : Code} {E : tw_E} {D : va_G} {ρ : tw_R} (hC : tw_Cx p s m args meth c b_Co_dueBits 1 (some .int) "TwinHost$Controls" E D) : tw_Ok p l e (tw_rmd 2) s m args below meth c 0 0 (MQ below (tw_Qc E D ρ) args s 0 0 (tw_A E)) 1 E D ρ pr_Co_dueBits :=
  ⟨ts_aload_n hC d_Co_dueBits_0 rfl,
   ts_gr (j := 0) (C := R_Co) (T := T_Co) hC rfl rfl rfl (by decide) u_Co wd_75 rfl d_Co_dueBits_1,
   ts_bipush hC d_Co_dueBits_4 (by decide),
   ts_iaload hC d_Co_dueBits_6,
   ts_aload_n hC d_Co_dueBits_7 rfl,
   ts_callv (C := R_Co) (T := T_Co) hC con_Co_pendingBits wd_252 wd_26 (by decide +kernel) ⟨by decide, by decide⟩ ⟨Nat.zero_le _, Nat.zero_le _⟩ wd_249 rfl rfl wd_250 wd_251 d_Co_dueBits_8,
   ts_iand hC d_Co_dueBits_11,
   ts_iret hC rfl d_Co_dueBits_12,
   trivial⟩
noncomputable def fn_Co_dueBits : tw_Fn := tw_fl 1 1 10 pr_Co_dueBits
theorem con_Co_dueBits : tw_Con y_Co_dueBits b_Co_dueBits 1 (some .int) 2 fn_Co_dueBits := tw_met (by decide +kernel) (tw_fl_len (n := 1) (by decide)) (fun p l e s m args below meth c E D vs σ ρ hC h => tw_sound (ok_Co_dueBits hC) 10 pr_Co_dueBits (ok_Co_dueBits hC) _ _ _ (tw_fl_get h))

-- TwinHost$Controls.look(I)I: 26 instructions, depth 2, calls Co_pendingBits In_isThere
theorem d_Co_look_0 : decode b_Co_look 0 = .ok (.iload_n 1, 1) := by decide +kernel
theorem d_Co_look_1 : decode b_Co_look 1 = .ok (.lookupswitch 63 #[(8, 27), (11, 32)], 27) := by decide +kernel
theorem d_Co_look_28 : decode b_Co_look 28 = .ok (.aload_n 0, 1) := by decide +kernel
theorem d_Co_look_29 : decode b_Co_look 29 = .ok (.invokevirtual 25, 3) := by decide +kernel
theorem d_Co_look_32 : decode b_Co_look 32 = .ok (.ireturn, 1) := by decide +kernel
theorem d_Co_look_33 : decode b_Co_look 33 = .ok (.aload_n 0, 1) := by decide +kernel
theorem d_Co_look_34 : decode b_Co_look 34 = .ok (.getfield 16, 3) := by decide +kernel
theorem d_Co_look_37 : decode b_Co_look 37 = .ok (.aload_n 0, 1) := by decide +kernel
theorem d_Co_look_38 : decode b_Co_look 38 = .ok (.getfield 9, 3) := by decide +kernel
theorem d_Co_look_41 : decode b_Co_look 41 = .ok (.bipush 10, 2) := by decide +kernel
theorem d_Co_look_43 : decode b_Co_look 43 = .ok (.iaload, 1) := by decide +kernel
theorem d_Co_look_44 : decode b_Co_look 44 = .ok (.invokevirtual 29, 3) := by decide +kernel
theorem d_Co_look_47 : decode b_Co_look 47 = .ok (.ifCond .eq 15, 3) := by decide +kernel
theorem d_Co_look_50 : decode b_Co_look 50 = .ok (.aload_n 0, 1) := by decide +kernel
theorem d_Co_look_51 : decode b_Co_look 51 = .ok (.getfield 16, 3) := by decide +kernel
theorem d_Co_look_54 : decode b_Co_look 54 = .ok (.getfield 32, 3) := by decide +kernel
theorem d_Co_look_57 : decode b_Co_look 57 = .ok (.iconst 0, 1) := by decide +kernel
theorem d_Co_look_58 : decode b_Co_look 58 = .ok (.iaload, 1) := by decide +kernel
theorem d_Co_look_59 : decode b_Co_look 59 = .ok (.goto 4, 3) := by decide +kernel
theorem d_Co_look_62 : decode b_Co_look 62 = .ok (.iconst 0, 1) := by decide +kernel
theorem d_Co_look_63 : decode b_Co_look 63 = .ok (.ireturn, 1) := by decide +kernel
theorem d_Co_look_64 : decode b_Co_look 64 = .ok (.aload_n 0, 1) := by decide +kernel
theorem d_Co_look_65 : decode b_Co_look 65 = .ok (.getfield 9, 3) := by decide +kernel
theorem d_Co_look_68 : decode b_Co_look 68 = .ok (.iload_n 1, 1) := by decide +kernel
theorem d_Co_look_69 : decode b_Co_look 69 = .ok (.iaload, 1) := by decide +kernel
theorem d_Co_look_70 : decode b_Co_look 70 = .ok (.ireturn, 1) := by decide +kernel
noncomputable def pr_Co_look : List (Nat × tw_Op) := [(0, tw_il 1), (1, tw_sw [(8, 28), (11, 33)] 64), (28, tw_al 0), (29, tw_cv 0 4 fn_Co_pendingBits), (32, tw_ri), (33, tw_al 0), (34, tw_gr 4 6), (37, tw_al 0), (38, tw_gr 4 5), (41, tw_ic (10)), (43, tw_ia), (44, tw_cv 1 6 fn_In_isThere), (47, tw_ifeq 62), (50, tw_al 0), (51, tw_gr 4 6), (54, tw_gr 6 8), (57, tw_ic 0), (58, tw_ia), (59, tw_jmp 63), (62, tw_ic 0), (63, tw_ri), (64, tw_al 0), (65, tw_gr 4 5), (68, tw_il 1), (69, tw_ia), (70, tw_ri)]
set_option maxRecDepth 100000 in
set_option maxHeartbeats 4000000 in
theorem ok_Co_look {p : Program} {l : Launch} {e : Env} {s : State} {m : MethodId} {args : Array Value} {below : List Frame} {meth : Method} {c : Code} {E : tw_E} {D : va_G} {ρ : tw_R} (hC : tw_Cx p s m args meth c b_Co_look 2 (some .int) "TwinHost$Controls" E D) : tw_Ok p l e (tw_rmd 2) s m args below meth c 0 0 (MQ below (tw_Qc E D ρ) args s 0 0 (tw_A E)) 2 E D ρ pr_Co_look :=
  ⟨ts_iload_n hC d_Co_look_0 rfl,
   ts_lookup hC _ d_Co_look_1 (by decide +kernel) (by decide) rfl (by decide +kernel),
   ts_aload_n hC d_Co_look_28 rfl,
   ts_callv (C := R_Co) (T := T_Co) hC con_Co_pendingBits wd_252 wd_26 (by decide +kernel) ⟨by decide, by decide⟩ ⟨Nat.zero_le _, Nat.zero_le _⟩ wd_249 rfl rfl wd_250 wd_251 d_Co_look_29,
   ts_iret hC rfl d_Co_look_32,
   ts_aload_n hC d_Co_look_33 rfl,
   ts_gr (j := 1) (C := R_Co) (T := T_Co) hC rfl rfl rfl (by decide) u_Co wd_77 rfl d_Co_look_34,
   ts_aload_n hC d_Co_look_37 rfl,
   ts_gr (j := 0) (C := R_Co) (T := T_Co) hC rfl rfl rfl (by decide) u_Co wd_75 rfl d_Co_look_38,
   ts_bipush hC d_Co_look_41 (by decide),
   ts_iaload hC d_Co_look_43,
   ts_callv (C := R_In) (T := T_In) hC con_In_isThere wd_256 wd_27 (by decide +kernel) ⟨by decide, by decide⟩ ⟨Nat.zero_le _, Nat.zero_le _⟩ wd_253 rfl rfl wd_254 wd_255 d_Co_look_44,
   ts_ifeq hC d_Co_look_47 (by decide),
   ts_aload_n hC d_Co_look_50 rfl,
   ts_gr (j := 1) (C := R_Co) (T := T_Co) hC rfl rfl rfl (by decide) u_Co wd_77 rfl d_Co_look_51,
   ts_gr (j := 1) (C := R_In) (T := T_In) hC rfl rfl rfl (by decide) u_In wd_64 rfl d_Co_look_54,
   ts_iconst hC d_Co_look_57 (by decide),
   ts_iaload hC d_Co_look_58,
   ts_goto hC d_Co_look_59 (by decide),
   ts_iconst hC d_Co_look_62 (by decide),
   ts_iret hC rfl d_Co_look_63,
   ts_aload_n hC d_Co_look_64 rfl,
   ts_gr (j := 0) (C := R_Co) (T := T_Co) hC rfl rfl rfl (by decide) u_Co wd_75 rfl d_Co_look_65,
   ts_iload_n hC d_Co_look_68 rfl,
   ts_iaload hC d_Co_look_69,
   ts_iret hC rfl d_Co_look_70,
   trivial⟩
noncomputable def fn_Co_look : tw_Fn := tw_fl 2 2 28 pr_Co_look
theorem con_Co_look : tw_Con y_Co_look b_Co_look 2 (some .int) 2 fn_Co_look := tw_met (by decide +kernel) (tw_fl_len (n := 2) (by decide)) (fun p l e s m args below meth c E D vs σ ρ hC h => tw_sound (ok_Co_look hC) 28 pr_Co_look (ok_Co_look hC) _ _ _ (tw_fl_get h))

-- TwinHost$Guest.reach(ILTwinHost$Access;)I: 79 instructions, depth 2, calls Co_translates TH_isWord Co_isOn Sh_letsThrough Wa_search Gu_fill
theorem d_Gu_reach_0 : decode b_Gu_reach 0 = .ok (.aload_n 0, 1) := by decide +kernel
theorem d_Gu_reach_1 : decode b_Gu_reach 1 = .ok (.getfield 26, 3) := by decide +kernel
theorem d_Gu_reach_4 : decode b_Gu_reach 4 = .ok (.invokevirtual 165, 3) := by decide +kernel
theorem d_Gu_reach_7 : decode b_Gu_reach 7 = .ok (.ifCond .ne 20, 3) := by decide +kernel
theorem d_Gu_reach_10 : decode b_Gu_reach 10 = .ok (.iload_n 1, 1) := by decide +kernel
theorem d_Gu_reach_11 : decode b_Gu_reach 11 = .ok (.invokestatic 168, 3) := by decide +kernel
theorem d_Gu_reach_14 : decode b_Gu_reach 14 = .ok (.ifCond .eq 7, 3) := by decide +kernel
theorem d_Gu_reach_17 : decode b_Gu_reach 17 = .ok (.iload_n 1, 1) := by decide +kernel
theorem d_Gu_reach_18 : decode b_Gu_reach 18 = .ok (.goto 8, 3) := by decide +kernel
theorem d_Gu_reach_21 : decode b_Gu_reach 21 = .ok (.aload_n 2, 1) := by decide +kernel
theorem d_Gu_reach_22 : decode b_Gu_reach 22 = .ok (.getfield 171, 3) := by decide +kernel
theorem d_Gu_reach_25 : decode b_Gu_reach 25 = .ok (.ineg, 1) := by decide +kernel
theorem d_Gu_reach_26 : decode b_Gu_reach 26 = .ok (.ireturn, 1) := by decide +kernel
theorem d_Gu_reach_27 : decode b_Gu_reach 27 = .ok (.iload_n 1, 1) := by decide +kernel
theorem d_Gu_reach_28 : decode b_Gu_reach 28 = .ok (.ifCond .lt 10, 3) := by decide +kernel
theorem d_Gu_reach_31 : decode b_Gu_reach 31 = .ok (.iload_n 1, 1) := by decide +kernel
theorem d_Gu_reach_32 : decode b_Gu_reach 32 = .ok (.sipush 256, 3) := by decide +kernel
theorem d_Gu_reach_35 : decode b_Gu_reach 35 = .ok (.if_icmp .lt 9, 3) := by decide +kernel
theorem d_Gu_reach_38 : decode b_Gu_reach 38 = .ok (.aload_n 2, 1) := by decide +kernel
theorem d_Gu_reach_39 : decode b_Gu_reach 39 = .ok (.getfield 174, 3) := by decide +kernel
theorem d_Gu_reach_42 : decode b_Gu_reach 42 = .ok (.ineg, 1) := by decide +kernel
theorem d_Gu_reach_43 : decode b_Gu_reach 43 = .ok (.ireturn, 1) := by decide +kernel
theorem d_Gu_reach_44 : decode b_Gu_reach 44 = .ok (.iload_n 1, 1) := by decide +kernel
theorem d_Gu_reach_45 : decode b_Gu_reach 45 = .ok (.iconst 4, 1) := by decide +kernel
theorem d_Gu_reach_46 : decode b_Gu_reach 46 = .ok (.ishr, 1) := by decide +kernel
theorem d_Gu_reach_47 : decode b_Gu_reach 47 = .ok (.istore_n 3, 1) := by decide +kernel
theorem d_Gu_reach_48 : decode b_Gu_reach 48 = .ok (.aload_n 0, 1) := by decide +kernel
theorem d_Gu_reach_49 : decode b_Gu_reach 49 = .ok (.getfield 33, 3) := by decide +kernel
theorem d_Gu_reach_52 : decode b_Gu_reach 52 = .ok (.iload_n 3, 1) := by decide +kernel
theorem d_Gu_reach_53 : decode b_Gu_reach 53 = .ok (.aload_n 2, 1) := by decide +kernel
theorem d_Gu_reach_54 : decode b_Gu_reach 54 = .ok (.aload_n 0, 1) := by decide +kernel
theorem d_Gu_reach_55 : decode b_Gu_reach 55 = .ok (.getfield 48, 3) := by decide +kernel
theorem d_Gu_reach_58 : decode b_Gu_reach 58 = .ok (.aload_n 0, 1) := by decide +kernel
theorem d_Gu_reach_59 : decode b_Gu_reach 59 = .ok (.getfield 26, 3) := by decide +kernel
theorem d_Gu_reach_62 : decode b_Gu_reach 62 = .ok (.bipush 8, 2) := by decide +kernel
theorem d_Gu_reach_64 : decode b_Gu_reach 64 = .ok (.invokevirtual 52, 3) := by decide +kernel
theorem d_Gu_reach_67 : decode b_Gu_reach 67 = .ok (.invokevirtual 177, 3) := by decide +kernel
theorem d_Gu_reach_70 : decode b_Gu_reach 70 = .ok (.ifCond .ne 57, 3) := by decide +kernel
theorem d_Gu_reach_73 : decode b_Gu_reach 73 = .ok (.aload_n 0, 1) := by decide +kernel
theorem d_Gu_reach_74 : decode b_Gu_reach 74 = .ok (.getfield 26, 3) := by decide +kernel
theorem d_Gu_reach_77 : decode b_Gu_reach 77 = .ok (.getfield 123, 3) := by decide +kernel
theorem d_Gu_reach_80 : decode b_Gu_reach 80 = .ok (.bipush 6, 2) := by decide +kernel
theorem d_Gu_reach_82 : decode b_Gu_reach 82 = .ok (.iaload, 1) := by decide +kernel
theorem d_Gu_reach_83 : decode b_Gu_reach 83 = .ok (.bipush 15, 2) := by decide +kernel
theorem d_Gu_reach_85 : decode b_Gu_reach 85 = .ok (.iand, 1) := by decide +kernel
theorem d_Gu_reach_86 : decode b_Gu_reach 86 = .ok (.istore 4, 2) := by decide +kernel
theorem d_Gu_reach_88 : decode b_Gu_reach 88 = .ok (.aload_n 0, 1) := by decide +kernel
theorem d_Gu_reach_89 : decode b_Gu_reach 89 = .ok (.getfield 40, 3) := by decide +kernel
theorem d_Gu_reach_92 : decode b_Gu_reach 92 = .ok (.aload_n 0, 1) := by decide +kernel
theorem d_Gu_reach_93 : decode b_Gu_reach 93 = .ok (.getfield 9, 3) := by decide +kernel
theorem d_Gu_reach_96 : decode b_Gu_reach 96 = .ok (.iload 4, 2) := by decide +kernel
theorem d_Gu_reach_98 : decode b_Gu_reach 98 = .ok (.iload_n 1, 1) := by decide +kernel
theorem d_Gu_reach_99 : decode b_Gu_reach 99 = .ok (.aload_n 2, 1) := by decide +kernel
theorem d_Gu_reach_100 : decode b_Gu_reach 100 = .ok (.invokevirtual 181, 3) := by decide +kernel
theorem d_Gu_reach_103 : decode b_Gu_reach 103 = .ok (.istore 5, 2) := by decide +kernel
theorem d_Gu_reach_105 : decode b_Gu_reach 105 = .ok (.iload 5, 2) := by decide +kernel
theorem d_Gu_reach_107 : decode b_Gu_reach 107 = .ok (.ifCond .ne 11, 3) := by decide +kernel
theorem d_Gu_reach_110 : decode b_Gu_reach 110 = .ok (.aload_n 0, 1) := by decide +kernel
theorem d_Gu_reach_111 : decode b_Gu_reach 111 = .ok (.iload_n 3, 1) := by decide +kernel
theorem d_Gu_reach_112 : decode b_Gu_reach 112 = .ok (.aload_n 2, 1) := by decide +kernel
theorem d_Gu_reach_113 : decode b_Gu_reach 113 = .ok (.invokevirtual 185, 3) := by decide +kernel
theorem d_Gu_reach_116 : decode b_Gu_reach 116 = .ok (.istore 5, 2) := by decide +kernel
theorem d_Gu_reach_118 : decode b_Gu_reach 118 = .ok (.iload 5, 2) := by decide +kernel
theorem d_Gu_reach_120 : decode b_Gu_reach 120 = .ok (.ifCond .eq 7, 3) := by decide +kernel
theorem d_Gu_reach_123 : decode b_Gu_reach 123 = .ok (.iload 5, 2) := by decide +kernel
theorem d_Gu_reach_125 : decode b_Gu_reach 125 = .ok (.ineg, 1) := by decide +kernel
theorem d_Gu_reach_126 : decode b_Gu_reach 126 = .ok (.ireturn, 1) := by decide +kernel
theorem d_Gu_reach_127 : decode b_Gu_reach 127 = .ok (.aload_n 0, 1) := by decide +kernel
theorem d_Gu_reach_128 : decode b_Gu_reach 128 = .ok (.getfield 33, 3) := by decide +kernel
theorem d_Gu_reach_131 : decode b_Gu_reach 131 = .ok (.getfield 188, 3) := by decide +kernel
theorem d_Gu_reach_134 : decode b_Gu_reach 134 = .ok (.iload_n 3, 1) := by decide +kernel
theorem d_Gu_reach_135 : decode b_Gu_reach 135 = .ok (.iaload, 1) := by decide +kernel
theorem d_Gu_reach_136 : decode b_Gu_reach 136 = .ok (.iconst 4, 1) := by decide +kernel
theorem d_Gu_reach_137 : decode b_Gu_reach 137 = .ok (.ishl, 1) := by decide +kernel
theorem d_Gu_reach_138 : decode b_Gu_reach 138 = .ok (.iload_n 1, 1) := by decide +kernel
theorem d_Gu_reach_139 : decode b_Gu_reach 139 = .ok (.bipush 15, 2) := by decide +kernel
theorem d_Gu_reach_141 : decode b_Gu_reach 141 = .ok (.iand, 1) := by decide +kernel
theorem d_Gu_reach_142 : decode b_Gu_reach 142 = .ok (.iadd, 1) := by decide +kernel
theorem d_Gu_reach_143 : decode b_Gu_reach 143 = .ok (.ireturn, 1) := by decide +kernel
noncomputable def pr_Gu_reach : List (Nat × tw_Op) := [(0, tw_al 0), (1, tw_gr 0 4), (4, tw_cv 0 4 fn_Co_translates), (7, tw_ifne 27), (10, tw_il 1), (11, tw_cs 1 fn_TH_isWord), (14, tw_ifeq 21), (17, tw_il 1), (18, tw_jmp 26), (21, tw_al 2), (22, tw_ge 1), (25, tw_neg), (26, tw_ri), (27, tw_il 1), (28, tw_iflt 38), (31, tw_il 1), (32, tw_ic (256)), (35, tw_clt 44), (38, tw_al 2), (39, tw_ge 2), (42, tw_neg), (43, tw_ri), (44, tw_il 1), (45, tw_ic 4), (46, tw_bin (fun x y => x >>> (y &&& 31))), (47, tw_is 3), (48, tw_al 0), (49, tw_gr 0 9), (52, tw_il 3), (53, tw_al 2), (54, tw_al 0), (55, tw_gi 0 7), (58, tw_al 0), (59, tw_gr 0 4), (62, tw_ic (8)), (64, tw_cv 1 4 fn_Co_isOn), (67, tw_cv 4 9 fn_Sh_letsThrough), (70, tw_ifne 127), (73, tw_al 0), (74, tw_gr 0 4), (77, tw_gr 4 5), (80, tw_ic (6)), (82, tw_ia), (83, tw_ic (15)), (85, tw_bin (· &&& ·)), (86, tw_is 4), (88, tw_al 0), (89, tw_gr 0 14), (92, tw_al 0), (93, tw_gr 0 1), (96, tw_il 4), (98, tw_il 1), (99, tw_al 2), (100, tw_cv 4 14 fn_Wa_search), (103, tw_is 5), (105, tw_il 5), (107, tw_ifne 118), (110, tw_al 0), (111, tw_il 3), (112, tw_al 2), (113, tw_cv 2 0 fn_Gu_fill), (116, tw_is 5), (118, tw_il 5), (120, tw_ifeq 127), (123, tw_il 5), (125, tw_neg), (126, tw_ri), (127, tw_al 0), (128, tw_gr 0 9), (131, tw_gr 9 10), (134, tw_il 3), (135, tw_ia), (136, tw_ic 4), (137, tw_bin (fun x y => x <<< (y &&& 31))), (138, tw_il 1), (139, tw_ic (15)), (141, tw_bin (· &&& ·)), (142, tw_bin (· + ·)), (143, tw_ri)]
set_option maxRecDepth 100000 in
set_option maxHeartbeats 4000000 in
theorem ok_Gu_reach {p : Program} {l : Launch} {e : Env} {s : State} {m : MethodId} {args : Array Value} {below : List Frame} {meth : Method} {c : Code} {E : tw_E} {D : va_G} {ρ : tw_R} (hC : tw_Cx p s m args meth c b_Gu_reach 6 (some .int) "TwinHost$Guest" E D) : tw_Ok p l e (tw_rmd 2) s m args below meth c 0 0 (MQ below (tw_Qc E D ρ) args s 0 0 (tw_A E)) 6 E D ρ pr_Gu_reach :=
  ⟨ts_aload_n hC d_Gu_reach_0 rfl,
   ts_gr (j := 3) (C := R_Gu) (T := T_Gu) hC rfl rfl rfl (by decide) u_Gu wd_138 rfl d_Gu_reach_1,
   ts_callv (C := R_Co) (T := T_Co) hC con_Co_translates wd_315 wd_26 (by decide +kernel) ⟨by decide, by decide⟩ ⟨Nat.zero_le _, Nat.zero_le _⟩ wd_312 rfl rfl wd_313 wd_314 d_Gu_reach_4,
   ts_ifne hC d_Gu_reach_7 (by decide),
   ts_iload_n hC d_Gu_reach_10 rfl,
   ts_callsN (host := "TwinHost") hC con_TH_isWord wd_186 wd_24 (by decide +kernel) ⟨by decide, by decide⟩ ⟨Nat.zero_le _, Nat.zero_le _⟩ (by decide +kernel) wd_185 d_Gu_reach_11,
   ts_ifeq hC d_Gu_reach_14 (by decide),
   ts_iload_n hC d_Gu_reach_17 rfl,
   ts_goto hC d_Gu_reach_18 (by decide),
   ts_aload_n hC d_Gu_reach_21 rfl,
   ts_ge (q0 := ("TwinHost$Access", "outside", "I", [1, 5, 7])) hC (by decide) (by decide) rfl wd_681 d_Gu_reach_22,
   ts_ineg hC d_Gu_reach_25,
   ts_iret hC rfl d_Gu_reach_26,
   ts_iload_n hC d_Gu_reach_27 rfl,
   ts_iflt hC d_Gu_reach_28 (by decide),
   ts_iload_n hC d_Gu_reach_31 rfl,
   ts_sipush hC d_Gu_reach_32 (by decide),
   ts_clt hC d_Gu_reach_35 (by decide),
   ts_aload_n hC d_Gu_reach_38 rfl,
   ts_ge (q0 := ("TwinHost$Access", "pageFault", "I", [12, 13, 15])) hC (by decide) (by decide) rfl wd_682 d_Gu_reach_39,
   ts_ineg hC d_Gu_reach_42,
   ts_iret hC rfl d_Gu_reach_43,
   ts_iload_n hC d_Gu_reach_44 rfl,
   ts_iconst hC d_Gu_reach_45 (by decide),
   ts_ishr hC d_Gu_reach_46,
   ts_istore_n hC d_Gu_reach_47 rfl (by decide),
   ts_aload_n hC d_Gu_reach_48 rfl,
   ts_gr (j := 4) (C := R_Gu) (T := T_Gu) hC rfl rfl rfl (by decide) u_Gu wd_140 rfl d_Gu_reach_49,
   ts_iload_n hC d_Gu_reach_52 rfl,
   ts_aload_n hC d_Gu_reach_53 rfl,
   ts_aload_n hC d_Gu_reach_54 rfl,
   ts_gi (j := 7) (C := R_Gu) (T := T_Gu) hC rfl rfl rfl (by decide) u_Gu wd_145 rfl d_Gu_reach_55,
   ts_aload_n hC d_Gu_reach_58 rfl,
   ts_gr (j := 3) (C := R_Gu) (T := T_Gu) hC rfl rfl rfl (by decide) u_Gu wd_138 rfl d_Gu_reach_59,
   ts_bipush hC d_Gu_reach_62 (by decide),
   ts_callv (C := R_Co) (T := T_Co) hC con_Co_isOn wd_292 wd_26 (by decide +kernel) ⟨by decide, by decide⟩ ⟨Nat.zero_le _, Nat.zero_le _⟩ wd_289 rfl rfl wd_290 wd_291 d_Gu_reach_64,
   ts_callv (C := R_Sh) (T := T_Sh) hC con_Sh_letsThrough wd_320 wd_28 (by decide +kernel) ⟨by decide, by decide⟩ ⟨Nat.zero_le _, Nat.zero_le _⟩ wd_317 rfl rfl wd_318 wd_319 d_Gu_reach_67,
   ts_ifne hC d_Gu_reach_70 (by decide),
   ts_aload_n hC d_Gu_reach_73 rfl,
   ts_gr (j := 3) (C := R_Gu) (T := T_Gu) hC rfl rfl rfl (by decide) u_Gu wd_138 rfl d_Gu_reach_74,
   ts_gr (j := 0) (C := R_Co) (T := T_Co) hC rfl rfl rfl (by decide) u_Co wd_76 rfl d_Gu_reach_77,
   ts_bipush hC d_Gu_reach_80 (by decide),
   ts_iaload hC d_Gu_reach_82,
   ts_bipush hC d_Gu_reach_83 (by decide),
   ts_iand hC d_Gu_reach_85,
   ts_istore hC d_Gu_reach_86 (by decide),
   ts_aload_n hC d_Gu_reach_88 rfl,
   ts_gr (j := 5) (C := R_Gu) (T := T_Gu) hC rfl rfl rfl (by decide) u_Gu wd_142 rfl d_Gu_reach_89,
   ts_aload_n hC d_Gu_reach_92 rfl,
   ts_gr (j := 0) (C := R_Gu) (T := T_Gu) hC rfl rfl rfl (by decide) u_Gu wd_132 rfl d_Gu_reach_93,
   ts_iload hC d_Gu_reach_96,
   ts_iload_n hC d_Gu_reach_98 rfl,
   ts_aload_n hC d_Gu_reach_99 rfl,
   ts_callv (C := R_Wa) (T := T_Wa) hC con_Wa_search wd_330 wd_29 (by decide +kernel) ⟨by decide, by decide⟩ ⟨Nat.zero_le _, Nat.zero_le _⟩ wd_327 rfl rfl wd_328 wd_329 d_Gu_reach_100,
   ts_istore hC d_Gu_reach_103 (by decide),
   ts_iload hC d_Gu_reach_105,
   ts_ifne hC d_Gu_reach_107 (by decide),
   ts_aload_n hC d_Gu_reach_110 rfl,
   ts_iload_n hC d_Gu_reach_111 rfl,
   ts_aload_n hC d_Gu_reach_112 rfl,
   ts_callv (C := R_Gu) (T := T_Gu) hC con_Gu_fill wd_343 wd_25 (by decide +kernel) ⟨by decide, by decide⟩ ⟨Nat.zero_le _, Nat.zero_le _⟩ wd_340 rfl rfl wd_341 wd_342 d_Gu_reach_113,
   ts_istore hC d_Gu_reach_116 (by decide),
   ts_iload hC d_Gu_reach_118,
   ts_ifeq hC d_Gu_reach_120 (by decide),
   ts_iload hC d_Gu_reach_123,
   ts_ineg hC d_Gu_reach_125,
   ts_iret hC rfl d_Gu_reach_126,
   ts_aload_n hC d_Gu_reach_127 rfl,
   ts_gr (j := 4) (C := R_Gu) (T := T_Gu) hC rfl rfl rfl (by decide) u_Gu wd_140 rfl d_Gu_reach_128,
   ts_gr (j := 0) (C := R_Sh) (T := T_Sh) hC rfl rfl rfl (by decide) u_Sh wd_95 rfl d_Gu_reach_131,
   ts_iload_n hC d_Gu_reach_134 rfl,
   ts_iaload hC d_Gu_reach_135,
   ts_iconst hC d_Gu_reach_136 (by decide),
   ts_ishl hC d_Gu_reach_137,
   ts_iload_n hC d_Gu_reach_138 rfl,
   ts_bipush hC d_Gu_reach_139 (by decide),
   ts_iand hC d_Gu_reach_141,
   ts_iadd hC d_Gu_reach_142,
   ts_iret hC rfl d_Gu_reach_143,
   trivial⟩
noncomputable def fn_Gu_reach : tw_Fn := tw_fl 3 6 81 pr_Gu_reach
theorem con_Gu_reach : tw_Con y_Gu_reach b_Gu_reach 6 (some .int) 2 fn_Gu_reach := tw_met (by decide +kernel) (tw_fl_len (n := 3) (by decide)) (fun p l e s m args below meth c E D vs σ ρ hC h => tw_sound (ok_Gu_reach hC) 81 pr_Gu_reach (ok_Gu_reach hC) _ _ _ (tw_fl_get h))

-- TwinHost$Guest.storeControl(II)V: 11 instructions, depth 2, calls Co_put Gu_flush
theorem d_Gu_storeControl_0 : decode b_Gu_storeControl 0 = .ok (.aload_n 0, 1) := by decide +kernel
theorem d_Gu_storeControl_1 : decode b_Gu_storeControl 1 = .ok (.getfield 26, 3) := by decide +kernel
theorem d_Gu_storeControl_4 : decode b_Gu_storeControl 4 = .ok (.iload_n 1, 1) := by decide +kernel
theorem d_Gu_storeControl_5 : decode b_Gu_storeControl 5 = .ok (.iload_n 2, 1) := by decide +kernel
theorem d_Gu_storeControl_6 : decode b_Gu_storeControl 6 = .ok (.invokevirtual 209, 3) := by decide +kernel
theorem d_Gu_storeControl_9 : decode b_Gu_storeControl 9 = .ok (.iload_n 1, 1) := by decide +kernel
theorem d_Gu_storeControl_10 : decode b_Gu_storeControl 10 = .ok (.bipush 6, 2) := by decide +kernel
theorem d_Gu_storeControl_12 : decode b_Gu_storeControl 12 = .ok (.if_icmp .ne 7, 3) := by decide +kernel
theorem d_Gu_storeControl_15 : decode b_Gu_storeControl 15 = .ok (.aload_n 0, 1) := by decide +kernel
theorem d_Gu_storeControl_16 : decode b_Gu_storeControl 16 = .ok (.invokevirtual 126, 3) := by decide +kernel
theorem d_Gu_storeControl_19 : decode b_Gu_storeControl 19 = .ok (.return_, 1) := by decide +kernel
noncomputable def pr_Gu_storeControl : List (Nat × tw_Op) := [(0, tw_al 0), (1, tw_gr 0 4), (4, tw_il 1), (5, tw_il 2), (6, tw_cv 2 4 fn_Co_put), (9, tw_il 1), (10, tw_ic (6)), (12, tw_cne 19), (15, tw_al 0), (16, tw_cv 0 0 fn_Gu_flush), (19, tw_r0)]
set_option maxRecDepth 100000 in
set_option maxHeartbeats 4000000 in
theorem ok_Gu_storeControl {p : Program} {l : Launch} {e : Env} {s : State} {m : MethodId} {args : Array Value} {below : List Frame} {meth : Method} {c : Code} {E : tw_E} {D : va_G} {ρ : tw_R} (hC : tw_Cx p s m args meth c b_Gu_storeControl 3 none "TwinHost$Guest" E D) : tw_Ok p l e (tw_rmd 2) s m args below meth c 0 0 (MQ below (tw_Qc E D ρ) args s 0 0 (tw_A E)) 3 E D ρ pr_Gu_storeControl :=
  ⟨ts_aload_n hC d_Gu_storeControl_0 rfl,
   ts_gr (j := 3) (C := R_Gu) (T := T_Gu) hC rfl rfl rfl (by decide) u_Gu wd_138 rfl d_Gu_storeControl_1,
   ts_iload_n hC d_Gu_storeControl_4 rfl,
   ts_iload_n hC d_Gu_storeControl_5 rfl,
   ts_callv (C := R_Co) (T := T_Co) hC con_Co_put wd_231 wd_26 (by decide +kernel) ⟨by decide, by decide⟩ ⟨Nat.zero_le _, Nat.zero_le _⟩ wd_228 rfl rfl wd_229 wd_230 d_Gu_storeControl_6,
   ts_iload_n hC d_Gu_storeControl_9 rfl,
   ts_bipush hC d_Gu_storeControl_10 (by decide),
   ts_cne hC d_Gu_storeControl_12 (by decide),
   ts_aload_n hC d_Gu_storeControl_15 rfl,
   ts_callv (C := R_Gu) (T := T_Gu) hC con_Gu_flush wd_238 wd_25 (by decide +kernel) ⟨by decide, by decide⟩ ⟨Nat.zero_le _, Nat.zero_le _⟩ wd_235 rfl rfl wd_236 wd_237 d_Gu_storeControl_16,
   ts_vret hC rfl d_Gu_storeControl_19,
   trivial⟩
noncomputable def fn_Gu_storeControl : tw_Fn := tw_fl 3 3 13 pr_Gu_storeControl
theorem con_Gu_storeControl : tw_Con y_Gu_storeControl b_Gu_storeControl 3 none 2 fn_Gu_storeControl := tw_met (by decide +kernel) (tw_fl_len (n := 3) (by decide)) (fun p l e s m args below meth c E D vs σ ρ hC h => tw_sound (ok_Gu_storeControl hC) 13 pr_Gu_storeControl (ok_Gu_storeControl hC) _ _ _ (tw_fl_get h))

-- TwinHost$Guest.trap(II)LTwinHost$Outcome;: 21 instructions, depth 2, calls Co_enterTrap
theorem d_Gu_trap_0 : decode b_Gu_trap 0 = .ok (.aload_n 0, 1) := by decide +kernel
theorem d_Gu_trap_1 : decode b_Gu_trap 1 = .ok (.getfield 26, 3) := by decide +kernel
theorem d_Gu_trap_4 : decode b_Gu_trap 4 = .ok (.iload_n 1, 1) := by decide +kernel
theorem d_Gu_trap_5 : decode b_Gu_trap 5 = .ok (.iload_n 2, 1) := by decide +kernel
theorem d_Gu_trap_6 : decode b_Gu_trap 6 = .ok (.aload_n 0, 1) := by decide +kernel
theorem d_Gu_trap_7 : decode b_Gu_trap 7 = .ok (.getfield 62, 3) := by decide +kernel
theorem d_Gu_trap_10 : decode b_Gu_trap 10 = .ok (.aload_n 0, 1) := by decide +kernel
theorem d_Gu_trap_11 : decode b_Gu_trap 11 = .ok (.getfield 48, 3) := by decide +kernel
theorem d_Gu_trap_14 : decode b_Gu_trap 14 = .ok (.invokevirtual 158, 3) := by decide +kernel
theorem d_Gu_trap_17 : decode b_Gu_trap 17 = .ok (.aload_n 0, 1) := by decide +kernel
theorem d_Gu_trap_18 : decode b_Gu_trap 18 = .ok (.iconst 0, 1) := by decide +kernel
theorem d_Gu_trap_19 : decode b_Gu_trap 19 = .ok (.putfield 48, 3) := by decide +kernel
theorem d_Gu_trap_22 : decode b_Gu_trap 22 = .ok (.aload_n 0, 1) := by decide +kernel
theorem d_Gu_trap_23 : decode b_Gu_trap 23 = .ok (.aload_n 0, 1) := by decide +kernel
theorem d_Gu_trap_24 : decode b_Gu_trap 24 = .ok (.getfield 26, 3) := by decide +kernel
theorem d_Gu_trap_27 : decode b_Gu_trap 27 = .ok (.getfield 123, 3) := by decide +kernel
theorem d_Gu_trap_30 : decode b_Gu_trap 30 = .ok (.iconst 1, 1) := by decide +kernel
theorem d_Gu_trap_31 : decode b_Gu_trap 31 = .ok (.iaload, 1) := by decide +kernel
theorem d_Gu_trap_32 : decode b_Gu_trap 32 = .ok (.putfield 62, 3) := by decide +kernel
theorem d_Gu_trap_35 : decode b_Gu_trap 35 = .ok (.getstatic 162, 3) := by decide +kernel
theorem d_Gu_trap_38 : decode b_Gu_trap 38 = .ok (.areturn, 1) := by decide +kernel
noncomputable def pr_Gu_trap : List (Nat × tw_Op) := [(0, tw_al 0), (1, tw_gr 0 4), (4, tw_il 1), (5, tw_il 2), (6, tw_al 0), (7, tw_gi 0 6), (10, tw_al 0), (11, tw_gi 0 7), (14, tw_cv 4 4 fn_Co_enterTrap), (17, tw_al 0), (18, tw_ic 0), (19, tw_pz 0 7), (22, tw_al 0), (23, tw_al 0), (24, tw_gr 0 4), (27, tw_gr 4 5), (30, tw_ic 1), (31, tw_ia), (32, tw_pi 0 6), (35, tw_en 61), (38, tw_ra)]
set_option maxRecDepth 100000 in
set_option maxHeartbeats 4000000 in
theorem ok_Gu_trap {p : Program} {l : Launch} {e : Env} {s : State} {m : MethodId} {args : Array Value} {below : List Frame} {meth : Method} {c : Code} {E : tw_E} {D : va_G} {ρ : tw_R} (hC : tw_Cx p s m args meth c b_Gu_trap 3 (some (.object "TwinHost$Outcome")) "TwinHost$Guest" E D) : tw_Ok p l e (tw_rmd 2) s m args below meth c 0 0 (MQ below (tw_Qc E D ρ) args s 0 0 (tw_A E)) 3 E D ρ pr_Gu_trap :=
  ⟨ts_aload_n hC d_Gu_trap_0 rfl,
   ts_gr (j := 3) (C := R_Gu) (T := T_Gu) hC rfl rfl rfl (by decide) u_Gu wd_138 rfl d_Gu_trap_1,
   ts_iload_n hC d_Gu_trap_4 rfl,
   ts_iload_n hC d_Gu_trap_5 rfl,
   ts_aload_n hC d_Gu_trap_6 rfl,
   ts_gi (j := 6) (C := R_Gu) (T := T_Gu) hC rfl rfl rfl (by decide) u_Gu wd_143 rfl d_Gu_trap_7,
   ts_aload_n hC d_Gu_trap_10 rfl,
   ts_gi (j := 7) (C := R_Gu) (T := T_Gu) hC rfl rfl rfl (by decide) u_Gu wd_145 rfl d_Gu_trap_11,
   ts_callv (C := R_Co) (T := T_Co) hC con_Co_enterTrap wd_302 wd_26 (by decide +kernel) ⟨by decide, by decide⟩ ⟨Nat.zero_le _, Nat.zero_le _⟩ wd_299 rfl rfl wd_300 wd_301 d_Gu_trap_14,
   ts_aload_n hC d_Gu_trap_17 rfl,
   ts_iconst hC d_Gu_trap_18 (by decide),
   ts_pz (j := 7) (C := R_Gu) (T := T_Gu) hC rfl rfl rfl (by decide) u_Gu wd_145 rfl t_Gu_ok n_Gu rfl (by decide +kernel) d_Gu_trap_19,
   ts_aload_n hC d_Gu_trap_22 rfl,
   ts_aload_n hC d_Gu_trap_23 rfl,
   ts_gr (j := 3) (C := R_Gu) (T := T_Gu) hC rfl rfl rfl (by decide) u_Gu wd_138 rfl d_Gu_trap_24,
   ts_gr (j := 0) (C := R_Co) (T := T_Co) hC rfl rfl rfl (by decide) u_Co wd_76 rfl d_Gu_trap_27,
   ts_iconst hC d_Gu_trap_30 (by decide),
   ts_iaload hC d_Gu_trap_31,
   ts_pi (j := 6) (C := R_Gu) (T := T_Gu) hC rfl rfl rfl (by decide) u_Gu wd_143 rfl t_Gu_ok n_Gu rfl (by decide +kernel) d_Gu_trap_32,
   ts_getO (i := 1) hC (by decide) rfl wd_304 d_Gu_trap_35,
   ts_aret hC rfl d_Gu_trap_38,
   trivial⟩
noncomputable def fn_Gu_trap : tw_Fn := tw_fl 3 3 23 pr_Gu_trap
theorem con_Gu_trap : tw_Con y_Gu_trap b_Gu_trap 3 (some (.object "TwinHost$Outcome")) 2 fn_Gu_trap := tw_met (by decide +kernel) (tw_fl_len (n := 3) (by decide)) (fun p l e s m args below meth c E D vs σ ρ hC h => tw_sound (ok_Gu_trap hC) 23 pr_Gu_trap (ok_Gu_trap hC) _ _ _ (tw_fl_get h))

-- TwinHost.poke(III)I: 16 instructions, depth 2, calls TH_isGuest TH_isWord Gu_overwrite
theorem d_TH_poke_0 : decode b_TH_poke 0 = .ok (.iload_n 1, 1) := by decide +kernel
theorem d_TH_poke_1 : decode b_TH_poke 1 = .ok (.invokestatic 20, 3) := by decide +kernel
theorem d_TH_poke_4 : decode b_TH_poke 4 = .ok (.ifCond .eq 24, 3) := by decide +kernel
theorem d_TH_poke_7 : decode b_TH_poke 7 = .ok (.iload_n 2, 1) := by decide +kernel
theorem d_TH_poke_8 : decode b_TH_poke 8 = .ok (.invokestatic 24, 3) := by decide +kernel
theorem d_TH_poke_11 : decode b_TH_poke 11 = .ok (.ifCond .eq 17, 3) := by decide +kernel
theorem d_TH_poke_14 : decode b_TH_poke 14 = .ok (.aload_n 0, 1) := by decide +kernel
theorem d_TH_poke_15 : decode b_TH_poke 15 = .ok (.getfield 16, 3) := by decide +kernel
theorem d_TH_poke_18 : decode b_TH_poke 18 = .ok (.iload_n 1, 1) := by decide +kernel
theorem d_TH_poke_19 : decode b_TH_poke 19 = .ok (.aaload, 1) := by decide +kernel
theorem d_TH_poke_20 : decode b_TH_poke 20 = .ok (.iload_n 2, 1) := by decide +kernel
theorem d_TH_poke_21 : decode b_TH_poke 21 = .ok (.iload_n 3, 1) := by decide +kernel
theorem d_TH_poke_22 : decode b_TH_poke 22 = .ok (.invokevirtual 27, 3) := by decide +kernel
theorem d_TH_poke_25 : decode b_TH_poke 25 = .ok (.goto 4, 3) := by decide +kernel
theorem d_TH_poke_28 : decode b_TH_poke 28 = .ok (.iconst 0, 1) := by decide +kernel
theorem d_TH_poke_29 : decode b_TH_poke 29 = .ok (.ireturn, 1) := by decide +kernel
noncomputable def pr_TH_poke : List (Nat × tw_Op) := [(0, tw_il 1), (1, tw_cs 1 fn_TH_isGuest), (4, tw_ifeq 28), (7, tw_il 2), (8, tw_cs 1 fn_TH_isWord), (11, tw_ifeq 28), (14, tw_al 0), (15, tw_gr 20 21), (18, tw_il 1), (19, tw_ga), (20, tw_il 2), (21, tw_il 3), (22, tw_cv 2 0 fn_Gu_overwrite), (25, tw_jmp 29), (28, tw_ic 0), (29, tw_ri)]
set_option maxRecDepth 100000 in
set_option maxHeartbeats 4000000 in
theorem ok_TH_poke {p : Program} {l : Launch} {e : Env} {s : State} {m : MethodId} {args : Array Value} {below : List Frame} {meth : Method} {c : Code} {E : tw_E} {D : va_G} {ρ : tw_R} (hC : tw_Cx p s m args meth c b_TH_poke 4 (some .int) "TwinHost" E D) : tw_Ok p l e (tw_rmd 2) s m args below meth c 0 0 (MQ below (tw_Qc E D ρ) args s 0 0 (tw_A E)) 4 E D ρ pr_TH_poke :=
  ⟨ts_iload_n hC d_TH_poke_0 rfl,
   ts_calls hC con_TH_isGuest wd_183 wd_24 (by decide +kernel) ⟨by decide, by decide⟩ ⟨Nat.zero_le _, Nat.zero_le _⟩ wd_181 wd_182 d_TH_poke_1,
   ts_ifeq hC d_TH_poke_4 (by decide),
   ts_iload_n hC d_TH_poke_7 rfl,
   ts_calls hC con_TH_isWord wd_186 wd_24 (by decide +kernel) ⟨by decide, by decide⟩ ⟨Nat.zero_le _, Nat.zero_le _⟩ wd_184 wd_185 d_TH_poke_8,
   ts_ifeq hC d_TH_poke_11 (by decide),
   ts_aload_n hC d_TH_poke_14 rfl,
   ts_gr (j := 0) (C := R_TH) (T := T_TH) hC rfl rfl rfl (by decide) u_TH wd_164 rfl d_TH_poke_15,
   ts_iload_n hC d_TH_poke_18 rfl,
   ts_aaload hC d_TH_poke_19,
   ts_iload_n hC d_TH_poke_20 rfl,
   ts_iload_n hC d_TH_poke_21 rfl,
   ts_callv (C := R_Gu) (T := T_Gu) hC con_Gu_overwrite wd_190 wd_25 (by decide +kernel) ⟨by decide, by decide⟩ ⟨Nat.zero_le _, Nat.zero_le _⟩ wd_187 rfl rfl wd_188 wd_189 d_TH_poke_22,
   ts_goto hC d_TH_poke_25 (by decide),
   ts_iconst hC d_TH_poke_28 (by decide),
   ts_iret hC rfl d_TH_poke_29,
   trivial⟩
noncomputable def fn_TH_poke : tw_Fn := tw_fl 4 4 18 pr_TH_poke
theorem con_TH_poke : tw_Con y_TH_poke b_TH_poke 4 (some .int) 2 fn_TH_poke := tw_met (by decide +kernel) (tw_fl_len (n := 4) (by decide)) (fun p l e s m args below meth c E D vs σ ρ hC h => tw_sound (ok_TH_poke hC) 18 pr_TH_poke (ok_TH_poke hC) _ _ _ (tw_fl_get h))

-- TwinHost.traced(II)Z: 20 instructions, depth 2, calls TH_isGuest Sh_isTraced
theorem d_TH_traced_0 : decode b_TH_traced 0 = .ok (.iload_n 1, 1) := by decide +kernel
theorem d_TH_traced_1 : decode b_TH_traced 1 = .ok (.invokestatic 20, 3) := by decide +kernel
theorem d_TH_traced_4 : decode b_TH_traced 4 = .ok (.ifCond .eq 33, 3) := by decide +kernel
theorem d_TH_traced_7 : decode b_TH_traced 7 = .ok (.iload_n 2, 1) := by decide +kernel
theorem d_TH_traced_8 : decode b_TH_traced 8 = .ok (.ifCond .lt 29, 3) := by decide +kernel
theorem d_TH_traced_11 : decode b_TH_traced 11 = .ok (.iload_n 2, 1) := by decide +kernel
theorem d_TH_traced_12 : decode b_TH_traced 12 = .ok (.bipush 8, 2) := by decide +kernel
theorem d_TH_traced_14 : decode b_TH_traced 14 = .ok (.if_icmp .ge 23, 3) := by decide +kernel
theorem d_TH_traced_17 : decode b_TH_traced 17 = .ok (.aload_n 0, 1) := by decide +kernel
theorem d_TH_traced_18 : decode b_TH_traced 18 = .ok (.getfield 16, 3) := by decide +kernel
theorem d_TH_traced_21 : decode b_TH_traced 21 = .ok (.iload_n 1, 1) := by decide +kernel
theorem d_TH_traced_22 : decode b_TH_traced 22 = .ok (.aaload, 1) := by decide +kernel
theorem d_TH_traced_23 : decode b_TH_traced 23 = .ok (.getfield 98, 3) := by decide +kernel
theorem d_TH_traced_26 : decode b_TH_traced 26 = .ok (.iload_n 2, 1) := by decide +kernel
theorem d_TH_traced_27 : decode b_TH_traced 27 = .ok (.invokevirtual 107, 3) := by decide +kernel
theorem d_TH_traced_30 : decode b_TH_traced 30 = .ok (.ifCond .eq 7, 3) := by decide +kernel
theorem d_TH_traced_33 : decode b_TH_traced 33 = .ok (.iconst 1, 1) := by decide +kernel
theorem d_TH_traced_34 : decode b_TH_traced 34 = .ok (.goto 4, 3) := by decide +kernel
theorem d_TH_traced_37 : decode b_TH_traced 37 = .ok (.iconst 0, 1) := by decide +kernel
theorem d_TH_traced_38 : decode b_TH_traced 38 = .ok (.ireturn, 1) := by decide +kernel
noncomputable def pr_TH_traced : List (Nat × tw_Op) := [(0, tw_il 1), (1, tw_cs 1 fn_TH_isGuest), (4, tw_ifeq 37), (7, tw_il 2), (8, tw_iflt 37), (11, tw_il 2), (12, tw_ic (8)), (14, tw_cge 37), (17, tw_al 0), (18, tw_gr 20 21), (21, tw_il 1), (22, tw_ga), (23, tw_gr 0 9), (26, tw_il 2), (27, tw_cv 1 9 fn_Sh_isTraced), (30, tw_ifeq 37), (33, tw_ic 1), (34, tw_jmp 38), (37, tw_ic 0), (38, tw_rz)]
set_option maxRecDepth 100000 in
set_option maxHeartbeats 4000000 in
theorem ok_TH_traced {p : Program} {l : Launch} {e : Env} {s : State} {m : MethodId} {args : Array Value} {below : List Frame} {meth : Method} {c : Code} {E : tw_E} {D : va_G} {ρ : tw_R} (hC : tw_Cx p s m args meth c b_TH_traced 3 (some .boolean) "TwinHost" E D) : tw_Ok p l e (tw_rmd 2) s m args below meth c 0 0 (MQ below (tw_Qc E D ρ) args s 0 0 (tw_A E)) 3 E D ρ pr_TH_traced :=
  ⟨ts_iload_n hC d_TH_traced_0 rfl,
   ts_calls hC con_TH_isGuest wd_183 wd_24 (by decide +kernel) ⟨by decide, by decide⟩ ⟨Nat.zero_le _, Nat.zero_le _⟩ wd_181 wd_182 d_TH_traced_1,
   ts_ifeq hC d_TH_traced_4 (by decide),
   ts_iload_n hC d_TH_traced_7 rfl,
   ts_iflt hC d_TH_traced_8 (by decide),
   ts_iload_n hC d_TH_traced_11 rfl,
   ts_bipush hC d_TH_traced_12 (by decide),
   ts_cge hC d_TH_traced_14 (by decide),
   ts_aload_n hC d_TH_traced_17 rfl,
   ts_gr (j := 0) (C := R_TH) (T := T_TH) hC rfl rfl rfl (by decide) u_TH wd_164 rfl d_TH_traced_18,
   ts_iload_n hC d_TH_traced_21 rfl,
   ts_aaload hC d_TH_traced_22,
   ts_gr (j := 4) (C := R_Gu) (T := T_Gu) hC rfl rfl rfl (by decide) u_Gu wd_141 rfl d_TH_traced_23,
   ts_iload_n hC d_TH_traced_26 rfl,
   ts_callv (C := R_Sh) (T := T_Sh) hC con_Sh_isTraced wd_378 wd_28 (by decide +kernel) ⟨by decide, by decide⟩ ⟨Nat.zero_le _, Nat.zero_le _⟩ wd_441 rfl rfl wd_376 wd_377 d_TH_traced_27,
   ts_ifeq hC d_TH_traced_30 (by decide),
   ts_iconst hC d_TH_traced_33 (by decide),
   ts_goto hC d_TH_traced_34 (by decide),
   ts_iconst hC d_TH_traced_37 (by decide),
   ts_zret hC rfl d_TH_traced_38,
   trivial⟩
noncomputable def fn_TH_traced : tw_Fn := tw_fl 3 3 22 pr_TH_traced
theorem con_TH_traced : tw_Con y_TH_traced b_TH_traced 3 (some .boolean) 2 fn_TH_traced := tw_met (by decide +kernel) (tw_fl_len (n := 3) (by decide)) (fun p l e s m args below meth c E D vs σ ρ hC h => tw_sound (ok_TH_traced hC) 22 pr_TH_traced (ok_TH_traced hC) _ _ _ (tw_fl_get h))
