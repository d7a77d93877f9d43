-- TwinHostModel.access(III)I: 76 instructions, depth 5, calls Mo_outside Mo_fault Mo_allowed Mo_walk
theorem d_Mo_access_0 : decode b_Mo_access 0 = .ok (.aload_n 0, 1) := by decide +kernel
theorem d_Mo_access_1 : decode b_Mo_access 1 = .ok (.getfield 16, 3) := by decide +kernel
theorem d_Mo_access_4 : decode b_Mo_access 4 = .ok (.bipush 12, 2) := by decide +kernel
theorem d_Mo_access_6 : decode b_Mo_access 6 = .ok (.iload_n 1, 1) := by decide +kernel
theorem d_Mo_access_7 : decode b_Mo_access 7 = .ok (.imul, 1) := by decide +kernel
theorem d_Mo_access_8 : decode b_Mo_access 8 = .ok (.bipush 6, 2) := by decide +kernel
theorem d_Mo_access_10 : decode b_Mo_access 10 = .ok (.iadd, 1) := by decide +kernel
theorem d_Mo_access_11 : decode b_Mo_access 11 = .ok (.iaload, 1) := by decide +kernel
theorem d_Mo_access_12 : decode b_Mo_access 12 = .ok (.sipush 128, 3) := by decide +kernel
theorem d_Mo_access_15 : decode b_Mo_access 15 = .ok (.iand, 1) := by decide +kernel
theorem d_Mo_access_16 : decode b_Mo_access 16 = .ok (.ifCond .ne 25, 3) := by decide +kernel
theorem d_Mo_access_19 : decode b_Mo_access 19 = .ok (.iload_n 2, 1) := by decide +kernel
theorem d_Mo_access_20 : decode b_Mo_access 20 = .ok (.ifCond .lt 13, 3) := by decide +kernel
theorem d_Mo_access_23 : decode b_Mo_access 23 = .ok (.iload_n 2, 1) := by decide +kernel
theorem d_Mo_access_24 : decode b_Mo_access 24 = .ok (.bipush 127, 2) := by decide +kernel
theorem d_Mo_access_26 : decode b_Mo_access 26 = .ok (.if_icmp .gt 7, 3) := by decide +kernel
theorem d_Mo_access_29 : decode b_Mo_access 29 = .ok (.iload_n 2, 1) := by decide +kernel
theorem d_Mo_access_30 : decode b_Mo_access 30 = .ok (.goto 10, 3) := by decide +kernel
theorem d_Mo_access_33 : decode b_Mo_access 33 = .ok (.aload_n 0, 1) := by decide +kernel
theorem d_Mo_access_34 : decode b_Mo_access 34 = .ok (.iload_n 1, 1) := by decide +kernel
theorem d_Mo_access_35 : decode b_Mo_access 35 = .ok (.iload_n 2, 1) := by decide +kernel
theorem d_Mo_access_36 : decode b_Mo_access 36 = .ok (.iload_n 3, 1) := by decide +kernel
theorem d_Mo_access_37 : decode b_Mo_access 37 = .ok (.invokevirtual 93, 3) := by decide +kernel
theorem d_Mo_access_40 : decode b_Mo_access 40 = .ok (.ireturn, 1) := by decide +kernel
theorem d_Mo_access_41 : decode b_Mo_access 41 = .ok (.iload_n 2, 1) := by decide +kernel
theorem d_Mo_access_42 : decode b_Mo_access 42 = .ok (.ifCond .lt 10, 3) := by decide +kernel
theorem d_Mo_access_45 : decode b_Mo_access 45 = .ok (.iload_n 2, 1) := by decide +kernel
theorem d_Mo_access_46 : decode b_Mo_access 46 = .ok (.sipush 255, 3) := by decide +kernel
theorem d_Mo_access_49 : decode b_Mo_access 49 = .ok (.if_icmp .le 11, 3) := by decide +kernel
theorem d_Mo_access_52 : decode b_Mo_access 52 = .ok (.aload_n 0, 1) := by decide +kernel
theorem d_Mo_access_53 : decode b_Mo_access 53 = .ok (.iload_n 1, 1) := by decide +kernel
theorem d_Mo_access_54 : decode b_Mo_access 54 = .ok (.iload_n 2, 1) := by decide +kernel
theorem d_Mo_access_55 : decode b_Mo_access 55 = .ok (.iload_n 3, 1) := by decide +kernel
theorem d_Mo_access_56 : decode b_Mo_access 56 = .ok (.invokevirtual 97, 3) := by decide +kernel
theorem d_Mo_access_59 : decode b_Mo_access 59 = .ok (.ireturn, 1) := by decide +kernel
theorem d_Mo_access_60 : decode b_Mo_access 60 = .ok (.bipush 16, 2) := by decide +kernel
theorem d_Mo_access_62 : decode b_Mo_access 62 = .ok (.iload_n 1, 1) := by decide +kernel
theorem d_Mo_access_63 : decode b_Mo_access 63 = .ok (.imul, 1) := by decide +kernel
theorem d_Mo_access_64 : decode b_Mo_access 64 = .ok (.iload_n 2, 1) := by decide +kernel
theorem d_Mo_access_65 : decode b_Mo_access 65 = .ok (.iconst 4, 1) := by decide +kernel
theorem d_Mo_access_66 : decode b_Mo_access 66 = .ok (.ishr, 1) := by decide +kernel
theorem d_Mo_access_67 : decode b_Mo_access 67 = .ok (.iadd, 1) := by decide +kernel
theorem d_Mo_access_68 : decode b_Mo_access 68 = .ok (.istore 4, 2) := by decide +kernel
theorem d_Mo_access_70 : decode b_Mo_access 70 = .ok (.aload_n 0, 1) := by decide +kernel
theorem d_Mo_access_71 : decode b_Mo_access 71 = .ok (.aload_n 0, 1) := by decide +kernel
theorem d_Mo_access_72 : decode b_Mo_access 72 = .ok (.getfield 38, 3) := by decide +kernel
theorem d_Mo_access_75 : decode b_Mo_access 75 = .ok (.iload 4, 2) := by decide +kernel
theorem d_Mo_access_77 : decode b_Mo_access 77 = .ok (.iaload, 1) := by decide +kernel
theorem d_Mo_access_78 : decode b_Mo_access 78 = .ok (.ifCond .lt 38, 3) := by decide +kernel
theorem d_Mo_access_81 : decode b_Mo_access 81 = .ok (.aload_n 0, 1) := by decide +kernel
theorem d_Mo_access_82 : decode b_Mo_access 82 = .ok (.iload_n 1, 1) := by decide +kernel
theorem d_Mo_access_83 : decode b_Mo_access 83 = .ok (.aload_n 0, 1) := by decide +kernel
theorem d_Mo_access_84 : decode b_Mo_access 84 = .ok (.getfield 41, 3) := by decide +kernel
theorem d_Mo_access_87 : decode b_Mo_access 87 = .ok (.iload 4, 2) := by decide +kernel
theorem d_Mo_access_89 : decode b_Mo_access 89 = .ok (.iaload, 1) := by decide +kernel
theorem d_Mo_access_90 : decode b_Mo_access 90 = .ok (.iload_n 3, 1) := by decide +kernel
theorem d_Mo_access_91 : decode b_Mo_access 91 = .ok (.invokevirtual 100, 3) := by decide +kernel
theorem d_Mo_access_94 : decode b_Mo_access 94 = .ok (.ifCond .eq 22, 3) := by decide +kernel
theorem d_Mo_access_97 : decode b_Mo_access 97 = .ok (.iload_n 3, 1) := by decide +kernel
theorem d_Mo_access_98 : decode b_Mo_access 98 = .ok (.iconst 2, 1) := by decide +kernel
theorem d_Mo_access_99 : decode b_Mo_access 99 = .ok (.if_icmp .lt 13, 3) := by decide +kernel
theorem d_Mo_access_102 : decode b_Mo_access 102 = .ok (.aload_n 0, 1) := by decide +kernel
theorem d_Mo_access_103 : decode b_Mo_access 103 = .ok (.getfield 44, 3) := by decide +kernel
theorem d_Mo_access_106 : decode b_Mo_access 106 = .ok (.iload 4, 2) := by decide +kernel
theorem d_Mo_access_108 : decode b_Mo_access 108 = .ok (.baload, 1) := by decide +kernel
theorem d_Mo_access_109 : decode b_Mo_access 109 = .ok (.ifCond .eq 7, 3) := by decide +kernel
theorem d_Mo_access_112 : decode b_Mo_access 112 = .ok (.iconst 1, 1) := by decide +kernel
theorem d_Mo_access_113 : decode b_Mo_access 113 = .ok (.goto 4, 3) := by decide +kernel
theorem d_Mo_access_116 : decode b_Mo_access 116 = .ok (.iconst 0, 1) := by decide +kernel
theorem d_Mo_access_117 : decode b_Mo_access 117 = .ok (.putfield 104, 3) := by decide +kernel
theorem d_Mo_access_120 : decode b_Mo_access 120 = .ok (.aload_n 0, 1) := by decide +kernel
theorem d_Mo_access_121 : decode b_Mo_access 121 = .ok (.iload_n 1, 1) := by decide +kernel
theorem d_Mo_access_122 : decode b_Mo_access 122 = .ok (.iload_n 2, 1) := by decide +kernel
theorem d_Mo_access_123 : decode b_Mo_access 123 = .ok (.iload_n 3, 1) := by decide +kernel
theorem d_Mo_access_124 : decode b_Mo_access 124 = .ok (.invokevirtual 108, 3) := by decide +kernel
theorem d_Mo_access_127 : decode b_Mo_access 127 = .ok (.ireturn, 1) := by decide +kernel
noncomputable def pr_Mo_access : List (Nat × tw_Op) := [(0, tw_al 0), (1, tw_gr 22 25), (4, tw_ic (12)), (6, tw_il 1), (7, tw_bin (· * ·)), (8, tw_ic (6)), (10, tw_bin (· + ·)), (11, tw_ia), (12, tw_ic (128)), (15, tw_bin (· &&& ·)), (16, tw_ifne 41), (19, tw_il 2), (20, tw_iflt 33), (23, tw_il 2), (24, tw_ic (127)), (26, tw_cgt 33), (29, tw_il 2), (30, tw_jmp 40), (33, tw_al 0), (34, tw_il 1), (35, tw_il 2), (36, tw_il 3), (37, tw_cv 3 22 fn_Mo_outside), (40, tw_ri), (41, tw_il 2), (42, tw_iflt 52), (45, tw_il 2), (46, tw_ic (255)), (49, tw_cle 60), (52, tw_al 0), (53, tw_il 1), (54, tw_il 2), (55, tw_il 3), (56, tw_cv 3 22 fn_Mo_fault), (59, tw_ri), (60, tw_ic (16)), (62, tw_il 1), (63, tw_bin (· * ·)), (64, tw_il 2), (65, tw_ic 4), (66, tw_bin (fun x y => x >>> (y &&& 31))), (67, tw_bin (· + ·)), (68, tw_is 4), (70, tw_al 0), (71, tw_al 0), (72, tw_gr 22 32), (75, tw_il 4), (77, tw_ia), (78, tw_iflt 116), (81, tw_al 0), (82, tw_il 1), (83, tw_al 0), (84, tw_gr 22 33), (87, tw_il 4), (89, tw_ia), (90, tw_il 3), (91, tw_cv 3 22 fn_Mo_allowed), (94, tw_ifeq 116), (97, tw_il 3), (98, tw_ic 2), (99, tw_clt 112), (102, tw_al 0), (103, tw_gr 22 34), (106, tw_il 4), (108, tw_za), (109, tw_ifeq 116), (112, tw_ic 1), (113, tw_jmp 117), (116, tw_ic 0), (117, tw_pz 22 19), (120, tw_al 0), (121, tw_il 1), (122, tw_il 2), (123, tw_il 3), (124, tw_cv 3 22 fn_Mo_walk), (127, tw_ri)]
set_option maxRecDepth 100000 in
set_option maxHeartbeats 4000000 in
theorem ok_Mo_access {p : Program} {l : Launch} {e : Env} {s : State} {m : MethodId} {args : Array Value} {below : List Frame} {meth : Method} {c : Code} {E : tw_E} {D : va_G} {ρ : tw_R} (hC : tw_Cx p s m args meth c b_Mo_access 5 (some .int) "TwinHostModel" E D) : tw_Ok p l e (tw_rmd 5) s m args below meth c 0 0 (MQ below (tw_Qc E D ρ) args s 0 0 (tw_A E)) 5 E D ρ pr_Mo_access :=
  ⟨ts_aload_n hC d_Mo_access_0 rfl,
   ts_gr (j := 5) (C := R_Mo) (T := T_Mo) hC rfl rfl rfl (by decide) u_Mo wd_461 rfl d_Mo_access_1,
   ts_bipush hC d_Mo_access_4 (by decide),
   ts_iload_n hC d_Mo_access_6 rfl,
   ts_imul hC d_Mo_access_7,
   ts_bipush hC d_Mo_access_8 (by decide),
   ts_iadd hC d_Mo_access_10,
   ts_iaload hC d_Mo_access_11,
   ts_sipush hC d_Mo_access_12 (by decide),
   ts_iand hC d_Mo_access_15,
   ts_ifne hC d_Mo_access_16 (by decide),
   ts_iload_n hC d_Mo_access_19 rfl,
   ts_iflt hC d_Mo_access_20 (by decide),
   ts_iload_n hC d_Mo_access_23 rfl,
   ts_bipush hC d_Mo_access_24 (by decide),
   ts_cgt hC d_Mo_access_26 (by decide),
   ts_iload_n hC d_Mo_access_29 rfl,
   ts_goto hC d_Mo_access_30 (by decide),
   ts_aload_n hC d_Mo_access_33 rfl,
   ts_iload_n hC d_Mo_access_34 rfl,
   ts_iload_n hC d_Mo_access_35 rfl,
   ts_iload_n hC d_Mo_access_36 rfl,
   ts_callv (C := R_Mo) (T := T_Mo) hC con_Mo_outside wd_620 wd_30 (by decide +kernel) ⟨by decide, by decide⟩ ⟨Nat.zero_le _, Nat.zero_le _⟩ wd_617 rfl rfl wd_619 wd_11 d_Mo_access_37,
   ts_iret hC rfl d_Mo_access_40,
   ts_iload_n hC d_Mo_access_41 rfl,
   ts_iflt hC d_Mo_access_42 (by decide),
   ts_iload_n hC d_Mo_access_45 rfl,
   ts_sipush hC d_Mo_access_46 (by decide),
   ts_cle hC d_Mo_access_49 (by decide),
   ts_aload_n hC d_Mo_access_52 rfl,
   ts_iload_n hC d_Mo_access_53 rfl,
   ts_iload_n hC d_Mo_access_54 rfl,
   ts_iload_n hC d_Mo_access_55 rfl,
   ts_callv (C := R_Mo) (T := T_Mo) hC con_Mo_fault wd_624 wd_30 (by decide +kernel) ⟨by decide, by decide⟩ ⟨Nat.zero_le _, Nat.zero_le _⟩ wd_621 rfl rfl wd_623 wd_12 d_Mo_access_56,
   ts_iret hC rfl d_Mo_access_59,
   ts_bipush hC d_Mo_access_60 (by decide),
   ts_iload_n hC d_Mo_access_62 rfl,
   ts_imul hC d_Mo_access_63,
   ts_iload_n hC d_Mo_access_64 rfl,
   ts_iconst hC d_Mo_access_65 (by decide),
   ts_ishr hC d_Mo_access_66,
   ts_iadd hC d_Mo_access_67,
   ts_istore hC d_Mo_access_68 (by decide),
   ts_aload_n hC d_Mo_access_70 rfl,
   ts_aload_n hC d_Mo_access_71 rfl,
   ts_gr (j := 12) (C := R_Mo) (T := T_Mo) hC rfl rfl rfl (by decide) u_Mo wd_468 rfl d_Mo_access_72,
   ts_iload hC d_Mo_access_75,
   ts_iaload hC d_Mo_access_77,
   ts_iflt hC d_Mo_access_78 (by decide),
   ts_aload_n hC d_Mo_access_81 rfl,
   ts_iload_n hC d_Mo_access_82 rfl,
   ts_aload_n hC d_Mo_access_83 rfl,
   ts_gr (j := 13) (C := R_Mo) (T := T_Mo) hC rfl rfl rfl (by decide) u_Mo wd_469 rfl d_Mo_access_84,
   ts_iload hC d_Mo_access_87,
   ts_iaload hC d_Mo_access_89,
   ts_iload_n hC d_Mo_access_90 rfl,
   ts_callv (C := R_Mo) (T := T_Mo) hC con_Mo_allowed wd_628 wd_30 (by decide +kernel) ⟨by decide, by decide⟩ ⟨Nat.zero_le _, Nat.zero_le _⟩ wd_625 rfl rfl wd_627 wd_13 d_Mo_access_91,
   ts_ifeq hC d_Mo_access_94 (by decide),
   ts_iload_n hC d_Mo_access_97 rfl,
   ts_iconst hC d_Mo_access_98 (by decide),
   ts_clt hC d_Mo_access_99 (by decide),
   ts_aload_n hC d_Mo_access_102 rfl,
   ts_gr (j := 14) (C := R_Mo) (T := T_Mo) hC rfl rfl rfl (by decide) u_Mo wd_470 rfl d_Mo_access_103,
   ts_iload hC d_Mo_access_106,
   ts_baload hC d_Mo_access_108,
   ts_ifeq hC d_Mo_access_109 (by decide),
   ts_iconst hC d_Mo_access_112 (by decide),
   ts_goto hC d_Mo_access_113 (by decide),
   ts_iconst hC d_Mo_access_116 (by decide),
   ts_pz (j := 19) (C := R_Mo) (T := T_Mo) hC rfl rfl rfl (by decide) u_Mo wd_475 rfl t_Mo_ok n_Mo rfl (by decide +kernel) d_Mo_access_117,
   ts_aload_n hC d_Mo_access_120 rfl,
   ts_iload_n hC d_Mo_access_121 rfl,
   ts_iload_n hC d_Mo_access_122 rfl,
   ts_iload_n hC d_Mo_access_123 rfl,
   ts_callv (C := R_Mo) (T := T_Mo) hC con_Mo_walk wd_632 wd_30 (by decide +kernel) ⟨by decide, by decide⟩ ⟨Nat.zero_le _, Nat.zero_le _⟩ wd_629 rfl rfl wd_631 wd_14 d_Mo_access_124,
   ts_iret hC rfl d_Mo_access_127,
   trivial⟩
noncomputable def fn_Mo_access : tw_Fn := tw_fl 4 5 78 pr_Mo_access
theorem con_Mo_access : tw_Con y_Mo_access b_Mo_access 5 (some .int) 5 fn_Mo_access := tw_met (by decide +kernel) (tw_fl_len (n := 4) (by decide)) (fun p l e s m args below meth c E D vs σ ρ hC h => tw_sound (ok_Mo_access hC) 78 pr_Mo_access (ok_Mo_access hC) _ _ _ (tw_fl_get h))
