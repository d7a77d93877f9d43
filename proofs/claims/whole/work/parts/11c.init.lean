theorem wd_49 : Cond.methodLink "TwinHost$Guest" 3 objectInit ∈ tw_Tb := tw_in 49 (by decide +kernel) (by decide +kernel)
theorem wd_50 : Cond.classLink "TwinHost$Guest" 23 R_Co ∈ tw_Tb := tw_in 50 (by decide +kernel) (by decide +kernel)
theorem wd_51 : Cond.instantiable R_Co 2 ∈ tw_Tb := tw_in 51 (by decide +kernel) (by decide +kernel)
theorem wd_52 : Cond.methodLink "TwinHost$Guest" 25 y_Co_init ∈ tw_Tb := tw_in 52 (by decide +kernel) (by decide +kernel)
theorem wd_53 : Cond.instanceMethod y_Co_init ∈ tw_Tb := tw_in 53 (by decide +kernel) (by decide +kernel)
theorem wd_54 : Cond.code y_Co_init b_Co_init 1 none ∈ tw_Tb := tw_in 54 (by decide +kernel) (by decide +kernel)
theorem wd_84 : Cond.classLink "TwinHost$Guest" 30 R_Sh ∈ tw_Tb := tw_in 84 (by decide +kernel) (by decide +kernel)
theorem wd_85 : Cond.instantiable R_Sh 4 ∈ tw_Tb := tw_in 85 (by decide +kernel) (by decide +kernel)
theorem wd_86 : Cond.methodLink "TwinHost$Guest" 32 y_Sh_init ∈ tw_Tb := tw_in 86 (by decide +kernel) (by decide +kernel)
theorem wd_87 : Cond.instanceMethod y_Sh_init ∈ tw_Tb := tw_in 87 (by decide +kernel) (by decide +kernel)
theorem wd_88 : Cond.code y_Sh_init b_Sh_init 1 none ∈ tw_Tb := tw_in 88 (by decide +kernel) (by decide +kernel)
theorem wd_89 : Cond.methodLink "TwinHost$Shadows" 3 objectInit ∈ tw_Tb := tw_in 89 (by decide +kernel) (by decide +kernel)
theorem wd_90 : Cond.methodLink "TwinHost$Shadows" 24 y_Sh_clear ∈ tw_Tb := tw_in 90 (by decide +kernel) (by decide +kernel)
theorem wd_108 : Cond.classLink "TwinHost$Guest" 37 R_Wa ∈ tw_Tb := tw_in 108 (by decide +kernel) (by decide +kernel)
theorem wd_109 : Cond.instantiable R_Wa 4 ∈ tw_Tb := tw_in 109 (by decide +kernel) (by decide +kernel)
theorem wd_111 : Cond.instanceMethod y_Wa_init ∈ tw_Tb := tw_in 111 (by decide +kernel) (by decide +kernel)
theorem wd_112 : Cond.code y_Wa_init b_Wa_init 1 none ∈ tw_Tb := tw_in 112 (by decide +kernel) (by decide +kernel)
theorem d_Sh_init_0 : decode b_Sh_init 0 = .ok (.aload_n 0, 1) := by decide +kernel
theorem d_Sh_init_1 : decode b_Sh_init 1 = .ok (.invokespecial 3, 3) := by decide +kernel
theorem d_Sh_init_4 : decode b_Sh_init 4 = .ok (.aload_n 0, 1) := by decide +kernel
theorem d_Sh_init_5 : decode b_Sh_init 5 = .ok (.bipush 16, 2) := by decide +kernel
theorem d_Sh_init_7 : decode b_Sh_init 7 = .ok (.newarray .int, 2) := by decide +kernel
theorem d_Sh_init_9 : decode b_Sh_init 9 = .ok (.putfield 9, 3) := by decide +kernel
theorem d_Sh_init_12 : decode b_Sh_init 12 = .ok (.aload_n 0, 1) := by decide +kernel
theorem d_Sh_init_13 : decode b_Sh_init 13 = .ok (.bipush 16, 2) := by decide +kernel
theorem d_Sh_init_15 : decode b_Sh_init 15 = .ok (.newarray .int, 2) := by decide +kernel
theorem d_Sh_init_17 : decode b_Sh_init 17 = .ok (.putfield 15, 3) := by decide +kernel
theorem d_Sh_init_20 : decode b_Sh_init 20 = .ok (.aload_n 0, 1) := by decide +kernel
theorem d_Sh_init_21 : decode b_Sh_init 21 = .ok (.bipush 16, 2) := by decide +kernel
theorem d_Sh_init_23 : decode b_Sh_init 23 = .ok (.newarray .int, 2) := by decide +kernel
theorem d_Sh_init_25 : decode b_Sh_init 25 = .ok (.putfield 18, 3) := by decide +kernel
theorem d_Sh_init_28 : decode b_Sh_init 28 = .ok (.aload_n 0, 1) := by decide +kernel
theorem d_Sh_init_29 : decode b_Sh_init 29 = .ok (.bipush 16, 2) := by decide +kernel
theorem d_Sh_init_31 : decode b_Sh_init 31 = .ok (.newarray .int, 2) := by decide +kernel
theorem d_Sh_init_33 : decode b_Sh_init 33 = .ok (.putfield 21, 3) := by decide +kernel
theorem d_Sh_init_36 : decode b_Sh_init 36 = .ok (.aload_n 0, 1) := by decide +kernel
theorem d_Sh_init_37 : decode b_Sh_init 37 = .ok (.invokevirtual 24, 3) := by decide +kernel
theorem d_Sh_init_40 : decode b_Sh_init 40 = .ok (.return_, 1) := by decide +kernel
def at_Sh_init (D : va_G) (A : Nat → Prop) (h0 : Nat) (t : State) : Prop := ∃ (q1 : Nat), ∃ (cA1 : ClassId), ∃ (q2 : Nat), ∃ (cA2 : ClassId), ∃ (q3 : Nat), ∃ (cA3 : ClassId), ∃ (q4 : Nat), ∃ (cA4 : ClassId), va_P D tw_cl [(q2, .inl (cA2, 16, .inl (fun _ => 0))), (q3, .inl (cA3, 16, .inl (fun _ => 0))), (q4, .inl (cA4, 16, .inl (fun _ => 0))), (h0, .inr (4, [.ref q1, .ref q2, .ref q3, .ref q4])), (q1, .inl (cA1, 16, .inl (tw_m1p (fun _ => 0))))] t.heap ∧ va_K D tw_cl [(cA1, .int), (cA2, .int), (cA3, .int), (cA4, .int)] t ∧ va_D A [(q2, .inl (cA2, 16, .inl (fun _ => 0))), (q3, .inl (cA3, 16, .inl (fun _ => 0))), (q4, .inl (cA4, 16, .inl (fun _ => 0))), (h0, .inr (4, [.ref q1, .ref q2, .ref q3, .ref q4])), (q1, .inl (cA1, 16, .inl (tw_m1p (fun _ => 0))))]
set_option maxHeartbeats 4000000 in
set_option maxRecDepth 100000 in
theorem c_Sh_init (l : Launch) (D : va_G) (h0 sz : Nat) : Met l y_Sh_init (.code y_Sh_init b_Sh_init 1 none :: tw_Tb) ({ frames := 1, cells := 4, slots := 64, locals := 40 }) (va_Pc [.ref h0] (fun U => U.heap.size = sz ∧ va_P D tw_cl [(h0, .inr (4, [.null, .null, .null, .null]))] U.heap ∧ va_K D tw_cl [] U ∧ va_D (fun _ => True) [(h0, .inr (4, [.null, .null, .null, .null]))] ∧ tw_Xt U)) (va_Qv (fun _ : Int32 => True) (fun _ t => at_Sh_init D (va_A [(h0, .inr (4, [.null, .null, .null, .null]))] sz) h0 t) (va_A [(h0, .inr (4, [.null, .null, .null, .null]))] sz)) 4 64 (va_A [(h0, .inr (4, [.null, .null, .null, .null]))] sz) := by
  refine Met.ofW (cc := b_Sh_init) (maxL := 1) (ret := none) (by decide) rfl ?_
  intro p e s m args below meth c s₁ B hml hv
  obtain ⟨rfl, hsz, hP, hK, hD0, hNW⟩ := hv
  have hx := B.exec
  have hb := B.bytes
  have hr := B.returns
  have hts0 := atoms_spec (ws := .code y_Sh_init b_Sh_init 1 none :: tw_Tb) B.pre
  have hts : ∀ w ∈ tw_Tb, w.before _ s = true := fun w h => hts0 w (List.mem_cons_of_mem _ h)
  have hown : s.vm.findClass "TwinHost$Shadows" = some m.cls := findClass_of_methodNamed B.named
  have hlocks := B.notSynchronized
  have hin : meth.name = "<init>" := (name_of_methodNamed B.named B.method).1
  subst hsz
  have hD := hD0.self (sz := s.heap.size)
  generalize hAe : va_A [(h0, .inr (4, [.null, .null, .null, .null]))] s.heap.size = A at hD ⊢
  have hA : ∀ q : Nat, s.heap.size ≤ q → A q := fun q h => by rw [← hAe]; exact Or.inr h
  have hS : va_S A s.heap s.heap [] := va_S.rf
  have hP : va_P D tw_cl [(h0, .inr (4, [.null, .null, .null, .null]))] s.heap := hP
  have hl := lv_entry ([.ref h0]) (n := 1) (Nat.le_of_ble_eq_true rfl)
  rw [lg_entry_eq]
  generalize (lg_sl ([.ref h0]) ++ List.replicate (1 - (lg_sl ([.ref h0])).length) Slot.unset).toArray = ls at hl ⊢
  have hl : lv_has ls 1 [(0, .ref h0)] := hl
  refine lv_aload_n hx hb d_Sh_init_0 rfl (lv_at hl 0 rfl) ?_
  refine W.objInit hx hb hown (hts _ wd_89) (hts _ wd_41) (hts _ wd_42) rfl (by rw [hml]; exact hl.1) rfl d_Sh_init_1 (Nat.le_of_ble_eq_true rfl) (Nat.le_of_ble_eq_true rfl) ?_
  refine W.eq (g2 := F0 m 4 ls []) rfl ?_
  refine lv_aload_n hx hb d_Sh_init_4 rfl (lv_at hl 0 rfl) ?_
  refine lv_bipush (v := 16) hx hb d_Sh_init_5 (by decide) ?_
  refine va_newa (atype := .int) (ty := .int) (N' := 16) (a0 := (16, .inl (fun _ => 0))) hx hb (hts _ wd_73) rfl hK hP hD hS hA (fun cA => rfl) (by decide) (by decide) (by decide) (Nat.le_of_ble_eq_true rfl) (Nat.le_of_ble_eq_true rfl) d_Sh_init_7 (fun q1 cA1 H hK hP hD hS => ?_)
  have hP : va_P D tw_cl [(h0, .inr (4, [.null, .null, .null, .null])), (q1, .inl (cA1, 16, .inl (fun _ => 0)))] H := hP
  have hD : va_D A [(h0, .inr (4, [.null, .null, .null, .null])), (q1, .inl (cA1, 16, .inl (fun _ => 0)))] := hD
  have hK : va_K D tw_cl [(cA1, .int)] s := hK
  refine W.widen (k := 1) (n := 16) (by omega) (by omega) ?_
  refine va_putF (D := D) (ci := 4) (v := .ref q1) (ty := .array .int) (C := R_Sh) (T := T_Sh) (N := 4) hx hb hts u_Sh t_Sh t_Sh_ok n_Sh hown hK hP hD hS 0 rfl rfl 0 (by decide) (hts _ wd_94) (fun _ h9 => h9) rfl hin rfl (by decide +kernel) rfl rfl (Nat.le_of_ble_eq_true rfl) d_Sh_init_9 (fun H locs hP hD hS => ?_)
  have hP : va_P D tw_cl [(h0, .inr (4, [.ref q1, .null, .null, .null])), (q1, .inl (cA1, 16, .inl (fun _ => 0)))] H := hP
  have hD : va_D A [(h0, .inr (4, [.ref q1, .null, .null, .null])), (q1, .inl (cA1, 16, .inl (fun _ => 0)))] := hD
  refine lv_aload_n hx hb d_Sh_init_12 rfl (lv_at hl 0 rfl) ?_
  refine lv_bipush (v := 16) hx hb d_Sh_init_13 (by decide) ?_
  refine va_newa (atype := .int) (ty := .int) (N' := 16) (a0 := (16, .inl (fun _ => 0))) hx hb (hts _ wd_73) rfl hK hP hD hS hA (fun cA => rfl) (by decide) (by decide) (by decide) (Nat.le_of_ble_eq_true rfl) (Nat.le_of_ble_eq_true rfl) d_Sh_init_15 (fun q2 cA2 H hK hP hD hS => ?_)
  have hP : va_P D tw_cl [(h0, .inr (4, [.ref q1, .null, .null, .null])), (q1, .inl (cA1, 16, .inl (fun _ => 0))), (q2, .inl (cA2, 16, .inl (fun _ => 0)))] H := hP
  have hD : va_D A [(h0, .inr (4, [.ref q1, .null, .null, .null])), (q1, .inl (cA1, 16, .inl (fun _ => 0))), (q2, .inl (cA2, 16, .inl (fun _ => 0)))] := hD
  have hK : va_K D tw_cl [(cA1, .int), (cA2, .int)] s := hK
  refine W.widen (k := 2) (n := 32) (by omega) (by omega) ?_
  refine va_putF (D := D) (ci := 4) (v := .ref q2) (ty := .array .int) (C := R_Sh) (T := T_Sh) (N := 4) hx hb hts u_Sh t_Sh t_Sh_ok n_Sh hown hK hP hD hS 0 rfl rfl 1 (by decide) (hts _ wd_96) (fun _ h9 => h9) rfl hin rfl (by decide +kernel) rfl rfl (Nat.le_of_ble_eq_true rfl) d_Sh_init_17 (fun H locs hP hD hS => ?_)
  have hP : va_P D tw_cl [(h0, .inr (4, [.ref q1, .ref q2, .null, .null])), (q1, .inl (cA1, 16, .inl (fun _ => 0))), (q2, .inl (cA2, 16, .inl (fun _ => 0)))] H := hP
  have hD : va_D A [(h0, .inr (4, [.ref q1, .ref q2, .null, .null])), (q1, .inl (cA1, 16, .inl (fun _ => 0))), (q2, .inl (cA2, 16, .inl (fun _ => 0)))] := hD
  refine lv_aload_n hx hb d_Sh_init_20 rfl (lv_at hl 0 rfl) ?_
  refine lv_bipush (v := 16) hx hb d_Sh_init_21 (by decide) ?_
  refine va_newa (atype := .int) (ty := .int) (N' := 16) (a0 := (16, .inl (fun _ => 0))) hx hb (hts _ wd_73) rfl hK hP hD hS hA (fun cA => rfl) (by decide) (by decide) (by decide) (Nat.le_of_ble_eq_true rfl) (Nat.le_of_ble_eq_true rfl) d_Sh_init_23 (fun q3 cA3 H hK hP hD hS => ?_)
  have hP : va_P D tw_cl [(h0, .inr (4, [.ref q1, .ref q2, .null, .null])), (q1, .inl (cA1, 16, .inl (fun _ => 0))), (q2, .inl (cA2, 16, .inl (fun _ => 0))), (q3, .inl (cA3, 16, .inl (fun _ => 0)))] H := hP
  have hD : va_D A [(h0, .inr (4, [.ref q1, .ref q2, .null, .null])), (q1, .inl (cA1, 16, .inl (fun _ => 0))), (q2, .inl (cA2, 16, .inl (fun _ => 0))), (q3, .inl (cA3, 16, .inl (fun _ => 0)))] := hD
  have hK : va_K D tw_cl [(cA1, .int), (cA2, .int), (cA3, .int)] s := hK
  refine W.widen (k := 3) (n := 48) (by omega) (by omega) ?_
  refine va_putF (D := D) (ci := 4) (v := .ref q3) (ty := .array .int) (C := R_Sh) (T := T_Sh) (N := 4) hx hb hts u_Sh t_Sh t_Sh_ok n_Sh hown hK hP hD hS 0 rfl rfl 2 (by decide) (hts _ wd_97) (fun _ h9 => h9) rfl hin rfl (by decide +kernel) rfl rfl (Nat.le_of_ble_eq_true rfl) d_Sh_init_25 (fun H locs hP hD hS => ?_)
  have hP : va_P D tw_cl [(h0, .inr (4, [.ref q1, .ref q2, .ref q3, .null])), (q1, .inl (cA1, 16, .inl (fun _ => 0))), (q2, .inl (cA2, 16, .inl (fun _ => 0))), (q3, .inl (cA3, 16, .inl (fun _ => 0)))] H := hP
  have hD : va_D A [(h0, .inr (4, [.ref q1, .ref q2, .ref q3, .null])), (q1, .inl (cA1, 16, .inl (fun _ => 0))), (q2, .inl (cA2, 16, .inl (fun _ => 0))), (q3, .inl (cA3, 16, .inl (fun _ => 0)))] := hD
  refine lv_aload_n hx hb d_Sh_init_28 rfl (lv_at hl 0 rfl) ?_
  refine lv_bipush (v := 16) hx hb d_Sh_init_29 (by decide) ?_
  refine va_newa (atype := .int) (ty := .int) (N' := 16) (a0 := (16, .inl (fun _ => 0))) hx hb (hts _ wd_73) rfl hK hP hD hS hA (fun cA => rfl) (by decide) (by decide) (by decide) (Nat.le_of_ble_eq_true rfl) (Nat.le_of_ble_eq_true rfl) d_Sh_init_31 (fun q4 cA4 H hK hP hD hS => ?_)
  have hP : va_P D tw_cl [(h0, .inr (4, [.ref q1, .ref q2, .ref q3, .null])), (q1, .inl (cA1, 16, .inl (fun _ => 0))), (q2, .inl (cA2, 16, .inl (fun _ => 0))), (q3, .inl (cA3, 16, .inl (fun _ => 0))), (q4, .inl (cA4, 16, .inl (fun _ => 0)))] H := hP
  have hD : va_D A [(h0, .inr (4, [.ref q1, .ref q2, .ref q3, .null])), (q1, .inl (cA1, 16, .inl (fun _ => 0))), (q2, .inl (cA2, 16, .inl (fun _ => 0))), (q3, .inl (cA3, 16, .inl (fun _ => 0))), (q4, .inl (cA4, 16, .inl (fun _ => 0)))] := hD
  have hK : va_K D tw_cl [(cA1, .int), (cA2, .int), (cA3, .int), (cA4, .int)] s := hK
  refine W.widen (k := 4) (n := 64) (by omega) (by omega) ?_
  refine va_putF (D := D) (ci := 4) (v := .ref q4) (ty := .array .int) (C := R_Sh) (T := T_Sh) (N := 4) hx hb hts u_Sh t_Sh t_Sh_ok n_Sh hown hK hP hD hS 0 rfl rfl 3 (by decide) (hts _ wd_98) (fun _ h9 => h9) rfl hin rfl (by decide +kernel) rfl rfl (Nat.le_of_ble_eq_true rfl) d_Sh_init_33 (fun H locs hP hD hS => ?_)
  have hP : va_P D tw_cl [(h0, .inr (4, [.ref q1, .ref q2, .ref q3, .ref q4])), (q1, .inl (cA1, 16, .inl (fun _ => 0))), (q2, .inl (cA2, 16, .inl (fun _ => 0))), (q3, .inl (cA3, 16, .inl (fun _ => 0))), (q4, .inl (cA4, 16, .inl (fun _ => 0)))] H := hP
  have hD : va_D A [(h0, .inr (4, [.ref q1, .ref q2, .ref q3, .ref q4])), (q1, .inl (cA1, 16, .inl (fun _ => 0))), (q2, .inl (cA2, 16, .inl (fun _ => 0))), (q3, .inl (cA3, 16, .inl (fun _ => 0))), (q4, .inl (cA4, 16, .inl (fun _ => 0)))] := hD
  refine lv_aload_n hx hb d_Sh_init_36 rfl (lv_at hl 0 rfl) ?_
  have hPc := hP.sub (ws' := [(h0, .inr (4, [.ref q1, .ref q2, .ref q3, .ref q4])), (q1, .inl (cA1, 16, .inl (fun _ => 0)))]) [0, 1] rfl
  have hDc := hD.sub (ws' := [(h0, .inr (4, [.ref q1, .ref q2, .ref q3, .ref q4])), (q1, .inl (cA1, 16, .inl (fun _ => 0)))]) [0, 1] (by decide) rfl
  have hKc := hK.sub (tys' := [(cA1, .int)]) [0] rfl
  have hFc := va_free (wc := [(h0, .inr (4, [.ref q1, .ref q2, .ref q3, .ref q4])), (q1, .inl (cA1, 16, .inl (fun _ => 0)))]) hD hS hA [0, 1] rfl
  refine va_callv (va_runV (C := R_Sh) (b := h0) (As := []) (rest := []) ⟨hx, hb, hml, hown, hts⟩ (c_Sh_clear l D h0 q1 q2 q3 q4 cA1 (fun _ => 0) H.size) ⟨callB_of 0 hts (tw_good wd_93) rfl rfl rfl (hts _ wd_28) (hts _ wd_90) (by decide +kernel) ⟨(Nat.le_of_ble_eq_true rfl), (Nat.le_of_ble_eq_true rfl)⟩, hts _ wd_91, hts _ wd_92⟩ ⟨fun a U g mk q => by obtain ⟨q0, q1, qP, qK, qD⟩ := q; exact ⟨q0, q1, qP, va_K.moved (u := U) (U := U.calling g mk a) (Vm.Alike.refl U.vm) qK, qD⟩, va_recv (q := (R_Sh, T_Sh, 4)) hK hP rfl (q0 := 0) rfl, fun U hU hW => ⟨rfl, by rw [hU], by rw [hU]; exact hPc, va_K.moved hW.alike hKc, hDc.weaken (fun _ _ _ _ => trivial)⟩⟩ rfl rfl hl.1 rfl (lv_room (Nat.le_of_ble_eq_true rfl)) d_Sh_init_37 ⟨(Nat.le_of_ble_eq_true rfl), (Nat.le_of_ble_eq_true rfl)⟩) hS (fun q _ h => hFc q h) hFc (fun u t H1 locs ht hvm _ hB hz1 hk1 hS => ?_)
  obtain ⟨hP1, hK1, hD1⟩ := hB
  rw [ht] at hP1
  have hK1 := va_K.moved hvm.symm hK1
  obtain ⟨hP, hD⟩ := va_join (wr := [(q2, .inl (cA2, 16, .inl (fun _ => 0))), (q3, .inl (cA3, 16, .inl (fun _ => 0))), (q4, .inl (cA4, 16, .inl (fun _ => 0)))]) (w1 := [(h0, .inr (4, [.ref q1, .ref q2, .ref q3, .ref q4])), (q1, .inl (cA1, 16, .inl (tw_m1p (fun _ => 0))))]) hP hD [0, 1] [2, 3, 4] rfl rfl (by decide) (by decide) hk1 hFc hP1 hD1
  generalize H1 = H at hP hS ⊢
  have hP : va_P D tw_cl [(q2, .inl (cA2, 16, .inl (fun _ => 0))), (q3, .inl (cA3, 16, .inl (fun _ => 0))), (q4, .inl (cA4, 16, .inl (fun _ => 0))), (h0, .inr (4, [.ref q1, .ref q2, .ref q3, .ref q4])), (q1, .inl (cA1, 16, .inl (tw_m1p (fun _ => 0))))] H := hP
  have hD : va_D A [(q2, .inl (cA2, 16, .inl (fun _ => 0))), (q3, .inl (cA3, 16, .inl (fun _ => 0))), (q4, .inl (cA4, 16, .inl (fun _ => 0))), (h0, .inr (4, [.ref q1, .ref q2, .ref q3, .ref q4])), (q1, .inl (cA1, 16, .inl (tw_m1p (fun _ => 0))))] := hD
  have hP9 := hP.sub (ws' := [(q2, .inl (cA2, 16, .inl (fun _ => 0))), (q3, .inl (cA3, 16, .inl (fun _ => 0))), (q4, .inl (cA4, 16, .inl (fun _ => 0))), (h0, .inr (4, [.ref q1, .ref q2, .ref q3, .ref q4])), (q1, .inl (cA1, 16, .inl (tw_m1p (fun _ => 0))))]) [0, 1, 2, 3, 4] rfl
  have hD9 := hD.sub (ws' := [(q2, .inl (cA2, 16, .inl (fun _ => 0))), (q3, .inl (cA3, 16, .inl (fun _ => 0))), (q4, .inl (cA4, 16, .inl (fun _ => 0))), (h0, .inr (4, [.ref q1, .ref q2, .ref q3, .ref q4])), (q1, .inl (cA1, 16, .inl (tw_m1p (fun _ => 0))))]) [0, 1, 2, 3, 4] (by decide) rfl
  have hK9 := hK.sub (tys' := [(cA1, .int), (cA2, .int), (cA3, .int), (cA4, .int)]) [0, 1, 2, 3] rfl
  exact W.vret hx hb hr (fun t ht hW => ⟨⟨0, rfl, trivial, q1, cA1, q2, cA2, q3, cA3, q4, cA4, by rw [ht]; exact hP9, va_K.moved hW.alike hK9, hD9⟩, hS.F ht⟩) hS.2.2 d_Sh_init_40
theorem d_Gu_init_0 : decode b_Gu_init 0 = .ok (.aload_n 0, 1) := by decide +kernel
theorem d_Gu_init_1 : decode b_Gu_init 1 = .ok (.invokespecial 3, 3) := by decide +kernel
theorem d_Gu_init_4 : decode b_Gu_init 4 = .ok (.aload_n 0, 1) := by decide +kernel
theorem d_Gu_init_5 : decode b_Gu_init 5 = .ok (.sipush 128, 3) := by decide +kernel
theorem d_Gu_init_8 : decode b_Gu_init 8 = .ok (.newarray .int, 2) := by decide +kernel
theorem d_Gu_init_10 : decode b_Gu_init 10 = .ok (.putfield 9, 3) := by decide +kernel
theorem d_Gu_init_13 : decode b_Gu_init 13 = .ok (.aload_n 0, 1) := by decide +kernel
theorem d_Gu_init_14 : decode b_Gu_init 14 = .ok (.bipush 8, 2) := by decide +kernel
theorem d_Gu_init_16 : decode b_Gu_init 16 = .ok (.newarray .int, 2) := by decide +kernel
theorem d_Gu_init_18 : decode b_Gu_init 18 = .ok (.putfield 15, 3) := by decide +kernel
theorem d_Gu_init_21 : decode b_Gu_init 21 = .ok (.aload_n 0, 1) := by decide +kernel
theorem d_Gu_init_22 : decode b_Gu_init 22 = .ok (.bipush 9, 2) := by decide +kernel
theorem d_Gu_init_24 : decode b_Gu_init 24 = .ok (.newarray .int, 2) := by decide +kernel
theorem d_Gu_init_26 : decode b_Gu_init 26 = .ok (.putfield 20, 3) := by decide +kernel
theorem d_Gu_init_29 : decode b_Gu_init 29 = .ok (.aload_n 0, 1) := by decide +kernel
theorem d_Gu_init_30 : decode b_Gu_init 30 = .ok (.new 23, 3) := by decide +kernel
theorem d_Gu_init_33 : decode b_Gu_init 33 = .ok (.dup, 1) := by decide +kernel
theorem d_Gu_init_34 : decode b_Gu_init 34 = .ok (.invokespecial 25, 3) := by decide +kernel
theorem d_Gu_init_37 : decode b_Gu_init 37 = .ok (.putfield 26, 3) := by decide +kernel
theorem d_Gu_init_40 : decode b_Gu_init 40 = .ok (.aload_n 0, 1) := by decide +kernel
theorem d_Gu_init_41 : decode b_Gu_init 41 = .ok (.new 30, 3) := by decide +kernel
theorem d_Gu_init_44 : decode b_Gu_init 44 = .ok (.dup, 1) := by decide +kernel
theorem d_Gu_init_45 : decode b_Gu_init 45 = .ok (.invokespecial 32, 3) := by decide +kernel
theorem d_Gu_init_48 : decode b_Gu_init 48 = .ok (.putfield 33, 3) := by decide +kernel
theorem d_Gu_init_51 : decode b_Gu_init 51 = .ok (.aload_n 0, 1) := by decide +kernel
theorem d_Gu_init_52 : decode b_Gu_init 52 = .ok (.new 37, 3) := by decide +kernel
theorem d_Gu_init_55 : decode b_Gu_init 55 = .ok (.dup, 1) := by decide +kernel
theorem d_Gu_init_56 : decode b_Gu_init 56 = .ok (.invokespecial 39, 3) := by decide +kernel
theorem d_Gu_init_59 : decode b_Gu_init 59 = .ok (.putfield 40, 3) := by decide +kernel
theorem d_Gu_init_62 : decode b_Gu_init 62 = .ok (.return_, 1) := by decide +kernel
def at_Gu_init (D : va_G) (A : Nat → Prop) (h0 : Nat) (t : State) : Prop := ∃ (q1 : Nat), ∃ (cA1 : ClassId), ∃ (q2 : Nat), ∃ (cA2 : ClassId), ∃ (q3 : Nat), ∃ (cA3 : ClassId), ∃ (q4 : Nat), ∃ (q5 : Nat), ∃ (cA6 : ClassId), ∃ (q7 : Nat), ∃ (q8 : Nat), ∃ (cA9 : ClassId), ∃ (q10 : Nat), ∃ (cA11 : ClassId), ∃ (q12 : Nat), ∃ (q13 : Nat), ∃ (cA14 : ClassId), ∃ (q15 : Nat), ∃ (cA16 : ClassId), ∃ (q17 : Nat), ∃ (cA18 : ClassId), ∃ (q19 : Nat), ∃ (cA20 : ClassId), ∃ (q21 : Nat), va_P D tw_cl [(h0, .inr (1, [.ref q1, .ref q2, .ref q3, .ref q4, .ref q12, .ref q21, .int 0, .int 0])), (q1, .inl (cA1, 128, .inl (fun _ => 0))), (q2, .inl (cA2, 8, .inl (fun _ => 0))), (q3, .inl (cA3, 9, .inl (fun _ => 0))), (q4, .inr (2, [.ref q5, .ref q7])), (q5, .inl (cA6, 12, .inl (upd (fun _ => 0) 9 2147483647))), (q7, .inr (3, [.ref q8, .ref q10, .int 0])), (q8, .inl (cA9, 6, .inl (fun _ => 0))), (q10, .inl (cA11, 6, .inl (fun _ => 0))), (q15, .inl (cA16, 16, .inl (fun _ => 0))), (q17, .inl (cA18, 16, .inl (fun _ => 0))), (q19, .inl (cA20, 16, .inl (fun _ => 0))), (q12, .inr (4, [.ref q13, .ref q15, .ref q17, .ref q19])), (q13, .inl (cA14, 16, .inl (tw_m1p (fun _ => 0)))), (q21, .inr (5, [.int 0, .int 0, .int 0, .int 0]))] t.heap ∧ va_K D tw_cl [(cA1, .int), (cA2, .int), (cA3, .int), (cA6, .int), (cA9, .int), (cA11, .int), (cA14, .int), (cA16, .int), (cA18, .int), (cA20, .int)] t ∧ va_D A [(h0, .inr (1, [.ref q1, .ref q2, .ref q3, .ref q4, .ref q12, .ref q21, .int 0, .int 0])), (q1, .inl (cA1, 128, .inl (fun _ => 0))), (q2, .inl (cA2, 8, .inl (fun _ => 0))), (q3, .inl (cA3, 9, .inl (fun _ => 0))), (q4, .inr (2, [.ref q5, .ref q7])), (q5, .inl (cA6, 12, .inl (upd (fun _ => 0) 9 2147483647))), (q7, .inr (3, [.ref q8, .ref q10, .int 0])), (q8, .inl (cA9, 6, .inl (fun _ => 0))), (q10, .inl (cA11, 6, .inl (fun _ => 0))), (q15, .inl (cA16, 16, .inl (fun _ => 0))), (q17, .inl (cA18, 16, .inl (fun _ => 0))), (q19, .inl (cA20, 16, .inl (fun _ => 0))), (q12, .inr (4, [.ref q13, .ref q15, .ref q17, .ref q19])), (q13, .inl (cA14, 16, .inl (tw_m1p (fun _ => 0)))), (q21, .inr (5, [.int 0, .int 0, .int 0, .int 0]))]
set_option maxHeartbeats 4000000 in
set_option maxRecDepth 100000 in
theorem c_Gu_init (l : Launch) (D : va_G) (h0 sz : Nat) : Met l y_Gu_init (.code y_Gu_init b_Gu_init 1 none :: tw_Tb) ({ frames := 3, cells := 14, slots := 246, locals := 60 }) (va_Pc [.ref h0] (fun U => U.heap.size = sz ∧ va_P D tw_cl [(h0, .inr (1, [.null, .null, .null, .null, .null, .null, .int 0, .int 0]))] U.heap ∧ va_K D tw_cl [] U ∧ va_D (fun _ => True) [(h0, .inr (1, [.null, .null, .null, .null, .null, .null, .int 0, .int 0]))] ∧ tw_Xt U)) (va_Qv (fun _ : Int32 => True) (fun _ t => at_Gu_init D (va_A [(h0, .inr (1, [.null, .null, .null, .null, .null, .null, .int 0, .int 0]))] sz) h0 t) (va_A [(h0, .inr (1, [.null, .null, .null, .null, .null, .null, .int 0, .int 0]))] sz)) 14 246 (va_A [(h0, .inr (1, [.null, .null, .null, .null, .null, .null, .int 0, .int 0]))] sz) := by
  refine Met.ofW (cc := b_Gu_init) (maxL := 1) (ret := none) (by decide) rfl ?_
  intro p e s m args below meth c s₁ B hml hv
  obtain ⟨rfl, hsz, hP, hK, hD0, hNW⟩ := hv
  have hx := B.exec
  have hb := B.bytes
  have hr := B.returns
  have hts0 := atoms_spec (ws := .code y_Gu_init b_Gu_init 1 none :: tw_Tb) B.pre
  have hts : ∀ w ∈ tw_Tb, w.before _ s = true := fun w h => hts0 w (List.mem_cons_of_mem _ h)
  have hown : s.vm.findClass "TwinHost$Guest" = some m.cls := findClass_of_methodNamed B.named
  have hlocks := B.notSynchronized
  have hin : meth.name = "<init>" := (name_of_methodNamed B.named B.method).1
  subst hsz
  have hD := hD0.self (sz := s.heap.size)
  generalize hAe : va_A [(h0, .inr (1, [.null, .null, .null, .null, .null, .null, .int 0, .int 0]))] s.heap.size = A at hD ⊢
  have hA : ∀ q : Nat, s.heap.size ≤ q → A q := fun q h => by rw [← hAe]; exact Or.inr h
  have hS : va_S A s.heap s.heap [] := va_S.rf
  have hP : va_P D tw_cl [(h0, .inr (1, [.null, .null, .null, .null, .null, .null, .int 0, .int 0]))] s.heap := hP
  have hl := lv_entry ([.ref h0]) (n := 1) (Nat.le_of_ble_eq_true rfl)
  rw [lg_entry_eq]
  generalize (lg_sl ([.ref h0]) ++ List.replicate (1 - (lg_sl ([.ref h0])).length) Slot.unset).toArray = ls at hl ⊢
  have hl : lv_has ls 1 [(0, .ref h0)] := hl
  refine lv_aload_n hx hb d_Gu_init_0 rfl (lv_at hl 0 rfl) ?_
  refine W.objInit hx hb hown (hts _ wd_49) (hts _ wd_41) (hts _ wd_42) rfl (by rw [hml]; exact hl.1) rfl d_Gu_init_1 (Nat.le_of_ble_eq_true rfl) (Nat.le_of_ble_eq_true rfl) ?_
  refine W.eq (g2 := F0 m 4 ls []) rfl ?_
  refine lv_aload_n hx hb d_Gu_init_4 rfl (lv_at hl 0 rfl) ?_
  refine lv_sipush (v := 128) hx hb d_Gu_init_5 (by decide) ?_
  refine va_newa (atype := .int) (ty := .int) (N' := 128) (a0 := (128, .inl (fun _ => 0))) hx hb (hts _ wd_73) rfl hK hP hD hS hA (fun cA => rfl) (by decide) (by decide) (by decide) (Nat.le_of_ble_eq_true rfl) (Nat.le_of_ble_eq_true rfl) d_Gu_init_8 (fun q1 cA1 H hK hP hD hS => ?_)
  have hP : va_P D tw_cl [(h0, .inr (1, [.null, .null, .null, .null, .null, .null, .int 0, .int 0])), (q1, .inl (cA1, 128, .inl (fun _ => 0)))] H := hP
  have hD : va_D A [(h0, .inr (1, [.null, .null, .null, .null, .null, .null, .int 0, .int 0])), (q1, .inl (cA1, 128, .inl (fun _ => 0)))] := hD
  have hK : va_K D tw_cl [(cA1, .int)] s := hK
  refine W.widen (k := 1) (n := 128) (by omega) (by omega) ?_
  refine va_putF (D := D) (ci := 1) (v := .ref q1) (ty := .array .int) (C := R_Gu) (T := T_Gu) (N := 8) hx hb hts u_Gu t_Gu t_Gu_ok n_Gu hown hK hP hD hS 0 rfl rfl 0 (by decide) (hts _ wd_132) (fun _ h9 => h9) rfl hin rfl (by decide +kernel) rfl rfl (Nat.le_of_ble_eq_true rfl) d_Gu_init_10 (fun H locs hP hD hS => ?_)
  have hP : va_P D tw_cl [(h0, .inr (1, [.ref q1, .null, .null, .null, .null, .null, .int 0, .int 0])), (q1, .inl (cA1, 128, .inl (fun _ => 0)))] H := hP
  have hD : va_D A [(h0, .inr (1, [.ref q1, .null, .null, .null, .null, .null, .int 0, .int 0])), (q1, .inl (cA1, 128, .inl (fun _ => 0)))] := hD
  refine lv_aload_n hx hb d_Gu_init_13 rfl (lv_at hl 0 rfl) ?_
  refine lv_bipush (v := 8) hx hb d_Gu_init_14 (by decide) ?_
  refine va_newa (atype := .int) (ty := .int) (N' := 8) (a0 := (8, .inl (fun _ => 0))) hx hb (hts _ wd_73) rfl hK hP hD hS hA (fun cA => rfl) (by decide) (by decide) (by decide) (Nat.le_of_ble_eq_true rfl) (Nat.le_of_ble_eq_true rfl) d_Gu_init_16 (fun q2 cA2 H hK hP hD hS => ?_)
  have hP : va_P D tw_cl [(h0, .inr (1, [.ref q1, .null, .null, .null, .null, .null, .int 0, .int 0])), (q1, .inl (cA1, 128, .inl (fun _ => 0))), (q2, .inl (cA2, 8, .inl (fun _ => 0)))] H := hP
  have hD : va_D A [(h0, .inr (1, [.ref q1, .null, .null, .null, .null, .null, .int 0, .int 0])), (q1, .inl (cA1, 128, .inl (fun _ => 0))), (q2, .inl (cA2, 8, .inl (fun _ => 0)))] := hD
  have hK : va_K D tw_cl [(cA1, .int), (cA2, .int)] s := hK
  refine W.widen (k := 2) (n := 136) (by omega) (by omega) ?_
  refine va_putF (D := D) (ci := 1) (v := .ref q2) (ty := .array .int) (C := R_Gu) (T := T_Gu) (N := 8) hx hb hts u_Gu t_Gu t_Gu_ok n_Gu hown hK hP hD hS 0 rfl rfl 1 (by decide) (hts _ wd_134) (fun _ h9 => h9) rfl hin rfl (by decide +kernel) rfl rfl (Nat.le_of_ble_eq_true rfl) d_Gu_init_18 (fun H locs hP hD hS => ?_)
  have hP : va_P D tw_cl [(h0, .inr (1, [.ref q1, .ref q2, .null, .null, .null, .null, .int 0, .int 0])), (q1, .inl (cA1, 128, .inl (fun _ => 0))), (q2, .inl (cA2, 8, .inl (fun _ => 0)))] H := hP
  have hD : va_D A [(h0, .inr (1, [.ref q1, .ref q2, .null, .null, .null, .null, .int 0, .int 0])), (q1, .inl (cA1, 128, .inl (fun _ => 0))), (q2, .inl (cA2, 8, .inl (fun _ => 0)))] := hD
  refine lv_aload_n hx hb d_Gu_init_21 rfl (lv_at hl 0 rfl) ?_
  refine lv_bipush (v := 9) hx hb d_Gu_init_22 (by decide) ?_
  refine va_newa (atype := .int) (ty := .int) (N' := 9) (a0 := (9, .inl (fun _ => 0))) hx hb (hts _ wd_73) rfl hK hP hD hS hA (fun cA => rfl) (by decide) (by decide) (by decide) (Nat.le_of_ble_eq_true rfl) (Nat.le_of_ble_eq_true rfl) d_Gu_init_24 (fun q3 cA3 H hK hP hD hS => ?_)
  have hP : va_P D tw_cl [(h0, .inr (1, [.ref q1, .ref q2, .null, .null, .null, .null, .int 0, .int 0])), (q1, .inl (cA1, 128, .inl (fun _ => 0))), (q2, .inl (cA2, 8, .inl (fun _ => 0))), (q3, .inl (cA3, 9, .inl (fun _ => 0)))] H := hP
  have hD : va_D A [(h0, .inr (1, [.ref q1, .ref q2, .null, .null, .null, .null, .int 0, .int 0])), (q1, .inl (cA1, 128, .inl (fun _ => 0))), (q2, .inl (cA2, 8, .inl (fun _ => 0))), (q3, .inl (cA3, 9, .inl (fun _ => 0)))] := hD
  have hK : va_K D tw_cl [(cA1, .int), (cA2, .int), (cA3, .int)] s := hK
  refine W.widen (k := 3) (n := 145) (by omega) (by omega) ?_
  refine va_putF (D := D) (ci := 1) (v := .ref q3) (ty := .array .int) (C := R_Gu) (T := T_Gu) (N := 8) hx hb hts u_Gu t_Gu t_Gu_ok n_Gu hown hK hP hD hS 0 rfl rfl 2 (by decide) (hts _ wd_136) (fun _ h9 => h9) rfl hin rfl (by decide +kernel) rfl rfl (Nat.le_of_ble_eq_true rfl) d_Gu_init_26 (fun H locs hP hD hS => ?_)
  have hP : va_P D tw_cl [(h0, .inr (1, [.ref q1, .ref q2, .ref q3, .null, .null, .null, .int 0, .int 0])), (q1, .inl (cA1, 128, .inl (fun _ => 0))), (q2, .inl (cA2, 8, .inl (fun _ => 0))), (q3, .inl (cA3, 9, .inl (fun _ => 0)))] H := hP
  have hD : va_D A [(h0, .inr (1, [.ref q1, .ref q2, .ref q3, .null, .null, .null, .int 0, .int 0])), (q1, .inl (cA1, 128, .inl (fun _ => 0))), (q2, .inl (cA2, 8, .inl (fun _ => 0))), (q3, .inl (cA3, 9, .inl (fun _ => 0)))] := hD
  refine lv_aload_n hx hb d_Gu_init_29 rfl (lv_at hl 0 rfl) ?_
  refine va_new (ci := 2) (fs := [.null, .null]) (C := R_Co) (T := T_Co) (N := 2) hx hb hts u_Co t_Co t_Co_ok hown (hts _ wd_50) (hts _ wd_51) (hts _ wd_26) hK hP hD hS hA rfl (fun j hj => by have h9 : j = 0 ∨ j = 1 := (by omega); rcases h9 with rfl | rfl <;> rfl) (Nat.le_of_ble_eq_true rfl) (Nat.le_of_ble_eq_true rfl) d_Gu_init_30 (fun q4 H hP hD hS => ?_)
  have hP : va_P D tw_cl [(h0, .inr (1, [.ref q1, .ref q2, .ref q3, .null, .null, .null, .int 0, .int 0])), (q1, .inl (cA1, 128, .inl (fun _ => 0))), (q2, .inl (cA2, 8, .inl (fun _ => 0))), (q3, .inl (cA3, 9, .inl (fun _ => 0))), (q4, .inr (2, [.null, .null]))] H := hP
  have hD : va_D A [(h0, .inr (1, [.ref q1, .ref q2, .ref q3, .null, .null, .null, .int 0, .int 0])), (q1, .inl (cA1, 128, .inl (fun _ => 0))), (q2, .inl (cA2, 8, .inl (fun _ => 0))), (q3, .inl (cA3, 9, .inl (fun _ => 0))), (q4, .inr (2, [.null, .null]))] := hD
  refine W.widen (k := 4) (n := 147) (by omega) (by omega) ?_
  refine lv_dup hx hb d_Gu_init_33 rfl ?_
  have hPc := hP.sub (ws' := [(q4, .inr (2, [.null, .null]))]) [4] rfl
  have hDc := hD.sub (ws' := [(q4, .inr (2, [.null, .null]))]) [4] (by decide) rfl
  have hKc := hK.sub (tys' := []) [] rfl
  have hFc := va_free (wc := [(q4, .inr (2, [.null, .null]))]) hD hS hA [4] rfl
  refine va_callv (va_runI (As := []) (rest := [.ref q4, .ref h0]) ⟨hx, hb, hml, hown, hts⟩ (c_Co_init l D q4 H.size) (cwI 0 hts (tw_good wd_54) rfl rfl rfl (hts _ wd_26) (hts _ wd_52) (hts _ wd_53) rfl (by decide +kernel) ⟨(Nat.le_of_ble_eq_true rfl), (Nat.le_of_ble_eq_true rfl)⟩) ⟨fun a U g mk q => by obtain ⟨q0, q1, qP, qK, qD, qN⟩ := q; exact ⟨q0, q1, qP, va_K.moved (u := U) (U := U.calling g mk a) (Vm.Alike.refl U.vm) qK, qD, tw_Xt.call qN⟩, fun U hU hW => ⟨rfl, by rw [hU], by rw [hU]; exact hPc, va_K.moved hW.alike hKc, hDc.weaken (fun _ _ _ _ => trivial), tw_Xt.warm hW hNW⟩⟩ rfl rfl hl.1 rfl (lv_room (Nat.le_of_ble_eq_true rfl)) d_Gu_init_34 ⟨(Nat.le_of_ble_eq_true rfl), (Nat.le_of_ble_eq_true rfl)⟩) hS (fun q _ h => hFc q h) hFc (fun u t H1 locs ht hvm _ hB hz1 hk1 hS => ?_)
  obtain ⟨q5, cA6, q7, q8, cA9, q10, cA11, hP1, hK1, hD1⟩ := hB
  rw [ht] at hP1
  have hK1 := va_K.moved hvm.symm hK1
  obtain ⟨hP, hD⟩ := va_join (wr := [(h0, .inr (1, [.ref q1, .ref q2, .ref q3, .null, .null, .null, .int 0, .int 0])), (q1, .inl (cA1, 128, .inl (fun _ => 0))), (q2, .inl (cA2, 8, .inl (fun _ => 0))), (q3, .inl (cA3, 9, .inl (fun _ => 0)))]) (w1 := [(q4, .inr (2, [.ref q5, .ref q7])), (q5, .inl (cA6, 12, .inl (upd (fun _ => 0) 9 2147483647))), (q7, .inr (3, [.ref q8, .ref q10, .int 0])), (q8, .inl (cA9, 6, .inl (fun _ => 0))), (q10, .inl (cA11, 6, .inl (fun _ => 0)))]) hP hD [4] [0, 1, 2, 3] rfl rfl (by decide) (by decide) hk1 hFc hP1 hD1
  have hK := (hK.sub (tys' := [(cA1, .int), (cA2, .int), (cA3, .int)]) [0, 1, 2] rfl).app hK1
  generalize H1 = H at hP hS ⊢
  have hP : va_P D tw_cl [(h0, .inr (1, [.ref q1, .ref q2, .ref q3, .null, .null, .null, .int 0, .int 0])), (q1, .inl (cA1, 128, .inl (fun _ => 0))), (q2, .inl (cA2, 8, .inl (fun _ => 0))), (q3, .inl (cA3, 9, .inl (fun _ => 0))), (q4, .inr (2, [.ref q5, .ref q7])), (q5, .inl (cA6, 12, .inl (upd (fun _ => 0) 9 2147483647))), (q7, .inr (3, [.ref q8, .ref q10, .int 0])), (q8, .inl (cA9, 6, .inl (fun _ => 0))), (q10, .inl (cA11, 6, .inl (fun _ => 0)))] H := hP
  have hD : va_D A [(h0, .inr (1, [.ref q1, .ref q2, .ref q3, .null, .null, .null, .int 0, .int 0])), (q1, .inl (cA1, 128, .inl (fun _ => 0))), (q2, .inl (cA2, 8, .inl (fun _ => 0))), (q3, .inl (cA3, 9, .inl (fun _ => 0))), (q4, .inr (2, [.ref q5, .ref q7])), (q5, .inl (cA6, 12, .inl (upd (fun _ => 0) 9 2147483647))), (q7, .inr (3, [.ref q8, .ref q10, .int 0])), (q8, .inl (cA9, 6, .inl (fun _ => 0))), (q10, .inl (cA11, 6, .inl (fun _ => 0)))] := hD
  have hK : va_K D tw_cl [(cA1, .int), (cA2, .int), (cA3, .int), (cA6, .int), (cA9, .int), (cA11, .int)] s := hK
  refine W.widen (k := 8) (n := 174) (by omega) (by omega) ?_
  refine va_putF (D := D) (ci := 1) (v := .ref q4) (ty := .object "TwinHost$Controls") (C := R_Gu) (T := T_Gu) (N := 8) hx hb hts u_Gu t_Gu t_Gu_ok n_Gu hown hK hP hD hS 0 rfl rfl 3 (by decide) (hts _ wd_138) (fun _ h9 => h9) rfl hin rfl (by decide +kernel) rfl rfl (Nat.le_of_ble_eq_true rfl) d_Gu_init_37 (fun H locs hP hD hS => ?_)
  have hP : va_P D tw_cl [(h0, .inr (1, [.ref q1, .ref q2, .ref q3, .ref q4, .null, .null, .int 0, .int 0])), (q1, .inl (cA1, 128, .inl (fun _ => 0))), (q2, .inl (cA2, 8, .inl (fun _ => 0))), (q3, .inl (cA3, 9, .inl (fun _ => 0))), (q4, .inr (2, [.ref q5, .ref q7])), (q5, .inl (cA6, 12, .inl (upd (fun _ => 0) 9 2147483647))), (q7, .inr (3, [.ref q8, .ref q10, .int 0])), (q8, .inl (cA9, 6, .inl (fun _ => 0))), (q10, .inl (cA11, 6, .inl (fun _ => 0)))] H := hP
  have hD : va_D A [(h0, .inr (1, [.ref q1, .ref q2, .ref q3, .ref q4, .null, .null, .int 0, .int 0])), (q1, .inl (cA1, 128, .inl (fun _ => 0))), (q2, .inl (cA2, 8, .inl (fun _ => 0))), (q3, .inl (cA3, 9, .inl (fun _ => 0))), (q4, .inr (2, [.ref q5, .ref q7])), (q5, .inl (cA6, 12, .inl (upd (fun _ => 0) 9 2147483647))), (q7, .inr (3, [.ref q8, .ref q10, .int 0])), (q8, .inl (cA9, 6, .inl (fun _ => 0))), (q10, .inl (cA11, 6, .inl (fun _ => 0)))] := hD
  refine lv_aload_n hx hb d_Gu_init_40 rfl (lv_at hl 0 rfl) ?_
  refine va_new (ci := 4) (fs := [.null, .null, .null, .null]) (C := R_Sh) (T := T_Sh) (N := 4) hx hb hts u_Sh t_Sh t_Sh_ok hown (hts _ wd_84) (hts _ wd_85) (hts _ wd_28) hK hP hD hS hA rfl (fun j hj => by have h9 : j = 0 ∨ j = 1 ∨ j = 2 ∨ j = 3 := (by omega); rcases h9 with rfl | rfl | rfl | rfl <;> rfl) (Nat.le_of_ble_eq_true rfl) (Nat.le_of_ble_eq_true rfl) d_Gu_init_41 (fun q12 H hP hD hS => ?_)
  have hP : va_P D tw_cl [(h0, .inr (1, [.ref q1, .ref q2, .ref q3, .ref q4, .null, .null, .int 0, .int 0])), (q1, .inl (cA1, 128, .inl (fun _ => 0))), (q2, .inl (cA2, 8, .inl (fun _ => 0))), (q3, .inl (cA3, 9, .inl (fun _ => 0))), (q4, .inr (2, [.ref q5, .ref q7])), (q5, .inl (cA6, 12, .inl (upd (fun _ => 0) 9 2147483647))), (q7, .inr (3, [.ref q8, .ref q10, .int 0])), (q8, .inl (cA9, 6, .inl (fun _ => 0))), (q10, .inl (cA11, 6, .inl (fun _ => 0))), (q12, .inr (4, [.null, .null, .null, .null]))] H := hP
  have hD : va_D A [(h0, .inr (1, [.ref q1, .ref q2, .ref q3, .ref q4, .null, .null, .int 0, .int 0])), (q1, .inl (cA1, 128, .inl (fun _ => 0))), (q2, .inl (cA2, 8, .inl (fun _ => 0))), (q3, .inl (cA3, 9, .inl (fun _ => 0))), (q4, .inr (2, [.ref q5, .ref q7])), (q5, .inl (cA6, 12, .inl (upd (fun _ => 0) 9 2147483647))), (q7, .inr (3, [.ref q8, .ref q10, .int 0])), (q8, .inl (cA9, 6, .inl (fun _ => 0))), (q10, .inl (cA11, 6, .inl (fun _ => 0))), (q12, .inr (4, [.null, .null, .null, .null]))] := hD
  refine W.widen (k := 9) (n := 178) (by omega) (by omega) ?_
  refine lv_dup hx hb d_Gu_init_44 rfl ?_
  have hPc := hP.sub (ws' := [(q12, .inr (4, [.null, .null, .null, .null]))]) [9] rfl
  have hDc := hD.sub (ws' := [(q12, .inr (4, [.null, .null, .null, .null]))]) [9] (by decide) rfl
  have hKc := hK.sub (tys' := []) [] rfl
  have hFc := va_free (wc := [(q12, .inr (4, [.null, .null, .null, .null]))]) hD hS hA [9] rfl
  refine va_callv (va_runI (As := []) (rest := [.ref q12, .ref h0]) ⟨hx, hb, hml, hown, hts⟩ (c_Sh_init l D q12 H.size) (cwI 0 hts (tw_good wd_88) rfl rfl rfl (hts _ wd_28) (hts _ wd_86) (hts _ wd_87) rfl (by decide +kernel) ⟨(Nat.le_of_ble_eq_true rfl), (Nat.le_of_ble_eq_true rfl)⟩) ⟨fun a U g mk q => by obtain ⟨q0, q1, qP, qK, qD, qN⟩ := q; exact ⟨q0, q1, qP, va_K.moved (u := U) (U := U.calling g mk a) (Vm.Alike.refl U.vm) qK, qD, tw_Xt.call qN⟩, fun U hU hW => ⟨rfl, by rw [hU], by rw [hU]; exact hPc, va_K.moved hW.alike hKc, hDc.weaken (fun _ _ _ _ => trivial), tw_Xt.warm hW hNW⟩⟩ rfl rfl hl.1 rfl (lv_room (Nat.le_of_ble_eq_true rfl)) d_Gu_init_45 ⟨(Nat.le_of_ble_eq_true rfl), (Nat.le_of_ble_eq_true rfl)⟩) hS (fun q _ h => hFc q h) hFc (fun u t H1 locs ht hvm _ hB hz1 hk1 hS => ?_)
  obtain ⟨q13, cA14, q15, cA16, q17, cA18, q19, cA20, hP1, hK1, hD1⟩ := hB
  rw [ht] at hP1
  have hK1 := va_K.moved hvm.symm hK1
  obtain ⟨hP, hD⟩ := va_join (wr := [(h0, .inr (1, [.ref q1, .ref q2, .ref q3, .ref q4, .null, .null, .int 0, .int 0])), (q1, .inl (cA1, 128, .inl (fun _ => 0))), (q2, .inl (cA2, 8, .inl (fun _ => 0))), (q3, .inl (cA3, 9, .inl (fun _ => 0))), (q4, .inr (2, [.ref q5, .ref q7])), (q5, .inl (cA6, 12, .inl (upd (fun _ => 0) 9 2147483647))), (q7, .inr (3, [.ref q8, .ref q10, .int 0])), (q8, .inl (cA9, 6, .inl (fun _ => 0))), (q10, .inl (cA11, 6, .inl (fun _ => 0)))]) (w1 := [(q15, .inl (cA16, 16, .inl (fun _ => 0))), (q17, .inl (cA18, 16, .inl (fun _ => 0))), (q19, .inl (cA20, 16, .inl (fun _ => 0))), (q12, .inr (4, [.ref q13, .ref q15, .ref q17, .ref q19])), (q13, .inl (cA14, 16, .inl (tw_m1p (fun _ => 0))))]) hP hD [9] [0, 1, 2, 3, 4, 5, 6, 7, 8] rfl rfl (by decide) (by decide) hk1 hFc hP1 hD1
  have hK := (hK.sub (tys' := [(cA1, .int), (cA2, .int), (cA3, .int), (cA6, .int), (cA9, .int), (cA11, .int)]) [0, 1, 2, 3, 4, 5] rfl).app hK1
  generalize H1 = H at hP hS ⊢
  have hP : va_P D tw_cl [(h0, .inr (1, [.ref q1, .ref q2, .ref q3, .ref q4, .null, .null, .int 0, .int 0])), (q1, .inl (cA1, 128, .inl (fun _ => 0))), (q2, .inl (cA2, 8, .inl (fun _ => 0))), (q3, .inl (cA3, 9, .inl (fun _ => 0))), (q4, .inr (2, [.ref q5, .ref q7])), (q5, .inl (cA6, 12, .inl (upd (fun _ => 0) 9 2147483647))), (q7, .inr (3, [.ref q8, .ref q10, .int 0])), (q8, .inl (cA9, 6, .inl (fun _ => 0))), (q10, .inl (cA11, 6, .inl (fun _ => 0))), (q15, .inl (cA16, 16, .inl (fun _ => 0))), (q17, .inl (cA18, 16, .inl (fun _ => 0))), (q19, .inl (cA20, 16, .inl (fun _ => 0))), (q12, .inr (4, [.ref q13, .ref q15, .ref q17, .ref q19])), (q13, .inl (cA14, 16, .inl (tw_m1p (fun _ => 0))))] H := hP
  have hD : va_D A [(h0, .inr (1, [.ref q1, .ref q2, .ref q3, .ref q4, .null, .null, .int 0, .int 0])), (q1, .inl (cA1, 128, .inl (fun _ => 0))), (q2, .inl (cA2, 8, .inl (fun _ => 0))), (q3, .inl (cA3, 9, .inl (fun _ => 0))), (q4, .inr (2, [.ref q5, .ref q7])), (q5, .inl (cA6, 12, .inl (upd (fun _ => 0) 9 2147483647))), (q7, .inr (3, [.ref q8, .ref q10, .int 0])), (q8, .inl (cA9, 6, .inl (fun _ => 0))), (q10, .inl (cA11, 6, .inl (fun _ => 0))), (q15, .inl (cA16, 16, .inl (fun _ => 0))), (q17, .inl (cA18, 16, .inl (fun _ => 0))), (q19, .inl (cA20, 16, .inl (fun _ => 0))), (q12, .inr (4, [.ref q13, .ref q15, .ref q17, .ref q19])), (q13, .inl (cA14, 16, .inl (tw_m1p (fun _ => 0))))] := hD
  have hK : va_K D tw_cl [(cA1, .int), (cA2, .int), (cA3, .int), (cA6, .int), (cA9, .int), (cA11, .int), (cA14, .int), (cA16, .int), (cA18, .int), (cA20, .int)] s := hK
  refine W.widen (k := 13) (n := 242) (by omega) (by omega) ?_
  refine va_putF (D := D) (ci := 1) (v := .ref q12) (ty := .object "TwinHost$Shadows") (C := R_Gu) (T := T_Gu) (N := 8) hx hb hts u_Gu t_Gu t_Gu_ok n_Gu hown hK hP hD hS 0 rfl rfl 4 (by decide) (hts _ wd_140) (fun _ h9 => h9) rfl hin rfl (by decide +kernel) rfl rfl (Nat.le_of_ble_eq_true rfl) d_Gu_init_48 (fun H locs hP hD hS => ?_)
  have hP : va_P D tw_cl [(h0, .inr (1, [.ref q1, .ref q2, .ref q3, .ref q4, .ref q12, .null, .int 0, .int 0])), (q1, .inl (cA1, 128, .inl (fun _ => 0))), (q2, .inl (cA2, 8, .inl (fun _ => 0))), (q3, .inl (cA3, 9, .inl (fun _ => 0))), (q4, .inr (2, [.ref q5, .ref q7])), (q5, .inl (cA6, 12, .inl (upd (fun _ => 0) 9 2147483647))), (q7, .inr (3, [.ref q8, .ref q10, .int 0])), (q8, .inl (cA9, 6, .inl (fun _ => 0))), (q10, .inl (cA11, 6, .inl (fun _ => 0))), (q15, .inl (cA16, 16, .inl (fun _ => 0))), (q17, .inl (cA18, 16, .inl (fun _ => 0))), (q19, .inl (cA20, 16, .inl (fun _ => 0))), (q12, .inr (4, [.ref q13, .ref q15, .ref q17, .ref q19])), (q13, .inl (cA14, 16, .inl (tw_m1p (fun _ => 0))))] H := hP
  have hD : va_D A [(h0, .inr (1, [.ref q1, .ref q2, .ref q3, .ref q4, .ref q12, .null, .int 0, .int 0])), (q1, .inl (cA1, 128, .inl (fun _ => 0))), (q2, .inl (cA2, 8, .inl (fun _ => 0))), (q3, .inl (cA3, 9, .inl (fun _ => 0))), (q4, .inr (2, [.ref q5, .ref q7])), (q5, .inl (cA6, 12, .inl (upd (fun _ => 0) 9 2147483647))), (q7, .inr (3, [.ref q8, .ref q10, .int 0])), (q8, .inl (cA9, 6, .inl (fun _ => 0))), (q10, .inl (cA11, 6, .inl (fun _ => 0))), (q15, .inl (cA16, 16, .inl (fun _ => 0))), (q17, .inl (cA18, 16, .inl (fun _ => 0))), (q19, .inl (cA20, 16, .inl (fun _ => 0))), (q12, .inr (4, [.ref q13, .ref q15, .ref q17, .ref q19])), (q13, .inl (cA14, 16, .inl (tw_m1p (fun _ => 0))))] := hD
  refine lv_aload_n hx hb d_Gu_init_51 rfl (lv_at hl 0 rfl) ?_
  refine va_new (ci := 5) (fs := [.int 0, .int 0, .int 0, .int 0]) (C := R_Wa) (T := T_Wa) (N := 4) hx hb hts u_Wa t_Wa t_Wa_ok hown (hts _ wd_108) (hts _ wd_109) (hts _ wd_29) hK hP hD hS hA rfl (fun j hj => by have h9 : j = 0 ∨ j = 1 ∨ j = 2 ∨ j = 3 := (by omega); rcases h9 with rfl | rfl | rfl | rfl <;> rfl) (Nat.le_of_ble_eq_true rfl) (Nat.le_of_ble_eq_true rfl) d_Gu_init_52 (fun q21 H hP hD hS => ?_)
  have hP : va_P D tw_cl [(h0, .inr (1, [.ref q1, .ref q2, .ref q3, .ref q4, .ref q12, .null, .int 0, .int 0])), (q1, .inl (cA1, 128, .inl (fun _ => 0))), (q2, .inl (cA2, 8, .inl (fun _ => 0))), (q3, .inl (cA3, 9, .inl (fun _ => 0))), (q4, .inr (2, [.ref q5, .ref q7])), (q5, .inl (cA6, 12, .inl (upd (fun _ => 0) 9 2147483647))), (q7, .inr (3, [.ref q8, .ref q10, .int 0])), (q8, .inl (cA9, 6, .inl (fun _ => 0))), (q10, .inl (cA11, 6, .inl (fun _ => 0))), (q15, .inl (cA16, 16, .inl (fun _ => 0))), (q17, .inl (cA18, 16, .inl (fun _ => 0))), (q19, .inl (cA20, 16, .inl (fun _ => 0))), (q12, .inr (4, [.ref q13, .ref q15, .ref q17, .ref q19])), (q13, .inl (cA14, 16, .inl (tw_m1p (fun _ => 0)))), (q21, .inr (5, [.int 0, .int 0, .int 0, .int 0]))] H := hP
  have hD : va_D A [(h0, .inr (1, [.ref q1, .ref q2, .ref q3, .ref q4, .ref q12, .null, .int 0, .int 0])), (q1, .inl (cA1, 128, .inl (fun _ => 0))), (q2, .inl (cA2, 8, .inl (fun _ => 0))), (q3, .inl (cA3, 9, .inl (fun _ => 0))), (q4, .inr (2, [.ref q5, .ref q7])), (q5, .inl (cA6, 12, .inl (upd (fun _ => 0) 9 2147483647))), (q7, .inr (3, [.ref q8, .ref q10, .int 0])), (q8, .inl (cA9, 6, .inl (fun _ => 0))), (q10, .inl (cA11, 6, .inl (fun _ => 0))), (q15, .inl (cA16, 16, .inl (fun _ => 0))), (q17, .inl (cA18, 16, .inl (fun _ => 0))), (q19, .inl (cA20, 16, .inl (fun _ => 0))), (q12, .inr (4, [.ref q13, .ref q15, .ref q17, .ref q19])), (q13, .inl (cA14, 16, .inl (tw_m1p (fun _ => 0)))), (q21, .inr (5, [.int 0, .int 0, .int 0, .int 0]))] := hD
  refine W.widen (k := 14) (n := 246) (by omega) (by omega) ?_
  refine lv_dup hx hb d_Gu_init_55 rfl ?_
  have hPc := hP.sub (ws' := [(q21, .inr (5, [.int 0, .int 0, .int 0, .int 0]))]) [14] rfl
  have hDc := hD.sub (ws' := [(q21, .inr (5, [.int 0, .int 0, .int 0, .int 0]))]) [14] (by decide) rfl
  have hKc := hK.sub (tys' := []) [] rfl
  have hFc := va_free (wc := [(q21, .inr (5, [.int 0, .int 0, .int 0, .int 0]))]) hD hS hA [14] rfl
  refine va_callv (va_runIN (host := "TwinHost") (As := []) (rest := [.ref q21, .ref h0]) ⟨hx, hb, hml, hown, hts⟩ (c_Wa_init l D q21 H.size) ⟨va_cnB 0 hts (tw_good wd_112) rfl rfl rfl (hNW.1 ("TwinHost$Guest", 39, y_Wa_init, "TwinHost") (by decide +kernel)) (hts _ wd_29) (by decide +kernel) ⟨(Nat.le_of_ble_eq_true rfl), (Nat.le_of_ble_eq_true rfl)⟩, rfl, hts _ wd_111⟩ ⟨fun a U g mk q => by obtain ⟨q0, q1, qP, qK, qD, qN⟩ := q; exact ⟨q0, q1, qP, va_K.moved (u := U) (U := U.calling g mk a) (Vm.Alike.refl U.vm) qK, qD, tw_Xt.call qN⟩, fun U hU hW => ⟨rfl, by rw [hU], by rw [hU]; exact hPc, va_K.moved hW.alike hKc, hDc.weaken (fun _ _ _ _ => trivial), tw_Xt.warm hW hNW⟩⟩ rfl rfl hl.1 rfl (lv_room (Nat.le_of_ble_eq_true rfl)) d_Gu_init_56 ⟨(Nat.le_of_ble_eq_true rfl), (Nat.le_of_ble_eq_true rfl)⟩) hS (fun q _ h => hFc q h) hFc (fun u t H1 locs ht hvm _ hB hz1 hk1 hS => ?_)
  obtain ⟨hP1, hK1, hD1⟩ := hB
  rw [ht] at hP1
  have hK1 := va_K.moved hvm.symm hK1
  obtain ⟨hP, hD⟩ := va_join (wr := [(h0, .inr (1, [.ref q1, .ref q2, .ref q3, .ref q4, .ref q12, .null, .int 0, .int 0])), (q1, .inl (cA1, 128, .inl (fun _ => 0))), (q2, .inl (cA2, 8, .inl (fun _ => 0))), (q3, .inl (cA3, 9, .inl (fun _ => 0))), (q4, .inr (2, [.ref q5, .ref q7])), (q5, .inl (cA6, 12, .inl (upd (fun _ => 0) 9 2147483647))), (q7, .inr (3, [.ref q8, .ref q10, .int 0])), (q8, .inl (cA9, 6, .inl (fun _ => 0))), (q10, .inl (cA11, 6, .inl (fun _ => 0))), (q15, .inl (cA16, 16, .inl (fun _ => 0))), (q17, .inl (cA18, 16, .inl (fun _ => 0))), (q19, .inl (cA20, 16, .inl (fun _ => 0))), (q12, .inr (4, [.ref q13, .ref q15, .ref q17, .ref q19])), (q13, .inl (cA14, 16, .inl (tw_m1p (fun _ => 0))))]) (w1 := [(q21, .inr (5, [.int 0, .int 0, .int 0, .int 0]))]) hP hD [14] [0, 1, 2, 3, 4, 5, 6, 7, 8, 9, 10, 11, 12, 13] rfl rfl (by decide) (by decide) hk1 hFc hP1 hD1
  have hK := (hK.sub (tys' := [(cA1, .int), (cA2, .int), (cA3, .int), (cA6, .int), (cA9, .int), (cA11, .int), (cA14, .int), (cA16, .int), (cA18, .int), (cA20, .int)]) [0, 1, 2, 3, 4, 5, 6, 7, 8, 9] rfl).app hK1
  generalize H1 = H at hP hS ⊢
  have hP : va_P D tw_cl [(h0, .inr (1, [.ref q1, .ref q2, .ref q3, .ref q4, .ref q12, .null, .int 0, .int 0])), (q1, .inl (cA1, 128, .inl (fun _ => 0))), (q2, .inl (cA2, 8, .inl (fun _ => 0))), (q3, .inl (cA3, 9, .inl (fun _ => 0))), (q4, .inr (2, [.ref q5, .ref q7])), (q5, .inl (cA6, 12, .inl (upd (fun _ => 0) 9 2147483647))), (q7, .inr (3, [.ref q8, .ref q10, .int 0])), (q8, .inl (cA9, 6, .inl (fun _ => 0))), (q10, .inl (cA11, 6, .inl (fun _ => 0))), (q15, .inl (cA16, 16, .inl (fun _ => 0))), (q17, .inl (cA18, 16, .inl (fun _ => 0))), (q19, .inl (cA20, 16, .inl (fun _ => 0))), (q12, .inr (4, [.ref q13, .ref q15, .ref q17, .ref q19])), (q13, .inl (cA14, 16, .inl (tw_m1p (fun _ => 0)))), (q21, .inr (5, [.int 0, .int 0, .int 0, .int 0]))] H := hP
  have hD : va_D A [(h0, .inr (1, [.ref q1, .ref q2, .ref q3, .ref q4, .ref q12, .null, .int 0, .int 0])), (q1, .inl (cA1, 128, .inl (fun _ => 0))), (q2, .inl (cA2, 8, .inl (fun _ => 0))), (q3, .inl (cA3, 9, .inl (fun _ => 0))), (q4, .inr (2, [.ref q5, .ref q7])), (q5, .inl (cA6, 12, .inl (upd (fun _ => 0) 9 2147483647))), (q7, .inr (3, [.ref q8, .ref q10, .int 0])), (q8, .inl (cA9, 6, .inl (fun _ => 0))), (q10, .inl (cA11, 6, .inl (fun _ => 0))), (q15, .inl (cA16, 16, .inl (fun _ => 0))), (q17, .inl (cA18, 16, .inl (fun _ => 0))), (q19, .inl (cA20, 16, .inl (fun _ => 0))), (q12, .inr (4, [.ref q13, .ref q15, .ref q17, .ref q19])), (q13, .inl (cA14, 16, .inl (tw_m1p (fun _ => 0)))), (q21, .inr (5, [.int 0, .int 0, .int 0, .int 0]))] := hD
  have hK : va_K D tw_cl [(cA1, .int), (cA2, .int), (cA3, .int), (cA6, .int), (cA9, .int), (cA11, .int), (cA14, .int), (cA16, .int), (cA18, .int), (cA20, .int)] s := hK
  refine W.widen (k := 14) (n := 246) (by omega) (by omega) ?_
  refine va_putF (D := D) (ci := 1) (v := .ref q21) (ty := .object "TwinHost$Walk") (C := R_Gu) (T := T_Gu) (N := 8) hx hb hts u_Gu t_Gu t_Gu_ok n_Gu hown hK hP hD hS 0 rfl rfl 5 (by decide) (hts _ wd_142) (fun _ h9 => h9) rfl hin rfl (by decide +kernel) rfl rfl (Nat.le_of_ble_eq_true rfl) d_Gu_init_59 (fun H locs hP hD hS => ?_)
  have hP : va_P D tw_cl [(h0, .inr (1, [.ref q1, .ref q2, .ref q3, .ref q4, .ref q12, .ref q21, .int 0, .int 0])), (q1, .inl (cA1, 128, .inl (fun _ => 0))), (q2, .inl (cA2, 8, .inl (fun _ => 0))), (q3, .inl (cA3, 9, .inl (fun _ => 0))), (q4, .inr (2, [.ref q5, .ref q7])), (q5, .inl (cA6, 12, .inl (upd (fun _ => 0) 9 2147483647))), (q7, .inr (3, [.ref q8, .ref q10, .int 0])), (q8, .inl (cA9, 6, .inl (fun _ => 0))), (q10, .inl (cA11, 6, .inl (fun _ => 0))), (q15, .inl (cA16, 16, .inl (fun _ => 0))), (q17, .inl (cA18, 16, .inl (fun _ => 0))), (q19, .inl (cA20, 16, .inl (fun _ => 0))), (q12, .inr (4, [.ref q13, .ref q15, .ref q17, .ref q19])), (q13, .inl (cA14, 16, .inl (tw_m1p (fun _ => 0)))), (q21, .inr (5, [.int 0, .int 0, .int 0, .int 0]))] H := hP
  have hD : va_D A [(h0, .inr (1, [.ref q1, .ref q2, .ref q3, .ref q4, .ref q12, .ref q21, .int 0, .int 0])), (q1, .inl (cA1, 128, .inl (fun _ => 0))), (q2, .inl (cA2, 8, .inl (fun _ => 0))), (q3, .inl (cA3, 9, .inl (fun _ => 0))), (q4, .inr (2, [.ref q5, .ref q7])), (q5, .inl (cA6, 12, .inl (upd (fun _ => 0) 9 2147483647))), (q7, .inr (3, [.ref q8, .ref q10, .int 0])), (q8, .inl (cA9, 6, .inl (fun _ => 0))), (q10, .inl (cA11, 6, .inl (fun _ => 0))), (q15, .inl (cA16, 16, .inl (fun _ => 0))), (q17, .inl (cA18, 16, .inl (fun _ => 0))), (q19, .inl (cA20, 16, .inl (fun _ => 0))), (q12, .inr (4, [.ref q13, .ref q15, .ref q17, .ref q19])), (q13, .inl (cA14, 16, .inl (tw_m1p (fun _ => 0)))), (q21, .inr (5, [.int 0, .int 0, .int 0, .int 0]))] := hD
  have hP9 := hP.sub (ws' := [(h0, .inr (1, [.ref q1, .ref q2, .ref q3, .ref q4, .ref q12, .ref q21, .int 0, .int 0])), (q1, .inl (cA1, 128, .inl (fun _ => 0))), (q2, .inl (cA2, 8, .inl (fun _ => 0))), (q3, .inl (cA3, 9, .inl (fun _ => 0))), (q4, .inr (2, [.ref q5, .ref q7])), (q5, .inl (cA6, 12, .inl (upd (fun _ => 0) 9 2147483647))), (q7, .inr (3, [.ref q8, .ref q10, .int 0])), (q8, .inl (cA9, 6, .inl (fun _ => 0))), (q10, .inl (cA11, 6, .inl (fun _ => 0))), (q15, .inl (cA16, 16, .inl (fun _ => 0))), (q17, .inl (cA18, 16, .inl (fun _ => 0))), (q19, .inl (cA20, 16, .inl (fun _ => 0))), (q12, .inr (4, [.ref q13, .ref q15, .ref q17, .ref q19])), (q13, .inl (cA14, 16, .inl (tw_m1p (fun _ => 0)))), (q21, .inr (5, [.int 0, .int 0, .int 0, .int 0]))]) [0, 1, 2, 3, 4, 5, 6, 7, 8, 9, 10, 11, 12, 13, 14] rfl
  have hD9 := hD.sub (ws' := [(h0, .inr (1, [.ref q1, .ref q2, .ref q3, .ref q4, .ref q12, .ref q21, .int 0, .int 0])), (q1, .inl (cA1, 128, .inl (fun _ => 0))), (q2, .inl (cA2, 8, .inl (fun _ => 0))), (q3, .inl (cA3, 9, .inl (fun _ => 0))), (q4, .inr (2, [.ref q5, .ref q7])), (q5, .inl (cA6, 12, .inl (upd (fun _ => 0) 9 2147483647))), (q7, .inr (3, [.ref q8, .ref q10, .int 0])), (q8, .inl (cA9, 6, .inl (fun _ => 0))), (q10, .inl (cA11, 6, .inl (fun _ => 0))), (q15, .inl (cA16, 16, .inl (fun _ => 0))), (q17, .inl (cA18, 16, .inl (fun _ => 0))), (q19, .inl (cA20, 16, .inl (fun _ => 0))), (q12, .inr (4, [.ref q13, .ref q15, .ref q17, .ref q19])), (q13, .inl (cA14, 16, .inl (tw_m1p (fun _ => 0)))), (q21, .inr (5, [.int 0, .int 0, .int 0, .int 0]))]) [0, 1, 2, 3, 4, 5, 6, 7, 8, 9, 10, 11, 12, 13, 14] (by decide) rfl
  have hK9 := hK.sub (tys' := [(cA1, .int), (cA2, .int), (cA3, .int), (cA6, .int), (cA9, .int), (cA11, .int), (cA14, .int), (cA16, .int), (cA18, .int), (cA20, .int)]) [0, 1, 2, 3, 4, 5, 6, 7, 8, 9] rfl
  exact W.vret hx hb hr (fun t ht hW => ⟨⟨0, rfl, trivial, q1, cA1, q2, cA2, q3, cA3, q4, q5, cA6, q7, q8, cA9, q10, cA11, q12, q13, cA14, q15, cA16, q17, cA18, q19, cA20, q21, by rw [ht]; exact hP9, va_K.moved hW.alike hK9, hD9⟩, hS.F ht⟩) hS.2.2 d_Gu_init_62
