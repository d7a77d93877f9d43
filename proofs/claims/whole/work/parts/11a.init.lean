theorem wd_41 : Cond.instanceMethod objectInit ∈ tw_Tb := tw_in 41 (by decide +kernel) (by decide +kernel)
theorem wd_42 : Cond.code objectInit ⟨#[0xb1]⟩ 1 none ∈ tw_Tb := tw_in 42 (by decide +kernel) (by decide +kernel)
theorem wd_55 : Cond.methodLink "TwinHost$Controls" 1 objectInit ∈ tw_Tb := tw_in 55 (by decide +kernel) (by decide +kernel)
theorem wd_56 : Cond.classLink "TwinHost$Controls" 13 R_In ∈ tw_Tb := tw_in 56 (by decide +kernel) (by decide +kernel)
theorem wd_57 : Cond.instantiable R_In 3 ∈ tw_Tb := tw_in 57 (by decide +kernel) (by decide +kernel)
theorem wd_59 : Cond.instanceMethod y_In_init ∈ tw_Tb := tw_in 59 (by decide +kernel) (by decide +kernel)
theorem wd_60 : Cond.code y_In_init b_In_init 1 none ∈ tw_Tb := tw_in 60 (by decide +kernel) (by decide +kernel)
theorem wd_61 : Cond.methodLink "TwinHost$Inputs" 1 objectInit ∈ tw_Tb := tw_in 61 (by decide +kernel) (by decide +kernel)
theorem wd_73 : Cond.arrayClass .int ∈ tw_Tb := tw_in 73 (by decide +kernel) (by decide +kernel)
theorem wd_74 : Cond.constant "TwinHost$Controls" 20 (2147483647) ∈ tw_Tb := tw_in 74 (by decide +kernel) (by decide +kernel)
theorem wd_113 : Cond.methodLink "TwinHost$Walk" 3 objectInit ∈ tw_Tb := tw_in 113 (by decide +kernel) (by decide +kernel)
/-! Constructors. -/
/-- what a constructor needs beside the tables' words: links to private constructors of nest mates, the array of guests -/
def tw_Xt (U : State) : Prop := tw_NW U ∧ va_AO "TwinHost$Guest" U
theorem tw_Xt.call {U : State} {g : JFrame} {mk : MethodId} {a : Array Value} (h : tw_Xt U) : tw_Xt (U.calling g mk a) := ⟨fun z hz => va_Nw.same rfl (rfl : U.vm = (U.calling g mk a).vm) (h.1 z hz), va_AO.moved (u := U) (U := U.calling g mk a) (Vm.Alike.refl U.vm) h.2⟩
theorem tw_Xt.warm {s U : State} (hW : s.WarmedH U.vm) (h : tw_Xt s) : tw_Xt U := ⟨fun z hz => va_Nw.warmM hW (h.1 z hz), va_AO.moved hW.alike h.2⟩
theorem d_In_init_0 : decode b_In_init 0 = .ok (.aload_n 0, 1) := by decide +kernel
theorem d_In_init_1 : decode b_In_init 1 = .ok (.invokespecial 1, 3) := by decide +kernel
theorem d_In_init_4 : decode b_In_init 4 = .ok (.aload_n 0, 1) := by decide +kernel
theorem d_In_init_5 : decode b_In_init 5 = .ok (.bipush 6, 2) := by decide +kernel
theorem d_In_init_7 : decode b_In_init 7 = .ok (.newarray .int, 2) := by decide +kernel
theorem d_In_init_9 : decode b_In_init 9 = .ok (.putfield 9, 3) := by decide +kernel
theorem d_In_init_12 : decode b_In_init 12 = .ok (.aload_n 0, 1) := by decide +kernel
theorem d_In_init_13 : decode b_In_init 13 = .ok (.bipush 6, 2) := by decide +kernel
theorem d_In_init_15 : decode b_In_init 15 = .ok (.newarray .int, 2) := by decide +kernel
theorem d_In_init_17 : decode b_In_init 17 = .ok (.putfield 13, 3) := by decide +kernel
theorem d_In_init_20 : decode b_In_init 20 = .ok (.return_, 1) := by decide +kernel
def at_In_init (D : va_G) (A : Nat → Prop) (h0 : Nat) (t : State) : Prop := ∃ (q1 : Nat), ∃ (cA1 : ClassId), ∃ (q2 : Nat), ∃ (cA2 : ClassId), va_P D tw_cl [(h0, .inr (3, [.ref q1, .ref q2, .int 0])), (q1, .inl (cA1, 6, .inl (fun _ => 0))), (q2, .inl (cA2, 6, .inl (fun _ => 0)))] t.heap ∧ va_K D tw_cl [(cA1, .int), (cA2, .int)] t ∧ va_D A [(h0, .inr (3, [.ref q1, .ref q2, .int 0])), (q1, .inl (cA1, 6, .inl (fun _ => 0))), (q2, .inl (cA2, 6, .inl (fun _ => 0)))]
set_option maxHeartbeats 4000000 in
set_option maxRecDepth 100000 in
theorem c_In_init (l : Launch) (D : va_G) (h0 sz : Nat) : Met l y_In_init (.code y_In_init b_In_init 1 none :: tw_Tb) ({ frames := 1, cells := 2, slots := 12, locals := 12 }) (va_Pc [.ref h0] (fun U => U.heap.size = sz ∧ va_P D tw_cl [(h0, .inr (3, [.null, .null, .int 0]))] U.heap ∧ va_K D tw_cl [] U ∧ va_D (fun _ => True) [(h0, .inr (3, [.null, .null, .int 0]))] ∧ tw_Xt U)) (va_Qv (fun _ : Int32 => True) (fun _ t => at_In_init D (va_A [(h0, .inr (3, [.null, .null, .int 0]))] sz) h0 t) (va_A [(h0, .inr (3, [.null, .null, .int 0]))] sz)) 2 12 (va_A [(h0, .inr (3, [.null, .null, .int 0]))] sz) := by
  refine Met.ofW (cc := b_In_init) (maxL := 1) (ret := none) (by decide) rfl ?_
  intro p e s m args below meth c s₁ B hml hv
  obtain ⟨rfl, hsz, hP, hK, hD0, hNW⟩ := hv
  have hx := B.exec
  have hb := B.bytes
  have hr := B.returns
  have hts0 := atoms_spec (ws := .code y_In_init b_In_init 1 none :: tw_Tb) B.pre
  have hts : ∀ w ∈ tw_Tb, w.before _ s = true := fun w h => hts0 w (List.mem_cons_of_mem _ h)
  have hown : s.vm.findClass "TwinHost$Inputs" = some m.cls := findClass_of_methodNamed B.named
  have hlocks := B.notSynchronized
  have hin : meth.name = "<init>" := (name_of_methodNamed B.named B.method).1
  subst hsz
  have hD := hD0.self (sz := s.heap.size)
  generalize hAe : va_A [(h0, .inr (3, [.null, .null, .int 0]))] s.heap.size = A at hD ⊢
  have hA : ∀ q : Nat, s.heap.size ≤ q → A q := fun q h => by rw [← hAe]; exact Or.inr h
  have hS : va_S A s.heap s.heap [] := va_S.rf
  have hP : va_P D tw_cl [(h0, .inr (3, [.null, .null, .int 0]))] s.heap := hP
  have hl := lv_entry ([.ref h0]) (n := 1) (Nat.le_of_ble_eq_true rfl)
  rw [lg_entry_eq]
  generalize (lg_sl ([.ref h0]) ++ List.replicate (1 - (lg_sl ([.ref h0])).length) Slot.unset).toArray = ls at hl ⊢
  have hl : lv_has ls 1 [(0, .ref h0)] := hl
  refine lv_aload_n hx hb d_In_init_0 rfl (lv_at hl 0 rfl) ?_
  refine W.objInit hx hb hown (hts _ wd_61) (hts _ wd_41) (hts _ wd_42) rfl (by rw [hml]; exact hl.1) rfl d_In_init_1 (Nat.le_of_ble_eq_true rfl) (Nat.le_of_ble_eq_true rfl) ?_
  refine W.eq (g2 := F0 m 4 ls []) rfl ?_
  refine lv_aload_n hx hb d_In_init_4 rfl (lv_at hl 0 rfl) ?_
  refine lv_bipush (v := 6) hx hb d_In_init_5 (by decide) ?_
  refine va_newa (atype := .int) (ty := .int) (N' := 6) (a0 := (6, .inl (fun _ => 0))) hx hb (hts _ wd_73) rfl hK hP hD hS hA (fun cA => rfl) (by decide) (by decide) (by decide) (Nat.le_of_ble_eq_true rfl) (Nat.le_of_ble_eq_true rfl) d_In_init_7 (fun q1 cA1 H hK hP hD hS => ?_)
  have hP : va_P D tw_cl [(h0, .inr (3, [.null, .null, .int 0])), (q1, .inl (cA1, 6, .inl (fun _ => 0)))] H := hP
  have hD : va_D A [(h0, .inr (3, [.null, .null, .int 0])), (q1, .inl (cA1, 6, .inl (fun _ => 0)))] := hD
  have hK : va_K D tw_cl [(cA1, .int)] s := hK
  refine W.widen (k := 1) (n := 6) (by omega) (by omega) ?_
  refine va_putF (D := D) (ci := 3) (v := .ref q1) (ty := .array .int) (C := R_In) (T := T_In) (N := 3) hx hb hts u_In t_In t_In_ok n_In hown hK hP hD hS 0 rfl rfl 0 (by decide) (hts _ wd_62) (fun _ h9 => h9) rfl hin rfl (by decide +kernel) rfl rfl (Nat.le_of_ble_eq_true rfl) d_In_init_9 (fun H locs hP hD hS => ?_)
  have hP : va_P D tw_cl [(h0, .inr (3, [.ref q1, .null, .int 0])), (q1, .inl (cA1, 6, .inl (fun _ => 0)))] H := hP
  have hD : va_D A [(h0, .inr (3, [.ref q1, .null, .int 0])), (q1, .inl (cA1, 6, .inl (fun _ => 0)))] := hD
  refine lv_aload_n hx hb d_In_init_12 rfl (lv_at hl 0 rfl) ?_
  refine lv_bipush (v := 6) hx hb d_In_init_13 (by decide) ?_
  refine va_newa (atype := .int) (ty := .int) (N' := 6) (a0 := (6, .inl (fun _ => 0))) hx hb (hts _ wd_73) rfl hK hP hD hS hA (fun cA => rfl) (by decide) (by decide) (by decide) (Nat.le_of_ble_eq_true rfl) (Nat.le_of_ble_eq_true rfl) d_In_init_15 (fun q2 cA2 H hK hP hD hS => ?_)
  have hP : va_P D tw_cl [(h0, .inr (3, [.ref q1, .null, .int 0])), (q1, .inl (cA1, 6, .inl (fun _ => 0))), (q2, .inl (cA2, 6, .inl (fun _ => 0)))] H := hP
  have hD : va_D A [(h0, .inr (3, [.ref q1, .null, .int 0])), (q1, .inl (cA1, 6, .inl (fun _ => 0))), (q2, .inl (cA2, 6, .inl (fun _ => 0)))] := hD
  have hK : va_K D tw_cl [(cA1, .int), (cA2, .int)] s := hK
  refine W.widen (k := 2) (n := 12) (by omega) (by omega) ?_
  refine va_putF (D := D) (ci := 3) (v := .ref q2) (ty := .array .int) (C := R_In) (T := T_In) (N := 3) hx hb hts u_In t_In t_In_ok n_In hown hK hP hD hS 0 rfl rfl 1 (by decide) (hts _ wd_63) (fun _ h9 => h9) rfl hin rfl (by decide +kernel) rfl rfl (Nat.le_of_ble_eq_true rfl) d_In_init_17 (fun H locs hP hD hS => ?_)
  have hP : va_P D tw_cl [(h0, .inr (3, [.ref q1, .ref q2, .int 0])), (q1, .inl (cA1, 6, .inl (fun _ => 0))), (q2, .inl (cA2, 6, .inl (fun _ => 0)))] H := hP
  have hD : va_D A [(h0, .inr (3, [.ref q1, .ref q2, .int 0])), (q1, .inl (cA1, 6, .inl (fun _ => 0))), (q2, .inl (cA2, 6, .inl (fun _ => 0)))] := hD
  have hP9 := hP.sub (ws' := [(h0, .inr (3, [.ref q1, .ref q2, .int 0])), (q1, .inl (cA1, 6, .inl (fun _ => 0))), (q2, .inl (cA2, 6, .inl (fun _ => 0)))]) [0, 1, 2] rfl
  have hD9 := hD.sub (ws' := [(h0, .inr (3, [.ref q1, .ref q2, .int 0])), (q1, .inl (cA1, 6, .inl (fun _ => 0))), (q2, .inl (cA2, 6, .inl (fun _ => 0)))]) [0, 1, 2] (by decide) rfl
  have hK9 := hK.sub (tys' := [(cA1, .int), (cA2, .int)]) [0, 1] rfl
  exact W.vret hx hb hr (fun t ht hW => ⟨⟨0, rfl, trivial, q1, cA1, q2, cA2, by rw [ht]; exact hP9, va_K.moved hW.alike hK9, hD9⟩, hS.F ht⟩) hS.2.2 d_In_init_20
theorem d_Wa_init_0 : decode b_Wa_init 0 = .ok (.aload_n 0, 1) := by decide +kernel
theorem d_Wa_init_1 : decode b_Wa_init 1 = .ok (.invokespecial 3, 3) := by decide +kernel
theorem d_Wa_init_4 : decode b_Wa_init 4 = .ok (.return_, 1) := by decide +kernel
def at_Wa_init (D : va_G) (A : Nat → Prop) (h0 : Nat) (t : State) : Prop := va_P D tw_cl [(h0, .inr (5, [.int 0, .int 0, .int 0, .int 0]))] t.heap ∧ va_K D tw_cl [] t ∧ va_D A [(h0, .inr (5, [.int 0, .int 0, .int 0, .int 0]))]
set_option maxHeartbeats 4000000 in
set_option maxRecDepth 100000 in
theorem c_Wa_init (l : Launch) (D : va_G) (h0 sz : Nat) : Met l y_Wa_init (.code y_Wa_init b_Wa_init 1 none :: tw_Tb) ({ frames := 1, cells := 0, slots := 0, locals := 12 }) (va_Pc [.ref h0] (fun U => U.heap.size = sz ∧ va_P D tw_cl [(h0, .inr (5, [.int 0, .int 0, .int 0, .int 0]))] U.heap ∧ va_K D tw_cl [] U ∧ va_D (fun _ => True) [(h0, .inr (5, [.int 0, .int 0, .int 0, .int 0]))] ∧ tw_Xt U)) (va_Qv (fun _ : Int32 => True) (fun _ t => at_Wa_init D (va_A [(h0, .inr (5, [.int 0, .int 0, .int 0, .int 0]))] sz) h0 t) (va_A [(h0, .inr (5, [.int 0, .int 0, .int 0, .int 0]))] sz)) 0 0 (va_A [(h0, .inr (5, [.int 0, .int 0, .int 0, .int 0]))] sz) := by
  refine Met.ofW (cc := b_Wa_init) (maxL := 1) (ret := none) (by decide) rfl ?_
  intro p e s m args below meth c s₁ B hml hv
  obtain ⟨rfl, hsz, hP, hK, hD0, hNW⟩ := hv
  have hx := B.exec
  have hb := B.bytes
  have hr := B.returns
  have hts0 := atoms_spec (ws := .code y_Wa_init b_Wa_init 1 none :: tw_Tb) B.pre
  have hts : ∀ w ∈ tw_Tb, w.before _ s = true := fun w h => hts0 w (List.mem_cons_of_mem _ h)
  have hown : s.vm.findClass "TwinHost$Walk" = some m.cls := findClass_of_methodNamed B.named
  have hlocks := B.notSynchronized
  have hin : meth.name = "<init>" := (name_of_methodNamed B.named B.method).1
  subst hsz
  have hD := hD0.self (sz := s.heap.size)
  generalize hAe : va_A [(h0, .inr (5, [.int 0, .int 0, .int 0, .int 0]))] s.heap.size = A at hD ⊢
  have hA : ∀ q : Nat, s.heap.size ≤ q → A q := fun q h => by rw [← hAe]; exact Or.inr h
  have hS : va_S A s.heap s.heap [] := va_S.rf
  have hP : va_P D tw_cl [(h0, .inr (5, [.int 0, .int 0, .int 0, .int 0]))] s.heap := hP
  have hl := lv_entry ([.ref h0]) (n := 1) (Nat.le_of_ble_eq_true rfl)
  rw [lg_entry_eq]
  generalize (lg_sl ([.ref h0]) ++ List.replicate (1 - (lg_sl ([.ref h0])).length) Slot.unset).toArray = ls at hl ⊢
  have hl : lv_has ls 1 [(0, .ref h0)] := hl
  refine lv_aload_n hx hb d_Wa_init_0 rfl (lv_at hl 0 rfl) ?_
  refine W.objInit hx hb hown (hts _ wd_113) (hts _ wd_41) (hts _ wd_42) rfl (by rw [hml]; exact hl.1) rfl d_Wa_init_1 (Nat.le_of_ble_eq_true rfl) (Nat.le_of_ble_eq_true rfl) ?_
  refine W.eq (g2 := F0 m 4 ls []) rfl ?_
  have hP9 := hP.sub (ws' := [(h0, .inr (5, [.int 0, .int 0, .int 0, .int 0]))]) [0] rfl
  have hD9 := hD.sub (ws' := [(h0, .inr (5, [.int 0, .int 0, .int 0, .int 0]))]) [0] (by decide) rfl
  have hK9 := hK.sub (tys' := []) [] rfl
  exact W.vret hx hb hr (fun t ht hW => ⟨⟨0, rfl, trivial, by rw [ht]; exact hP9, va_K.moved hW.alike hK9, hD9⟩, hS.F ht⟩) hS.2.2 d_Wa_init_4
theorem d_Co_init_0 : decode b_Co_init 0 = .ok (.aload_n 0, 1) := by decide +kernel
theorem d_Co_init_1 : decode b_Co_init 1 = .ok (.invokespecial 1, 3) := by decide +kernel
theorem d_Co_init_4 : decode b_Co_init 4 = .ok (.aload_n 0, 1) := by decide +kernel
theorem d_Co_init_5 : decode b_Co_init 5 = .ok (.bipush 12, 2) := by decide +kernel
theorem d_Co_init_7 : decode b_Co_init 7 = .ok (.newarray .int, 2) := by decide +kernel
theorem d_Co_init_9 : decode b_Co_init 9 = .ok (.putfield 9, 3) := by decide +kernel
theorem d_Co_init_12 : decode b_Co_init 12 = .ok (.aload_n 0, 1) := by decide +kernel
theorem d_Co_init_13 : decode b_Co_init 13 = .ok (.new 13, 3) := by decide +kernel
theorem d_Co_init_16 : decode b_Co_init 16 = .ok (.dup, 1) := by decide +kernel
theorem d_Co_init_17 : decode b_Co_init 17 = .ok (.invokespecial 15, 3) := by decide +kernel
theorem d_Co_init_20 : decode b_Co_init 20 = .ok (.putfield 16, 3) := by decide +kernel
theorem d_Co_init_23 : decode b_Co_init 23 = .ok (.aload_n 0, 1) := by decide +kernel
theorem d_Co_init_24 : decode b_Co_init 24 = .ok (.getfield 9, 3) := by decide +kernel
theorem d_Co_init_27 : decode b_Co_init 27 = .ok (.bipush 9, 2) := by decide +kernel
theorem d_Co_init_29 : decode b_Co_init 29 = .ok (.ldc 20, 2) := by decide +kernel
theorem d_Co_init_31 : decode b_Co_init 31 = .ok (.iastore, 1) := by decide +kernel
theorem d_Co_init_32 : decode b_Co_init 32 = .ok (.return_, 1) := by decide +kernel
def at_Co_init (D : va_G) (A : Nat → Prop) (h0 : Nat) (t : State) : Prop := ∃ (q1 : Nat), ∃ (cA1 : ClassId), ∃ (q2 : Nat), ∃ (q3 : Nat), ∃ (cA4 : ClassId), ∃ (q5 : Nat), ∃ (cA6 : ClassId), va_P D tw_cl [(h0, .inr (2, [.ref q1, .ref q2])), (q1, .inl (cA1, 12, .inl (upd (fun _ => 0) 9 2147483647))), (q2, .inr (3, [.ref q3, .ref q5, .int 0])), (q3, .inl (cA4, 6, .inl (fun _ => 0))), (q5, .inl (cA6, 6, .inl (fun _ => 0)))] t.heap ∧ va_K D tw_cl [(cA1, .int), (cA4, .int), (cA6, .int)] t ∧ va_D A [(h0, .inr (2, [.ref q1, .ref q2])), (q1, .inl (cA1, 12, .inl (upd (fun _ => 0) 9 2147483647))), (q2, .inr (3, [.ref q3, .ref q5, .int 0])), (q3, .inl (cA4, 6, .inl (fun _ => 0))), (q5, .inl (cA6, 6, .inl (fun _ => 0)))]
set_option maxHeartbeats 4000000 in
set_option maxRecDepth 100000 in
theorem c_Co_init (l : Launch) (D : va_G) (h0 sz : Nat) : Met l y_Co_init (.code y_Co_init b_Co_init 1 none :: tw_Tb) ({ frames := 2, cells := 4, slots := 27, locals := 40 }) (va_Pc [.ref h0] (fun U => U.heap.size = sz ∧ va_P D tw_cl [(h0, .inr (2, [.null, .null]))] U.heap ∧ va_K D tw_cl [] U ∧ va_D (fun _ => True) [(h0, .inr (2, [.null, .null]))] ∧ tw_Xt U)) (va_Qv (fun _ : Int32 => True) (fun _ t => at_Co_init D (va_A [(h0, .inr (2, [.null, .null]))] sz) h0 t) (va_A [(h0, .inr (2, [.null, .null]))] sz)) 4 27 (va_A [(h0, .inr (2, [.null, .null]))] sz) := by
  refine Met.ofW (cc := b_Co_init) (maxL := 1) (ret := none) (by decide) rfl ?_
  intro p e s m args below meth c s₁ B hml hv
  obtain ⟨rfl, hsz, hP, hK, hD0, hNW⟩ := hv
  have hx := B.exec
  have hb := B.bytes
  have hr := B.returns
  have hts0 := atoms_spec (ws := .code y_Co_init b_Co_init 1 none :: tw_Tb) B.pre
  have hts : ∀ w ∈ tw_Tb, w.before _ s = true := fun w h => hts0 w (List.mem_cons_of_mem _ h)
  have hown : s.vm.findClass "TwinHost$Controls" = some m.cls := findClass_of_methodNamed B.named
  have hlocks := B.notSynchronized
  have hin : meth.name = "<init>" := (name_of_methodNamed B.named B.method).1
  subst hsz
  have hD := hD0.self (sz := s.heap.size)
  generalize hAe : va_A [(h0, .inr (2, [.null, .null]))] s.heap.size = A at hD ⊢
  have hA : ∀ q : Nat, s.heap.size ≤ q → A q := fun q h => by rw [← hAe]; exact Or.inr h
  have hS : va_S A s.heap s.heap [] := va_S.rf
  have hP : va_P D tw_cl [(h0, .inr (2, [.null, .null]))] s.heap := hP
  have hl := lv_entry ([.ref h0]) (n := 1) (Nat.le_of_ble_eq_true rfl)
  rw [lg_entry_eq]
  generalize (lg_sl ([.ref h0]) ++ List.replicate (1 - (lg_sl ([.ref h0])).length) Slot.unset).toArray = ls at hl ⊢
  have hl : lv_has ls 1 [(0, .ref h0)] := hl
  refine lv_aload_n hx hb d_Co_init_0 rfl (lv_at hl 0 rfl) ?_
  refine W.objInit hx hb hown (hts _ wd_55) (hts _ wd_41) (hts _ wd_42) rfl (by rw [hml]; exact hl.1) rfl d_Co_init_1 (Nat.le_of_ble_eq_true rfl) (Nat.le_of_ble_eq_true rfl) ?_
  refine W.eq (g2 := F0 m 4 ls []) rfl ?_
  refine lv_aload_n hx hb d_Co_init_4 rfl (lv_at hl 0 rfl) ?_
  refine lv_bipush (v := 12) hx hb d_Co_init_5 (by decide) ?_
  refine va_newa (atype := .int) (ty := .int) (N' := 12) (a0 := (12, .inl (fun _ => 0))) hx hb (hts _ wd_73) rfl hK hP hD hS hA (fun cA => rfl) (by decide) (by decide) (by decide) (Nat.le_of_ble_eq_true rfl) (Nat.le_of_ble_eq_true rfl) d_Co_init_7 (fun q1 cA1 H hK hP hD hS => ?_)
  have hP : va_P D tw_cl [(h0, .inr (2, [.null, .null])), (q1, .inl (cA1, 12, .inl (fun _ => 0)))] H := hP
  have hD : va_D A [(h0, .inr (2, [.null, .null])), (q1, .inl (cA1, 12, .inl (fun _ => 0)))] := hD
  have hK : va_K D tw_cl [(cA1, .int)] s := hK
  refine W.widen (k := 1) (n := 12) (by omega) (by omega) ?_
  refine va_putF (D := D) (ci := 2) (v := .ref q1) (ty := .array .int) (C := R_Co) (T := T_Co) (N := 2) hx hb hts u_Co t_Co t_Co_ok n_Co hown hK hP hD hS 0 rfl rfl 0 (by decide) (hts _ wd_75) (fun _ h9 => h9) rfl hin rfl (by decide +kernel) rfl rfl (Nat.le_of_ble_eq_true rfl) d_Co_init_9 (fun H locs hP hD hS => ?_)
  have hP : va_P D tw_cl [(h0, .inr (2, [.ref q1, .null])), (q1, .inl (cA1, 12, .inl (fun _ => 0)))] H := hP
  have hD : va_D A [(h0, .inr (2, [.ref q1, .null])), (q1, .inl (cA1, 12, .inl (fun _ => 0)))] := hD
  refine lv_aload_n hx hb d_Co_init_12 rfl (lv_at hl 0 rfl) ?_
  refine va_new (ci := 3) (fs := [.null, .null, .int 0]) (C := R_In) (T := T_In) (N := 3) hx hb hts u_In t_In t_In_ok hown (hts _ wd_56) (hts _ wd_57) (hts _ wd_27) hK hP hD hS hA rfl (fun j hj => by have h9 : j = 0 ∨ j = 1 ∨ j = 2 := (by omega); rcases h9 with rfl | rfl | rfl <;> rfl) (Nat.le_of_ble_eq_true rfl) (Nat.le_of_ble_eq_true rfl) d_Co_init_13 (fun q2 H hP hD hS => ?_)
  have hP : va_P D tw_cl [(h0, .inr (2, [.ref q1, .null])), (q1, .inl (cA1, 12, .inl (fun _ => 0))), (q2, .inr (3, [.null, .null, .int 0]))] H := hP
  have hD : va_D A [(h0, .inr (2, [.ref q1, .null])), (q1, .inl (cA1, 12, .inl (fun _ => 0))), (q2, .inr (3, [.null, .null, .int 0]))] := hD
  refine W.widen (k := 2) (n := 15) (by omega) (by omega) ?_
  refine lv_dup hx hb d_Co_init_16 rfl ?_
  have hPc := hP.sub (ws' := [(q2, .inr (3, [.null, .null, .int 0]))]) [2] rfl
  have hDc := hD.sub (ws' := [(q2, .inr (3, [.null, .null, .int 0]))]) [2] (by decide) rfl
  have hKc := hK.sub (tys' := []) [] rfl
  have hFc := va_free (wc := [(q2, .inr (3, [.null, .null, .int 0]))]) hD hS hA [2] rfl
  refine va_callv (va_runIN (host := "TwinHost") (As := []) (rest := [.ref q2, .ref h0]) ⟨hx, hb, hml, hown, hts⟩ (c_In_init l D q2 H.size) ⟨va_cnB 0 hts (tw_good wd_60) rfl rfl rfl (hNW.1 ("TwinHost$Controls", 15, y_In_init, "TwinHost") (by decide +kernel)) (hts _ wd_27) (by decide +kernel) ⟨(Nat.le_of_ble_eq_true rfl), (Nat.le_of_ble_eq_true rfl)⟩, rfl, hts _ wd_59⟩ ⟨fun a U g mk q => by obtain ⟨q0, q1, qP, qK, qD, qN⟩ := q; exact ⟨q0, q1, qP, va_K.moved (u := U) (U := U.calling g mk a) (Vm.Alike.refl U.vm) qK, qD, tw_Xt.call qN⟩, fun U hU hW => ⟨rfl, by rw [hU], by rw [hU]; exact hPc, va_K.moved hW.alike hKc, hDc.weaken (fun _ _ _ _ => trivial), tw_Xt.warm hW hNW⟩⟩ rfl rfl hl.1 rfl (lv_room (Nat.le_of_ble_eq_true rfl)) d_Co_init_17 ⟨(Nat.le_of_ble_eq_true rfl), (Nat.le_of_ble_eq_true rfl)⟩) hS (fun q _ h => hFc q h) hFc (fun u t H1 locs ht hvm _ hB hz1 hk1 hS => ?_)
  obtain ⟨q3, cA4, q5, cA6, hP1, hK1, hD1⟩ := hB
  rw [ht] at hP1
  have hK1 := va_K.moved hvm.symm hK1
  obtain ⟨hP, hD⟩ := va_join (wr := [(h0, .inr (2, [.ref q1, .null])), (q1, .inl (cA1, 12, .inl (fun _ => 0)))]) (w1 := [(q2, .inr (3, [.ref q3, .ref q5, .int 0])), (q3, .inl (cA4, 6, .inl (fun _ => 0))), (q5, .inl (cA6, 6, .inl (fun _ => 0)))]) hP hD [2] [0, 1] rfl rfl (by decide) (by decide) hk1 hFc hP1 hD1
  have hK := (hK.sub (tys' := [(cA1, .int)]) [0] rfl).app hK1
  generalize H1 = H at hP hS ⊢
  have hP : va_P D tw_cl [(h0, .inr (2, [.ref q1, .null])), (q1, .inl (cA1, 12, .inl (fun _ => 0))), (q2, .inr (3, [.ref q3, .ref q5, .int 0])), (q3, .inl (cA4, 6, .inl (fun _ => 0))), (q5, .inl (cA6, 6, .inl (fun _ => 0)))] H := hP
  have hD : va_D A [(h0, .inr (2, [.ref q1, .null])), (q1, .inl (cA1, 12, .inl (fun _ => 0))), (q2, .inr (3, [.ref q3, .ref q5, .int 0])), (q3, .inl (cA4, 6, .inl (fun _ => 0))), (q5, .inl (cA6, 6, .inl (fun _ => 0)))] := hD
  have hK : va_K D tw_cl [(cA1, .int), (cA4, .int), (cA6, .int)] s := hK
  refine W.widen (k := 4) (n := 27) (by omega) (by omega) ?_
  refine va_putF (D := D) (ci := 2) (v := .ref q2) (ty := .object "TwinHost$Inputs") (C := R_Co) (T := T_Co) (N := 2) hx hb hts u_Co t_Co t_Co_ok n_Co hown hK hP hD hS 0 rfl rfl 1 (by decide) (hts _ wd_77) (fun _ h9 => h9) rfl hin rfl (by decide +kernel) rfl rfl (Nat.le_of_ble_eq_true rfl) d_Co_init_20 (fun H locs hP hD hS => ?_)
  have hP : va_P D tw_cl [(h0, .inr (2, [.ref q1, .ref q2])), (q1, .inl (cA1, 12, .inl (fun _ => 0))), (q2, .inr (3, [.ref q3, .ref q5, .int 0])), (q3, .inl (cA4, 6, .inl (fun _ => 0))), (q5, .inl (cA6, 6, .inl (fun _ => 0)))] H := hP
  have hD : va_D A [(h0, .inr (2, [.ref q1, .ref q2])), (q1, .inl (cA1, 12, .inl (fun _ => 0))), (q2, .inr (3, [.ref q3, .ref q5, .int 0])), (q3, .inl (cA4, 6, .inl (fun _ => 0))), (q5, .inl (cA6, 6, .inl (fun _ => 0)))] := hD
  refine lv_aload_n hx hb d_Co_init_23 rfl (lv_at hl 0 rfl) ?_
  refine va_get (D := D) (ci := 2) (v := .ref q1) (C := R_Co) (T := T_Co) (N := 2) hx hb hts u_Co hown hK hP 0 rfl rfl 0 (by decide) (hts _ wd_75) (fun _ h9 => h9) rfl d_Co_init_24 ?_
  refine lv_bipush (v := 9) hx hb d_Co_init_27 (by decide) ?_
  refine lv_ldc (v := 2147483647) hx hb hown (hts _ wd_74) d_Co_init_29 ?_
  refine va_iast hx hb hK hP hD hS 1 0 rfl rfl (show vp_in 9 12 by unfold vp_in; decide) d_Co_init_31 (fun H locs hP hD hS => ?_)
  have hP : va_P D tw_cl [(h0, .inr (2, [.ref q1, .ref q2])), (q1, .inl (cA1, 12, .inl (upd (fun _ => 0) 9 2147483647))), (q2, .inr (3, [.ref q3, .ref q5, .int 0])), (q3, .inl (cA4, 6, .inl (fun _ => 0))), (q5, .inl (cA6, 6, .inl (fun _ => 0)))] H := hP
  have hD : va_D A [(h0, .inr (2, [.ref q1, .ref q2])), (q1, .inl (cA1, 12, .inl (upd (fun _ => 0) 9 2147483647))), (q2, .inr (3, [.ref q3, .ref q5, .int 0])), (q3, .inl (cA4, 6, .inl (fun _ => 0))), (q5, .inl (cA6, 6, .inl (fun _ => 0)))] := hD
  have hP9 := hP.sub (ws' := [(h0, .inr (2, [.ref q1, .ref q2])), (q1, .inl (cA1, 12, .inl (upd (fun _ => 0) 9 2147483647))), (q2, .inr (3, [.ref q3, .ref q5, .int 0])), (q3, .inl (cA4, 6, .inl (fun _ => 0))), (q5, .inl (cA6, 6, .inl (fun _ => 0)))]) [0, 1, 2, 3, 4] rfl
  have hD9 := hD.sub (ws' := [(h0, .inr (2, [.ref q1, .ref q2])), (q1, .inl (cA1, 12, .inl (upd (fun _ => 0) 9 2147483647))), (q2, .inr (3, [.ref q3, .ref q5, .int 0])), (q3, .inl (cA4, 6, .inl (fun _ => 0))), (q5, .inl (cA6, 6, .inl (fun _ => 0)))]) [0, 1, 2, 3, 4] (by decide) rfl
  have hK9 := hK.sub (tys' := [(cA1, .int), (cA4, .int), (cA6, .int)]) [0, 1, 2] rfl
  exact W.vret hx hb hr (fun t ht hW => ⟨⟨0, rfl, trivial, q1, cA1, q2, q3, cA4, q5, cA6, by rw [ht]; exact hP9, va_K.moved hW.alike hK9, hD9⟩, hS.F ht⟩) hS.2.2 d_Co_init_32
