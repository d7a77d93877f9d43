def g_Mo_assign_0 (a1 : Int32) (a2 : Int32) (σ : tw_S) : Option tw_R := if a1 = (0 : Int32) then (if tw_out (((12 : Int32) * (0 : Int32)) + a1) 24 then none else (if a1 = (6 : Int32) then (tw_bv (g_Mo_flush_0 (tw_pt σ false 25 (((12 : Int32) * (0 : Int32)) + a1).toNatClampNeg (a2 &&& (15 : Int32)))) (fun σ1 => some (none, σ1))) else (some (none, (tw_pt σ false 25 (((12 : Int32) * (0 : Int32)) + a1).toNatClampNeg (a2 &&& (15 : Int32))))))) else (if a1 = (6 : Int32) then (if tw_out (((12 : Int32) * (0 : Int32)) + a1) 24 then none else (tw_bv (g_Mo_flush_0 (tw_pt σ false 25 (((12 : Int32) * (0 : Int32)) + a1).toNatClampNeg (a2 &&& (143 : Int32)))) (fun σ2 => some (none, σ2)))) else (if a1 = (7 : Int32) then (if tw_out (((12 : Int32) * (0 : Int32)) + a1) 24 then none else (some (none, (tw_pt σ false 25 (((12 : Int32) * (0 : Int32)) + a1).toNatClampNeg (a2 &&& (3 : Int32)))))) else (if tw_out (((12 : Int32) * (0 : Int32)) + a1) 24 then none else (some (none, (tw_pt σ false 25 (((12 : Int32) * (0 : Int32)) + a1).toNatClampNeg a2))))))
set_option maxRecDepth 20000 in
theorem gn_Mo_assign_0 (a0 : Int32) (z0 : a0 = (0 : Int32)) (a1 : Int32) (a2 : Int32) (σ : tw_S) : tw_le (g_Mo_assign_0 a1 a2 σ) (fn_Mo_assign [.inr (false, 22), .inl a0, .inl a1, .inl a2] σ) := by
  subst z0
  unfold g_Mo_assign_0
  exact tw_le_fl rfl (tw_le_it (fun _ => (tw_le_it (fun _ => tw_le_no) (fun _ => (tw_le_it (fun _ => (tw_le_bv (gn_Mo_flush_0 (0 : Int32) (by decide) (tw_pt σ false 25 (((12 : Int32) * (0 : Int32)) + a1).toNatClampNeg (a2 &&& (15 : Int32)))) (fun σ1 => tw_le_rf))) (fun _ => tw_le_rf))))) (fun _ => (tw_le_it (fun h4 => (tw_le_it (fun _ => tw_le_no) (fun _ => (tw_le_ps h4 (tw_le_bv (gn_Mo_flush_0 (0 : Int32) (by decide) (tw_pt σ false 25 (((12 : Int32) * (0 : Int32)) + a1).toNatClampNeg (a2 &&& (143 : Int32)))) (fun σ2 => tw_le_rf)))))) (fun h4 => (tw_le_it (fun _ => (tw_le_it (fun _ => tw_le_no) (fun _ => (tw_le_ng h4 tw_le_rf)))) (fun _ => (tw_le_it (fun _ => tw_le_no) (fun _ => (tw_le_ng h4 tw_le_rf)))))))))
def g_Mo_assign_1 (a1 : Int32) (a2 : Int32) (σ : tw_S) : Option tw_R := if a1 = (0 : Int32) then (if tw_out (((12 : Int32) * (1 : Int32)) + a1) 24 then none else (if a1 = (6 : Int32) then (tw_bv (g_Mo_flush_1 (tw_pt σ false 25 (((12 : Int32) * (1 : Int32)) + a1).toNatClampNeg (a2 &&& (15 : Int32)))) (fun σ1 => some (none, σ1))) else (some (none, (tw_pt σ false 25 (((12 : Int32) * (1 : Int32)) + a1).toNatClampNeg (a2 &&& (15 : Int32))))))) else (if a1 = (6 : Int32) then (if tw_out (((12 : Int32) * (1 : Int32)) + a1) 24 then none else (tw_bv (g_Mo_flush_1 (tw_pt σ false 25 (((12 : Int32) * (1 : Int32)) + a1).toNatClampNeg (a2 &&& (143 : Int32)))) (fun σ2 => some (none, σ2)))) else (if a1 = (7 : Int32) then (if tw_out (((12 : Int32) * (1 : Int32)) + a1) 24 then none else (some (none, (tw_pt σ false 25 (((12 : Int32) * (1 : Int32)) + a1).toNatClampNeg (a2 &&& (3 : Int32)))))) else (if tw_out (((12 : Int32) * (1 : Int32)) + a1) 24 then none else (some (none, (tw_pt σ false 25 (((12 : Int32) * (1 : Int32)) + a1).toNatClampNeg a2))))))
set_option maxRecDepth 20000 in
theorem gn_Mo_assign_1 (a0 : Int32) (z0 : a0 = (1 : Int32)) (a1 : Int32) (a2 : Int32) (σ : tw_S) : tw_le (g_Mo_assign_1 a1 a2 σ) (fn_Mo_assign [.inr (false, 22), .inl a0, .inl a1, .inl a2] σ) := by
  subst z0
  unfold g_Mo_assign_1
  exact tw_le_fl rfl (tw_le_it (fun _ => (tw_le_it (fun _ => tw_le_no) (fun _ => (tw_le_it (fun _ => (tw_le_bv (gn_Mo_flush_1 (1 : Int32) (by decide) (tw_pt σ false 25 (((12 : Int32) * (1 : Int32)) + a1).toNatClampNeg (a2 &&& (15 : Int32)))) (fun σ1 => tw_le_rf))) (fun _ => tw_le_rf))))) (fun _ => (tw_le_it (fun h4 => (tw_le_it (fun _ => tw_le_no) (fun _ => (tw_le_ps h4 (tw_le_bv (gn_Mo_flush_1 (1 : Int32) (by decide) (tw_pt σ false 25 (((12 : Int32) * (1 : Int32)) + a1).toNatClampNeg (a2 &&& (143 : Int32)))) (fun σ2 => tw_le_rf)))))) (fun h4 => (tw_le_it (fun _ => (tw_le_it (fun _ => tw_le_no) (fun _ => (tw_le_ng h4 tw_le_rf)))) (fun _ => (tw_le_it (fun _ => tw_le_no) (fun _ => (tw_le_ng h4 tw_le_rf)))))))))
def g_Mo_control_0 (a1 : Int32) (σ : tw_S) : Option tw_R := if a1 < (0 : Int32) then (some (some (.inl (0 : Int32)), σ)) else (if a1 ≤ (11 : Int32) then (if a1 = (11 : Int32) then (tw_bi (g_Mo_isThere_0 σ) (fun x2 σ2 => if x2 = (0 : Int32) then (some (some (.inl (0 : Int32)), σ2)) else (some (some (.inl (σ2 false 30 0)), σ2)))) else (if a1 = (8 : Int32) then (tw_bi (g_Mo_pending_0 σ) (fun x3 σ3 => some (some (.inl x3), σ3))) else (if tw_out (((12 : Int32) * (0 : Int32)) + a1) 24 then none else (some (some (.inl (σ false 25 (((12 : Int32) * (0 : Int32)) + a1).toNatClampNeg)), σ))))) else (some (some (.inl (0 : Int32)), σ)))
set_option maxRecDepth 20000 in
theorem gn_Mo_control_0 (a0 : Int32) (z0 : a0 = (0 : Int32)) (a1 : Int32) (σ : tw_S) : tw_le (g_Mo_control_0 a1 σ) (fn_Mo_control [.inr (false, 22), .inl a0, .inl a1] σ) := by
  subst z0
  unfold g_Mo_control_0
  exact tw_le_fl rfl (tw_le_ki (x := (1 : Int32)) (σ := σ) (gn_Mo_guest_0 (0 : Int32) (by decide) σ) (tw_le_it (fun _ => tw_le_rf) (fun _ => (tw_le_it (fun _ => (tw_le_it (fun _ => (tw_le_bi (gn_Mo_isThere_0 (0 : Int32) (by decide) σ) (fun x2 σ2 => (tw_le_it (fun _ => tw_le_rf) (fun _ => tw_le_rf))))) (fun _ => (tw_le_it (fun _ => (tw_le_bi (gn_Mo_pending_0 (0 : Int32) (by decide) σ) (fun x3 σ3 => tw_le_rf))) (fun _ => (tw_le_it (fun _ => tw_le_no) (fun _ => tw_le_rf))))))) (fun _ => tw_le_rf)))))
def g_Mo_control_1 (a1 : Int32) (σ : tw_S) : Option tw_R := if a1 < (0 : Int32) then (some (some (.inl (0 : Int32)), σ)) else (if a1 ≤ (11 : Int32) then (if a1 = (11 : Int32) then (tw_bi (g_Mo_isThere_1 σ) (fun x2 σ2 => if x2 = (0 : Int32) then (some (some (.inl (0 : Int32)), σ2)) else (some (some (.inl (σ2 false 30 6)), σ2)))) else (if a1 = (8 : Int32) then (tw_bi (g_Mo_pending_1 σ) (fun x3 σ3 => some (some (.inl x3), σ3))) else (if tw_out (((12 : Int32) * (1 : Int32)) + a1) 24 then none else (some (some (.inl (σ false 25 (((12 : Int32) * (1 : Int32)) + a1).toNatClampNeg)), σ))))) else (some (some (.inl (0 : Int32)), σ)))
set_option maxRecDepth 20000 in
theorem gn_Mo_control_1 (a0 : Int32) (z0 : a0 = (1 : Int32)) (a1 : Int32) (σ : tw_S) : tw_le (g_Mo_control_1 a1 σ) (fn_Mo_control [.inr (false, 22), .inl a0, .inl a1] σ) := by
  subst z0
  unfold g_Mo_control_1
  exact tw_le_fl rfl (tw_le_ki (x := (1 : Int32)) (σ := σ) (gn_Mo_guest_1 (1 : Int32) (by decide) σ) (tw_le_it (fun _ => tw_le_rf) (fun _ => (tw_le_it (fun _ => (tw_le_it (fun _ => (tw_le_bi (gn_Mo_isThere_1 (1 : Int32) (by decide) σ) (fun x2 σ2 => (tw_le_it (fun _ => tw_le_rf) (fun _ => tw_le_rf))))) (fun _ => (tw_le_it (fun _ => (tw_le_bi (gn_Mo_pending_1 (1 : Int32) (by decide) σ) (fun x3 σ3 => tw_le_rf))) (fun _ => (tw_le_it (fun _ => tw_le_no) (fun _ => tw_le_rf))))))) (fun _ => tw_le_rf)))))
def g_Mo_control_x (a0 : Int32) (a1 : Int32) (σ : tw_S) : Option tw_R := tw_bi (g_Mo_guest a0 σ) (fun x1 σ1 => if x1 = (0 : Int32) then some (some (.inl (0 : Int32)), σ1) else none)
set_option maxRecDepth 20000 in
theorem gn_Mo_control_x (a0 : Int32) (a1 : Int32) (σ : tw_S) : tw_le (g_Mo_control_x a0 a1 σ) (fn_Mo_control [.inr (false, 22), .inl a0, .inl a1] σ) := by
  unfold g_Mo_control_x
  exact tw_le_fl rfl (tw_le_bi (gn_Mo_guest a0 σ) (fun x1 σ1 => (tw_le_it (fun _ => tw_le_rf) (fun _ => tw_le_no))))
def g_Mo_fault_0_0 (a1 : Int32) (σ : tw_S) : Option tw_R := tw_bv (g_Mo_trap_0_12 a1 σ) (fun σ1 => some (some (.inl (-1 : Int32)), σ1))
set_option maxRecDepth 20000 in
theorem gn_Mo_fault_0_0 (a0 : Int32) (z0 : a0 = (0 : Int32)) (a1 : Int32) (a2 : Int32) (z2 : a2 = (0 : Int32)) (σ : tw_S) : tw_le (g_Mo_fault_0_0 a1 σ) (fn_Mo_fault [.inr (false, 22), .inl a0, .inl a1, .inl a2] σ) := by
  subst z0
  subst z2
  unfold g_Mo_fault_0_0
  exact tw_le_fl rfl (tw_le_bv (gn_Mo_trap_0_12 (0 : Int32) (by decide) (12 : Int32) (by decide) a1 σ) (fun σ1 => tw_le_rf))
def g_Mo_fault_0_1 (a1 : Int32) (σ : tw_S) : Option tw_R := tw_bv (g_Mo_trap_0_13 a1 σ) (fun σ1 => some (some (.inl (-1 : Int32)), σ1))
set_option maxRecDepth 20000 in
theorem gn_Mo_fault_0_1 (a0 : Int32) (z0 : a0 = (0 : Int32)) (a1 : Int32) (a2 : Int32) (z2 : a2 = (1 : Int32)) (σ : tw_S) : tw_le (g_Mo_fault_0_1 a1 σ) (fn_Mo_fault [.inr (false, 22), .inl a0, .inl a1, .inl a2] σ) := by
  subst z0
  subst z2
  unfold g_Mo_fault_0_1
  exact tw_le_fl rfl (tw_le_bv (gn_Mo_trap_0_13 (0 : Int32) (by decide) (13 : Int32) (by decide) a1 σ) (fun σ1 => tw_le_rf))
def g_Mo_fault_0_2 (a1 : Int32) (σ : tw_S) : Option tw_R := tw_bv (g_Mo_trap_0_15 a1 σ) (fun σ1 => some (some (.inl (-1 : Int32)), σ1))
set_option maxRecDepth 20000 in
theorem gn_Mo_fault_0_2 (a0 : Int32) (z0 : a0 = (0 : Int32)) (a1 : Int32) (a2 : Int32) (z2 : a2 = (2 : Int32)) (σ : tw_S) : tw_le (g_Mo_fault_0_2 a1 σ) (fn_Mo_fault [.inr (false, 22), .inl a0, .inl a1, .inl a2] σ) := by
  subst z0
  subst z2
  unfold g_Mo_fault_0_2
  exact tw_le_fl rfl (tw_le_bv (gn_Mo_trap_0_15 (0 : Int32) (by decide) (15 : Int32) (by decide) a1 σ) (fun σ1 => tw_le_rf))
def g_Mo_fault_1_0 (a1 : Int32) (σ : tw_S) : Option tw_R := tw_bv (g_Mo_trap_1_12 a1 σ) (fun σ1 => some (some (.inl (-1 : Int32)), σ1))
set_option maxRecDepth 20000 in
theorem gn_Mo_fault_1_0 (a0 : Int32) (z0 : a0 = (1 : Int32)) (a1 : Int32) (a2 : Int32) (z2 : a2 = (0 : Int32)) (σ : tw_S) : tw_le (g_Mo_fault_1_0 a1 σ) (fn_Mo_fault [.inr (false, 22), .inl a0, .inl a1, .inl a2] σ) := by
  subst z0
  subst z2
  unfold g_Mo_fault_1_0
  exact tw_le_fl rfl (tw_le_bv (gn_Mo_trap_1_12 (1 : Int32) (by decide) (12 : Int32) (by decide) a1 σ) (fun σ1 => tw_le_rf))
def g_Mo_fault_1_1 (a1 : Int32) (σ : tw_S) : Option tw_R := tw_bv (g_Mo_trap_1_13 a1 σ) (fun σ1 => some (some (.inl (-1 : Int32)), σ1))
set_option maxRecDepth 20000 in
theorem gn_Mo_fault_1_1 (a0 : Int32) (z0 : a0 = (1 : Int32)) (a1 : Int32) (a2 : Int32) (z2 : a2 = (1 : Int32)) (σ : tw_S) : tw_le (g_Mo_fault_1_1 a1 σ) (fn_Mo_fault [.inr (false, 22), .inl a0, .inl a1, .inl a2] σ) := by
  subst z0
  subst z2
  unfold g_Mo_fault_1_1
  exact tw_le_fl rfl (tw_le_bv (gn_Mo_trap_1_13 (1 : Int32) (by decide) (13 : Int32) (by decide) a1 σ) (fun σ1 => tw_le_rf))
def g_Mo_fault_1_2 (a1 : Int32) (σ : tw_S) : Option tw_R := tw_bv (g_Mo_trap_1_15 a1 σ) (fun σ1 => some (some (.inl (-1 : Int32)), σ1))
set_option maxRecDepth 20000 in
theorem gn_Mo_fault_1_2 (a0 : Int32) (z0 : a0 = (1 : Int32)) (a1 : Int32) (a2 : Int32) (z2 : a2 = (2 : Int32)) (σ : tw_S) : tw_le (g_Mo_fault_1_2 a1 σ) (fn_Mo_fault [.inr (false, 22), .inl a0, .inl a1, .inl a2] σ) := by
  subst z0
  subst z2
  unfold g_Mo_fault_1_2
  exact tw_le_fl rfl (tw_le_bv (gn_Mo_trap_1_15 (1 : Int32) (by decide) (15 : Int32) (by decide) a1 σ) (fun σ1 => tw_le_rf))
def g_Mo_illegal_0 (a1 : Int32) (σ : tw_S) : Option tw_R := tw_bv (g_Mo_trap_0_2 a1 σ) (fun σ1 => some (some (.inl (0 : Int32)), σ1))
set_option maxRecDepth 20000 in
theorem gn_Mo_illegal_0 (a0 : Int32) (z0 : a0 = (0 : Int32)) (a1 : Int32) (σ : tw_S) : tw_le (g_Mo_illegal_0 a1 σ) (fn_Mo_illegal [.inr (false, 22), .inl a0, .inl a1] σ) := by
  subst z0
  unfold g_Mo_illegal_0
  exact tw_le_fl rfl (tw_le_bv (gn_Mo_trap_0_2 (0 : Int32) (by decide) (2 : Int32) (by decide) a1 σ) (fun σ1 => tw_le_rf))
def g_Mo_illegal_1 (a1 : Int32) (σ : tw_S) : Option tw_R := tw_bv (g_Mo_trap_1_2 a1 σ) (fun σ1 => some (some (.inl (0 : Int32)), σ1))
set_option maxRecDepth 20000 in
theorem gn_Mo_illegal_1 (a0 : Int32) (z0 : a0 = (1 : Int32)) (a1 : Int32) (σ : tw_S) : tw_le (g_Mo_illegal_1 a1 σ) (fn_Mo_illegal [.inr (false, 22), .inl a0, .inl a1] σ) := by
  subst z0
  unfold g_Mo_illegal_1
  exact tw_le_fl rfl (tw_le_bv (gn_Mo_trap_1_2 (1 : Int32) (by decide) (2 : Int32) (by decide) a1 σ) (fun σ1 => tw_le_rf))
def g_Mo_outside_0_0 (a1 : Int32) (σ : tw_S) : Option tw_R := tw_bv (g_Mo_trap_0_1 a1 σ) (fun σ1 => some (some (.inl (-1 : Int32)), σ1))
set_option maxRecDepth 20000 in
theorem gn_Mo_outside_0_0 (a0 : Int32) (z0 : a0 = (0 : Int32)) (a1 : Int32) (a2 : Int32) (z2 : a2 = (0 : Int32)) (σ : tw_S) : tw_le (g_Mo_outside_0_0 a1 σ) (fn_Mo_outside [.inr (false, 22), .inl a0, .inl a1, .inl a2] σ) := by
  subst z0
  subst z2
  unfold g_Mo_outside_0_0
  exact tw_le_fl rfl (tw_le_bv (gn_Mo_trap_0_1 (0 : Int32) (by decide) (1 : Int32) (by decide) a1 σ) (fun σ1 => tw_le_rf))
def g_Mo_outside_0_1 (a1 : Int32) (σ : tw_S) : Option tw_R := tw_bv (g_Mo_trap_0_5 a1 σ) (fun σ1 => some (some (.inl (-1 : Int32)), σ1))
set_option maxRecDepth 20000 in
theorem gn_Mo_outside_0_1 (a0 : Int32) (z0 : a0 = (0 : Int32)) (a1 : Int32) (a2 : Int32) (z2 : a2 = (1 : Int32)) (σ : tw_S) : tw_le (g_Mo_outside_0_1 a1 σ) (fn_Mo_outside [.inr (false, 22), .inl a0, .inl a1, .inl a2] σ) := by
  subst z0
  subst z2
  unfold g_Mo_outside_0_1
  exact tw_le_fl rfl (tw_le_bv (gn_Mo_trap_0_5 (0 : Int32) (by decide) (5 : Int32) (by decide) a1 σ) (fun σ1 => tw_le_rf))
def g_Mo_outside_0_2 (a1 : Int32) (σ : tw_S) : Option tw_R := tw_bv (g_Mo_trap_0_7 a1 σ) (fun σ1 => some (some (.inl (-1 : Int32)), σ1))
set_option maxRecDepth 20000 in
theorem gn_Mo_outside_0_2 (a0 : Int32) (z0 : a0 = (0 : Int32)) (a1 : Int32) (a2 : Int32) (z2 : a2 = (2 : Int32)) (σ : tw_S) : tw_le (g_Mo_outside_0_2 a1 σ) (fn_Mo_outside [.inr (false, 22), .inl a0, .inl a1, .inl a2] σ) := by
  subst z0
  subst z2
  unfold g_Mo_outside_0_2
  exact tw_le_fl rfl (tw_le_bv (gn_Mo_trap_0_7 (0 : Int32) (by decide) (7 : Int32) (by decide) a1 σ) (fun σ1 => tw_le_rf))
def g_Mo_outside_1_0 (a1 : Int32) (σ : tw_S) : Option tw_R := tw_bv (g_Mo_trap_1_1 a1 σ) (fun σ1 => some (some (.inl (-1 : Int32)), σ1))
set_option maxRecDepth 20000 in
theorem gn_Mo_outside_1_0 (a0 : Int32) (z0 : a0 = (1 : Int32)) (a1 : Int32) (a2 : Int32) (z2 : a2 = (0 : Int32)) (σ : tw_S) : tw_le (g_Mo_outside_1_0 a1 σ) (fn_Mo_outside [.inr (false, 22), .inl a0, .inl a1, .inl a2] σ) := by
  subst z0
  subst z2
  unfold g_Mo_outside_1_0
  exact tw_le_fl rfl (tw_le_bv (gn_Mo_trap_1_1 (1 : Int32) (by decide) (1 : Int32) (by decide) a1 σ) (fun σ1 => tw_le_rf))
def g_Mo_outside_1_1 (a1 : Int32) (σ : tw_S) : Option tw_R := tw_bv (g_Mo_trap_1_5 a1 σ) (fun σ1 => some (some (.inl (-1 : Int32)), σ1))
set_option maxRecDepth 20000 in
theorem gn_Mo_outside_1_1 (a0 : Int32) (z0 : a0 = (1 : Int32)) (a1 : Int32) (a2 : Int32) (z2 : a2 = (1 : Int32)) (σ : tw_S) : tw_le (g_Mo_outside_1_1 a1 σ) (fn_Mo_outside [.inr (false, 22), .inl a0, .inl a1, .inl a2] σ) := by
  subst z0
  subst z2
  unfold g_Mo_outside_1_1
  exact tw_le_fl rfl (tw_le_bv (gn_Mo_trap_1_5 (1 : Int32) (by decide) (5 : Int32) (by decide) a1 σ) (fun σ1 => tw_le_rf))
def g_Mo_outside_1_2 (a1 : Int32) (σ : tw_S) : Option tw_R := tw_bv (g_Mo_trap_1_7 a1 σ) (fun σ1 => some (some (.inl (-1 : Int32)), σ1))
set_option maxRecDepth 20000 in
theorem gn_Mo_outside_1_2 (a0 : Int32) (z0 : a0 = (1 : Int32)) (a1 : Int32) (a2 : Int32) (z2 : a2 = (2 : Int32)) (σ : tw_S) : tw_le (g_Mo_outside_1_2 a1 σ) (fn_Mo_outside [.inr (false, 22), .inl a0, .inl a1, .inl a2] σ) := by
  subst z0
  subst z2
  unfold g_Mo_outside_1_2
  exact tw_le_fl rfl (tw_le_bv (gn_Mo_trap_1_7 (1 : Int32) (by decide) (7 : Int32) (by decide) a1 σ) (fun σ1 => tw_le_rf))
def g_Mo_poke_0 (a1 : Int32) (a2 : Int32) (σ : tw_S) : Option tw_R := if a1 < (0 : Int32) then (some (some (.inl (0 : Int32)), σ)) else (if a1 ≤ (127 : Int32) then (if tw_out (((128 : Int32) * (0 : Int32)) + a1) 256 then none else (tw_bv (g_Mo_drop_0 a1 (tw_pt σ false 23 (((128 : Int32) * (0 : Int32)) + a1).toNatClampNeg a2)) (fun σ2 => some (some (.inl (σ false 23 (((128 : Int32) * (0 : Int32)) + a1).toNatClampNeg)), σ2)))) else (some (some (.inl (0 : Int32)), σ)))
set_option maxRecDepth 20000 in
theorem gn_Mo_poke_0 (a0 : Int32) (z0 : a0 = (0 : Int32)) (a1 : Int32) (a2 : Int32) (σ : tw_S) : tw_le (g_Mo_poke_0 a1 a2 σ) (fn_Mo_poke [.inr (false, 22), .inl a0, .inl a1, .inl a2] σ) := by
  subst z0
  unfold g_Mo_poke_0
  exact tw_le_fl rfl (tw_le_ki (x := (1 : Int32)) (σ := σ) (gn_Mo_guest_0 (0 : Int32) (by decide) σ) (tw_le_it (fun _ => tw_le_rf) (fun _ => (tw_le_it (fun _ => (tw_le_it (fun _ => tw_le_no) (fun h3 => (tw_le_ng h3 (tw_le_bv (gn_Mo_drop_0 (0 : Int32) (by decide) a1 (tw_pt σ false 23 (((128 : Int32) * (0 : Int32)) + a1).toNatClampNeg a2)) (fun σ2 => tw_le_rf)))))) (fun _ => tw_le_rf)))))
def g_Mo_poke_1 (a1 : Int32) (a2 : Int32) (σ : tw_S) : Option tw_R := if a1 < (0 : Int32) then (some (some (.inl (0 : Int32)), σ)) else (if a1 ≤ (127 : Int32) then (if tw_out (((128 : Int32) * (1 : Int32)) + a1) 256 then none else (tw_bv (g_Mo_drop_1 a1 (tw_pt σ false 23 (((128 : Int32) * (1 : Int32)) + a1).toNatClampNeg a2)) (fun σ2 => some (some (.inl (σ false 23 (((128 : Int32) * (1 : Int32)) + a1).toNatClampNeg)), σ2)))) else (some (some (.inl (0 : Int32)), σ)))
set_option maxRecDepth 20000 in
theorem gn_Mo_poke_1 (a0 : Int32) (z0 : a0 = (1 : Int32)) (a1 : Int32) (a2 : Int32) (σ : tw_S) : tw_le (g_Mo_poke_1 a1 a2 σ) (fn_Mo_poke [.inr (false, 22), .inl a0, .inl a1, .inl a2] σ) := by
  subst z0
  unfold g_Mo_poke_1
  exact tw_le_fl rfl (tw_le_ki (x := (1 : Int32)) (σ := σ) (gn_Mo_guest_1 (1 : Int32) (by decide) σ) (tw_le_it (fun _ => tw_le_rf) (fun _ => (tw_le_it (fun _ => (tw_le_it (fun _ => tw_le_no) (fun h3 => (tw_le_ng h3 (tw_le_bv (gn_Mo_drop_1 (1 : Int32) (by decide) a1 (tw_pt σ false 23 (((128 : Int32) * (1 : Int32)) + a1).toNatClampNeg a2)) (fun σ2 => tw_le_rf)))))) (fun _ => tw_le_rf)))))
def g_Mo_poke_x (a0 : Int32) (a1 : Int32) (a2 : Int32) (σ : tw_S) : Option tw_R := tw_bi (g_Mo_guest a0 σ) (fun x1 σ1 => if x1 = (0 : Int32) then some (some (.inl (0 : Int32)), σ1) else none)
set_option maxRecDepth 20000 in
theorem gn_Mo_poke_x (a0 : Int32) (a1 : Int32) (a2 : Int32) (σ : tw_S) : tw_le (g_Mo_poke_x a0 a1 a2 σ) (fn_Mo_poke [.inr (false, 22), .inl a0, .inl a1, .inl a2] σ) := by
  unfold g_Mo_poke_x
  exact tw_le_fl rfl (tw_le_bi (gn_Mo_guest a0 σ) (fun x1 σ1 => (tw_le_it (fun _ => tw_le_rf) (fun _ => tw_le_no))))
