def g_Co_take (g : Bool) (a0 : Int32) (σ : tw_S) : Option tw_R := tw_bi (g_Co_look g a0 σ) (fun x1 σ1 => if a0 = (11 : Int32) then (tw_bi (g_In_isThere g (σ1 g 5 10) σ1) (fun x2 σ2 => if x2 = (0 : Int32) then (some (some (.inl x1), σ2)) else (tw_bv (g_In_removeFirst g σ2) (fun σ3 => some (some (.inl x1), σ3))))) else (some (some (.inl x1), σ1)))
set_option maxRecDepth 20000 in
theorem gn_Co_take (g : Bool) (a0 : Int32) (σ : tw_S) : tw_le (g_Co_take g a0 σ) (fn_Co_take [.inr (g, 4), .inl a0] σ) := by
  unfold g_Co_take
  exact tw_le_fl rfl (tw_le_bi (gn_Co_look g a0 σ) (fun x1 σ1 => (tw_le_it (fun _ => (tw_le_bi (gn_In_isThere g (σ1 g 5 10) σ1) (fun x2 σ2 => (tw_le_it (fun _ => tw_le_rf) (fun _ => (tw_le_bv (gn_In_removeFirst g σ2) (fun σ3 => tw_le_rf))))))) (fun _ => tw_le_rf))))
def g_Gu_fault (g : Bool) (a0 : Int32) (a1 : Int32) (σ : tw_S) : Option tw_R := tw_br (g_Gu_trap g a0 a1 (tw_pt σ g 3 2 ((σ g 3 2) + (1 : Int32)))) (fun o1 σ1 => some (some (.inr (false, o1)), σ1))
set_option maxRecDepth 20000 in
theorem gn_Gu_fault (g : Bool) (a0 : Int32) (a1 : Int32) (σ : tw_S) : tw_le (g_Gu_fault g a0 a1 σ) (fn_Gu_fault [.inr (g, 0), .inl a0, .inl a1] σ) := by
  unfold g_Gu_fault
  exact tw_le_fl rfl (tw_le_br (gn_Gu_trap g a0 a1 (tw_pt σ g 3 2 ((σ g 3 2) + (1 : Int32)))) (fun o1 σ1 => tw_le_rf))
def g_TH_command (a0 : Int32) (a1 : Int32) (a2 : Int32) (σ : tw_S) : Option tw_R := tw_bi (g_TH_isGuest a0 σ) (fun x1 σ1 => if x1 = (0 : Int32) then (some (some (.inl (0 : Int32)), σ1)) else (tw_bi (g_Co_isStoredTo a1 σ1) (fun x2 σ2 => if x2 = (0 : Int32) then (some (some (.inl (0 : Int32)), σ2)) else (if tw_out a0 2 then none else (tw_bv (g_Gu_storeControl (a0.toNatClampNeg == 1) a1 a2 σ2) (fun σ3 => some (some (.inl (1 : Int32)), σ3)))))))
set_option maxRecDepth 20000 in
theorem gn_TH_command (a0 : Int32) (a1 : Int32) (a2 : Int32) (σ : tw_S) : tw_le (g_TH_command a0 a1 a2 σ) (fn_TH_command [.inr (false, 20), .inl a0, .inl a1, .inl a2] σ) := by
  unfold g_TH_command
  exact tw_le_fl rfl (tw_le_bi (gn_TH_isGuest a0 σ) (fun x1 σ1 => (tw_le_it (fun _ => tw_le_rf) (fun _ => (tw_le_bi (gn_Co_isStoredTo a1 σ1) (fun x2 σ2 => (tw_le_it (fun _ => tw_le_rf) (fun _ => (tw_le_it (fun _ => tw_le_no) (fun _ => (tw_le_bv (gn_Gu_storeControl (a0.toNatClampNeg == 1) a1 a2 σ2) (fun σ3 => tw_le_rf))))))))))))
def g_TH_control (a0 : Int32) (a1 : Int32) (σ : tw_S) : Option tw_R := tw_bi (g_TH_isGuest a0 σ) (fun x1 σ1 => if x1 = (0 : Int32) then (some (some (.inl (0 : Int32)), σ1)) else (tw_bi (g_Co_exists a1 σ1) (fun x2 σ2 => if x2 = (0 : Int32) then (some (some (.inl (0 : Int32)), σ2)) else (if tw_out a0 2 then none else (tw_bi (g_Co_look (a0.toNatClampNeg == 1) a1 σ2) (fun x3 σ3 => some (some (.inl x3), σ3)))))))
set_option maxRecDepth 20000 in
theorem gn_TH_control (a0 : Int32) (a1 : Int32) (σ : tw_S) : tw_le (g_TH_control a0 a1 σ) (fn_TH_control [.inr (false, 20), .inl a0, .inl a1] σ) := by
  unfold g_TH_control
  exact tw_le_fl rfl (tw_le_bi (gn_TH_isGuest a0 σ) (fun x1 σ1 => (tw_le_it (fun _ => tw_le_rf) (fun _ => (tw_le_bi (gn_Co_exists a1 σ1) (fun x2 σ2 => (tw_le_it (fun _ => tw_le_rf) (fun _ => (tw_le_it (fun _ => tw_le_no) (fun _ => (tw_le_bi (gn_Co_look (a0.toNatClampNeg == 1) a1 σ2) (fun x3 σ3 => tw_le_rf))))))))))))
