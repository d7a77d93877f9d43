def g_Mo_add_0_0 (a2 : Int32) (σ : tw_S) : Option tw_R := some (none, (tw_pt σ false 31 0 ((σ false 31 0) + a2)))
set_option maxRecDepth 20000 in
theorem gn_Mo_add_0_0 (a0 : Int32) (z0 : a0 = (0 : Int32)) (a1 : Int32) (z1 : a1 = (0 : Int32)) (a2 : Int32) (σ : tw_S) : tw_le (g_Mo_add_0_0 a2 σ) (fn_Mo_add [.inr (false, 22), .inl a0, .inl a1, .inl a2] σ) := by
  subst z0
  subst z1
  unfold g_Mo_add_0_0
  exact tw_le_fl rfl tw_le_rf
def g_Mo_add_0_1 (a2 : Int32) (σ : tw_S) : Option tw_R := some (none, (tw_pt σ false 31 1 ((σ false 31 1) + a2)))
set_option maxRecDepth 20000 in
theorem gn_Mo_add_0_1 (a0 : Int32) (z0 : a0 = (0 : Int32)) (a1 : Int32) (z1 : a1 = (1 : Int32)) (a2 : Int32) (σ : tw_S) : tw_le (g_Mo_add_0_1 a2 σ) (fn_Mo_add [.inr (false, 22), .inl a0, .inl a1, .inl a2] σ) := by
  subst z0
  subst z1
  unfold g_Mo_add_0_1
  exact tw_le_fl rfl tw_le_rf
def g_Mo_add_0_2 (a2 : Int32) (σ : tw_S) : Option tw_R := some (none, (tw_pt σ false 31 2 ((σ false 31 2) + a2)))
set_option maxRecDepth 20000 in
theorem gn_Mo_add_0_2 (a0 : Int32) (z0 : a0 = (0 : Int32)) (a1 : Int32) (z1 : a1 = (2 : Int32)) (a2 : Int32) (σ : tw_S) : tw_le (g_Mo_add_0_2 a2 σ) (fn_Mo_add [.inr (false, 22), .inl a0, .inl a1, .inl a2] σ) := by
  subst z0
  subst z1
  unfold g_Mo_add_0_2
  exact tw_le_fl rfl tw_le_rf
def g_Mo_add_0_3 (a2 : Int32) (σ : tw_S) : Option tw_R := some (none, (tw_pt σ false 31 3 ((σ false 31 3) + a2)))
set_option maxRecDepth 20000 in
theorem gn_Mo_add_0_3 (a0 : Int32) (z0 : a0 = (0 : Int32)) (a1 : Int32) (z1 : a1 = (3 : Int32)) (a2 : Int32) (σ : tw_S) : tw_le (g_Mo_add_0_3 a2 σ) (fn_Mo_add [.inr (false, 22), .inl a0, .inl a1, .inl a2] σ) := by
  subst z0
  subst z1
  unfold g_Mo_add_0_3
  exact tw_le_fl rfl tw_le_rf
def g_Mo_add_0_4 (a2 : Int32) (σ : tw_S) : Option tw_R := some (none, (tw_pt σ false 31 4 ((σ false 31 4) + a2)))
set_option maxRecDepth 20000 in
theorem gn_Mo_add_0_4 (a0 : Int32) (z0 : a0 = (0 : Int32)) (a1 : Int32) (z1 : a1 = (4 : Int32)) (a2 : Int32) (σ : tw_S) : tw_le (g_Mo_add_0_4 a2 σ) (fn_Mo_add [.inr (false, 22), .inl a0, .inl a1, .inl a2] σ) := by
  subst z0
  subst z1
  unfold g_Mo_add_0_4
  exact tw_le_fl rfl tw_le_rf
def g_Mo_add_0_5 (a2 : Int32) (σ : tw_S) : Option tw_R := some (none, (tw_pt σ false 31 5 ((σ false 31 5) + a2)))
set_option maxRecDepth 20000 in
theorem gn_Mo_add_0_5 (a0 : Int32) (z0 : a0 = (0 : Int32)) (a1 : Int32) (z1 : a1 = (5 : Int32)) (a2 : Int32) (σ : tw_S) : tw_le (g_Mo_add_0_5 a2 σ) (fn_Mo_add [.inr (false, 22), .inl a0, .inl a1, .inl a2] σ) := by
  subst z0
  subst z1
  unfold g_Mo_add_0_5
  exact tw_le_fl rfl tw_le_rf
def g_Mo_add_0_6 (a2 : Int32) (σ : tw_S) : Option tw_R := some (none, (tw_pt σ false 31 6 ((σ false 31 6) + a2)))
set_option maxRecDepth 20000 in
theorem gn_Mo_add_0_6 (a0 : Int32) (z0 : a0 = (0 : Int32)) (a1 : Int32) (z1 : a1 = (6 : Int32)) (a2 : Int32) (σ : tw_S) : tw_le (g_Mo_add_0_6 a2 σ) (fn_Mo_add [.inr (false, 22), .inl a0, .inl a1, .inl a2] σ) := by
  subst z0
  subst z1
  unfold g_Mo_add_0_6
  exact tw_le_fl rfl tw_le_rf
def g_Mo_add_0_7 (a2 : Int32) (σ : tw_S) : Option tw_R := some (none, (tw_pt σ false 31 7 ((σ false 31 7) + a2)))
set_option maxRecDepth 20000 in
theorem gn_Mo_add_0_7 (a0 : Int32) (z0 : a0 = (0 : Int32)) (a1 : Int32) (z1 : a1 = (7 : Int32)) (a2 : Int32) (σ : tw_S) : tw_le (g_Mo_add_0_7 a2 σ) (fn_Mo_add [.inr (false, 22), .inl a0, .inl a1, .inl a2] σ) := by
  subst z0
  subst z1
  unfold g_Mo_add_0_7
  exact tw_le_fl rfl tw_le_rf
def g_Mo_add_0_8 (a2 : Int32) (σ : tw_S) : Option tw_R := some (none, (tw_pt σ false 31 8 ((σ false 31 8) + a2)))
set_option maxRecDepth 20000 in
theorem gn_Mo_add_0_8 (a0 : Int32) (z0 : a0 = (0 : Int32)) (a1 : Int32) (z1 : a1 = (8 : Int32)) (a2 : Int32) (σ : tw_S) : tw_le (g_Mo_add_0_8 a2 σ) (fn_Mo_add [.inr (false, 22), .inl a0, .inl a1, .inl a2] σ) := by
  subst z0
  subst z1
  unfold g_Mo_add_0_8
  exact tw_le_fl rfl tw_le_rf
def g_Mo_add_1_0 (a2 : Int32) (σ : tw_S) : Option tw_R := some (none, (tw_pt σ false 31 9 ((σ false 31 9) + a2)))
set_option maxRecDepth 20000 in
theorem gn_Mo_add_1_0 (a0 : Int32) (z0 : a0 = (1 : Int32)) (a1 : Int32) (z1 : a1 = (0 : Int32)) (a2 : Int32) (σ : tw_S) : tw_le (g_Mo_add_1_0 a2 σ) (fn_Mo_add [.inr (false, 22), .inl a0, .inl a1, .inl a2] σ) := by
  subst z0
  subst z1
  unfold g_Mo_add_1_0
  exact tw_le_fl rfl tw_le_rf
def g_Mo_add_1_1 (a2 : Int32) (σ : tw_S) : Option tw_R := some (none, (tw_pt σ false 31 10 ((σ false 31 10) + a2)))
set_option maxRecDepth 20000 in
theorem gn_Mo_add_1_1 (a0 : Int32) (z0 : a0 = (1 : Int32)) (a1 : Int32) (z1 : a1 = (1 : Int32)) (a2 : Int32) (σ : tw_S) : tw_le (g_Mo_add_1_1 a2 σ) (fn_Mo_add [.inr (false, 22), .inl a0, .inl a1, .inl a2] σ) := by
  subst z0
  subst z1
  unfold g_Mo_add_1_1
  exact tw_le_fl rfl tw_le_rf
def g_Mo_add_1_2 (a2 : Int32) (σ : tw_S) : Option tw_R := some (none, (tw_pt σ false 31 11 ((σ false 31 11) + a2)))
set_option maxRecDepth 20000 in
theorem gn_Mo_add_1_2 (a0 : Int32) (z0 : a0 = (1 : Int32)) (a1 : Int32) (z1 : a1 = (2 : Int32)) (a2 : Int32) (σ : tw_S) : tw_le (g_Mo_add_1_2 a2 σ) (fn_Mo_add [.inr (false, 22), .inl a0, .inl a1, .inl a2] σ) := by
  subst z0
  subst z1
  unfold g_Mo_add_1_2
  exact tw_le_fl rfl tw_le_rf
def g_Mo_add_1_3 (a2 : Int32) (σ : tw_S) : Option tw_R := some (none, (tw_pt σ false 31 12 ((σ false 31 12) + a2)))
set_option maxRecDepth 20000 in
theorem gn_Mo_add_1_3 (a0 : Int32) (z0 : a0 = (1 : Int32)) (a1 : Int32) (z1 : a1 = (3 : Int32)) (a2 : Int32) (σ : tw_S) : tw_le (g_Mo_add_1_3 a2 σ) (fn_Mo_add [.inr (false, 22), .inl a0, .inl a1, .inl a2] σ) := by
  subst z0
  subst z1
  unfold g_Mo_add_1_3
  exact tw_le_fl rfl tw_le_rf
def g_Mo_add_1_4 (a2 : Int32) (σ : tw_S) : Option tw_R := some (none, (tw_pt σ false 31 13 ((σ false 31 13) + a2)))
set_option maxRecDepth 20000 in
theorem gn_Mo_add_1_4 (a0 : Int32) (z0 : a0 = (1 : Int32)) (a1 : Int32) (z1 : a1 = (4 : Int32)) (a2 : Int32) (σ : tw_S) : tw_le (g_Mo_add_1_4 a2 σ) (fn_Mo_add [.inr (false, 22), .inl a0, .inl a1, .inl a2] σ) := by
  subst z0
  subst z1
  unfold g_Mo_add_1_4
  exact tw_le_fl rfl tw_le_rf
def g_Mo_add_1_5 (a2 : Int32) (σ : tw_S) : Option tw_R := some (none, (tw_pt σ false 31 14 ((σ false 31 14) + a2)))
set_option maxRecDepth 20000 in
theorem gn_Mo_add_1_5 (a0 : Int32) (z0 : a0 = (1 : Int32)) (a1 : Int32) (z1 : a1 = (5 : Int32)) (a2 : Int32) (σ : tw_S) : tw_le (g_Mo_add_1_5 a2 σ) (fn_Mo_add [.inr (false, 22), .inl a0, .inl a1, .inl a2] σ) := by
  subst z0
  subst z1
  unfold g_Mo_add_1_5
  exact tw_le_fl rfl tw_le_rf
def g_Mo_add_1_6 (a2 : Int32) (σ : tw_S) : Option tw_R := some (none, (tw_pt σ false 31 15 ((σ false 31 15) + a2)))
set_option maxRecDepth 20000 in
theorem gn_Mo_add_1_6 (a0 : Int32) (z0 : a0 = (1 : Int32)) (a1 : Int32) (z1 : a1 = (6 : Int32)) (a2 : Int32) (σ : tw_S) : tw_le (g_Mo_add_1_6 a2 σ) (fn_Mo_add [.inr (false, 22), .inl a0, .inl a1, .inl a2] σ) := by
  subst z0
  subst z1
  unfold g_Mo_add_1_6
  exact tw_le_fl rfl tw_le_rf
def g_Mo_add_1_7 (a2 : Int32) (σ : tw_S) : Option tw_R := some (none, (tw_pt σ false 31 16 ((σ false 31 16) + a2)))
set_option maxRecDepth 20000 in
theorem gn_Mo_add_1_7 (a0 : Int32) (z0 : a0 = (1 : Int32)) (a1 : Int32) (z1 : a1 = (7 : Int32)) (a2 : Int32) (σ : tw_S) : tw_le (g_Mo_add_1_7 a2 σ) (fn_Mo_add [.inr (false, 22), .inl a0, .inl a1, .inl a2] σ) := by
  subst z0
  subst z1
  unfold g_Mo_add_1_7
  exact tw_le_fl rfl tw_le_rf
def g_Mo_add_1_8 (a2 : Int32) (σ : tw_S) : Option tw_R := some (none, (tw_pt σ false 31 17 ((σ false 31 17) + a2)))
set_option maxRecDepth 20000 in
theorem gn_Mo_add_1_8 (a0 : Int32) (z0 : a0 = (1 : Int32)) (a1 : Int32) (z1 : a1 = (8 : Int32)) (a2 : Int32) (σ : tw_S) : tw_le (g_Mo_add_1_8 a2 σ) (fn_Mo_add [.inr (false, 22), .inl a0, .inl a1, .inl a2] σ) := by
  subst z0
  subst z1
  unfold g_Mo_add_1_8
  exact tw_le_fl rfl tw_le_rf
def g_Mo_allowed_0_0 (a1 : Int32) (σ : tw_S) : Option tw_R := if (a1 &&& (16 : Int32)) = (0 : Int32) then (if ((σ false 25 0) &&& (8 : Int32)) = (0 : Int32) then (if (a1 &&& (8 : Int32)) = (0 : Int32) then (some (some (.inl (0 : Int32)), σ)) else (if (σ false 27 0) = (0 : Int32) then (some (some (.inl (1 : Int32)), σ)) else (some (some (.inl (0 : Int32)), σ)))) else (if (a1 &&& (8 : Int32)) = (0 : Int32) then (some (some (.inl (0 : Int32)), σ)) else (if (σ false 27 0) = (0 : Int32) then (some (some (.inl (1 : Int32)), σ)) else (some (some (.inl (0 : Int32)), σ))))) else (if ((σ false 25 0) &&& (8 : Int32)) = (0 : Int32) then (if (a1 &&& (8 : Int32)) = (0 : Int32) then (some (some (.inl (0 : Int32)), σ)) else (if (σ false 27 0) = (0 : Int32) then (some (some (.inl (0 : Int32)), σ)) else (some (some (.inl (1 : Int32)), σ)))) else (if (a1 &&& (8 : Int32)) = (0 : Int32) then (some (some (.inl (0 : Int32)), σ)) else (if (σ false 27 0) = (0 : Int32) then (some (some (.inl (0 : Int32)), σ)) else (some (some (.inl (1 : Int32)), σ)))))
set_option maxRecDepth 20000 in
theorem gn_Mo_allowed_0_0 (a0 : Int32) (z0 : a0 = (0 : Int32)) (a1 : Int32) (a2 : Int32) (z2 : a2 = (0 : Int32)) (σ : tw_S) : tw_le (g_Mo_allowed_0_0 a1 σ) (fn_Mo_allowed [.inr (false, 22), .inl a0, .inl a1, .inl a2] σ) := by
  subst z0
  subst z2
  unfold g_Mo_allowed_0_0
  exact tw_le_fl rfl (tw_le_it (fun _ => (tw_le_it (fun _ => (tw_le_it (fun _ => tw_le_rf) (fun _ => (tw_le_it (fun _ => tw_le_rf) (fun _ => tw_le_rf))))) (fun _ => (tw_le_it (fun _ => tw_le_rf) (fun _ => (tw_le_it (fun _ => tw_le_rf) (fun _ => tw_le_rf))))))) (fun _ => (tw_le_it (fun _ => (tw_le_it (fun _ => tw_le_rf) (fun _ => (tw_le_it (fun _ => tw_le_rf) (fun _ => tw_le_rf))))) (fun _ => (tw_le_it (fun _ => tw_le_rf) (fun _ => (tw_le_it (fun _ => tw_le_rf) (fun _ => tw_le_rf))))))))
def g_Mo_allowed_0_1 (a1 : Int32) (σ : tw_S) : Option tw_R := if (a1 &&& (16 : Int32)) = (0 : Int32) then (if ((σ false 25 0) &&& (8 : Int32)) = (0 : Int32) then (if (a1 &&& (2 : Int32)) = (0 : Int32) then (some (some (.inl (0 : Int32)), σ)) else (if (σ false 27 0) = (0 : Int32) then (some (some (.inl (1 : Int32)), σ)) else (some (some (.inl (0 : Int32)), σ)))) else (if (a1 &&& (2 : Int32)) = (0 : Int32) then (some (some (.inl (0 : Int32)), σ)) else (if (σ false 27 0) = (0 : Int32) then (some (some (.inl (1 : Int32)), σ)) else (some (some (.inl (0 : Int32)), σ))))) else (if ((σ false 25 0) &&& (8 : Int32)) = (0 : Int32) then (if (a1 &&& (2 : Int32)) = (0 : Int32) then (some (some (.inl (0 : Int32)), σ)) else (if (σ false 27 0) = (0 : Int32) then (some (some (.inl (0 : Int32)), σ)) else (some (some (.inl (1 : Int32)), σ)))) else (if (a1 &&& (2 : Int32)) = (0 : Int32) then (some (some (.inl (0 : Int32)), σ)) else (if (σ false 27 0) = (0 : Int32) then (some (some (.inl (1 : Int32)), σ)) else (some (some (.inl (1 : Int32)), σ)))))
set_option maxRecDepth 20000 in
theorem gn_Mo_allowed_0_1 (a0 : Int32) (z0 : a0 = (0 : Int32)) (a1 : Int32) (a2 : Int32) (z2 : a2 = (1 : Int32)) (σ : tw_S) : tw_le (g_Mo_allowed_0_1 a1 σ) (fn_Mo_allowed [.inr (false, 22), .inl a0, .inl a1, .inl a2] σ) := by
  subst z0
  subst z2
  unfold g_Mo_allowed_0_1
  exact tw_le_fl rfl (tw_le_it (fun _ => (tw_le_it (fun _ => (tw_le_it (fun _ => tw_le_rf) (fun _ => (tw_le_it (fun _ => tw_le_rf) (fun _ => tw_le_rf))))) (fun _ => (tw_le_it (fun _ => tw_le_rf) (fun _ => (tw_le_it (fun _ => tw_le_rf) (fun _ => tw_le_rf))))))) (fun _ => (tw_le_it (fun _ => (tw_le_it (fun _ => tw_le_rf) (fun _ => (tw_le_it (fun _ => tw_le_rf) (fun _ => tw_le_rf))))) (fun _ => (tw_le_it (fun _ => tw_le_rf) (fun _ => (tw_le_it (fun _ => tw_le_rf) (fun _ => tw_le_rf))))))))
def g_Mo_allowed_0_2 (a1 : Int32) (σ : tw_S) : Option tw_R := if (a1 &&& (16 : Int32)) = (0 : Int32) then (if ((σ false 25 0) &&& (8 : Int32)) = (0 : Int32) then (if (a1 &&& (4 : Int32)) = (0 : Int32) then (some (some (.inl (0 : Int32)), σ)) else (if (σ false 27 0) = (0 : Int32) then (some (some (.inl (1 : Int32)), σ)) else (some (some (.inl (0 : Int32)), σ)))) else (if (a1 &&& (4 : Int32)) = (0 : Int32) then (some (some (.inl (0 : Int32)), σ)) else (if (σ false 27 0) = (0 : Int32) then (some (some (.inl (1 : Int32)), σ)) else (some (some (.inl (0 : Int32)), σ))))) else (if ((σ false 25 0) &&& (8 : Int32)) = (0 : Int32) then (if (a1 &&& (4 : Int32)) = (0 : Int32) then (some (some (.inl (0 : Int32)), σ)) else (if (σ false 27 0) = (0 : Int32) then (some (some (.inl (0 : Int32)), σ)) else (some (some (.inl (1 : Int32)), σ)))) else (if (a1 &&& (4 : Int32)) = (0 : Int32) then (some (some (.inl (0 : Int32)), σ)) else (if (σ false 27 0) = (0 : Int32) then (some (some (.inl (1 : Int32)), σ)) else (some (some (.inl (1 : Int32)), σ)))))
set_option maxRecDepth 20000 in
theorem gn_Mo_allowed_0_2 (a0 : Int32) (z0 : a0 = (0 : Int32)) (a1 : Int32) (a2 : Int32) (z2 : a2 = (2 : Int32)) (σ : tw_S) : tw_le (g_Mo_allowed_0_2 a1 σ) (fn_Mo_allowed [.inr (false, 22), .inl a0, .inl a1, .inl a2] σ) := by
  subst z0
  subst z2
  unfold g_Mo_allowed_0_2
  exact tw_le_fl rfl (tw_le_it (fun _ => (tw_le_it (fun _ => (tw_le_it (fun _ => tw_le_rf) (fun _ => (tw_le_it (fun _ => tw_le_rf) (fun _ => tw_le_rf))))) (fun _ => (tw_le_it (fun _ => tw_le_rf) (fun _ => (tw_le_it (fun _ => tw_le_rf) (fun _ => tw_le_rf))))))) (fun _ => (tw_le_it (fun _ => (tw_le_it (fun _ => tw_le_rf) (fun _ => (tw_le_it (fun _ => tw_le_rf) (fun _ => tw_le_rf))))) (fun _ => (tw_le_it (fun _ => tw_le_rf) (fun _ => (tw_le_it (fun _ => tw_le_rf) (fun _ => tw_le_rf))))))))
def g_Mo_allowed_1_0 (a1 : Int32) (σ : tw_S) : Option tw_R := if (a1 &&& (16 : Int32)) = (0 : Int32) then (if ((σ false 25 12) &&& (8 : Int32)) = (0 : Int32) then (if (a1 &&& (8 : Int32)) = (0 : Int32) then (some (some (.inl (0 : Int32)), σ)) else (if (σ false 27 1) = (0 : Int32) then (some (some (.inl (1 : Int32)), σ)) else (some (some (.inl (0 : Int32)), σ)))) else (if (a1 &&& (8 : Int32)) = (0 : Int32) then (some (some (.inl (0 : Int32)), σ)) else (if (σ false 27 1) = (0 : Int32) then (some (some (.inl (1 : Int32)), σ)) else (some (some (.inl (0 : Int32)), σ))))) else (if ((σ false 25 12) &&& (8 : Int32)) = (0 : Int32) then (if (a1 &&& (8 : Int32)) = (0 : Int32) then (some (some (.inl (0 : Int32)), σ)) else (if (σ false 27 1) = (0 : Int32) then (some (some (.inl (0 : Int32)), σ)) else (some (some (.inl (1 : Int32)), σ)))) else (if (a1 &&& (8 : Int32)) = (0 : Int32) then (some (some (.inl (0 : Int32)), σ)) else (if (σ false 27 1) = (0 : Int32) then (some (some (.inl (0 : Int32)), σ)) else (some (some (.inl (1 : Int32)), σ)))))
set_option maxRecDepth 20000 in
theorem gn_Mo_allowed_1_0 (a0 : Int32) (z0 : a0 = (1 : Int32)) (a1 : Int32) (a2 : Int32) (z2 : a2 = (0 : Int32)) (σ : tw_S) : tw_le (g_Mo_allowed_1_0 a1 σ) (fn_Mo_allowed [.inr (false, 22), .inl a0, .inl a1, .inl a2] σ) := by
  subst z0
  subst z2
  unfold g_Mo_allowed_1_0
  exact tw_le_fl rfl (tw_le_it (fun _ => (tw_le_it (fun _ => (tw_le_it (fun _ => tw_le_rf) (fun _ => (tw_le_it (fun _ => tw_le_rf) (fun _ => tw_le_rf))))) (fun _ => (tw_le_it (fun _ => tw_le_rf) (fun _ => (tw_le_it (fun _ => tw_le_rf) (fun _ => tw_le_rf))))))) (fun _ => (tw_le_it (fun _ => (tw_le_it (fun _ => tw_le_rf) (fun _ => (tw_le_it (fun _ => tw_le_rf) (fun _ => tw_le_rf))))) (fun _ => (tw_le_it (fun _ => tw_le_rf) (fun _ => (tw_le_it (fun _ => tw_le_rf) (fun _ => tw_le_rf))))))))
def g_Mo_allowed_1_1 (a1 : Int32) (σ : tw_S) : Option tw_R := if (a1 &&& (16 : Int32)) = (0 : Int32) then (if ((σ false 25 12) &&& (8 : Int32)) = (0 : Int32) then (if (a1 &&& (2 : Int32)) = (0 : Int32) then (some (some (.inl (0 : Int32)), σ)) else (if (σ false 27 1) = (0 : Int32) then (some (some (.inl (1 : Int32)), σ)) else (some (some (.inl (0 : Int32)), σ)))) else (if (a1 &&& (2 : Int32)) = (0 : Int32) then (some (some (.inl (0 : Int32)), σ)) else (if (σ false 27 1) = (0 : Int32) then (some (some (.inl (1 : Int32)), σ)) else (some (some (.inl (0 : Int32)), σ))))) else (if ((σ false 25 12) &&& (8 : Int32)) = (0 : Int32) then (if (a1 &&& (2 : Int32)) = (0 : Int32) then (some (some (.inl (0 : Int32)), σ)) else (if (σ false 27 1) = (0 : Int32) then (some (some (.inl (0 : Int32)), σ)) else (some (some (.inl (1 : Int32)), σ)))) else (if (a1 &&& (2 : Int32)) = (0 : Int32) then (some (some (.inl (0 : Int32)), σ)) else (if (σ false 27 1) = (0 : Int32) then (some (some (.inl (1 : Int32)), σ)) else (some (some (.inl (1 : Int32)), σ)))))
set_option maxRecDepth 20000 in
theorem gn_Mo_allowed_1_1 (a0 : Int32) (z0 : a0 = (1 : Int32)) (a1 : Int32) (a2 : Int32) (z2 : a2 = (1 : Int32)) (σ : tw_S) : tw_le (g_Mo_allowed_1_1 a1 σ) (fn_Mo_allowed [.inr (false, 22), .inl a0, .inl a1, .inl a2] σ) := by
  subst z0
  subst z2
  unfold g_Mo_allowed_1_1
  exact tw_le_fl rfl (tw_le_it (fun _ => (tw_le_it (fun _ => (tw_le_it (fun _ => tw_le_rf) (fun _ => (tw_le_it (fun _ => tw_le_rf) (fun _ => tw_le_rf))))) (fun _ => (tw_le_it (fun _ => tw_le_rf) (fun _ => (tw_le_it (fun _ => tw_le_rf) (fun _ => tw_le_rf))))))) (fun _ => (tw_le_it (fun _ => (tw_le_it (fun _ => tw_le_rf) (fun _ => (tw_le_it (fun _ => tw_le_rf) (fun _ => tw_le_rf))))) (fun _ => (tw_le_it (fun _ => tw_le_rf) (fun _ => (tw_le_it (fun _ => tw_le_rf) (fun _ => tw_le_rf))))))))
def g_Mo_allowed_1_2 (a1 : Int32) (σ : tw_S) : Option tw_R := if (a1 &&& (16 : Int32)) = (0 : Int32) then (if ((σ false 25 12) &&& (8 : Int32)) = (0 : Int32) then (if (a1 &&& (4 : Int32)) = (0 : Int32) then (some (some (.inl (0 : Int32)), σ)) else (if (σ false 27 1) = (0 : Int32) then (some (some (.inl (1 : Int32)), σ)) else (some (some (.inl (0 : Int32)), σ)))) else (if (a1 &&& (4 : Int32)) = (0 : Int32) then (some (some (.inl (0 : Int32)), σ)) else (if (σ false 27 1) = (0 : Int32) then (some (some (.inl (1 : Int32)), σ)) else (some (some (.inl (0 : Int32)), σ))))) else (if ((σ false 25 12) &&& (8 : Int32)) = (0 : Int32) then (if (a1 &&& (4 : Int32)) = (0 : Int32) then (some (some (.inl (0 : Int32)), σ)) else (if (σ false 27 1) = (0 : Int32) then (some (some (.inl (0 : Int32)), σ)) else (some (some (.inl (1 : Int32)), σ)))) else (if (a1 &&& (4 : Int32)) = (0 : Int32) then (some (some (.inl (0 : Int32)), σ)) else (if (σ false 27 1) = (0 : Int32) then (some (some (.inl (1 : Int32)), σ)) else (some (some (.inl (1 : Int32)), σ)))))
set_option maxRecDepth 20000 in
theorem gn_Mo_allowed_1_2 (a0 : Int32) (z0 : a0 = (1 : Int32)) (a1 : Int32) (a2 : Int32) (z2 : a2 = (2 : Int32)) (σ : tw_S) : tw_le (g_Mo_allowed_1_2 a1 σ) (fn_Mo_allowed [.inr (false, 22), .inl a0, .inl a1, .inl a2] σ) := by
  subst z0
  subst z2
  unfold g_Mo_allowed_1_2
  exact tw_le_fl rfl (tw_le_it (fun _ => (tw_le_it (fun _ => (tw_le_it (fun _ => tw_le_rf) (fun _ => (tw_le_it (fun _ => tw_le_rf) (fun _ => tw_le_rf))))) (fun _ => (tw_le_it (fun _ => tw_le_rf) (fun _ => (tw_le_it (fun _ => tw_le_rf) (fun _ => tw_le_rf))))))) (fun _ => (tw_le_it (fun _ => (tw_le_it (fun _ => tw_le_rf) (fun _ => (tw_le_it (fun _ => tw_le_rf) (fun _ => tw_le_rf))))) (fun _ => (tw_le_it (fun _ => tw_le_rf) (fun _ => (tw_le_it (fun _ => tw_le_rf) (fun _ => tw_le_rf))))))))
def g_Mo_broken (a0 : Int32) (σ : tw_S) : Option tw_R := if (a0 &&& (1 : Int32)) = (0 : Int32) then (some (some (.inl (1 : Int32)), σ)) else (if (a0 &&& (6 : Int32)) = (4 : Int32) then (some (some (.inl (1 : Int32)), σ)) else (some (some (.inl (0 : Int32)), σ)))
set_option maxRecDepth 20000 in
theorem gn_Mo_broken (a0 : Int32) (σ : tw_S) : tw_le (g_Mo_broken a0 σ) (fn_Mo_broken [.inl a0] σ) := by
  unfold g_Mo_broken
  exact tw_le_fl rfl (tw_le_it (fun _ => tw_le_rf) (fun _ => (tw_le_it (fun _ => tw_le_rf) (fun _ => tw_le_rf))))
def g_Mo_calculate (a0 : Int32) (a1 : Int32) (a2 : Int32) (a3 : Int32) (σ : tw_S) : Option tw_R := if a0 = (0 : Int32) then (some (some (.inl (a1 + a3)), σ)) else (if a0 = (1 : Int32) then (some (some (.inl (a1 + a2)), σ)) else (if a0 = (2 : Int32) then (some (some (.inl (a1 - a2)), σ)) else (if a0 = (3 : Int32) then (some (some (.inl (a1 &&& a2)), σ)) else (if a0 = (4 : Int32) then (some (some (.inl (a1 ||| a2)), σ)) else (if a0 = (5 : Int32) then (some (some (.inl (a1 ^^^ a2)), σ)) else (if a0 = (6 : Int32) then (if a2 ≤ a1 then (some (some (.inl (0 : Int32)), σ)) else (some (some (.inl (1 : Int32)), σ))) else (if a0 = (7 : Int32) then (some (some (.inl (a1 <<< ((a2 &&& (31 : Int32)) &&& 31))), σ)) else (if a0 = (8 : Int32) then (some (some (.inl (a1 >>> ((a2 &&& (31 : Int32)) &&& 31))), σ)) else (some (some (.inl (a3 <<< ((16 : Int32) &&& 31))), σ))))))))))
set_option maxRecDepth 20000 in
theorem gn_Mo_calculate (a0 : Int32) (a1 : Int32) (a2 : Int32) (a3 : Int32) (σ : tw_S) : tw_le (g_Mo_calculate a0 a1 a2 a3 σ) (fn_Mo_calculate [.inl a0, .inl a1, .inl a2, .inl a3] σ) := by
  unfold g_Mo_calculate
  exact tw_le_fl rfl (tw_le_it (fun _ => tw_le_rf) (fun _ => (tw_le_it (fun _ => tw_le_rf) (fun _ => (tw_le_it (fun _ => tw_le_rf) (fun _ => (tw_le_it (fun _ => tw_le_rf) (fun _ => (tw_le_it (fun _ => tw_le_rf) (fun _ => (tw_le_it (fun _ => tw_le_rf) (fun _ => (tw_le_it (fun _ => (tw_le_it (fun _ => tw_le_rf) (fun _ => tw_le_rf))) (fun _ => (tw_le_it (fun _ => tw_le_rf) (fun _ => (tw_le_it (fun _ => tw_le_rf) (fun _ => tw_le_rf))))))))))))))))))
def g_Mo_guest (a0 : Int32) (σ : tw_S) : Option tw_R := if a0 = (0 : Int32) then (some (some (.inl (1 : Int32)), σ)) else (if a0 = (1 : Int32) then (some (some (.inl (1 : Int32)), σ)) else (some (some (.inl (0 : Int32)), σ)))
set_option maxRecDepth 20000 in
theorem gn_Mo_guest (a0 : Int32) (σ : tw_S) : tw_le (g_Mo_guest a0 σ) (fn_Mo_guest [.inl a0] σ) := by
  unfold g_Mo_guest
  exact tw_le_fl rfl (tw_le_it (fun _ => tw_le_rf) (fun _ => (tw_le_it (fun _ => tw_le_rf) (fun _ => tw_le_rf))))
def g_Mo_guest_0 (σ : tw_S) : Option tw_R := some (some (.inl (1 : Int32)), σ)
set_option maxRecDepth 20000 in
theorem gn_Mo_guest_0 (a0 : Int32) (z0 : a0 = (0 : Int32)) (σ : tw_S) : tw_le (g_Mo_guest_0 σ) (fn_Mo_guest [.inl a0] σ) := by
  subst z0
  unfold g_Mo_guest_0
  exact tw_le_fl rfl tw_le_rf
def g_Mo_guest_1 (σ : tw_S) : Option tw_R := some (some (.inl (1 : Int32)), σ)
set_option maxRecDepth 20000 in
theorem gn_Mo_guest_1 (a0 : Int32) (z0 : a0 = (1 : Int32)) (σ : tw_S) : tw_le (g_Mo_guest_1 σ) (fn_Mo_guest [.inl a0] σ) := by
  subst z0
  unfold g_Mo_guest_1
  exact tw_le_fl rfl tw_le_rf
def g_Mo_isStored (a0 : Int32) (σ : tw_S) : Option tw_R := if a0 < (0 : Int32) then (some (some (.inl (0 : Int32)), σ)) else (if (9 : Int32) < a0 then (some (some (.inl (0 : Int32)), σ)) else (if a0 = (8 : Int32) then (some (some (.inl (0 : Int32)), σ)) else (some (some (.inl (1 : Int32)), σ))))
set_option maxRecDepth 20000 in
theorem gn_Mo_isStored (a0 : Int32) (σ : tw_S) : tw_le (g_Mo_isStored a0 σ) (fn_Mo_isStored [.inl a0] σ) := by
  unfold g_Mo_isStored
  exact tw_le_fl rfl (tw_le_it (fun _ => tw_le_rf) (fun _ => (tw_le_it (fun _ => tw_le_rf) (fun _ => (tw_le_it (fun _ => tw_le_rf) (fun _ => tw_le_rf))))))
def g_Mo_isThere_0 (σ : tw_S) : Option tw_R := if (σ false 28 0) ≤ (0 : Int32) then (some (some (.inl (0 : Int32)), σ)) else (if (σ false 25 10) < (σ false 29 0) then (some (some (.inl (0 : Int32)), σ)) else (some (some (.inl (1 : Int32)), σ)))
set_option maxRecDepth 20000 in
theorem gn_Mo_isThere_0 (a0 : Int32) (z0 : a0 = (0 : Int32)) (σ : tw_S) : tw_le (g_Mo_isThere_0 σ) (fn_Mo_isThere [.inr (false, 22), .inl a0] σ) := by
  subst z0
  unfold g_Mo_isThere_0
  exact tw_le_fl rfl (tw_le_it (fun _ => tw_le_rf) (fun _ => (tw_le_it (fun _ => tw_le_rf) (fun _ => tw_le_rf))))
def g_Mo_isThere_1 (σ : tw_S) : Option tw_R := if (σ false 28 1) ≤ (0 : Int32) then (some (some (.inl (0 : Int32)), σ)) else (if (σ false 25 22) < (σ false 29 6) then (some (some (.inl (0 : Int32)), σ)) else (some (some (.inl (1 : Int32)), σ)))
set_option maxRecDepth 20000 in
theorem gn_Mo_isThere_1 (a0 : Int32) (z0 : a0 = (1 : Int32)) (σ : tw_S) : tw_le (g_Mo_isThere_1 σ) (fn_Mo_isThere [.inr (false, 22), .inl a0] σ) := by
  subst z0
  unfold g_Mo_isThere_1
  exact tw_le_fl rfl (tw_le_it (fun _ => tw_le_rf) (fun _ => (tw_le_it (fun _ => tw_le_rf) (fun _ => tw_le_rf))))
def g_Mo_put_0 (a1 : Int32) (a2 : Int32) (σ : tw_S) : Option tw_R := if a1 = (0 : Int32) then (some (none, σ)) else (if tw_out (((8 : Int32) * (0 : Int32)) + a1) 16 then none else (some (none, (tw_pt σ false 24 (((8 : Int32) * (0 : Int32)) + a1).toNatClampNeg a2))))
set_option maxRecDepth 20000 in
theorem gn_Mo_put_0 (a0 : Int32) (z0 : a0 = (0 : Int32)) (a1 : Int32) (a2 : Int32) (σ : tw_S) : tw_le (g_Mo_put_0 a1 a2 σ) (fn_Mo_put [.inr (false, 22), .inl a0, .inl a1, .inl a2] σ) := by
  subst z0
  unfold g_Mo_put_0
  exact tw_le_fl rfl (tw_le_it (fun _ => tw_le_rf) (fun _ => (tw_le_it (fun _ => tw_le_no) (fun _ => tw_le_rf))))
def g_Mo_put_1 (a1 : Int32) (a2 : Int32) (σ : tw_S) : Option tw_R := if a1 = (0 : Int32) then (some (none, σ)) else (if tw_out (((8 : Int32) * (1 : Int32)) + a1) 16 then none else (some (none, (tw_pt σ false 24 (((8 : Int32) * (1 : Int32)) + a1).toNatClampNeg a2))))
set_option maxRecDepth 20000 in
theorem gn_Mo_put_1 (a0 : Int32) (z0 : a0 = (1 : Int32)) (a1 : Int32) (a2 : Int32) (σ : tw_S) : tw_le (g_Mo_put_1 a1 a2 σ) (fn_Mo_put [.inr (false, 22), .inl a0, .inl a1, .inl a2] σ) := by
  subst z0
  unfold g_Mo_put_1
  exact tw_le_fl rfl (tw_le_it (fun _ => tw_le_rf) (fun _ => (tw_le_it (fun _ => tw_le_no) (fun _ => tw_le_rf))))
def g_Mo_retire_0 (a1 : Int32) (σ : tw_S) : Option tw_R := some (some (.inl (1 : Int32)), (tw_pt (tw_pt σ false 25 10 ((σ false 25 10) + (1 : Int32))) false 26 0 a1))
set_option maxRecDepth 20000 in
theorem gn_Mo_retire_0 (a0 : Int32) (z0 : a0 = (0 : Int32)) (a1 : Int32) (σ : tw_S) : tw_le (g_Mo_retire_0 a1 σ) (fn_Mo_retire [.inr (false, 22), .inl a0, .inl a1] σ) := by
  subst z0
  unfold g_Mo_retire_0
  exact tw_le_fl rfl tw_le_rf
def g_Mo_retire_1 (a1 : Int32) (σ : tw_S) : Option tw_R := some (some (.inl (1 : Int32)), (tw_pt (tw_pt σ false 25 22 ((σ false 25 22) + (1 : Int32))) false 26 1 a1))
set_option maxRecDepth 20000 in
theorem gn_Mo_retire_1 (a0 : Int32) (z0 : a0 = (1 : Int32)) (a1 : Int32) (σ : tw_S) : tw_le (g_Mo_retire_1 a1 σ) (fn_Mo_retire [.inr (false, 22), .inl a0, .inl a1] σ) := by
  subst z0
  unfold g_Mo_retire_1
  exact tw_le_fl rfl tw_le_rf
def l_Mo_takeInput_0 : Nat → Int32 → tw_S → Option tw_R
  | 0, _, _ => none
  | k + 1, b0, σ => if (((6 : Int32) * (0 : Int32)) + (5 : Int32)) ≤ b0 then (some (none, (tw_pt σ false 28 0 ((σ false 28 0) - (1 : Int32))))) else (if tw_out (b0 + (1 : Int32)) 12 then none else (if tw_out b0 12 then none else (l_Mo_takeInput_0 k (b0 + (1 : Int32)) (tw_pt (tw_pt σ false 29 b0.toNatClampNeg (σ false 29 (b0 + (1 : Int32)).toNatClampNeg)) false 30 b0.toNatClampNeg (σ false 30 (b0 + (1 : Int32)).toNatClampNeg)))))
set_option maxRecDepth 20000 in
set_option maxHeartbeats 1000000 in
theorem lq_Mo_takeInput_0 : ∀ (k n : Nat), k * 30 ≤ n → ∀ (b0 : Int32) (σ : tw_S), tw_le (l_Mo_takeInput_0 k b0 σ) (tw_run pr_Mo_takeInput n (tw_seek 5 pr_Mo_takeInput) [some (.inr (false, 22)), some (.inl (0 : Int32)), some (.inl b0)] [] σ)
  | 0, _, _, _, _ => tw_le_no
  | k + 1, n, hn, b0, σ => by
    obtain ⟨m, rfl⟩ : ∃ m, n = m + 30 := ⟨n - 30, by omega⟩
    have hm : k * 30 ≤ m := by omega
    unfold l_Mo_takeInput_0
    exact (tw_le_it (fun _ => tw_le_rf) (fun _ => (tw_le_it (fun _ => tw_le_no) (fun h2 => (tw_le_it (fun _ => tw_le_no) (fun h3 => (tw_le_ng h2 (tw_le_ng h3 (lq_Mo_takeInput_0 k (m + 1) (Nat.le_trans hm (Nat.le_add_right m 1)) (b0 + (1 : Int32))  (tw_pt (tw_pt σ false 29 b0.toNatClampNeg (σ false 29 (b0 + (1 : Int32)).toNatClampNeg)) false 30 b0.toNatClampNeg (σ false 30 (b0 + (1 : Int32)).toNatClampNeg)))))))))))
def g_Mo_takeInput_0 (σ : tw_S) : Option tw_R := l_Mo_takeInput_0 6 ((6 : Int32) * (0 : Int32)) σ
set_option maxRecDepth 20000 in
theorem gp_Mo_takeInput_0 (n : Nat) (hn : 6 * 30 ≤ n) (a0 : Int32) (z0 : a0 = (0 : Int32)) (σ : tw_S) : tw_le (g_Mo_takeInput_0 σ) (tw_run pr_Mo_takeInput (n + 4) pr_Mo_takeInput (tw_args 3 [.inr (false, 22), .inl a0]) [] σ) := by
  subst z0
  unfold g_Mo_takeInput_0
  exact (lq_Mo_takeInput_0 6 (n + 0) (Nat.le_trans hn (Nat.le_add_right n 0)) ((6 : Int32) * (0 : Int32))  σ)
theorem gn_Mo_takeInput_0 (a0 : Int32) (z0 : a0 = (0 : Int32)) (σ : tw_S) : tw_le (g_Mo_takeInput_0 σ) (fn_Mo_takeInput [.inr (false, 22), .inl a0] σ)   := tw_le_fl rfl (gp_Mo_takeInput_0 396 (by decide) a0 z0 σ)
def l_Mo_takeInput_1 : Nat → Int32 → tw_S → Option tw_R
  | 0, _, _ => none
  | k + 1, b0, σ => if (((6 : Int32) * (1 : Int32)) + (5 : Int32)) ≤ b0 then (some (none, (tw_pt σ false 28 1 ((σ false 28 1) - (1 : Int32))))) else (if tw_out (b0 + (1 : Int32)) 12 then none else (if tw_out b0 12 then none else (l_Mo_takeInput_1 k (b0 + (1 : Int32)) (tw_pt (tw_pt σ false 29 b0.toNatClampNeg (σ false 29 (b0 + (1 : Int32)).toNatClampNeg)) false 30 b0.toNatClampNeg (σ false 30 (b0 + (1 : Int32)).toNatClampNeg)))))
set_option maxRecDepth 20000 in
set_option maxHeartbeats 1000000 in
theorem lq_Mo_takeInput_1 : ∀ (k n : Nat), k * 30 ≤ n → ∀ (b0 : Int32) (σ : tw_S), tw_le (l_Mo_takeInput_1 k b0 σ) (tw_run pr_Mo_takeInput n (tw_seek 5 pr_Mo_takeInput) [some (.inr (false, 22)), some (.inl (1 : Int32)), some (.inl b0)] [] σ)
  | 0, _, _, _, _ => tw_le_no
  | k + 1, n, hn, b0, σ => by
    obtain ⟨m, rfl⟩ : ∃ m, n = m + 30 := ⟨n - 30, by omega⟩
    have hm : k * 30 ≤ m := by omega
    unfold l_Mo_takeInput_1
    exact (tw_le_it (fun _ => tw_le_rf) (fun _ => (tw_le_it (fun _ => tw_le_no) (fun h2 => (tw_le_it (fun _ => tw_le_no) (fun h3 => (tw_le_ng h2 (tw_le_ng h3 (lq_Mo_takeInput_1 k (m + 1) (Nat.le_trans hm (Nat.le_add_right m 1)) (b0 + (1 : Int32))  (tw_pt (tw_pt σ false 29 b0.toNatClampNeg (σ false 29 (b0 + (1 : Int32)).toNatClampNeg)) false 30 b0.toNatClampNeg (σ false 30 (b0 + (1 : Int32)).toNatClampNeg)))))))))))
def g_Mo_takeInput_1 (σ : tw_S) : Option tw_R := l_Mo_takeInput_1 6 ((6 : Int32) * (1 : Int32)) σ
set_option maxRecDepth 20000 in
theorem gp_Mo_takeInput_1 (n : Nat) (hn : 6 * 30 ≤ n) (a0 : Int32) (z0 : a0 = (1 : Int32)) (σ : tw_S) : tw_le (g_Mo_takeInput_1 σ) (tw_run pr_Mo_takeInput (n + 4) pr_Mo_takeInput (tw_args 3 [.inr (false, 22), .inl a0]) [] σ) := by
  subst z0
  unfold g_Mo_takeInput_1
  exact (lq_Mo_takeInput_1 6 (n + 0) (Nat.le_trans hn (Nat.le_add_right n 0)) ((6 : Int32) * (1 : Int32))  σ)
theorem gn_Mo_takeInput_1 (a0 : Int32) (z0 : a0 = (1 : Int32)) (σ : tw_S) : tw_le (g_Mo_takeInput_1 σ) (fn_Mo_takeInput [.inr (false, 22), .inl a0] σ)   := tw_le_fl rfl (gp_Mo_takeInput_1 396 (by decide) a0 z0 σ)
def g_Mo_turn (σ : tw_S) : Option tw_R := some (some (.inl (σ false 22 1)), σ)
set_option maxRecDepth 20000 in
theorem gn_Mo_turn (σ : tw_S) : tw_le (g_Mo_turn σ) (fn_Mo_turn [.inr (false, 22)] σ) := by
  unfold g_Mo_turn
  exact tw_le_fl rfl tw_le_rf
