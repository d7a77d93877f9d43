def g_Co_exists (a0 : Int32) (σ : tw_S) : Option tw_R := if a0 < (0 : Int32) then (some (some (.inl (0 : Int32)), σ)) else (if (12 : Int32) ≤ a0 then (some (some (.inl (0 : Int32)), σ)) else (some (some (.inl (1 : Int32)), σ)))
set_option maxRecDepth 20000 in
theorem gn_Co_exists (a0 : Int32) (σ : tw_S) : tw_le (g_Co_exists a0 σ) (fn_Co_exists [.inl a0] σ) := by
  unfold g_Co_exists
  exact tw_le_fl rfl (tw_le_it (fun _ => tw_le_rf) (fun _ => (tw_le_it (fun _ => tw_le_rf) (fun _ => tw_le_rf))))
def g_Co_isOn (g : Bool) (a0 : Int32) (σ : tw_S) : Option tw_R := if ((σ g 5 0) &&& a0) = (0 : Int32) then (some (some (.inl (0 : Int32)), σ)) else (some (some (.inl (1 : Int32)), σ))
set_option maxRecDepth 20000 in
theorem gn_Co_isOn (g : Bool) (a0 : Int32) (σ : tw_S) : tw_le (g_Co_isOn g a0 σ) (fn_Co_isOn [.inr (g, 4), .inl a0] σ) := by
  unfold g_Co_isOn
  exact tw_le_fl rfl (tw_le_it (fun _ => tw_le_rf) (fun _ => tw_le_rf))
def g_Co_keptBits (a0 : Int32) (σ : tw_S) : Option tw_R := if a0 = (0 : Int32) then (some (some (.inl (15 : Int32)), σ)) else (if a0 = (6 : Int32) then (some (some (.inl (143 : Int32)), σ)) else (if a0 = (7 : Int32) then (some (some (.inl (3 : Int32)), σ)) else (some (some (.inl (-1 : Int32)), σ))))
set_option maxRecDepth 20000 in
theorem gn_Co_keptBits (a0 : Int32) (σ : tw_S) : tw_le (g_Co_keptBits a0 σ) (fn_Co_keptBits [.inl a0] σ) := by
  unfold g_Co_keptBits
  exact tw_le_fl rfl (tw_le_it (fun _ => tw_le_rf) (fun _ => (tw_le_it (fun _ => tw_le_rf) (fun _ => (tw_le_it (fun _ => tw_le_rf) (fun _ => tw_le_rf))))))
def g_Co_translates (g : Bool) (σ : tw_S) : Option tw_R := if ((σ g 5 6) &&& (128 : Int32)) = (0 : Int32) then (some (some (.inl (0 : Int32)), σ)) else (some (some (.inl (1 : Int32)), σ))
set_option maxRecDepth 20000 in
theorem gn_Co_translates (g : Bool) (σ : tw_S) : tw_le (g_Co_translates g σ) (fn_Co_translates [.inr (g, 4)] σ) := by
  unfold g_Co_translates
  exact tw_le_fl rfl (tw_le_it (fun _ => tw_le_rf) (fun _ => tw_le_rf))
def g_En_allows_F (a0 : Int32) (a1 : Int32) (a2 : Int32) (σ : tw_S) : Option tw_R := if (a0 &&& (8 : Int32)) = (0 : Int32) then (some (some (.inl (0 : Int32)), σ)) else (if (a0 &&& (16 : Int32)) = (0 : Int32) then (if a1 = (0 : Int32) then (some (some (.inl (1 : Int32)), σ)) else (some (some (.inl (0 : Int32)), σ))) else (if a1 = (0 : Int32) then (if a2 = (0 : Int32) then (some (some (.inl (0 : Int32)), σ)) else (some (some (.inl (0 : Int32)), σ))) else (some (some (.inl (1 : Int32)), σ))))
set_option maxRecDepth 20000 in
theorem gn_En_allows_F (a0 : Int32) (a1 : Int32) (a2 : Int32) (σ : tw_S) : tw_le (g_En_allows_F a0 a1 a2 σ) (fn_En_allows [.inl a0, .inr (false, 50), .inl a1, .inl a2] σ) := by
  unfold g_En_allows_F
  exact tw_le_fl rfl (tw_le_it (fun _ => tw_le_rf) (fun _ => (tw_le_it (fun _ => (tw_le_it (fun _ => tw_le_rf) (fun _ => tw_le_rf))) (fun _ => (tw_le_it (fun _ => (tw_le_it (fun _ => tw_le_rf) (fun _ => tw_le_rf))) (fun _ => tw_le_rf))))))
def g_En_allows_L (a0 : Int32) (a1 : Int32) (a2 : Int32) (σ : tw_S) : Option tw_R := if (a0 &&& (2 : Int32)) = (0 : Int32) then (some (some (.inl (0 : Int32)), σ)) else (if (a0 &&& (16 : Int32)) = (0 : Int32) then (if a1 = (0 : Int32) then (some (some (.inl (1 : Int32)), σ)) else (some (some (.inl (0 : Int32)), σ))) else (if a1 = (0 : Int32) then (if a2 = (0 : Int32) then (some (some (.inl (0 : Int32)), σ)) else (some (some (.inl (1 : Int32)), σ))) else (some (some (.inl (1 : Int32)), σ))))
set_option maxRecDepth 20000 in
theorem gn_En_allows_L (a0 : Int32) (a1 : Int32) (a2 : Int32) (σ : tw_S) : tw_le (g_En_allows_L a0 a1 a2 σ) (fn_En_allows [.inl a0, .inr (false, 51), .inl a1, .inl a2] σ) := by
  unfold g_En_allows_L
  exact tw_le_fl rfl (tw_le_it (fun _ => tw_le_rf) (fun _ => (tw_le_it (fun _ => (tw_le_it (fun _ => tw_le_rf) (fun _ => tw_le_rf))) (fun _ => (tw_le_it (fun _ => (tw_le_it (fun _ => tw_le_rf) (fun _ => tw_le_rf))) (fun _ => tw_le_rf))))))
def g_En_allows_S (a0 : Int32) (a1 : Int32) (a2 : Int32) (σ : tw_S) : Option tw_R := if (a0 &&& (4 : Int32)) = (0 : Int32) then (some (some (.inl (0 : Int32)), σ)) else (if (a0 &&& (16 : Int32)) = (0 : Int32) then (if a1 = (0 : Int32) then (some (some (.inl (1 : Int32)), σ)) else (some (some (.inl (0 : Int32)), σ))) else (if a1 = (0 : Int32) then (if a2 = (0 : Int32) then (some (some (.inl (0 : Int32)), σ)) else (some (some (.inl (1 : Int32)), σ))) else (some (some (.inl (1 : Int32)), σ))))
set_option maxRecDepth 20000 in
theorem gn_En_allows_S (a0 : Int32) (a1 : Int32) (a2 : Int32) (σ : tw_S) : tw_le (g_En_allows_S a0 a1 a2 σ) (fn_En_allows [.inl a0, .inr (false, 52), .inl a1, .inl a2] σ) := by
  unfold g_En_allows_S
  exact tw_le_fl rfl (tw_le_it (fun _ => tw_le_rf) (fun _ => (tw_le_it (fun _ => (tw_le_it (fun _ => tw_le_rf) (fun _ => tw_le_rf))) (fun _ => (tw_le_it (fun _ => (tw_le_it (fun _ => tw_le_rf) (fun _ => tw_le_rf))) (fun _ => tw_le_rf))))))
def g_En_isBroken (a0 : Int32) (σ : tw_S) : Option tw_R := if (a0 &&& (1 : Int32)) = (0 : Int32) then (some (some (.inl (1 : Int32)), σ)) else (if (a0 &&& (6 : Int32)) = (4 : Int32) then (some (some (.inl (1 : Int32)), σ)) else (some (some (.inl (0 : Int32)), σ)))
set_option maxRecDepth 20000 in
theorem gn_En_isBroken (a0 : Int32) (σ : tw_S) : tw_le (g_En_isBroken a0 σ) (fn_En_isBroken [.inl a0] σ) := by
  unfold g_En_isBroken
  exact tw_le_fl rfl (tw_le_it (fun _ => tw_le_rf) (fun _ => (tw_le_it (fun _ => tw_le_rf) (fun _ => tw_le_rf))))
def g_En_isLeaf (a0 : Int32) (σ : tw_S) : Option tw_R := if (a0 &&& (10 : Int32)) = (0 : Int32) then (some (some (.inl (0 : Int32)), σ)) else (some (some (.inl (1 : Int32)), σ))
set_option maxRecDepth 20000 in
theorem gn_En_isLeaf (a0 : Int32) (σ : tw_S) : tw_le (g_En_isLeaf a0 σ) (fn_En_isLeaf [.inl a0] σ) := by
  unfold g_En_isLeaf
  exact tw_le_fl rfl (tw_le_it (fun _ => tw_le_rf) (fun _ => tw_le_rf))
def g_En_pageNumber (a0 : Int32) (σ : tw_S) : Option tw_R := some (some (.inl ((a0 >>> ((8 : Int32) &&& 31)) &&& (15 : Int32))), σ)
set_option maxRecDepth 20000 in
theorem gn_En_pageNumber (a0 : Int32) (σ : tw_S) : tw_le (g_En_pageNumber a0 σ) (fn_En_pageNumber [.inl a0] σ) := by
  unfold g_En_pageNumber
  exact tw_le_fl rfl tw_le_rf
def g_Gu_changed (a0 : Int32) (a1 : Int32) (a2 : Int32) (σ : tw_S) : Option tw_R := if a0 = (20 : Int32) then (some (some (.inl (a1 ||| a2)), σ)) else (if a0 = (21 : Int32) then (some (some (.inl (a1 &&& (a2 ^^^ (-1 : Int32)))), σ)) else (some (some (.inl a2), σ)))
set_option maxRecDepth 20000 in
theorem gn_Gu_changed (a0 : Int32) (a1 : Int32) (a2 : Int32) (σ : tw_S) : tw_le (g_Gu_changed a0 a1 a2 σ) (fn_Gu_changed [.inl a0, .inl a1, .inl a2] σ) := by
  unfold g_Gu_changed
  exact tw_le_fl rfl (tw_le_it (fun _ => tw_le_rf) (fun _ => (tw_le_it (fun _ => tw_le_rf) (fun _ => tw_le_rf))))
def g_Gu_compute (a0 : Int32) (a1 : Int32) (a2 : Int32) (a3 : Int32) (σ : tw_S) : Option tw_R := if a0 = (0 : Int32) then (some (some (.inl (a1 + a3)), σ)) else (if a0 = (1 : Int32) then (some (some (.inl (a1 + a2)), σ)) else (if a0 = (2 : Int32) then (some (some (.inl (a1 - a2)), σ)) else (if a0 = (3 : Int32) then (some (some (.inl (a1 &&& a2)), σ)) else (if a0 = (4 : Int32) then (some (some (.inl (a1 ||| a2)), σ)) else (if a0 = (5 : Int32) then (some (some (.inl (a1 ^^^ a2)), σ)) else (if a0 = (6 : Int32) then (if a2 ≤ a1 then (some (some (.inl (0 : Int32)), σ)) else (some (some (.inl (1 : Int32)), σ))) else (if a0 = (7 : Int32) then (some (some (.inl (a1 <<< ((a2 &&& (31 : Int32)) &&& 31))), σ)) else (if a0 = (8 : Int32) then (some (some (.inl (a1 >>> ((a2 &&& (31 : Int32)) &&& 31))), σ)) else (some (some (.inl (a3 <<< ((16 : Int32) &&& 31))), σ))))))))))
set_option maxRecDepth 20000 in
theorem gn_Gu_compute (a0 : Int32) (a1 : Int32) (a2 : Int32) (a3 : Int32) (σ : tw_S) : tw_le (g_Gu_compute a0 a1 a2 a3 σ) (fn_Gu_compute [.inl a0, .inl a1, .inl a2, .inl a3] σ) := by
  unfold g_Gu_compute
  exact tw_le_fl rfl (tw_le_it (fun _ => tw_le_rf) (fun _ => (tw_le_it (fun _ => tw_le_rf) (fun _ => (tw_le_it (fun _ => tw_le_rf) (fun _ => (tw_le_it (fun _ => tw_le_rf) (fun _ => (tw_le_it (fun _ => tw_le_rf) (fun _ => (tw_le_it (fun _ => tw_le_rf) (fun _ => (tw_le_it (fun _ => (tw_le_it (fun _ => tw_le_rf) (fun _ => tw_le_rf))) (fun _ => (tw_le_it (fun _ => tw_le_rf) (fun _ => (tw_le_it (fun _ => tw_le_rf) (fun _ => tw_le_rf))))))))))))))))))
def g_Gu_retireAt (g : Bool) (a0 : Int32) (σ : tw_S) : Option tw_R := some (some (.inr (false, 60)), (tw_pt (tw_pt σ g 5 10 ((σ g 5 10) + (1 : Int32))) g 0 6 a0))
set_option maxRecDepth 20000 in
theorem gn_Gu_retireAt (g : Bool) (a0 : Int32) (σ : tw_S) : tw_le (g_Gu_retireAt g a0 σ) (fn_Gu_retireAt [.inr (g, 0), .inl a0] σ) := by
  unfold g_Gu_retireAt
  exact tw_le_fl rfl tw_le_rf
def g_Gu_setRegister (g : Bool) (a0 : Int32) (a1 : Int32) (σ : tw_S) : Option tw_R := if a0 = (0 : Int32) then (some (none, σ)) else (if tw_out a0 8 then none else (some (none, (tw_pt σ g 2 a0.toNatClampNeg a1))))
set_option maxRecDepth 20000 in
theorem gn_Gu_setRegister (g : Bool) (a0 : Int32) (a1 : Int32) (σ : tw_S) : tw_le (g_Gu_setRegister g a0 a1 σ) (fn_Gu_setRegister [.inr (g, 0), .inl a0, .inl a1] σ) := by
  unfold g_Gu_setRegister
  exact tw_le_fl rfl (tw_le_it (fun _ => tw_le_rf) (fun _ => (tw_le_it (fun _ => tw_le_no) (fun _ => tw_le_rf))))
def g_In_append (g : Bool) (a0 : Int32) (a1 : Int32) (σ : tw_S) : Option tw_R := if (σ g 6 2) < (6 : Int32) then (if tw_out (σ g 6 2) 6 then none else (some (some (.inl (1 : Int32)), (tw_pt (tw_pt (tw_pt σ g 7 (σ g 6 2).toNatClampNeg a0) g 8 (σ g 6 2).toNatClampNeg a1) g 6 2 ((σ g 6 2) + (1 : Int32)))))) else (some (some (.inl (0 : Int32)), σ))
set_option maxRecDepth 20000 in
theorem gn_In_append (g : Bool) (a0 : Int32) (a1 : Int32) (σ : tw_S) : tw_le (g_In_append g a0 a1 σ) (fn_In_append [.inr (g, 6), .inl a0, .inl a1] σ) := by
  unfold g_In_append
  exact tw_le_fl rfl (tw_le_it (fun _ => (tw_le_it (fun _ => tw_le_no) (fun h2 => (tw_le_ng h2 tw_le_rf)))) (fun _ => tw_le_rf))
def g_In_isThere (g : Bool) (a0 : Int32) (σ : tw_S) : Option tw_R := if (σ g 6 2) ≤ (0 : Int32) then (some (some (.inl (0 : Int32)), σ)) else (if a0 < (σ g 7 0) then (some (some (.inl (0 : Int32)), σ)) else (some (some (.inl (1 : Int32)), σ)))
set_option maxRecDepth 20000 in
theorem gn_In_isThere (g : Bool) (a0 : Int32) (σ : tw_S) : tw_le (g_In_isThere g a0 σ) (fn_In_isThere [.inr (g, 6), .inl a0] σ) := by
  unfold g_In_isThere
  exact tw_le_fl rfl (tw_le_it (fun _ => tw_le_rf) (fun _ => (tw_le_it (fun _ => tw_le_rf) (fun _ => tw_le_rf))))
def l_In_removeFirst : Nat → Bool → Int32 → tw_S → Option tw_R
  | 0, _, _, _ => none
  | k + 1, g, b0, σ => if (σ g 6 2) ≤ b0 then (some (none, σ)) else (if tw_out (b0 + (1 : Int32)) 6 then none else (if tw_out b0 6 then none else (l_In_removeFirst k g (b0 + (1 : Int32)) (tw_pt (tw_pt σ g 7 b0.toNatClampNeg (σ g 7 (b0 + (1 : Int32)).toNatClampNeg)) g 8 b0.toNatClampNeg (σ g 8 (b0 + (1 : Int32)).toNatClampNeg)))))
set_option maxRecDepth 20000 in
set_option maxHeartbeats 1000000 in
theorem lq_In_removeFirst : ∀ (k n : Nat), k * 27 ≤ n → ∀ (g : Bool) (b0 : Int32) (σ : tw_S), tw_le (l_In_removeFirst k g b0 σ) (tw_run pr_In_removeFirst n (tw_seek 20 pr_In_removeFirst) [some (.inr (g, 6)), some (.inl b0)] [] σ)
  | 0, _, _, _, _, _ => tw_le_no
  | k + 1, n, hn, g, b0, σ => by
    obtain ⟨m, rfl⟩ : ∃ m, n = m + 27 := ⟨n - 27, by omega⟩
    have hm : k * 27 ≤ m := by omega
    unfold l_In_removeFirst
    exact (tw_le_it (fun _ => tw_le_rf) (fun _ => (tw_le_it (fun _ => tw_le_no) (fun h2 => (tw_le_it (fun _ => tw_le_no) (fun h3 => (tw_le_ng h2 (tw_le_ng h3 (lq_In_removeFirst k (m + 1) (Nat.le_trans hm (Nat.le_add_right m 1)) g (b0 + (1 : Int32))  (tw_pt (tw_pt σ g 7 b0.toNatClampNeg (σ g 7 (b0 + (1 : Int32)).toNatClampNeg)) g 8 b0.toNatClampNeg (σ g 8 (b0 + (1 : Int32)).toNatClampNeg)))))))))))
def g_In_removeFirst (g : Bool) (σ : tw_S) : Option tw_R := if (σ g 6 2) = (0 : Int32) then (some (none, σ)) else (l_In_removeFirst 7 g (0 : Int32) (tw_pt σ g 6 2 ((σ g 6 2) - (1 : Int32))))
set_option maxRecDepth 20000 in
theorem gp_In_removeFirst (n : Nat) (hn : 7 * 27 ≤ n) (g : Bool) (σ : tw_S) : tw_le (g_In_removeFirst g σ) (tw_run pr_In_removeFirst (n + 11) pr_In_removeFirst (tw_args 2 [.inr (g, 6)]) [] σ) := by
  unfold g_In_removeFirst
  exact (tw_le_it (fun _ => tw_le_rf) (fun _ => (lq_In_removeFirst 7 (n + 0) (Nat.le_trans hn (Nat.le_add_right n 0)) g (0 : Int32)  (tw_pt σ g 6 2 ((σ g 6 2) - (1 : Int32))))))
theorem gn_In_removeFirst (g : Bool) (σ : tw_S) : tw_le (g_In_removeFirst g σ) (fn_In_removeFirst [.inr (g, 6)] σ)   := tw_le_fl rfl (gp_In_removeFirst 389 (by decide) g σ)
def l_Sh_clear : Nat → Bool → Int32 → tw_S → Option tw_R
  | 0, _, _, _ => none
  | k + 1, g, b0, σ => if (16 : Int32) ≤ b0 then (some (none, σ)) else (if tw_out b0 16 then none else (l_Sh_clear k g (b0 + (1 : Int32)) (tw_pt σ g 10 b0.toNatClampNeg (-1 : Int32))))
set_option maxRecDepth 20000 in
set_option maxHeartbeats 1000000 in
theorem lq_Sh_clear : ∀ (k n : Nat), k * 11 ≤ n → ∀ (g : Bool) (b0 : Int32) (σ : tw_S), tw_le (l_Sh_clear k g b0 σ) (tw_run pr_Sh_clear n (tw_seek 2 pr_Sh_clear) [some (.inr (g, 9)), some (.inl b0)] [] σ)
  | 0, _, _, _, _, _ => tw_le_no
  | k + 1, n, hn, g, b0, σ => by
    obtain ⟨m, rfl⟩ : ∃ m, n = m + 11 := ⟨n - 11, by omega⟩
    have hm : k * 11 ≤ m := by omega
    unfold l_Sh_clear
    exact (tw_le_it (fun _ => tw_le_rf) (fun _ => (tw_le_it (fun _ => tw_le_no) (fun _ => (lq_Sh_clear k (m + 1) (Nat.le_trans hm (Nat.le_add_right m 1)) g (b0 + (1 : Int32))  (tw_pt σ g 10 b0.toNatClampNeg (-1 : Int32)))))))
def g_Sh_clear (g : Bool) (σ : tw_S) : Option tw_R := l_Sh_clear 17 g (0 : Int32) σ
set_option maxRecDepth 20000 in
theorem gp_Sh_clear (n : Nat) (hn : 17 * 11 ≤ n) (g : Bool) (σ : tw_S) : tw_le (g_Sh_clear g σ) (tw_run pr_Sh_clear (n + 2) pr_Sh_clear (tw_args 2 [.inr (g, 9)]) [] σ) := by
  unfold g_Sh_clear
  exact (lq_Sh_clear 17 (n + 0) (Nat.le_trans hn (Nat.le_add_right n 0)) g (0 : Int32)  σ)
theorem gn_Sh_clear (g : Bool) (σ : tw_S) : tw_le (g_Sh_clear g σ) (fn_Sh_clear [.inr (g, 9)] σ)   := tw_le_fl rfl (gp_Sh_clear 398 (by decide) g σ)
def g_Sh_describe (g : Bool) (a0 : Int32) (σ : tw_S) : Option tw_R := if tw_out a0 16 then none else (if (σ g 10 a0.toNatClampNeg) = (-1 : Int32) then (some (some (.inl (-1 : Int32)), σ)) else (if ((σ g 11 a0.toNatClampNeg) &&& (64 : Int32)) = (0 : Int32) then (some (some (.inl (((σ g 10 a0.toNatClampNeg) + ((8 : Int32) * ((σ g 11 a0.toNatClampNeg) &&& (-65 : Int32)))) + (0 : Int32))), σ)) else (some (some (.inl (((σ g 10 a0.toNatClampNeg) + ((8 : Int32) * ((σ g 11 a0.toNatClampNeg) &&& (-65 : Int32)))) + (512 : Int32))), σ))))
set_option maxRecDepth 20000 in
theorem gn_Sh_describe (g : Bool) (a0 : Int32) (σ : tw_S) : tw_le (g_Sh_describe g a0 σ) (fn_Sh_describe [.inr (g, 9), .inl a0] σ) := by
  unfold g_Sh_describe
  exact tw_le_fl rfl (tw_le_it (fun _ => tw_le_no) (fun h1 => (tw_le_it (fun _ => tw_le_rf) (fun _ => (tw_le_ng h1 (tw_le_ng h1 (tw_le_ng h1 (tw_le_it (fun _ => tw_le_rf) (fun _ => tw_le_rf)))))))))
def l_Sh_dropThoseOf : Nat → Bool → Int32 → Int32 → Int32 → tw_S → Option tw_R
  | 0, _, _, _, _, _ => none
  | k + 1, g, b0, b1, b2, σ => if (16 : Int32) ≤ b2 then (some (some (.inl b1), σ)) else (if tw_out b2 16 then none else (if (σ g 10 b2.toNatClampNeg) = (-1 : Int32) then (l_Sh_dropThoseOf k g b0 b1 (b2 + (1 : Int32)) σ) else (if (σ g 12 b2.toNatClampNeg) = b0 then (l_Sh_dropThoseOf k g b0 (b1 + (1 : Int32)) (b2 + (1 : Int32)) (tw_pt σ g 10 b2.toNatClampNeg (-1 : Int32))) else (if (σ g 13 b2.toNatClampNeg) = b0 then (l_Sh_dropThoseOf k g b0 (b1 + (1 : Int32)) (b2 + (1 : Int32)) (tw_pt σ g 10 b2.toNatClampNeg (-1 : Int32))) else (l_Sh_dropThoseOf k g b0 b1 (b2 + (1 : Int32)) σ)))))
set_option maxRecDepth 20000 in
set_option maxHeartbeats 1000000 in
theorem lq_Sh_dropThoseOf : ∀ (k n : Nat), k * 30 ≤ n → ∀ (g : Bool) (b0 b1 b2 : Int32) (σ : tw_S), tw_le (l_Sh_dropThoseOf k g b0 b1 b2 σ) (tw_run pr_Sh_dropThoseOf n (tw_seek 4 pr_Sh_dropThoseOf) [some (.inr (g, 9)), some (.inl b0), some (.inl b1), some (.inl b2)] [] σ)
  | 0, _, _, _, _, _, _, _ => tw_le_no
  | k + 1, n, hn, g, b0, b1, b2, σ => by
    obtain ⟨m, rfl⟩ : ∃ m, n = m + 30 := ⟨n - 30, by omega⟩
    have hm : k * 30 ≤ m := by omega
    unfold l_Sh_dropThoseOf
    exact (tw_le_it (fun _ => tw_le_rf) (fun _ => (tw_le_it (fun _ => tw_le_no) (fun h2 => (tw_le_it (fun _ => (lq_Sh_dropThoseOf k (m + 19) (Nat.le_trans hm (Nat.le_add_right m 19)) g b0 b1 (b2 + (1 : Int32))  σ)) (fun _ => (tw_le_ng h2 (tw_le_it (fun _ => (tw_le_ng h2 (lq_Sh_dropThoseOf k (m + 7) (Nat.le_trans hm (Nat.le_add_right m 7)) g b0 (b1 + (1 : Int32)) (b2 + (1 : Int32))  (tw_pt σ g 10 b2.toNatClampNeg (-1 : Int32))))) (fun _ => (tw_le_ng h2 (tw_le_it (fun _ => (tw_le_ng h2 (lq_Sh_dropThoseOf k (m + 1) (Nat.le_trans hm (Nat.le_add_right m 1)) g b0 (b1 + (1 : Int32)) (b2 + (1 : Int32))  (tw_pt σ g 10 b2.toNatClampNeg (-1 : Int32))))) (fun _ => (lq_Sh_dropThoseOf k (m + 7) (Nat.le_trans hm (Nat.le_add_right m 7)) g b0 b1 (b2 + (1 : Int32))  σ)))))))))))))
def g_Sh_dropThoseOf (g : Bool) (a0 : Int32) (σ : tw_S) : Option tw_R := l_Sh_dropThoseOf 17 g a0 (0 : Int32) (0 : Int32) σ
set_option maxRecDepth 20000 in
theorem gp_Sh_dropThoseOf (n : Nat) (hn : 17 * 30 ≤ n) (g : Bool) (a0 : Int32) (σ : tw_S) : tw_le (g_Sh_dropThoseOf g a0 σ) (tw_run pr_Sh_dropThoseOf (n + 4) pr_Sh_dropThoseOf (tw_args 4 [.inr (g, 9), .inl a0]) [] σ) := by
  unfold g_Sh_dropThoseOf
  exact (lq_Sh_dropThoseOf 17 (n + 0) (Nat.le_trans hn (Nat.le_add_right n 0)) g a0 (0 : Int32) (0 : Int32)  σ)
theorem gn_Sh_dropThoseOf (g : Bool) (a0 : Int32) (σ : tw_S) : tw_le (g_Sh_dropThoseOf g a0 σ) (fn_Sh_dropThoseOf [.inr (g, 9), .inl a0] σ)   := tw_le_fl rfl (gp_Sh_dropThoseOf 1196 (by decide) g a0 σ)
def g_Sh_isIn (a0 : Int32) (a1 : Int32) (σ : tw_S) : Option tw_R := if a0 = (-1 : Int32) then (some (some (.inl (0 : Int32)), σ)) else (if (a0 >>> ((4 : Int32) &&& 31)) = a1 then (some (some (.inl (1 : Int32)), σ)) else (some (some (.inl (0 : Int32)), σ)))
set_option maxRecDepth 20000 in
theorem gn_Sh_isIn (a0 : Int32) (a1 : Int32) (σ : tw_S) : tw_le (g_Sh_isIn a0 a1 σ) (fn_Sh_isIn [.inl a0, .inl a1] σ) := by
  unfold g_Sh_isIn
  exact tw_le_fl rfl (tw_le_it (fun _ => tw_le_rf) (fun _ => (tw_le_it (fun _ => tw_le_rf) (fun _ => tw_le_rf))))
def g_Sh_put (g : Bool) (a0 : Int32) (a1 : Int32) (σ : tw_S) : Option tw_R := if tw_out a0 16 then none else (some (none, (tw_pt (tw_pt (tw_pt (tw_pt σ g 10 a0.toNatClampNeg (σ g 14 3)) g 11 a0.toNatClampNeg (a1 &&& (94 : Int32))) g 12 a0.toNatClampNeg (σ g 14 0)) g 13 a0.toNatClampNeg (σ g 14 1))))
set_option maxRecDepth 20000 in
theorem gn_Sh_put (g : Bool) (a0 : Int32) (a1 : Int32) (σ : tw_S) : tw_le (g_Sh_put g a0 a1 σ) (fn_Sh_put [.inr (g, 9), .inl a0, .inl a1, .inr (g, 14)] σ) := by
  unfold g_Sh_put
  exact tw_le_fl rfl (tw_le_it (fun _ => tw_le_no) (fun h1 => (tw_le_ng h1 (tw_le_ng h1 (tw_le_ng h1 tw_le_rf)))))
def g_TH_isGuest (a0 : Int32) (σ : tw_S) : Option tw_R := if a0 < (0 : Int32) then (some (some (.inl (0 : Int32)), σ)) else (if (2 : Int32) ≤ a0 then (some (some (.inl (0 : Int32)), σ)) else (some (some (.inl (1 : Int32)), σ)))
set_option maxRecDepth 20000 in
theorem gn_TH_isGuest (a0 : Int32) (σ : tw_S) : tw_le (g_TH_isGuest a0 σ) (fn_TH_isGuest [.inl a0] σ) := by
  unfold g_TH_isGuest
  exact tw_le_fl rfl (tw_le_it (fun _ => tw_le_rf) (fun _ => (tw_le_it (fun _ => tw_le_rf) (fun _ => tw_le_rf))))
def g_TH_isRegister (a0 : Int32) (σ : tw_S) : Option tw_R := if a0 < (0 : Int32) then (some (some (.inl (0 : Int32)), σ)) else (if (8 : Int32) ≤ a0 then (some (some (.inl (0 : Int32)), σ)) else (some (some (.inl (1 : Int32)), σ)))
set_option maxRecDepth 20000 in
theorem gn_TH_isRegister (a0 : Int32) (σ : tw_S) : tw_le (g_TH_isRegister a0 σ) (fn_TH_isRegister [.inl a0] σ) := by
  unfold g_TH_isRegister
  exact tw_le_fl rfl (tw_le_it (fun _ => tw_le_rf) (fun _ => (tw_le_it (fun _ => tw_le_rf) (fun _ => tw_le_rf))))
def g_TH_isWord (a0 : Int32) (σ : tw_S) : Option tw_R := if a0 < (0 : Int32) then (some (some (.inl (0 : Int32)), σ)) else (if (128 : Int32) ≤ a0 then (some (some (.inl (0 : Int32)), σ)) else (some (some (.inl (1 : Int32)), σ)))
set_option maxRecDepth 20000 in
theorem gn_TH_isWord (a0 : Int32) (σ : tw_S) : tw_le (g_TH_isWord a0 σ) (fn_TH_isWord [.inl a0] σ) := by
  unfold g_TH_isWord
  exact tw_le_fl rfl (tw_le_it (fun _ => tw_le_rf) (fun _ => (tw_le_it (fun _ => tw_le_rf) (fun _ => tw_le_rf))))
def g_TH_passTurnAfter_R (σ : tw_S) : Option tw_R := if (σ false 20 1) ≤ ((σ false 20 3) + (1 : Int32)) then (if tw_out (σ false 20 2) 2 then none else (some (none, (tw_pt (tw_pt (tw_pt (tw_pt σ false 20 3 ((σ false 20 3) + (1 : Int32))) ((σ false 20 2).toNatClampNeg == 1) 3 7 ((σ ((σ false 20 2).toNatClampNeg == 1) 3 7) + (1 : Int32))) false 20 2 ((1 : Int32) - (σ false 20 2))) false 20 3 (0 : Int32))))) else (some (none, (tw_pt σ false 20 3 ((σ false 20 3) + (1 : Int32)))))
set_option maxRecDepth 20000 in
theorem gn_TH_passTurnAfter_R (σ : tw_S) : tw_le (g_TH_passTurnAfter_R σ) (fn_TH_passTurnAfter [.inr (false, 20), .inr (false, 60)] σ) := by
  unfold g_TH_passTurnAfter_R
  exact tw_le_fl rfl (tw_le_it (fun _ => (tw_le_it (fun _ => tw_le_no) (fun _ => tw_le_rf))) (fun _ => tw_le_rf))
def g_TH_passTurnAfter_T (σ : tw_S) : Option tw_R := if (σ false 20 1) ≤ ((σ false 20 3) + (1 : Int32)) then (if tw_out (σ false 20 2) 2 then none else (some (none, (tw_pt (tw_pt (tw_pt (tw_pt σ false 20 3 ((σ false 20 3) + (1 : Int32))) ((σ false 20 2).toNatClampNeg == 1) 3 7 ((σ ((σ false 20 2).toNatClampNeg == 1) 3 7) + (1 : Int32))) false 20 2 ((1 : Int32) - (σ false 20 2))) false 20 3 (0 : Int32))))) else (some (none, (tw_pt σ false 20 3 ((σ false 20 3) + (1 : Int32)))))
set_option maxRecDepth 20000 in
theorem gn_TH_passTurnAfter_T (σ : tw_S) : tw_le (g_TH_passTurnAfter_T σ) (fn_TH_passTurnAfter [.inr (false, 20), .inr (false, 61)] σ) := by
  unfold g_TH_passTurnAfter_T
  exact tw_le_fl rfl (tw_le_it (fun _ => (tw_le_it (fun _ => tw_le_no) (fun _ => tw_le_rf))) (fun _ => tw_le_rf))
def g_TH_passTurnAfter_W (σ : tw_S) : Option tw_R := if (σ false 20 1) ≤ ((σ false 20 3) + (1 : Int32)) then (if tw_out (σ false 20 2) 2 then none else (some (none, (tw_pt (tw_pt (tw_pt (tw_pt σ false 20 3 ((σ false 20 3) + (1 : Int32))) ((σ false 20 2).toNatClampNeg == 1) 3 7 ((σ ((σ false 20 2).toNatClampNeg == 1) 3 7) + (1 : Int32))) false 20 2 ((1 : Int32) - (σ false 20 2))) false 20 3 (0 : Int32))))) else (if tw_out (σ false 20 2) 2 then none else (some (none, (tw_pt (tw_pt (tw_pt (tw_pt σ false 20 3 ((σ false 20 3) + (1 : Int32))) ((σ false 20 2).toNatClampNeg == 1) 3 7 ((σ ((σ false 20 2).toNatClampNeg == 1) 3 7) + (1 : Int32))) false 20 2 ((1 : Int32) - (σ false 20 2))) false 20 3 (0 : Int32)))))
set_option maxRecDepth 20000 in
theorem gn_TH_passTurnAfter_W (σ : tw_S) : tw_le (g_TH_passTurnAfter_W σ) (fn_TH_passTurnAfter [.inr (false, 20), .inr (false, 62)] σ) := by
  unfold g_TH_passTurnAfter_W
  exact tw_le_fl rfl (tw_le_it (fun _ => (tw_le_it (fun _ => tw_le_no) (fun _ => tw_le_rf))) (fun _ => (tw_le_it (fun _ => tw_le_no) (fun _ => tw_le_rf))))
def g_TH_turn (σ : tw_S) : Option tw_R := some (some (.inl (σ false 20 2)), σ)
set_option maxRecDepth 20000 in
theorem gn_TH_turn (σ : tw_S) : tw_le (g_TH_turn σ) (fn_TH_turn [.inr (false, 20)] σ) := by
  unfold g_TH_turn
  exact tw_le_fl rfl tw_le_rf
