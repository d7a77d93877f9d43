def l_TH_run : Nat → Int32 → Int32 → Int32 → tw_S → Option tw_R
  | 0, _, _, _, _ => none
  | k + 1, b0, b1, b2, σ => if b0 ≤ b2 then (some (some (.inl b1), σ)) else (if tw_out (σ false 20 2) 2 then none else (tw_bo (g_Gu_step ((σ false 20 2).toNatClampNeg == 1) σ) (fun σ1 => tw_bv (g_TH_passTurnAfter_R σ1) (fun σ2 => l_TH_run k b0 (b1 + (1 : Int32)) (b2 + (1 : Int32)) σ2)) (fun σ1 => tw_bv (g_TH_passTurnAfter_T σ1) (fun σ3 => l_TH_run k b0 b1 (b2 + (1 : Int32)) σ3)) (fun σ1 => tw_bv (g_TH_passTurnAfter_W σ1) (fun σ4 => l_TH_run k b0 b1 (b2 + (1 : Int32)) σ4))))
set_option maxRecDepth 20000 in
set_option maxHeartbeats 1000000 in
theorem lq_TH_run : ∀ (k n : Nat), k * 20 ≤ n → ∀ (b0 b1 b2 : Int32) (o0 : Option tw_V) (σ : tw_S), tw_le (l_TH_run k b0 b1 b2 σ) (tw_run pr_TH_run n (tw_seek 17 pr_TH_run) [some (.inr (false, 20)), some (.inl b0), some (.inl b1), some (.inl b2), o0] [] σ)
  | 0, _, _, _, _, _, _, _ => tw_le_no
  | k + 1, n, hn, b0, b1, b2, o0, σ => by
    obtain ⟨m, rfl⟩ : ∃ m, n = m + 20 := ⟨n - 20, by omega⟩
    have hm : k * 20 ≤ m := by omega
    unfold l_TH_run
    exact (tw_le_it (fun _ => tw_le_rf) (fun _ => (tw_le_it (fun _ => tw_le_no) (fun _ => (tw_le_bo (gn_Gu_step ((σ false 20 2).toNatClampNeg == 1) σ) (fun σ1 => (tw_le_bv (gn_TH_passTurnAfter_R σ1) (fun σ2 => (lq_TH_run k (m + 1) (Nat.le_trans hm (Nat.le_add_right m 1)) b0 (b1 + (1 : Int32)) (b2 + (1 : Int32)) _ σ2)))) (fun σ1 => (tw_le_bv (gn_TH_passTurnAfter_T σ1) (fun σ3 => (lq_TH_run k (m + 2) (Nat.le_trans hm (Nat.le_add_right m 2)) b0 b1 (b2 + (1 : Int32)) _ σ3)))) (fun σ1 => (tw_le_bv (gn_TH_passTurnAfter_W σ1) (fun σ4 => (lq_TH_run k (m + 2) (Nat.le_trans hm (Nat.le_add_right m 2)) b0 b1 (b2 + (1 : Int32)) _ σ4)))))))))
def g_TH_run (a0 : Int32) (σ : tw_S) : Option tw_R := if a0 < (1 : Int32) then (some (some (.inl (-1 : Int32)), σ)) else (if a0 ≤ (64 : Int32) then (l_TH_run 65 a0 (0 : Int32) (0 : Int32) σ) else (some (some (.inl (-1 : Int32)), σ)))
set_option maxRecDepth 20000 in
theorem gp_TH_run (n : Nat) (hn : 65 * 20 ≤ n) (a0 : Int32) (σ : tw_S) : tw_le (g_TH_run a0 σ) (tw_run pr_TH_run (n + 10) pr_TH_run (tw_args 5 [.inr (false, 20), .inl a0]) [] σ) := by
  unfold g_TH_run
  exact (tw_le_it (fun _ => tw_le_rf) (fun _ => (tw_le_it (fun _ => (lq_TH_run 65 (n + 0) (Nat.le_trans hn (Nat.le_add_right n 0)) a0 (0 : Int32) (0 : Int32) _ σ)) (fun _ => tw_le_rf))))
theorem gn_TH_run (a0 : Int32) (σ : tw_S) : tw_le (g_TH_run a0 σ) (fn_TH_run [.inr (false, 20), .inl a0] σ)   := tw_le_fl rfl (gp_TH_run 3990 (by decide) a0 σ)
