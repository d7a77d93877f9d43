/-! Both sides in one state. -/
theorem tw_back_lo : ∀ k, k < 22 → (tw_back k).2.2.1 = 0 := by decide
theorem tw_back_c (k : Nat) : (tw_back k).1 ≤ 13 := by
  unfold tw_back
  split <;> decide
theorem tw_m_hi {g : Bool} {c j : Nat} {q : Nat × Nat} (h : tw_m g c j = some q) : tw_Pm q.1 = true ∧ tw_Pc2 c = true := by
  obtain ⟨a1, a2, a3, a4, a5⟩ := tw_m_spec h
  constructor
  · by_cases e : 22 ≤ q.1
    · exact Nat.ble_eq_true_of_le e
    · have := tw_back_lo q.1 (by omega)
      omega
  · have h1 := tw_back_c q.1
    rw [a1] at h1
    have h1 : c ≤ 13 := h1
    exact Nat.blt_eq.mpr (by omega)
theorem tw_P2_lo {c j : Nat} (h : tw_P2 c j = true) : tw_Pc2 c = true := by
  by_cases e : c < 22
  · exact Nat.blt_eq.mpr e
  · unfold tw_P2 at h
    rw [tw_bne (a := c) (b := 0) (by omega), tw_bne (a := c) (b := 6) (by omega), tw_bne (a := c) (b := 7) (by omega), tw_bne (a := c) (b := 8) (by omega), tw_bne (a := c) (b := 11) (by omega), tw_bne (a := c) (b := 3) (by omega)] at h
    exact absurd h Bool.false_ne_true
theorem tw_M2_hi {c j : Nat} (h : tw_M2 c j = true) : tw_Pm c = true := by
  by_cases e : 22 ≤ c
  · exact Nat.ble_eq_true_of_le e
  · unfold tw_M2 at h
    rw [tw_bne (a := c) (b := 29) (by omega), tw_bne (a := c) (b := 30) (by omega), tw_bne (a := c) (b := 33) (by omega), tw_bne (a := c) (b := 34) (by omega), tw_bne (a := c) (b := 31) (by omega)] at h
    exact absurd h Bool.false_ne_true
theorem tw_Inv_m {σc σm τ : tw_S} (h : tw_Inv σc σm) (hτ : ∀ g c j, tw_Pm c = true → τ g c j = σm g c j) : tw_Inv σc τ := by
  obtain ⟨q, hh, r, ⟨h1, h2, h3⟩, h01, hC⟩ := h
  refine ⟨q, hh, r, ⟨fun g c j z hz => ?_, fun g => tw_R2_on (h2 g) (fun _ _ _ => rfl) (fun c j hp => hτ false c j (tw_M2_hi hp)), ?_⟩, h01, hC⟩
  · rw [hτ false z.1 z.2 (tw_m_hi hz).1]
    exact h1 g c j z hz
  · unfold tw_R3
    rw [hτ false 22 0 rfl, hτ false 22 1 rfl, hτ false 22 2 rfl]
    exact h3
theorem tw_Inv_c {σc σm τ : tw_S} (h : tw_Inv σc σm) (hτ : ∀ g c j, tw_Pc2 c = true → τ g c j = σc g c j) : tw_Inv τ σm := by
  obtain ⟨q, hh, r, ⟨h1, h2, h3⟩, h01, hC⟩ := h
  refine ⟨q, hh, r, ⟨fun g c j z hz => ?_, fun g => tw_R2_on (h2 g) (fun c j hp => hτ g c j (tw_P2_lo hp)) (fun _ _ _ => rfl), ?_⟩, h01, fun g => tw_Coh_on (hC g) (hτ g 5 6 rfl) (fun i _ => Or.inl (hτ g 1 i rfl)) (fun v _ => ⟨hτ g 10 v rfl, hτ g 11 v rfl, hτ g 12 v rfl, hτ g 13 v rfl⟩)⟩
  · rw [hτ g c j (tw_m_hi hz).2]
    exact h1 g c j z hz
  · unfold tw_R3
    rw [hτ false 20 1 rfl, hτ false 20 2 rfl, hτ false 20 3 rfl]
    exact h3
/-- a call of the class and then of the reference -/
theorem tw_one {fc fm : tw_Fn} {va vb : List tw_V} (hfc : tw_FF tw_Pm fc) (hfm : tw_FF tw_Pc2 fm) (ht : ∀ {σc σm : tw_S}, tw_Inv σc σm → tw_CP (fc va σc) (fm vb σm)) {σ : tw_S} (h : tw_Inv σ σ) : ∃ (x : Int32) (σ1 σ2 : tw_S), fc va σ = some (some (.inl x), σ1) ∧ fm vb σ1 = some (some (.inl x), σ2) ∧ tw_Inv σ2 σ2 := by
  obtain ⟨x, τ, -, e1, -, -⟩ := ht h
  have h' : tw_Inv σ τ := tw_Inv_m h (hfc _ _ _ e1)
  obtain ⟨y, τ', μ, e2, e3, h2⟩ := ht h'
  rw [e1] at e2
  cases e2
  exact ⟨x, τ, μ, e1, e3, tw_Inv_c h2 (hfm _ _ _ e3)⟩
theorem tw_one_peek {σ : tw_S} (h : tw_Inv σ σ) (a0 a1 : Int32) : ∃ (x : Int32) (σ1 σ2 : tw_S), fn_TH_peek [.inr (false, 20), .inl a0, .inl a1] σ = some (some (.inl x), σ1) ∧ fn_Mo_peek [.inr (false, 22), .inl a0, .inl a1] σ1 = some (some (.inl x), σ2) ∧ tw_Inv σ2 σ2 := tw_one ff_TH_peek ff_Mo_peek (fun h => tw_t_peek h a0 a1) h
theorem tw_one_poke {σ : tw_S} (h : tw_Inv σ σ) (a0 a1 a2 : Int32) : ∃ (x : Int32) (σ1 σ2 : tw_S), fn_TH_poke [.inr (false, 20), .inl a0, .inl a1, .inl a2] σ = some (some (.inl x), σ1) ∧ fn_Mo_poke [.inr (false, 22), .inl a0, .inl a1, .inl a2] σ1 = some (some (.inl x), σ2) ∧ tw_Inv σ2 σ2 := tw_one ff_TH_poke ff_Mo_poke (fun h => tw_t_poke h a0 a1 a2) h
theorem tw_one_register {σ : tw_S} (h : tw_Inv σ σ) (a0 a1 : Int32) : ∃ (x : Int32) (σ1 σ2 : tw_S), fn_TH_register [.inr (false, 20), .inl a0, .inl a1] σ = some (some (.inl x), σ1) ∧ fn_Mo_register [.inr (false, 22), .inl a0, .inl a1] σ1 = some (some (.inl x), σ2) ∧ tw_Inv σ2 σ2 := tw_one ff_TH_register ff_Mo_register (fun h => tw_t_register h a0 a1) h
theorem tw_one_give {σ : tw_S} (h : tw_Inv σ σ) (a0 a1 a2 : Int32) : ∃ (x : Int32) (σ1 σ2 : tw_S), fn_TH_give [.inr (false, 20), .inl a0, .inl a1, .inl a2] σ = some (some (.inl x), σ1) ∧ fn_Mo_give [.inr (false, 22), .inl a0, .inl a1, .inl a2] σ1 = some (some (.inl x), σ2) ∧ tw_Inv σ2 σ2 := tw_one ff_TH_give ff_Mo_give (fun h => tw_t_give h a0 a1 a2) h
theorem tw_one_count {σ : tw_S} (h : tw_Inv σ σ) (a0 a1 : Int32) : ∃ (x : Int32) (σ1 σ2 : tw_S), fn_TH_count [.inr (false, 20), .inl a0, .inl a1] σ = some (some (.inl x), σ1) ∧ fn_Mo_count [.inr (false, 22), .inl a0, .inl a1] σ1 = some (some (.inl x), σ2) ∧ tw_Inv σ2 σ2 := tw_one ff_TH_count ff_Mo_count (fun h => tw_t_count h a0 a1) h
theorem tw_one_pc {σ : tw_S} (h : tw_Inv σ σ) (a0 : Int32) : ∃ (x : Int32) (σ1 σ2 : tw_S), fn_TH_pc [.inr (false, 20), .inl a0] σ = some (some (.inl x), σ1) ∧ fn_Mo_pc [.inr (false, 22), .inl a0] σ1 = some (some (.inl x), σ2) ∧ tw_Inv σ2 σ2 := tw_one ff_TH_pc ff_Mo_pc (fun h => tw_t_pc h a0) h
theorem tw_one_user {σ : tw_S} (h : tw_Inv σ σ) (a0 : Int32) : ∃ (x : Int32) (σ1 σ2 : tw_S), fn_TH_user [.inr (false, 20), .inl a0] σ = some (some (.inl x), σ1) ∧ fn_Mo_user [.inr (false, 22), .inl a0] σ1 = some (some (.inl x), σ2) ∧ tw_Inv σ2 σ2 := tw_one ff_TH_user ff_Mo_user (fun h => tw_t_user h a0) h
theorem tw_one_shadow {σ : tw_S} (h : tw_Inv σ σ) (a0 a1 : Int32) : ∃ (x : Int32) (σ1 σ2 : tw_S), fn_TH_shadow [.inr (false, 20), .inl a0, .inl a1] σ = some (some (.inl x), σ1) ∧ fn_Mo_shadow [.inr (false, 22), .inl a0, .inl a1] σ1 = some (some (.inl x), σ2) ∧ tw_Inv σ2 σ2 := tw_one ff_TH_shadow ff_Mo_shadow (fun h => tw_t_shadow h a0 a1) h
theorem tw_one_traced {σ : tw_S} (h : tw_Inv σ σ) (a0 a1 : Int32) : ∃ (x : Int32) (σ1 σ2 : tw_S), fn_TH_traced [.inr (false, 20), .inl a0, .inl a1] σ = some (some (.inl x), σ1) ∧ fn_Mo_traced [.inr (false, 22), .inl a0, .inl a1] σ1 = some (some (.inl x), σ2) ∧ tw_Inv σ2 σ2 := tw_one ff_TH_traced ff_Mo_traced (fun h => tw_t_traced h a0 a1) h
theorem tw_one_control {σ : tw_S} (h : tw_Inv σ σ) (a0 a1 : Int32) : ∃ (x : Int32) (σ1 σ2 : tw_S), fn_TH_control [.inr (false, 20), .inl a0, .inl a1] σ = some (some (.inl x), σ1) ∧ fn_Mo_control [.inr (false, 22), .inl a0, .inl a1] σ1 = some (some (.inl x), σ2) ∧ tw_Inv σ2 σ2 := tw_one ff_TH_control ff_Mo_control (fun h => tw_t_control h a0 a1) h
theorem tw_one_command {σ : tw_S} (h : tw_Inv σ σ) (a0 a1 a2 : Int32) : ∃ (x : Int32) (σ1 σ2 : tw_S), fn_TH_command [.inr (false, 20), .inl a0, .inl a1, .inl a2] σ = some (some (.inl x), σ1) ∧ fn_Mo_command [.inr (false, 22), .inl a0, .inl a1, .inl a2] σ1 = some (some (.inl x), σ2) ∧ tw_Inv σ2 σ2 := tw_one ff_TH_command ff_Mo_command (fun h => tw_t_command h a0 a1 a2) h
theorem tw_one_input {σ : tw_S} (h : tw_Inv σ σ) (a0 a1 a2 : Int32) : ∃ (x : Int32) (σ1 σ2 : tw_S), fn_TH_input [.inr (false, 20), .inl a0, .inl a1, .inl a2] σ = some (some (.inl x), σ1) ∧ fn_Mo_input [.inr (false, 22), .inl a0, .inl a1, .inl a2] σ1 = some (some (.inl x), σ2) ∧ tw_Inv σ2 σ2 := tw_one ff_TH_input ff_Mo_input (fun h => tw_t_input h a0 a1 a2) h
theorem tw_one_run {σ : tw_S} (h : tw_Inv σ σ) (a0 : Int32) : ∃ (x : Int32) (σ1 σ2 : tw_S), fn_TH_run [.inr (false, 20), .inl a0] σ = some (some (.inl x), σ1) ∧ fn_Mo_run [.inr (false, 22), .inl a0] σ1 = some (some (.inl x), σ2) ∧ tw_Inv σ2 σ2 := tw_one ff_TH_run ff_Mo_run (fun h => tw_t_run h a0) h
theorem tw_one_turn {σ : tw_S} (h : tw_Inv σ σ) : ∃ (x : Int32) (σ1 σ2 : tw_S), fn_TH_turn [.inr (false, 20)] σ = some (some (.inl x), σ1) ∧ fn_Mo_turn [.inr (false, 22)] σ1 = some (some (.inl x), σ2) ∧ tw_Inv σ2 σ2 := tw_one ff_TH_turn ff_Mo_turn (fun h => tw_t_turn h) h
theorem tw_one_place {σ : tw_S} (h : tw_Inv σ σ) (a0 a1 a2 : Int32) (hx : a2 = 0 ∨ a2 = 1) : ∃ (x : Int32) (σ1 σ2 : tw_S), fn_TH_place [.inr (false, 20), .inl a0, .inl a1, .inl a2] σ = some (some (.inl x), σ1) ∧ fn_Mo_place [.inr (false, 22), .inl a0, .inl a1, .inl a2] σ1 = some (some (.inl x), σ2) ∧ tw_Inv σ2 σ2 := tw_one ff_TH_place ff_Mo_place (fun h => tw_t_place h a0 a1 a2 hx) h
