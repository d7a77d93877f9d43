/-! Runs. -/
def tw_DD (q h r : Int32) : tw_Dt := (fun _ => 0, q, h, r)
theorem tw_m20 (g : Bool) (j : Nat) : tw_m g 20 j = none := if_neg (fun z => absurd z.2 (by show ¬ j < 0 + 0; omega))
theorem tw_r_row {q h r : Int32} {σc σm : tw_S} (hR : tw_Rel (tw_DD q h r) σc σm) (x : Int32) : tw_Rel (tw_DD q h x) (tw_pt σc false 20 3 x) (tw_pt σm false 22 2 x) := by
  refine ⟨tw_R1_m (tw_R1_c hR.1 (tw_m20 false 3) x) (tw_m_no rfl) x, fun g' => tw_R2_on (hR.2.1 g') (fun c j hp => tw_pt_n _ _ (fun z => by rw [z.2.1] at hp; exact absurd hp Bool.false_ne_true)) (fun c j hp => tw_pt_n _ _ (fun z => by rw [z.2.1] at hp; exact absurd hp Bool.false_ne_true)), ?_⟩
  obtain ⟨a, b, c, a2, b2, c2⟩ := hR.2.2
  refine ⟨?_, ?_, tw_pt_s _ _ _ _ _, ?_, ?_, tw_pt_s _ _ _ _ _⟩
  · rw [tw_pt_n _ _ (fun z => absurd z.2.2 (by decide))]; exact a
  · rw [tw_pt_n _ _ (fun z => absurd z.2.2 (by decide))]; exact b
  · rw [tw_pt_n _ _ (fun z => absurd z.2.2 (by decide))]; exact a2
  · rw [tw_pt_n _ _ (fun z => absurd z.2.2 (by decide))]; exact b2
theorem tw_r_turn {q h r : Int32} {σc σm : tw_S} (hR : tw_Rel (tw_DD q h r) σc σm) (x : Int32) : tw_Rel (tw_DD q x r) (tw_pt σc false 20 2 x) (tw_pt σm false 22 1 x) := by
  refine ⟨tw_R1_m (tw_R1_c hR.1 (tw_m20 false 2) x) (tw_m_no rfl) x, fun g' => tw_R2_on (hR.2.1 g') (fun c j hp => tw_pt_n _ _ (fun z => by rw [z.2.1] at hp; exact absurd hp Bool.false_ne_true)) (fun c j hp => tw_pt_n _ _ (fun z => by rw [z.2.1] at hp; exact absurd hp Bool.false_ne_true)), ?_⟩
  obtain ⟨a, b, c, a2, b2, c2⟩ := hR.2.2
  refine ⟨?_, tw_pt_s _ _ _ _ _, ?_, ?_, tw_pt_s _ _ _ _ _, ?_⟩
  · rw [tw_pt_n _ _ (fun z => absurd z.2.2 (by decide))]; exact a
  · rw [tw_pt_n _ _ (fun z => absurd z.2.2 (by decide))]; exact c
  · rw [tw_pt_n _ _ (fun z => absurd z.2.2 (by decide))]; exact a2
  · rw [tw_pt_n _ _ (fun z => absurd z.2.2 (by decide))]; exact c2
/-- behind a step, on both sides: the row goes on, or the turn passes -/
theorem tw_r_on {q h r : Int32} {τc τm : tw_S} (g : Bool) (hR : tw_Rel (tw_ds (tw_DD q h r) g 1) τc τm) : tw_Rel (tw_DD q h (r + 1)) (tw_pt τc false 20 3 (r + 1)) (tw_pt (tw_pt τm false 31 (9 * tw_b g + 8) (τm false 31 (9 * tw_b g + 8) + 1)) false 22 2 (r + 1)) := tw_r_row (tw_r_stm g hR) _
theorem tw_r_pass {q h r : Int32} {τc τm : tw_S} (g : Bool) (hR : tw_Rel (tw_ds (tw_DD q h r) g 1) τc τm) : tw_Rel (tw_DD q (1 - h) 0) (tw_pt (tw_pt (tw_pt (tw_pt τc false 20 3 (r + 1)) g 3 7 (τc g 3 7 + 1)) false 20 2 (1 - h)) false 20 3 0) (tw_pt (tw_pt (tw_pt (tw_pt (tw_pt τm false 31 (9 * tw_b g + 8) (τm false 31 (9 * tw_b g + 8) + 1)) false 22 2 (r + 1)) false 31 (9 * tw_b g + 7) (τm false 31 (9 * tw_b g + 7) + 1)) false 22 1 (1 - h)) false 22 2 0) := by
  rw [tw_Rel_3 hR g (j := 7) (by decide)]
  exact tw_r_row (tw_r_turn (tw_r_cnt (tw_r_on g hR) g (by decide) _) _) 0
theorem tw_coh_on {τ : tw_S} (hC : ∀ g', tw_Coh τ g') (x : Int32) (g' : Bool) : tw_Coh (tw_pt τ false 20 3 x) g' := tw_Coh_pt (hC g') rfl _
theorem tw_coh_pass {τ : tw_S} (hC : ∀ g', tw_Coh τ g') (g : Bool) (x y u v : Int32) (g' : Bool) : tw_Coh (tw_pt (tw_pt (tw_pt (tw_pt τ false 20 3 x) g 3 7 y) false 20 2 u) false 20 3 v) g' := tw_Coh_pt (tw_Coh_pt (tw_Coh_pt (tw_Coh_pt (hC g') rfl _) rfl _) rfl _) rfl _
theorem tw_bo_s (o : Nat) (σ : tw_S) (k0 k1 k2 : tw_S → Option tw_R) : tw_bo (some (some (.inr (false, o)), σ)) k0 k1 k2 = if o = 60 then k0 σ else if o = 61 then k1 σ else if o = 62 then k2 σ else none := rfl
theorem tw_p_run_l (q : Int32) {N : Nat} (hN : N ≤ 64) : ∀ (m i k : Nat) (b1 h r : Int32) (σc σm : tw_S), i + m = N → m < k → tw_Rel (tw_DD q h r) σc σm → (h = 0 ∨ h = 1) → (∀ g', tw_Coh σc g') → ∃ (x h' r' : Int32) (τc τm : tw_S), l_TH_run k (nI N) b1 (nI i) σc = some (some (.inl x), τc) ∧ l_Mo_run k (nI N) b1 (nI i) σm = some (some (.inl x), τm) ∧ tw_Rel (tw_DD q h' r') τc τm ∧ (h' = 0 ∨ h' = 1) ∧ ∀ g', tw_Coh τc g'
  | 0, i, k + 1, b1, h, r, σc, σm, hi, _, hR, hh, hC => by
    have e : i = N := by omega
    subst e
    refine ⟨b1, h, r, σc, σm, ?_, ?_, hR, hh, hC⟩
    · unfold l_TH_run
      rw [if_pos (nI_le (Nat.le_refl _) (by omega))]
    · unfold l_Mo_run
      rw [if_pos (nI_le (Nat.le_refl _) (by omega))]
  | m + 1, i, k + 1, b1, h, r, σc, σm, hi, hk, hR, hh, hC => by
    have ih := fun b1 h r σc σm => tw_p_run_l q hN m (i + 1) k b1 h r σc σm (by omega) (by omega)
    obtain ⟨-, c2, -, -, m1, -⟩ := hR.2.2
    have c2 : σc false 20 2 = h := c2
    have m1 : σm false 22 1 = h := m1
    unfold l_TH_run l_Mo_run
    rw [if_neg (nI_ge (a := i) (b := N) (by omega) (by omega)), if_neg (nI_ge (a := i) (b := N) (by omega) (by omega)), c2, m1, nI_1]
    rcases hh with rfl | rfl
    · rw [if_neg (show ¬ tw_out (0 : Int32) 2 by decide), show ((0 : Int32).toNatClampNeg == 1) = false from by decide, if_pos (show ((0 : Int32)) = 0 from rfl)]
      obtain ⟨o, x, τc, τm, ec, em, ho, hR2, hC2⟩ := tw_p_step_0 hR hC
      obtain ⟨a1, a2, a3, b1', b2', b3'⟩ := hR2.2.2
      have a1 : τc false 20 1 = q := a1
      have a2 : τc false 20 2 = 0 := a2
      have a3 : τc false 20 3 = r := a3
      have b1' : τm false 22 0 = q := b1'
      have b3' : τm false 22 2 = r := b3'
      rw [ec, em, tw_bi_s, tw_bo_s]
      have hon := tw_r_on false hR2
      have hpa := tw_r_pass false hR2
      have hh1 : ((1 : Int32) - 0) = 0 ∨ ((1 : Int32) - 0) = 1 := by decide
      have go1 : ∀ y : Int32, (q ≤ r + 1 → ∃ (x h' r' : Int32) (uc um : tw_S), l_TH_run k (nI N) y (nI (i + 1)) (tw_pt (tw_pt (tw_pt (tw_pt τc false 20 3 (r + 1)) false 3 7 (τc false 3 7 + 1)) false 20 2 (1 - 0)) false 20 3 0) = some (some (.inl x), uc) ∧ l_Mo_run k (nI N) y (nI (i + 1)) (tw_pt (tw_pt (tw_pt (tw_pt (tw_pt τm false 31 8 (τm false 31 8 + 1)) false 22 2 (r + 1)) false 31 7 (τm false 31 7 + 1)) false 22 1 (1 - 0)) false 22 2 0) = some (some (.inl x), um) ∧ tw_Rel (tw_DD q h' r') uc um ∧ (h' = 0 ∨ h' = 1) ∧ ∀ g', tw_Coh uc g') := fun y _ => ih y _ 0 _ _ hpa hh1 (fun g' => tw_coh_pass hC2 false _ _ _ _ g')
      have go2 : ∀ y : Int32, ∃ (x h' r' : Int32) (uc um : tw_S), l_TH_run k (nI N) y (nI (i + 1)) (tw_pt τc false 20 3 (r + 1)) = some (some (.inl x), uc) ∧ l_Mo_run k (nI N) y (nI (i + 1)) (tw_pt (tw_pt τm false 31 8 (τm false 31 8 + 1)) false 22 2 (r + 1)) = some (some (.inl x), um) ∧ tw_Rel (tw_DD q h' r') uc um ∧ (h' = 0 ∨ h' = 1) ∧ ∀ g', tw_Coh uc g' := fun y => ih y _ _ _ _ hon (Or.inl rfl) (fun g' => tw_coh_on hC2 _ g')
      rcases ho with ⟨rfl, rfl⟩ | ⟨rfl, rfl⟩ | ⟨rfl, rfl⟩
      · rw [if_pos rfl, if_pos rfl, if_neg (show ¬ (1 : Int32) = 2 by decide), b1', b3']
        unfold g_TH_passTurnAfter_R
        rw [a1, a2, a3, if_neg (show ¬ tw_out (0 : Int32) 2 by decide), show ((0 : Int32).toNatClampNeg == 1) = false from by decide]
        by_cases hq : q ≤ r + 1
        · rw [if_pos hq, tw_bv_s, if_neg (Int32.not_lt.mpr hq)]
          exact go1 _ hq
        · rw [if_neg hq, tw_bv_s, if_pos (Int32.not_le.mp hq)]
          exact go2 _
      · rw [if_neg (show ¬ (61 : Nat) = 60 by decide), if_pos rfl, if_neg (show ¬ (0 : Int32) = 1 by decide), if_neg (show ¬ (0 : Int32) = 2 by decide), b1', b3']
        unfold g_TH_passTurnAfter_T
        rw [a1, a2, a3, if_neg (show ¬ tw_out (0 : Int32) 2 by decide), show ((0 : Int32).toNatClampNeg == 1) = false from by decide]
        by_cases hq : q ≤ r + 1
        · rw [if_pos hq, tw_bv_s, if_neg (Int32.not_lt.mpr hq)]
          exact go1 _ hq
        · rw [if_neg hq, tw_bv_s, if_pos (Int32.not_le.mp hq)]
          exact go2 _
      · rw [if_neg (show ¬ (62 : Nat) = 60 by decide), if_neg (show ¬ (62 : Nat) = 61 by decide), if_pos rfl, if_neg (show ¬ (2 : Int32) = 1 by decide), if_pos rfl, b3']
        unfold g_TH_passTurnAfter_W
        rw [a1, a2, a3, if_neg (show ¬ tw_out (0 : Int32) 2 by decide), show ((0 : Int32).toNatClampNeg == 1) = false from by decide, ite_self, tw_bv_s]
        exact ih _ _ 0 _ _ hpa hh1 (fun g' => tw_coh_pass hC2 false _ _ _ _ g')
    · rw [if_neg (show ¬ tw_out (1 : Int32) 2 by decide), show ((1 : Int32).toNatClampNeg == 1) = true from by decide, if_neg (show ¬ (1 : Int32) = 0 by decide), if_pos (show (1 : Int32) = 1 from rfl)]
      obtain ⟨o, x, τc, τm, ec, em, ho, hR2, hC2⟩ := tw_p_step_1 hR hC
      obtain ⟨a1, a2, a3, b1', b2', b3'⟩ := hR2.2.2
      have a1 : τc false 20 1 = q := a1
      have a2 : τc false 20 2 = 1 := a2
      have a3 : τc false 20 3 = r := a3
      have b1' : τm false 22 0 = q := b1'
      have b3' : τm false 22 2 = r := b3'
      rw [ec, em, tw_bi_s, tw_bo_s]
      have hon := tw_r_on true hR2
      have hpa := tw_r_pass true hR2
      have hh1 : ((1 : Int32) - 1) = 0 ∨ ((1 : Int32) - 1) = 1 := by decide
      have go1 : ∀ y : Int32, (q ≤ r + 1 → ∃ (x h' r' : Int32) (uc um : tw_S), l_TH_run k (nI N) y (nI (i + 1)) (tw_pt (tw_pt (tw_pt (tw_pt τc false 20 3 (r + 1)) true 3 7 (τc true 3 7 + 1)) false 20 2 (1 - 1)) false 20 3 0) = some (some (.inl x), uc) ∧ l_Mo_run k (nI N) y (nI (i + 1)) (tw_pt (tw_pt (tw_pt (tw_pt (tw_pt τm false 31 17 (τm false 31 17 + 1)) false 22 2 (r + 1)) false 31 16 (τm false 31 16 + 1)) false 22 1 (1 - 1)) false 22 2 0) = some (some (.inl x), um) ∧ tw_Rel (tw_DD q h' r') uc um ∧ (h' = 0 ∨ h' = 1) ∧ ∀ g', tw_Coh uc g') := fun y _ => ih y _ 0 _ _ hpa hh1 (fun g' => tw_coh_pass hC2 true _ _ _ _ g')
      have go2 : ∀ y : Int32, ∃ (x h' r' : Int32) (uc um : tw_S), l_TH_run k (nI N) y (nI (i + 1)) (tw_pt τc false 20 3 (r + 1)) = some (some (.inl x), uc) ∧ l_Mo_run k (nI N) y (nI (i + 1)) (tw_pt (tw_pt τm false 31 17 (τm false 31 17 + 1)) false 22 2 (r + 1)) = some (some (.inl x), um) ∧ tw_Rel (tw_DD q h' r') uc um ∧ (h' = 0 ∨ h' = 1) ∧ ∀ g', tw_Coh uc g' := fun y => ih y _ _ _ _ hon (Or.inr rfl) (fun g' => tw_coh_on hC2 _ g')
      rcases ho with ⟨rfl, rfl⟩ | ⟨rfl, rfl⟩ | ⟨rfl, rfl⟩
      · rw [if_pos rfl, if_pos rfl, if_neg (show ¬ (1 : Int32) = 2 by decide), b1', b3']
        unfold g_TH_passTurnAfter_R
        rw [a1, a2, a3, if_neg (show ¬ tw_out (1 : Int32) 2 by decide), show ((1 : Int32).toNatClampNeg == 1) = true from by decide]
        by_cases hq : q ≤ r + 1
        · rw [if_pos hq, tw_bv_s, if_neg (Int32.not_lt.mpr hq)]
          exact go1 _ hq
        · rw [if_neg hq, tw_bv_s, if_pos (Int32.not_le.mp hq)]
          exact go2 _
      · rw [if_neg (show ¬ (61 : Nat) = 60 by decide), if_pos rfl, if_neg (show ¬ (0 : Int32) = 1 by decide), if_neg (show ¬ (0 : Int32) = 2 by decide), b1', b3']
        unfold g_TH_passTurnAfter_T
        rw [a1, a2, a3, if_neg (show ¬ tw_out (1 : Int32) 2 by decide), show ((1 : Int32).toNatClampNeg == 1) = true from by decide]
        by_cases hq : q ≤ r + 1
        · rw [if_pos hq, tw_bv_s, if_neg (Int32.not_lt.mpr hq)]
          exact go1 _ hq
        · rw [if_neg hq, tw_bv_s, if_pos (Int32.not_le.mp hq)]
          exact go2 _
      · rw [if_neg (show ¬ (62 : Nat) = 60 by decide), if_neg (show ¬ (62 : Nat) = 61 by decide), if_pos rfl, if_neg (show ¬ (2 : Int32) = 1 by decide), if_pos rfl, b3']
        unfold g_TH_passTurnAfter_W
        rw [a1, a2, a3, if_neg (show ¬ tw_out (1 : Int32) 2 by decide), show ((1 : Int32).toNatClampNeg == 1) = true from by decide, ite_self, tw_bv_s]
        exact ih _ _ 0 _ _ hpa hh1 (fun g' => tw_coh_pass hC2 true _ _ _ _ g')
theorem tw_64 (v : Int32) (h1 : ¬ v < 1) (h2 : v ≤ 64) : ∃ N, N ≤ 64 ∧ v = nI N := by
  have h0 : ¬ v < 0 := fun z => h1 (by
    rw [Int32.lt_iff_toInt_lt] at z ⊢
    have a : (0 : Int32).toInt = 0 := by decide
    have b : (1 : Int32).toInt = 1 := by decide
    omega)
  exact nI_of2 (M := 64) (n := 64) (by decide) h0 h2
/-- what holds between two calls -/
def tw_Inv (σc σm : tw_S) : Prop := ∃ q h r : Int32, tw_Rel (tw_DD q h r) σc σm ∧ (h = 0 ∨ h = 1) ∧ ∀ g', tw_Coh σc g'
/-- a call answers alike on both sides, and the invariant holds behind it -/
def tw_CP (rc rm : Option tw_R) : Prop := ∃ (x : Int32) (τc τm : tw_S), rc = some (some (.inl x), τc) ∧ rm = some (some (.inl x), τm) ∧ tw_Inv τc τm
theorem tw_q_run {σc σm : tw_S} (h : tw_Inv σc σm) (n : Int32) : tw_CP (g_TH_run n σc) (g_Mo_run n σm) := by
  unfold g_TH_run g_Mo_run
  by_cases h1 : n < 1
  · rw [if_pos h1, if_pos h1]
    exact ⟨-1, σc, σm, rfl, rfl, h⟩
  · rw [if_neg h1, if_neg h1]
    by_cases h2 : n ≤ 64
    · rw [if_pos h2, if_pos h2]
      obtain ⟨N, hN, rfl⟩ := tw_64 n h1 h2
      obtain ⟨q, hh, r, hR, h01, hC⟩ := h
      obtain ⟨x, h', r', τc, τm, e1, e2, hR2, h2', hC2⟩ := tw_p_run_l q hN N 0 65 0 hh r σc σm (by omega) (by omega) hR h01 hC
      exact ⟨x, τc, τm, e1, e2, q, h', r', hR2, h2', hC2⟩
    · rw [if_neg h2, if_neg h2]
      exact ⟨-1, σc, σm, rfl, rfl, h⟩
theorem tw_q_turn {σc σm : tw_S} (h : tw_Inv σc σm) : tw_CP (g_TH_turn σc) (g_Mo_turn σm) := by
  obtain ⟨q, hh, r, hR, h01, hC⟩ := h
  obtain ⟨a1, a2, a3, b1, b2, b3⟩ := hR.2.2
  exact ⟨σc false 20 2, σc, σm, rfl, by unfold g_Mo_turn; rw [b2, a2], q, hh, r, hR, h01, hC⟩
