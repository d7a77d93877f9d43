/-! The calls. -/
theorem tw_bd8 (v : Int32) : 8 ≤ v ↔ 7 < v := by
  rw [Int32.le_iff_toInt_le, Int32.lt_iff_toInt_lt]
  have a : (8 : Int32).toInt = 8 := by decide
  have b : (7 : Int32).toInt = 7 := by decide
  omega
theorem tw_rg8 (v : Int32) : v < 0 ∨ (¬ v < 0 ∧ 8 ≤ v ∧ 7 < v ∧ ¬ v ≤ 7) ∨ ∃ j, j < 8 ∧ v = nI j ∧ ¬ nI j < 0 ∧ ¬ (8 : Int32) ≤ nI j ∧ ¬ (7 : Int32) < nI j ∧ nI j ≤ 7 := by
  by_cases h0 : v < 0
  · exact Or.inl h0
  · by_cases h1 : (8 : Int32) ≤ v
    · exact Or.inr (Or.inl ⟨h0, h1, (tw_bd8 v).mp h1, fun z => Int32.not_le.mpr ((tw_bd8 v).mp h1) z⟩)
    · have h2 : ¬ (7 : Int32) < v := fun z => h1 ((tw_bd8 v).mpr z)
      obtain ⟨j, hj, rfl⟩ := nI_of2 (M := 7) (n := 7) (by decide) h0 (Int32.not_lt.mp h2)
      exact Or.inr (Or.inr ⟨j, by omega, rfl, h0, h1, h2, Int32.not_lt.mp h2⟩)
theorem tw_bd9 (v : Int32) : 9 ≤ v ↔ 8 < v := by
  rw [Int32.le_iff_toInt_le, Int32.lt_iff_toInt_lt]
  have a : (9 : Int32).toInt = 9 := by decide
  have b : (8 : Int32).toInt = 8 := by decide
  omega
theorem tw_rg9 (v : Int32) : v < 0 ∨ (¬ v < 0 ∧ 9 ≤ v ∧ 8 < v ∧ ¬ v ≤ 8) ∨ ∃ j, j < 9 ∧ v = nI j ∧ ¬ nI j < 0 ∧ ¬ (9 : Int32) ≤ nI j ∧ ¬ (8 : Int32) < nI j ∧ nI j ≤ 8 := by
  by_cases h0 : v < 0
  · exact Or.inl h0
  · by_cases h1 : (9 : Int32) ≤ v
    · exact Or.inr (Or.inl ⟨h0, h1, (tw_bd9 v).mp h1, fun z => Int32.not_le.mpr ((tw_bd9 v).mp h1) z⟩)
    · have h2 : ¬ (8 : Int32) < v := fun z => h1 ((tw_bd9 v).mpr z)
      obtain ⟨j, hj, rfl⟩ := nI_of2 (M := 8) (n := 8) (by decide) h0 (Int32.not_lt.mp h2)
      exact Or.inr (Or.inr ⟨j, by omega, rfl, h0, h1, h2, Int32.not_lt.mp h2⟩)
theorem tw_bd16 (v : Int32) : 16 ≤ v ↔ 15 < v := by
  rw [Int32.le_iff_toInt_le, Int32.lt_iff_toInt_lt]
  have a : (16 : Int32).toInt = 16 := by decide
  have b : (15 : Int32).toInt = 15 := by decide
  omega
theorem tw_rg16 (v : Int32) : v < 0 ∨ (¬ v < 0 ∧ 16 ≤ v ∧ 15 < v ∧ ¬ v ≤ 15) ∨ ∃ j, j < 16 ∧ v = nI j ∧ ¬ nI j < 0 ∧ ¬ (16 : Int32) ≤ nI j ∧ ¬ (15 : Int32) < nI j ∧ nI j ≤ 15 := by
  by_cases h0 : v < 0
  · exact Or.inl h0
  · by_cases h1 : (16 : Int32) ≤ v
    · exact Or.inr (Or.inl ⟨h0, h1, (tw_bd16 v).mp h1, fun z => Int32.not_le.mpr ((tw_bd16 v).mp h1) z⟩)
    · have h2 : ¬ (15 : Int32) < v := fun z => h1 ((tw_bd16 v).mpr z)
      obtain ⟨j, hj, rfl⟩ := nI_of2 (M := 15) (n := 15) (by decide) h0 (Int32.not_lt.mp h2)
      exact Or.inr (Or.inr ⟨j, by omega, rfl, h0, h1, h2, Int32.not_lt.mp h2⟩)
theorem tw_bd128 (v : Int32) : 128 ≤ v ↔ 127 < v := by
  rw [Int32.le_iff_toInt_le, Int32.lt_iff_toInt_lt]
  have a : (128 : Int32).toInt = 128 := by decide
  have b : (127 : Int32).toInt = 127 := by decide
  omega
theorem tw_rg128 (v : Int32) : v < 0 ∨ (¬ v < 0 ∧ 128 ≤ v ∧ 127 < v ∧ ¬ v ≤ 127) ∨ ∃ j, j < 128 ∧ v = nI j ∧ ¬ nI j < 0 ∧ ¬ (128 : Int32) ≤ nI j ∧ ¬ (127 : Int32) < nI j ∧ nI j ≤ 127 := by
  by_cases h0 : v < 0
  · exact Or.inl h0
  · by_cases h1 : (128 : Int32) ≤ v
    · exact Or.inr (Or.inl ⟨h0, h1, (tw_bd128 v).mp h1, fun z => Int32.not_le.mpr ((tw_bd128 v).mp h1) z⟩)
    · have h2 : ¬ (127 : Int32) < v := fun z => h1 ((tw_bd128 v).mpr z)
      obtain ⟨j, hj, rfl⟩ := nI_of2 (M := 127) (n := 127) (by decide) h0 (Int32.not_lt.mp h2)
      exact Or.inr (Or.inr ⟨j, by omega, rfl, h0, h1, h2, Int32.not_lt.mp h2⟩)
theorem tw_bd12 (v : Int32) : 12 ≤ v ↔ 11 < v := by
  rw [Int32.le_iff_toInt_le, Int32.lt_iff_toInt_lt]
  have a : (12 : Int32).toInt = 12 := by decide
  have b : (11 : Int32).toInt = 11 := by decide
  omega
theorem tw_rg12 (v : Int32) : v < 0 ∨ (¬ v < 0 ∧ 12 ≤ v ∧ 11 < v ∧ ¬ v ≤ 11) ∨ ∃ j, j < 12 ∧ v = nI j ∧ ¬ nI j < 0 ∧ ¬ (12 : Int32) ≤ nI j ∧ ¬ (11 : Int32) < nI j ∧ nI j ≤ 11 := by
  by_cases h0 : v < 0
  · exact Or.inl h0
  · by_cases h1 : (12 : Int32) ≤ v
    · exact Or.inr (Or.inl ⟨h0, h1, (tw_bd12 v).mp h1, fun z => Int32.not_le.mpr ((tw_bd12 v).mp h1) z⟩)
    · have h2 : ¬ (11 : Int32) < v := fun z => h1 ((tw_bd12 v).mpr z)
      obtain ⟨j, hj, rfl⟩ := nI_of2 (M := 11) (n := 11) (by decide) h0 (Int32.not_lt.mp h2)
      exact Or.inr (Or.inr ⟨j, by omega, rfl, h0, h1, h2, Int32.not_lt.mp h2⟩)
theorem tw_CP_le {a b a' b' : Option tw_R} (ha : tw_le a a') (hb : tw_le b b') (h : tw_CP a b) : tw_CP a' b' := by
  obtain ⟨x, τc, τm, e1, e2, h⟩ := h
  exact ⟨x, τc, τm, ha _ e1, hb _ e2, h⟩
theorem tw_gst (a : Int32) : a = 0 ∨ a = 1 ∨ (∀ σ, g_TH_isGuest a σ = some (some (.inl 0), σ)) ∧ ∀ σ, g_Mo_guest a σ = some (some (.inl 0), σ) := by
  by_cases h0 : a = 0
  · exact Or.inl h0
  · by_cases h1 : a = 1
    · exact Or.inr (Or.inl h1)
    · refine Or.inr (Or.inr ⟨fun σ => ?_, fun σ => ?_⟩)
      · unfold g_TH_isGuest
        by_cases hn : a < 0
        · rw [if_pos hn]
        · rw [if_neg hn]
          by_cases h2 : 2 ≤ a
          · rw [if_pos h2]
          · obtain ⟨j, hj, rfl⟩ := nI_of2 (M := 1) (n := 1) (by decide) hn (by
              have := Int32.not_le.mp h2
              rw [Int32.lt_iff_toInt_lt] at this
              rw [Int32.le_iff_toInt_le]
              have a : (2 : Int32).toInt = 2 := by decide
              have b : (1 : Int32).toInt = 1 := by decide
              omega)
            have : j = 0 ∨ j = 1 := by omega
            rcases this with rfl | rfl
            · exact absurd rfl h0
            · exact absurd rfl h1
      · unfold g_Mo_guest
        rw [if_neg h0, if_neg h1]
theorem tw_Inv_mk {q h r : Int32} {σc σm : tw_S} (hR : tw_Rel (tw_DD q h r) σc σm) (hh : h = 0 ∨ h = 1) (hC : ∀ g', tw_Coh σc g') : tw_Inv σc σm := ⟨q, h, r, hR, hh, hC⟩
/-- an input comes, on both sides -/
theorem tw_r_inp {d : tw_Dt} {σc σm : tw_S} (hR : tw_Rel d σc σm) (g : Bool) {n : Nat} (hn : n < 6) (ec : σc g 6 2 = nI n) (t v : Int32) : tw_Rel d (tw_pt (tw_pt (tw_pt σc g 7 n t) g 8 n v) g 6 2 (nI (n + 1))) (tw_pt (tw_pt (tw_pt σm false 29 (6 * tw_b g + n) t) false 30 (6 * tw_b g + n) v) false 28 (tw_b g) (nI (n + 1))) := by
  have m7 : ∀ g j, tw_m g 7 j = none := fun g j => if_neg (fun z => absurd z.2 (by show ¬ j < 0 + 0; omega))
  have m8 : ∀ g j, tw_m g 8 j = none := fun g j => if_neg (fun z => absurd z.2 (by show ¬ j < 0 + 0; omega))
  refine ⟨tw_R1_pt (tw_R1_m (tw_R1_m (tw_R1_c (tw_R1_c hR.1 (m7 g n) t) (m8 g n) v) (tw_m_no rfl) t) (tw_m_no rfl) v) (tw_msz g) _, fun g' => ?_, ?_⟩
  · obtain ⟨h1, ⟨n', hn', h2, h3⟩, h4, h5⟩ := hR.2.1 g'
    by_cases eg : g' = g
    · subst eg
      have en : n' = n := (nI_eq (by omega) (by omega)).mp (h2.symm.trans ec)
      subst en
      refine ⟨?_, ⟨n' + 1, by omega, tw_pt_s _ _ _ _ _, fun j hj => ?_⟩, fun u hu => ?_, ?_⟩
      · simpa [tw_pt_eq] using h1
      · by_cases ej : j = n'
        · subst ej
          simp [tw_pt_eq]
        · have := h3 j (by omega)
          have ne : ¬ 6 * tw_b g' + j = 6 * tw_b g' + n' := by omega
          constructor
          · rw [tw_pt_n _ _ (fun z => absurd z.2.1 (by decide)), tw_pt_n _ _ (fun z => absurd z.2.1 (by decide)), tw_pt_n _ _ (fun z => ej z.2.2), tw_pt_n _ _ (fun z => absurd z.2.1 (by decide)), tw_pt_n _ _ (fun z => absurd z.2.1 (by decide)), tw_pt_n _ _ (fun z => ne z.2.2)]
            exact this.1
          · rw [tw_pt_n _ _ (fun z => absurd z.2.1 (by decide)), tw_pt_n _ _ (fun z => ej z.2.2), tw_pt_n _ _ (fun z => absurd z.2.1 (by decide)), tw_pt_n _ _ (fun z => absurd z.2.1 (by decide)), tw_pt_n _ _ (fun z => ne z.2.2), tw_pt_n _ _ (fun z => absurd z.2.1 (by decide))]
            exact this.2
      · simpa [tw_pt_eq] using h4 u hu
      · simpa [tw_pt_eq] using h5
    · have hb := tw_b_lt g
      have hb' := tw_b_lt g'
      have nb : ¬ tw_b g' = tw_b g := fun z => eg (tw_b_inj z)
      have kc : ∀ c j, tw_pt (tw_pt (tw_pt σc g 7 n t) g 8 n v) g 6 2 (nI (n + 1)) g' c j = σc g' c j := fun c j => by
        rw [tw_pt_n _ _ (fun z => eg z.1), tw_pt_n _ _ (fun z => eg z.1), tw_pt_n _ _ (fun z => eg z.1)]
      refine ⟨?_, ⟨n', hn', ?_, fun j hj => ?_⟩, fun u hu => ?_, ?_⟩
      · rw [kc]; exact h1
      · rw [kc]; exact h2
      · rw [kc, kc]
        have ne : ¬ 6 * tw_b g' + j = 6 * tw_b g + n := by omega
        rw [tw_pt_n (c' := 29) _ _ (fun z => absurd z.2.1 (by decide)), tw_pt_n (c' := 29) _ _ (fun z => absurd z.2.1 (by decide)), tw_pt_n (c' := 29) _ _ (fun z => ne z.2.2), tw_pt_n (c' := 30) _ _ (fun z => absurd z.2.1 (by decide)), tw_pt_n (c' := 30) _ _ (fun z => ne z.2.2), tw_pt_n (c' := 30) _ _ (fun z => absurd z.2.1 (by decide))]
        exact h3 j hj
      · rw [kc]
        rw [tw_pt_n (c' := 33) _ _ (fun z => absurd z.2.1 (by decide)), tw_pt_n (c' := 33) _ _ (fun z => absurd z.2.1 (by decide)), tw_pt_n (c' := 33) _ _ (fun z => absurd z.2.1 (by decide)), tw_pt_n (c' := 34) _ _ (fun z => absurd z.2.1 (by decide)), tw_pt_n (c' := 34) _ _ (fun z => absurd z.2.1 (by decide)), tw_pt_n (c' := 34) _ _ (fun z => absurd z.2.1 (by decide))]
        exact h4 u hu
      · rw [kc]
        rw [tw_pt_n (c' := 31) _ _ (fun z => absurd z.2.1 (by decide)), tw_pt_n (c' := 31) _ _ (fun z => absurd z.2.1 (by decide)), tw_pt_n (c' := 31) _ _ (fun z => absurd z.2.1 (by decide))]
        exact h5
  · have a := hR.2.2
    unfold tw_R3 at a ⊢
    simpa [tw_pt_eq] using a
theorem tw_q_peek_0 {σc σm : tw_S} (h : tw_Inv σc σm) (p : Int32) : tw_CP (g_TH_peek (0 : Int32) p σc) (g_Mo_peek_0 p σm) := by
  obtain ⟨q, hh, r, hR, h01, hC⟩ := h
  have hg : g_TH_isGuest (0 : Int32) σc = some (some (.inl 1), σc) := by
    unfold g_TH_isGuest
    rw [if_neg (by decide), if_neg (by decide)]
  have og : ¬ tw_out (0 : Int32) 2 := by decide
  have eg : (((0 : Int32)).toNatClampNeg == 1) = false := by decide
  unfold g_TH_peek g_Mo_peek_0
  rw [hg, tw_bi_s, if_neg (by decide)]
  rcases tw_rg128 p with h0 | ⟨h0, h1, h2, h3⟩ | ⟨j, hj, rfl, h0, h1, h2, h3⟩
  · rw [show g_TH_isWord p σc = some (some (.inl 0), σc) from if_pos h0, tw_bi_s, if_pos rfl, if_pos h0]
    exact ⟨0, σc, σm, rfl, rfl, tw_Inv_mk hR h01 hC⟩
  · rw [show g_TH_isWord p σc = some (some (.inl 0), σc) from by unfold g_TH_isWord; rw [if_neg h0, if_pos h1], tw_bi_s, if_pos rfl, if_neg h0, if_pos h2]
    exact ⟨0, σc, σm, rfl, rfl, tw_Inv_mk hR h01 hC⟩
  · have e : σm false 23 (0 + j) = σc false 1 j := tw_Rel_1 hR false hj
    rw [show g_TH_isWord (nI j) σc = some (some (.inl 1), σc) from by unfold g_TH_isWord; rw [if_neg h0, if_neg h1], tw_bi_s, if_neg (by decide), if_neg og, eg, if_neg (nI_in hj (by decide)), nI_clamp (by omega), if_neg h0, if_neg h2, (show (128 : Int32) * 0 = nI 0 from by decide), nI_add, if_neg (nI_in (by omega) (by decide)), nI_clamp (by omega), e]
    exact ⟨_, σc, σm, rfl, rfl, tw_Inv_mk hR h01 hC⟩
theorem tw_q_poke_0 {σc σm : tw_S} (h : tw_Inv σc σm) (p x : Int32) : tw_CP (g_TH_poke (0 : Int32) p x σc) (g_Mo_poke_0 p x σm) := by
  obtain ⟨q, hh, r, hR, h01, hC⟩ := h
  have hg : g_TH_isGuest (0 : Int32) σc = some (some (.inl 1), σc) := by
    unfold g_TH_isGuest
    rw [if_neg (by decide), if_neg (by decide)]
  have og : ¬ tw_out (0 : Int32) 2 := by decide
  have eg : (((0 : Int32)).toNatClampNeg == 1) = false := by decide
  unfold g_TH_poke g_Mo_poke_0
  rw [hg, tw_bi_s, if_neg (by decide)]
  rcases tw_rg128 p with h0 | ⟨h0, h1, h2, h3⟩ | ⟨j, hj, rfl, h0, h1, h2, h3⟩
  · rw [show g_TH_isWord p σc = some (some (.inl 0), σc) from if_pos h0, tw_bi_s, if_pos rfl, if_pos h0]
    exact ⟨0, σc, σm, rfl, rfl, tw_Inv_mk hR h01 hC⟩
  · rw [show g_TH_isWord p σc = some (some (.inl 0), σc) from by unfold g_TH_isWord; rw [if_neg h0, if_pos h1], tw_bi_s, if_pos rfl, if_neg h0, if_neg h3]
    exact ⟨0, σc, σm, rfl, rfl, tw_Inv_mk hR h01 hC⟩
  · have e : σm false 23 (0 + j) = σc false 1 j := tw_Rel_1 hR false hj
    obtain ⟨uc, um, oc, om, hR3, hC3⟩ := tw_p_over_0 hR hC hj x
    rw [show g_TH_isWord (nI j) σc = some (some (.inl 1), σc) from by unfold g_TH_isWord; rw [if_neg h0, if_neg h1], tw_bi_s, if_neg (by decide), if_neg og, eg, oc, tw_bi_s, if_neg h0, if_pos h3, (show (128 : Int32) * 0 = nI 0 from by decide), nI_add, if_neg (nI_in (by omega) (by decide)), nI_clamp (by omega), om, tw_bv_s, e]
    exact ⟨_, uc, um, rfl, rfl, tw_Inv_mk hR3 h01 hC3⟩
theorem tw_q_register_0 {σc σm : tw_S} (h : tw_Inv σc σm) (p : Int32) : tw_CP (g_TH_register (0 : Int32) p σc) (g_Mo_register_0 p σm) := by
  obtain ⟨q, hh, r, hR, h01, hC⟩ := h
  have hg : g_TH_isGuest (0 : Int32) σc = some (some (.inl 1), σc) := by
    unfold g_TH_isGuest
    rw [if_neg (by decide), if_neg (by decide)]
  have og : ¬ tw_out (0 : Int32) 2 := by decide
  have eg : (((0 : Int32)).toNatClampNeg == 1) = false := by decide
  unfold g_TH_register g_Mo_register_0
  rw [hg, tw_bi_s, if_neg (by decide)]
  rcases tw_rg8 p with h0 | ⟨h0, h1, h2, h3⟩ | ⟨j, hj, rfl, h0, h1, h2, h3⟩
  · rw [show g_TH_isRegister p σc = some (some (.inl 0), σc) from if_pos h0, tw_bi_s, if_pos rfl, if_pos h0]
    exact ⟨0, σc, σm, rfl, rfl, tw_Inv_mk hR h01 hC⟩
  · rw [show g_TH_isRegister p σc = some (some (.inl 0), σc) from by unfold g_TH_isRegister; rw [if_neg h0, if_pos h1], tw_bi_s, if_pos rfl, if_neg h0, if_pos h2]
    exact ⟨0, σc, σm, rfl, rfl, tw_Inv_mk hR h01 hC⟩
  · have e : σm false 24 (0 + j) = σc false 2 j := tw_Rel_2 hR false hj
    rw [show g_TH_isRegister (nI j) σc = some (some (.inl 1), σc) from by unfold g_TH_isRegister; rw [if_neg h0, if_neg h1], tw_bi_s, if_neg (by decide), if_neg og, eg, if_neg (nI_in hj (by decide)), nI_clamp (by omega), if_neg h0, if_neg h2, (show (8 : Int32) * 0 = nI 0 from by decide), nI_add, if_neg (nI_in (by omega) (by decide)), nI_clamp (by omega), e]
    exact ⟨_, σc, σm, rfl, rfl, tw_Inv_mk hR h01 hC⟩
theorem tw_q_give_0 {σc σm : tw_S} (h : tw_Inv σc σm) (p x : Int32) : tw_CP (g_TH_give (0 : Int32) p x σc) (g_Mo_give_0 p x σm) := by
  obtain ⟨q, hh, r, hR, h01, hC⟩ := h
  have hg : g_TH_isGuest (0 : Int32) σc = some (some (.inl 1), σc) := by
    unfold g_TH_isGuest
    rw [if_neg (by decide), if_neg (by decide)]
  have og : ¬ tw_out (0 : Int32) 2 := by decide
  have eg : (((0 : Int32)).toNatClampNeg == 1) = false := by decide
  unfold g_TH_give g_Mo_give_0
  rw [hg, tw_bi_s, if_neg (by decide)]
  rcases tw_rg8 p with h0 | ⟨h0, h1, h2, h3⟩ | ⟨j, hj, rfl, h0, h1, h2, h3⟩
  · rw [show g_TH_isRegister p σc = some (some (.inl 0), σc) from if_pos h0, tw_bi_s, if_pos rfl, if_pos h0]
    exact ⟨0, σc, σm, rfl, rfl, tw_Inv_mk hR h01 hC⟩
  · rw [show g_TH_isRegister p σc = some (some (.inl 0), σc) from by unfold g_TH_isRegister; rw [if_neg h0, if_pos h1], tw_bi_s, if_pos rfl, if_neg h0, if_neg h3]
    exact ⟨0, σc, σm, rfl, rfl, tw_Inv_mk hR h01 hC⟩
  · rw [show g_TH_isRegister (nI j) σc = some (some (.inl 1), σc) from by unfold g_TH_isRegister; rw [if_neg h0, if_neg h1], tw_bi_s, if_neg (by decide), if_neg og, eg, tw_c_set false hj, tw_bv_s, if_neg h0, if_pos h3, tw_m_set_0 hj, tw_bv_s]
    exact ⟨1, _, _, rfl, rfl, tw_Inv_mk (tw_r_set hR false hj x) h01 (fun g' => tw_coh_set (hC g') false j x)⟩
theorem tw_q_count_0 {σc σm : tw_S} (h : tw_Inv σc σm) (p : Int32) : tw_CP (g_TH_count (0 : Int32) p σc) (g_Mo_count_0 p σm) := by
  obtain ⟨q, hh, r, hR, h01, hC⟩ := h
  have hg : g_TH_isGuest (0 : Int32) σc = some (some (.inl 1), σc) := by
    unfold g_TH_isGuest
    rw [if_neg (by decide), if_neg (by decide)]
  have og : ¬ tw_out (0 : Int32) 2 := by decide
  have eg : (((0 : Int32)).toNatClampNeg == 1) = false := by decide
  unfold g_TH_count g_Mo_count_0
  rw [hg, tw_bi_s, if_neg (by decide)]
  rcases tw_rg9 p with h0 | ⟨h0, h1, h2, h3⟩ | ⟨j, hj, rfl, h0, h1, h2, h3⟩
  · rw [if_pos h0, if_pos h0]
    exact ⟨-1, σc, σm, rfl, rfl, tw_Inv_mk hR h01 hC⟩
  · rw [if_neg h0, if_neg h0, if_pos h1, if_pos h2]
    exact ⟨-1, σc, σm, rfl, rfl, tw_Inv_mk hR h01 hC⟩
  · have e : σm false 31 (0 + j) = σc false 3 j := by
      by_cases h8 : j = 8
      · subst h8
        obtain ⟨-, -, -, h5⟩ := hR.2.1 false
        have h5 : σc false 3 8 = σm false 31 (0 + 8) + 0 := h5
        rw [h5, Int32.add_zero]
      · exact tw_Rel_3 hR false (by omega)
    rw [if_neg h0, if_neg h0, if_neg h1, if_neg h2, if_neg og, eg, if_neg (nI_in hj (by decide)), nI_clamp (by omega), (show (9 : Int32) * 0 = nI 0 from by decide), nI_add, if_neg (nI_in (by omega) (by decide)), nI_clamp (by omega), e]
    exact ⟨_, σc, σm, rfl, rfl, tw_Inv_mk hR h01 hC⟩
theorem tw_q_pc_0 {σc σm : tw_S} (h : tw_Inv σc σm) : tw_CP (g_TH_pc (0 : Int32)  σc) (g_Mo_pc_0  σm) := by
  obtain ⟨q, hh, r, hR, h01, hC⟩ := h
  have hg : g_TH_isGuest (0 : Int32) σc = some (some (.inl 1), σc) := by
    unfold g_TH_isGuest
    rw [if_neg (by decide), if_neg (by decide)]
  have og : ¬ tw_out (0 : Int32) 2 := by decide
  have eg : (((0 : Int32)).toNatClampNeg == 1) = false := by decide
  unfold g_TH_pc g_Mo_pc_0
  rw [hg, tw_bi_s, if_neg (by decide)]
  have e : σm false 26 0 = σc false 0 6 := tw_Rel_pc hR false
  rw [if_neg og, eg, e]
  exact ⟨_, σc, σm, rfl, rfl, tw_Inv_mk hR h01 hC⟩
theorem tw_q_user_0 {σc σm : tw_S} (h : tw_Inv σc σm) : tw_CP (g_TH_user (0 : Int32)  σc) (g_Mo_user_0  σm) := by
  obtain ⟨q, hh, r, hR, h01, hC⟩ := h
  have hg : g_TH_isGuest (0 : Int32) σc = some (some (.inl 1), σc) := by
    unfold g_TH_isGuest
    rw [if_neg (by decide), if_neg (by decide)]
  have og : ¬ tw_out (0 : Int32) 2 := by decide
  have eg : (((0 : Int32)).toNatClampNeg == 1) = false := by decide
  unfold g_TH_user g_Mo_user_0
  rw [hg, tw_bi_s, if_neg (by decide)]
  have e : σm false 27 0 = σc false 0 7 := tw_Rel_us0 hR false
  rw [if_neg og, eg, e]
  by_cases hu : σc false 0 7 = 0
  · rw [if_pos hu, if_pos hu]
    exact ⟨_, σc, σm, rfl, rfl, tw_Inv_mk hR h01 hC⟩
  · rw [if_neg hu, if_neg hu]
    exact ⟨_, σc, σm, rfl, rfl, tw_Inv_mk hR h01 hC⟩
theorem tw_q_place_0 {σc σm : tw_S} (h : tw_Inv σc σm) (p x : Int32) (hx : x = 0 ∨ x = 1) : tw_CP (g_TH_place (0 : Int32) p x σc) (g_Mo_place_0 p x σm) := by
  obtain ⟨q, hh, r, hR, h01, hC⟩ := h
  have hg : g_TH_isGuest (0 : Int32) σc = some (some (.inl 1), σc) := by
    unfold g_TH_isGuest
    rw [if_neg (by decide), if_neg (by decide)]
  have og : ¬ tw_out (0 : Int32) 2 := by decide
  have eg : (((0 : Int32)).toNatClampNeg == 1) = false := by decide
  unfold g_TH_place g_Mo_place_0
  rw [hg, tw_bi_s, if_neg (by decide)]
  rw [if_neg og, eg, if_pos hx, if_pos hx]
  refine ⟨1, _, _, rfl, rfl, tw_Inv_mk (tw_Rel_us (tw_Rel_pt hR (tw_mpc false) rfl rfl (by decide) (by decide) p) false hx) h01 (fun g' => tw_Coh_pt (tw_Coh_pt (hC g') rfl _) rfl _)⟩
theorem tw_q_shadow_0 {σc σm : tw_S} (h : tw_Inv σc σm) (p : Int32) : tw_CP (g_TH_shadow (0 : Int32) p σc) (g_Mo_shadow_0 p σm) := by
  obtain ⟨q, hh, r, hR, h01, hC⟩ := h
  have hg : g_TH_isGuest (0 : Int32) σc = some (some (.inl 1), σc) := by
    unfold g_TH_isGuest
    rw [if_neg (by decide), if_neg (by decide)]
  have og : ¬ tw_out (0 : Int32) 2 := by decide
  have eg : (((0 : Int32)).toNatClampNeg == 1) = false := by decide
  unfold g_TH_shadow g_Mo_shadow_0
  rw [hg, tw_bi_s, if_neg (by decide)]
  rcases tw_rg16 p with h0 | ⟨h0, h1, h2, h3⟩ | ⟨j, hj, rfl, h0, h1, h2, h3⟩
  · rw [if_pos h0, if_pos h0]
    exact ⟨-1, σc, σm, rfl, rfl, tw_Inv_mk hR h01 hC⟩
  · rw [if_neg h0, if_neg h0, if_pos h1, if_pos h2]
    exact ⟨-1, σc, σm, rfl, rfl, tw_Inv_mk hR h01 hC⟩
  · have e10 : σm false 32 (0 + j) = σc false 10 j := tw_Rel_pg hR false hj
    obtain ⟨-, -, hbits, -⟩ := hR.2.1 false
    obtain ⟨b1, b2, b3⟩ := hbits j hj
    have b1 : σm false 33 (0 + j) = σc false 11 j &&& 30 := b1
    have b2 : σm false 34 (0 + j) = (if σc false 11 j &&& 64 = 0 then 0 else 1) := b2
    have b4 : σc false 11 j &&& -65 = σc false 11 j &&& 30 := by
      rw [← b3, Int32.and_assoc, Int32.and_assoc]
      rfl
    unfold g_Sh_describe
    rw [if_neg h0, if_neg h0, if_neg h1, if_neg h2, if_neg og, eg, if_neg (nI_in hj (by decide)), nI_clamp (by omega), (show (16 : Int32) * 0 = nI 0 from by decide), nI_add, if_neg (nI_in (by omega) (by decide)), nI_clamp (by omega), e10, b1, b2, b4]
    by_cases hp : σc false 10 j = -1
    · rw [if_pos hp, if_neg (by rw [hp]; decide), tw_bi_s]
      exact ⟨-1, σc, σm, rfl, rfl, tw_Inv_mk hR h01 hC⟩
    · have hge : 0 ≤ σc false 10 j := (tw_coh_pg (hC false) j hj).resolve_left hp
      rw [if_neg hp, if_pos hge]
      by_cases h64 : σc false 11 j &&& 64 = 0
      · rw [if_pos h64, if_pos h64, if_pos rfl, tw_bi_s]
        exact ⟨_, σc, σm, rfl, rfl, tw_Inv_mk hR h01 hC⟩
      · rw [if_neg h64, if_neg h64, if_neg (by decide), tw_bi_s]
        exact ⟨_, σc, σm, rfl, rfl, tw_Inv_mk hR h01 hC⟩
theorem tw_q_traced_0 {σc σm : tw_S} (h : tw_Inv σc σm) (p : Int32) : tw_CP (g_TH_traced (0 : Int32) p σc) (g_Mo_traced_0 p σm) := by
  obtain ⟨q, hh, r, hR, h01, hC⟩ := h
  have hg : g_TH_isGuest (0 : Int32) σc = some (some (.inl 1), σc) := by
    unfold g_TH_isGuest
    rw [if_neg (by decide), if_neg (by decide)]
  have og : ¬ tw_out (0 : Int32) 2 := by decide
  have eg : (((0 : Int32)).toNatClampNeg == 1) = false := by decide
  unfold g_TH_traced g_Mo_traced_0
  rw [hg, tw_bi_s, if_neg (by decide)]
  rcases tw_rg8 p with h0 | ⟨h0, h1, h2, h3⟩ | ⟨j, hj, rfl, h0, h1, h2, h3⟩
  · rw [if_pos h0, if_pos h0]
    exact ⟨0, σc, σm, rfl, rfl, tw_Inv_mk hR h01 hC⟩
  · rw [if_neg h0, if_neg h0, if_pos h1, if_neg h3]
    exact ⟨0, σc, σm, rfl, rfl, tw_Inv_mk hR h01 hC⟩
  · obtain ⟨x, hx, tc, tm⟩ := tw_p_traced_0 hR (hC false) hj
    unfold g_Mo_traced_0 at tm
    rw [tm, if_neg h0, if_neg h1, if_neg og, eg, tc, tw_bi_s]
    rcases hx with rfl | rfl
    · rw [if_pos rfl]
      exact ⟨0, σc, σm, rfl, rfl, tw_Inv_mk hR h01 hC⟩
    · rw [if_neg (by decide)]
      exact ⟨1, σc, σm, rfl, rfl, tw_Inv_mk hR h01 hC⟩
theorem tw_q_control_0 {σc σm : tw_S} (h : tw_Inv σc σm) (p : Int32) : tw_CP (g_TH_control (0 : Int32) p σc) (g_Mo_control_0 p σm) := by
  obtain ⟨q, hh, r, hR, h01, hC⟩ := h
  have hg : g_TH_isGuest (0 : Int32) σc = some (some (.inl 1), σc) := by
    unfold g_TH_isGuest
    rw [if_neg (by decide), if_neg (by decide)]
  have og : ¬ tw_out (0 : Int32) 2 := by decide
  have eg : (((0 : Int32)).toNatClampNeg == 1) = false := by decide
  unfold g_TH_control g_Mo_control_0
  rw [hg, tw_bi_s, if_neg (by decide)]
  rcases tw_rg12 p with h0 | ⟨h0, h1, h2, h3⟩ | ⟨j, hj, rfl, h0, h1, h2, h3⟩
  · rw [show g_Co_exists p σc = some (some (.inl 0), σc) from if_pos h0, tw_bi_s, if_pos rfl, if_pos h0]
    exact ⟨0, σc, σm, rfl, rfl, tw_Inv_mk hR h01 hC⟩
  · rw [show g_Co_exists p σc = some (some (.inl 0), σc) from by unfold g_Co_exists; rw [if_neg h0, if_pos h1], tw_bi_s, if_pos rfl, if_neg h0, if_neg h3]
    exact ⟨0, σc, σm, rfl, rfl, tw_Inv_mk hR h01 hC⟩
  · have em := tw_m_look_0 hR hj
    unfold g_Mo_control_0 at em
    rw [em, tw_c_ex hj, tw_bi_s, if_neg (by decide), if_neg og, eg, tw_c_look false hj, tw_bi_s]
    exact ⟨_, σc, σm, rfl, rfl, tw_Inv_mk hR h01 hC⟩
theorem tw_q_command_0 {σc σm : tw_S} (h : tw_Inv σc σm) (p x : Int32) : tw_CP (g_TH_command (0 : Int32) p x σc) (g_Mo_command_0 p x σm) := by
  obtain ⟨q, hh, r, hR, h01, hC⟩ := h
  have hg : g_TH_isGuest (0 : Int32) σc = some (some (.inl 1), σc) := by
    unfold g_TH_isGuest
    rw [if_neg (by decide), if_neg (by decide)]
  have og : ¬ tw_out (0 : Int32) 2 := by decide
  have eg : (((0 : Int32)).toNatClampNeg == 1) = false := by decide
  unfold g_TH_command g_Mo_command_0
  rw [hg, tw_bi_s, if_neg (by decide)]
  rcases tw_rg12 p with h0 | ⟨h0, h1, h2, h3⟩ | ⟨j, hj, rfl, h0, h1, h2, h3⟩
  · have e1 : g_Co_isStoredTo p σc = some (some (.inl 0), σc) := by
      unfold g_Co_isStoredTo
      rw [show g_Co_exists p σc = some (some (.inl 0), σc) from if_pos h0, tw_bi_s, if_pos rfl]
    rw [e1, tw_bi_s, if_pos rfl, show g_Mo_isStored p σm = some (some (.inl 0), σm) from if_pos h0, tw_bi_s, if_pos rfl]
    exact ⟨0, σc, σm, rfl, rfl, tw_Inv_mk hR h01 hC⟩
  · have e1 : g_Co_isStoredTo p σc = some (some (.inl 0), σc) := by
      unfold g_Co_isStoredTo
      rw [show g_Co_exists p σc = some (some (.inl 0), σc) from by unfold g_Co_exists; rw [if_neg h0, if_pos h1], tw_bi_s, if_pos rfl]
    have e2 : g_Mo_isStored p σm = some (some (.inl 0), σm) := by
      unfold g_Mo_isStored
      rw [if_neg h0, if_pos (by
        rw [Int32.lt_iff_toInt_lt] at h2 ⊢
        have a : (11 : Int32).toInt = 11 := by decide
        have b : (9 : Int32).toInt = 9 := by decide
        omega)]
    rw [e1, tw_bi_s, if_pos rfl, e2, tw_bi_s, if_pos rfl]
    exact ⟨0, σc, σm, rfl, rfl, tw_Inv_mk hR h01 hC⟩
  · rw [tw_c_sto hj, tw_bi_s, tw_m_sto hj, tw_bi_s]
    by_cases hs : tw_sto j = 0
    · rw [if_pos hs, if_pos hs]
      exact ⟨0, σc, σm, rfl, rfl, tw_Inv_mk hR h01 hC⟩
    · rw [if_neg hs, if_neg hs, if_neg og, eg, tw_c_sc false hj, tw_bv_s, tw_m_sc_0 hj, tw_bv_s]
      exact ⟨1, _, _, rfl, rfl, tw_Inv_mk (tw_r_sc hR false hj x) h01 (fun g' => tw_coh_sc hC false j x g')⟩
theorem tw_q_input_0 {σc σm : tw_S} (h : tw_Inv σc σm) (t v : Int32) : tw_CP (g_TH_input (0 : Int32) t v σc) (g_Mo_input (0 : Int32) t v σm) := by
  obtain ⟨q, hh, r, hR, h01, hC⟩ := h
  have hg : g_TH_isGuest (0 : Int32) σc = some (some (.inl 1), σc) := by
    unfold g_TH_isGuest
    rw [if_neg (by decide), if_neg (by decide)]
  have og : ¬ tw_out (0 : Int32) 2 := by decide
  have eg : (((0 : Int32)).toNatClampNeg == 1) = false := by decide
  unfold g_TH_input g_Mo_input
  rw [hg, tw_bi_s, if_neg (show ¬ (1 : Int32) = 0 by decide), show g_Mo_guest (0 : Int32) σm = some (some (.inl 1), σm) from rfl, tw_bi_s, if_neg (show ¬ (1 : Int32) = 0 by decide)]
  by_cases ht : t < 0
  · rw [if_pos ht, if_pos ht]
    exact ⟨0, σc, σm, rfl, rfl, tw_Inv_mk hR h01 hC⟩
  · obtain ⟨n, hn, e1, e2, e3⟩ := tw_Rel_sz hR false
    have e2 : σm false 28 0 = nI n := e2
    have eN : ((0 : Int32)).toNatClampNeg = 0 := by decide
    rw [if_neg ht, if_neg ht, if_neg og, if_neg og, eg, eN, e2]
    unfold g_In_append
    rw [e1]
    by_cases h6 : n < 6
    · have l6 : nI n < 6 := nI_lt (b := 6) h6 (by decide)
      have hx : (6 : Int32) * 0 + nI n = nI (0 + n) := by
        rw [show (6 : Int32) * 0 = nI 0 from by decide, nI_add]
      have rd1 : tw_pt σm false 29 (0 + n) t false 28 0 = nI n := by
        rw [tw_pt_n _ _ (fun z => absurd z.2.1 (by decide))]; exact e2
      have rd2 : tw_pt (tw_pt σm false 29 (0 + n) t) false 30 (0 + n) v false 28 0 = nI n := by
        rw [tw_pt_n _ _ (fun z => absurd z.2.1 (by decide))]; exact rd1
      have o12 : ¬ tw_out (nI (0 + n)) 12 := nI_in (by omega) (by decide)
      have q12 : (nI (0 + n)).toNatClampNeg = 0 + n := nI_clamp (by omega)
      rw [if_pos l6, if_pos l6, if_neg (nI_in h6 (by decide)), nI_clamp (by omega), tw_bi_s, if_neg (by decide), nI_1, hx, if_neg o12, q12, rd1, hx, if_neg o12, q12, rd2, nI_1]
      exact ⟨1, _, _, rfl, rfl, tw_Inv_mk (tw_r_inp hR false h6 e1 t v) h01 (fun g' => tw_Coh_pt (tw_Coh_pt (tw_Coh_pt (hC g') rfl _) rfl _) rfl _)⟩
    · have l6 : ¬ nI n < 6 := nI_nlt (b := 6) (by omega) (by omega)
      rw [if_neg l6, if_neg l6, tw_bi_s, if_pos rfl]
      exact ⟨0, σc, σm, rfl, rfl, tw_Inv_mk hR h01 hC⟩
theorem tw_q_peek_1 {σc σm : tw_S} (h : tw_Inv σc σm) (p : Int32) : tw_CP (g_TH_peek (1 : Int32) p σc) (g_Mo_peek_1 p σm) := by
  obtain ⟨q, hh, r, hR, h01, hC⟩ := h
  have hg : g_TH_isGuest (1 : Int32) σc = some (some (.inl 1), σc) := by
    unfold g_TH_isGuest
    rw [if_neg (by decide), if_neg (by decide)]
  have og : ¬ tw_out (1 : Int32) 2 := by decide
  have eg : (((1 : Int32)).toNatClampNeg == 1) = true := by decide
  unfold g_TH_peek g_Mo_peek_1
  rw [hg, tw_bi_s, if_neg (by decide)]
  rcases tw_rg128 p with h0 | ⟨h0, h1, h2, h3⟩ | ⟨j, hj, rfl, h0, h1, h2, h3⟩
  · rw [show g_TH_isWord p σc = some (some (.inl 0), σc) from if_pos h0, tw_bi_s, if_pos rfl, if_pos h0]
    exact ⟨0, σc, σm, rfl, rfl, tw_Inv_mk hR h01 hC⟩
  · rw [show g_TH_isWord p σc = some (some (.inl 0), σc) from by unfold g_TH_isWord; rw [if_neg h0, if_pos h1], tw_bi_s, if_pos rfl, if_neg h0, if_pos h2]
    exact ⟨0, σc, σm, rfl, rfl, tw_Inv_mk hR h01 hC⟩
  · have e : σm false 23 (128 + j) = σc true 1 j := tw_Rel_1 hR true hj
    rw [show g_TH_isWord (nI j) σc = some (some (.inl 1), σc) from by unfold g_TH_isWord; rw [if_neg h0, if_neg h1], tw_bi_s, if_neg (by decide), if_neg og, eg, if_neg (nI_in hj (by decide)), nI_clamp (by omega), if_neg h0, if_neg h2, (show (128 : Int32) * 1 = nI 128 from by decide), nI_add, if_neg (nI_in (by omega) (by decide)), nI_clamp (by omega), e]
    exact ⟨_, σc, σm, rfl, rfl, tw_Inv_mk hR h01 hC⟩
theorem tw_q_poke_1 {σc σm : tw_S} (h : tw_Inv σc σm) (p x : Int32) : tw_CP (g_TH_poke (1 : Int32) p x σc) (g_Mo_poke_1 p x σm) := by
  obtain ⟨q, hh, r, hR, h01, hC⟩ := h
  have hg : g_TH_isGuest (1 : Int32) σc = some (some (.inl 1), σc) := by
    unfold g_TH_isGuest
    rw [if_neg (by decide), if_neg (by decide)]
  have og : ¬ tw_out (1 : Int32) 2 := by decide
  have eg : (((1 : Int32)).toNatClampNeg == 1) = true := by decide
  unfold g_TH_poke g_Mo_poke_1
  rw [hg, tw_bi_s, if_neg (by decide)]
  rcases tw_rg128 p with h0 | ⟨h0, h1, h2, h3⟩ | ⟨j, hj, rfl, h0, h1, h2, h3⟩
  · rw [show g_TH_isWord p σc = some (some (.inl 0), σc) from if_pos h0, tw_bi_s, if_pos rfl, if_pos h0]
    exact ⟨0, σc, σm, rfl, rfl, tw_Inv_mk hR h01 hC⟩
  · rw [show g_TH_isWord p σc = some (some (.inl 0), σc) from by unfold g_TH_isWord; rw [if_neg h0, if_pos h1], tw_bi_s, if_pos rfl, if_neg h0, if_neg h3]
    exact ⟨0, σc, σm, rfl, rfl, tw_Inv_mk hR h01 hC⟩
  · have e : σm false 23 (128 + j) = σc true 1 j := tw_Rel_1 hR true hj
    obtain ⟨uc, um, oc, om, hR3, hC3⟩ := tw_p_over_1 hR hC hj x
    rw [show g_TH_isWord (nI j) σc = some (some (.inl 1), σc) from by unfold g_TH_isWord; rw [if_neg h0, if_neg h1], tw_bi_s, if_neg (by decide), if_neg og, eg, oc, tw_bi_s, if_neg h0, if_pos h3, (show (128 : Int32) * 1 = nI 128 from by decide), nI_add, if_neg (nI_in (by omega) (by decide)), nI_clamp (by omega), om, tw_bv_s, e]
    exact ⟨_, uc, um, rfl, rfl, tw_Inv_mk hR3 h01 hC3⟩
theorem tw_q_register_1 {σc σm : tw_S} (h : tw_Inv σc σm) (p : Int32) : tw_CP (g_TH_register (1 : Int32) p σc) (g_Mo_register_1 p σm) := by
  obtain ⟨q, hh, r, hR, h01, hC⟩ := h
  have hg : g_TH_isGuest (1 : Int32) σc = some (some (.inl 1), σc) := by
    unfold g_TH_isGuest
    rw [if_neg (by decide), if_neg (by decide)]
  have og : ¬ tw_out (1 : Int32) 2 := by decide
  have eg : (((1 : Int32)).toNatClampNeg == 1) = true := by decide
  unfold g_TH_register g_Mo_register_1
  rw [hg, tw_bi_s, if_neg (by decide)]
  rcases tw_rg8 p with h0 | ⟨h0, h1, h2, h3⟩ | ⟨j, hj, rfl, h0, h1, h2, h3⟩
  · rw [show g_TH_isRegister p σc = some (some (.inl 0), σc) from if_pos h0, tw_bi_s, if_pos rfl, if_pos h0]
    exact ⟨0, σc, σm, rfl, rfl, tw_Inv_mk hR h01 hC⟩
  · rw [show g_TH_isRegister p σc = some (some (.inl 0), σc) from by unfold g_TH_isRegister; rw [if_neg h0, if_pos h1], tw_bi_s, if_pos rfl, if_neg h0, if_pos h2]
    exact ⟨0, σc, σm, rfl, rfl, tw_Inv_mk hR h01 hC⟩
  · have e : σm false 24 (8 + j) = σc true 2 j := tw_Rel_2 hR true hj
    rw [show g_TH_isRegister (nI j) σc = some (some (.inl 1), σc) from by unfold g_TH_isRegister; rw [if_neg h0, if_neg h1], tw_bi_s, if_neg (by decide), if_neg og, eg, if_neg (nI_in hj (by decide)), nI_clamp (by omega), if_neg h0, if_neg h2, (show (8 : Int32) * 1 = nI 8 from by decide), nI_add, if_neg (nI_in (by omega) (by decide)), nI_clamp (by omega), e]
    exact ⟨_, σc, σm, rfl, rfl, tw_Inv_mk hR h01 hC⟩
theorem tw_q_give_1 {σc σm : tw_S} (h : tw_Inv σc σm) (p x : Int32) : tw_CP (g_TH_give (1 : Int32) p x σc) (g_Mo_give_1 p x σm) := by
  obtain ⟨q, hh, r, hR, h01, hC⟩ := h
  have hg : g_TH_isGuest (1 : Int32) σc = some (some (.inl 1), σc) := by
    unfold g_TH_isGuest
    rw [if_neg (by decide), if_neg (by decide)]
  have og : ¬ tw_out (1 : Int32) 2 := by decide
  have eg : (((1 : Int32)).toNatClampNeg == 1) = true := by decide
  unfold g_TH_give g_Mo_give_1
  rw [hg, tw_bi_s, if_neg (by decide)]
  rcases tw_rg8 p with h0 | ⟨h0, h1, h2, h3⟩ | ⟨j, hj, rfl, h0, h1, h2, h3⟩
  · rw [show g_TH_isRegister p σc = some (some (.inl 0), σc) from if_pos h0, tw_bi_s, if_pos rfl, if_pos h0]
    exact ⟨0, σc, σm, rfl, rfl, tw_Inv_mk hR h01 hC⟩
  · rw [show g_TH_isRegister p σc = some (some (.inl 0), σc) from by unfold g_TH_isRegister; rw [if_neg h0, if_pos h1], tw_bi_s, if_pos rfl, if_neg h0, if_neg h3]
    exact ⟨0, σc, σm, rfl, rfl, tw_Inv_mk hR h01 hC⟩
  · rw [show g_TH_isRegister (nI j) σc = some (some (.inl 1), σc) from by unfold g_TH_isRegister; rw [if_neg h0, if_neg h1], tw_bi_s, if_neg (by decide), if_neg og, eg, tw_c_set true hj, tw_bv_s, if_neg h0, if_pos h3, tw_m_set_1 hj, tw_bv_s]
    exact ⟨1, _, _, rfl, rfl, tw_Inv_mk (tw_r_set hR true hj x) h01 (fun g' => tw_coh_set (hC g') true j x)⟩
theorem tw_q_count_1 {σc σm : tw_S} (h : tw_Inv σc σm) (p : Int32) : tw_CP (g_TH_count (1 : Int32) p σc) (g_Mo_count_1 p σm) := by
  obtain ⟨q, hh, r, hR, h01, hC⟩ := h
  have hg : g_TH_isGuest (1 : Int32) σc = some (some (.inl 1), σc) := by
    unfold g_TH_isGuest
    rw [if_neg (by decide), if_neg (by decide)]
  have og : ¬ tw_out (1 : Int32) 2 := by decide
  have eg : (((1 : Int32)).toNatClampNeg == 1) = true := by decide
  unfold g_TH_count g_Mo_count_1
  rw [hg, tw_bi_s, if_neg (by decide)]
  rcases tw_rg9 p with h0 | ⟨h0, h1, h2, h3⟩ | ⟨j, hj, rfl, h0, h1, h2, h3⟩
  · rw [if_pos h0, if_pos h0]
    exact ⟨-1, σc, σm, rfl, rfl, tw_Inv_mk hR h01 hC⟩
  · rw [if_neg h0, if_neg h0, if_pos h1, if_pos h2]
    exact ⟨-1, σc, σm, rfl, rfl, tw_Inv_mk hR h01 hC⟩
  · have e : σm false 31 (9 + j) = σc true 3 j := by
      by_cases h8 : j = 8
      · subst h8
        obtain ⟨-, -, -, h5⟩ := hR.2.1 true
        have h5 : σc true 3 8 = σm false 31 (9 + 8) + 0 := h5
        rw [h5, Int32.add_zero]
      · exact tw_Rel_3 hR true (by omega)
    rw [if_neg h0, if_neg h0, if_neg h1, if_neg h2, if_neg og, eg, if_neg (nI_in hj (by decide)), nI_clamp (by omega), (show (9 : Int32) * 1 = nI 9 from by decide), nI_add, if_neg (nI_in (by omega) (by decide)), nI_clamp (by omega), e]
    exact ⟨_, σc, σm, rfl, rfl, tw_Inv_mk hR h01 hC⟩
theorem tw_q_pc_1 {σc σm : tw_S} (h : tw_Inv σc σm) : tw_CP (g_TH_pc (1 : Int32)  σc) (g_Mo_pc_1  σm) := by
  obtain ⟨q, hh, r, hR, h01, hC⟩ := h
  have hg : g_TH_isGuest (1 : Int32) σc = some (some (.inl 1), σc) := by
    unfold g_TH_isGuest
    rw [if_neg (by decide), if_neg (by decide)]
  have og : ¬ tw_out (1 : Int32) 2 := by decide
  have eg : (((1 : Int32)).toNatClampNeg == 1) = true := by decide
  unfold g_TH_pc g_Mo_pc_1
  rw [hg, tw_bi_s, if_neg (by decide)]
  have e : σm false 26 1 = σc true 0 6 := tw_Rel_pc hR true
  rw [if_neg og, eg, e]
  exact ⟨_, σc, σm, rfl, rfl, tw_Inv_mk hR h01 hC⟩
theorem tw_q_user_1 {σc σm : tw_S} (h : tw_Inv σc σm) : tw_CP (g_TH_user (1 : Int32)  σc) (g_Mo_user_1  σm) := by
  obtain ⟨q, hh, r, hR, h01, hC⟩ := h
  have hg : g_TH_isGuest (1 : Int32) σc = some (some (.inl 1), σc) := by
    unfold g_TH_isGuest
    rw [if_neg (by decide), if_neg (by decide)]
  have og : ¬ tw_out (1 : Int32) 2 := by decide
  have eg : (((1 : Int32)).toNatClampNeg == 1) = true := by decide
  unfold g_TH_user g_Mo_user_1
  rw [hg, tw_bi_s, if_neg (by decide)]
  have e : σm false 27 1 = σc true 0 7 := tw_Rel_us0 hR true
  rw [if_neg og, eg, e]
  by_cases hu : σc true 0 7 = 0
  · rw [if_pos hu, if_pos hu]
    exact ⟨_, σc, σm, rfl, rfl, tw_Inv_mk hR h01 hC⟩
  · rw [if_neg hu, if_neg hu]
    exact ⟨_, σc, σm, rfl, rfl, tw_Inv_mk hR h01 hC⟩
theorem tw_q_place_1 {σc σm : tw_S} (h : tw_Inv σc σm) (p x : Int32) (hx : x = 0 ∨ x = 1) : tw_CP (g_TH_place (1 : Int32) p x σc) (g_Mo_place_1 p x σm) := by
  obtain ⟨q, hh, r, hR, h01, hC⟩ := h
  have hg : g_TH_isGuest (1 : Int32) σc = some (some (.inl 1), σc) := by
    unfold g_TH_isGuest
    rw [if_neg (by decide), if_neg (by decide)]
  have og : ¬ tw_out (1 : Int32) 2 := by decide
  have eg : (((1 : Int32)).toNatClampNeg == 1) = true := by decide
  unfold g_TH_place g_Mo_place_1
  rw [hg, tw_bi_s, if_neg (by decide)]
  rw [if_neg og, eg, if_pos hx, if_pos hx]
  refine ⟨1, _, _, rfl, rfl, tw_Inv_mk (tw_Rel_us (tw_Rel_pt hR (tw_mpc true) rfl rfl (by decide) (by decide) p) true hx) h01 (fun g' => tw_Coh_pt (tw_Coh_pt (hC g') rfl _) rfl _)⟩
theorem tw_q_shadow_1 {σc σm : tw_S} (h : tw_Inv σc σm) (p : Int32) : tw_CP (g_TH_shadow (1 : Int32) p σc) (g_Mo_shadow_1 p σm) := by
  obtain ⟨q, hh, r, hR, h01, hC⟩ := h
  have hg : g_TH_isGuest (1 : Int32) σc = some (some (.inl 1), σc) := by
    unfold g_TH_isGuest
    rw [if_neg (by decide), if_neg (by decide)]
  have og : ¬ tw_out (1 : Int32) 2 := by decide
  have eg : (((1 : Int32)).toNatClampNeg == 1) = true := by decide
  unfold g_TH_shadow g_Mo_shadow_1
  rw [hg, tw_bi_s, if_neg (by decide)]
  rcases tw_rg16 p with h0 | ⟨h0, h1, h2, h3⟩ | ⟨j, hj, rfl, h0, h1, h2, h3⟩
  · rw [if_pos h0, if_pos h0]
    exact ⟨-1, σc, σm, rfl, rfl, tw_Inv_mk hR h01 hC⟩
  · rw [if_neg h0, if_neg h0, if_pos h1, if_pos h2]
    exact ⟨-1, σc, σm, rfl, rfl, tw_Inv_mk hR h01 hC⟩
  · have e10 : σm false 32 (16 + j) = σc true 10 j := tw_Rel_pg hR true hj
    obtain ⟨-, -, hbits, -⟩ := hR.2.1 true
    obtain ⟨b1, b2, b3⟩ := hbits j hj
    have b1 : σm false 33 (16 + j) = σc true 11 j &&& 30 := b1
    have b2 : σm false 34 (16 + j) = (if σc true 11 j &&& 64 = 0 then 0 else 1) := b2
    have b4 : σc true 11 j &&& -65 = σc true 11 j &&& 30 := by
      rw [← b3, Int32.and_assoc, Int32.and_assoc]
      rfl
    unfold g_Sh_describe
    rw [if_neg h0, if_neg h0, if_neg h1, if_neg h2, if_neg og, eg, if_neg (nI_in hj (by decide)), nI_clamp (by omega), (show (16 : Int32) * 1 = nI 16 from by decide), nI_add, if_neg (nI_in (by omega) (by decide)), nI_clamp (by omega), e10, b1, b2, b4]
    by_cases hp : σc true 10 j = -1
    · rw [if_pos hp, if_neg (by rw [hp]; decide), tw_bi_s]
      exact ⟨-1, σc, σm, rfl, rfl, tw_Inv_mk hR h01 hC⟩
    · have hge : 0 ≤ σc true 10 j := (tw_coh_pg (hC true) j hj).resolve_left hp
      rw [if_neg hp, if_pos hge]
      by_cases h64 : σc true 11 j &&& 64 = 0
      · rw [if_pos h64, if_pos h64, if_pos rfl, tw_bi_s]
        exact ⟨_, σc, σm, rfl, rfl, tw_Inv_mk hR h01 hC⟩
      · rw [if_neg h64, if_neg h64, if_neg (by decide), tw_bi_s]
        exact ⟨_, σc, σm, rfl, rfl, tw_Inv_mk hR h01 hC⟩
theorem tw_q_traced_1 {σc σm : tw_S} (h : tw_Inv σc σm) (p : Int32) : tw_CP (g_TH_traced (1 : Int32) p σc) (g_Mo_traced_1 p σm) := by
  obtain ⟨q, hh, r, hR, h01, hC⟩ := h
  have hg : g_TH_isGuest (1 : Int32) σc = some (some (.inl 1), σc) := by
    unfold g_TH_isGuest
    rw [if_neg (by decide), if_neg (by decide)]
  have og : ¬ tw_out (1 : Int32) 2 := by decide
  have eg : (((1 : Int32)).toNatClampNeg == 1) = true := by decide
  unfold g_TH_traced g_Mo_traced_1
  rw [hg, tw_bi_s, if_neg (by decide)]
  rcases tw_rg8 p with h0 | ⟨h0, h1, h2, h3⟩ | ⟨j, hj, rfl, h0, h1, h2, h3⟩
  · rw [if_pos h0, if_pos h0]
    exact ⟨0, σc, σm, rfl, rfl, tw_Inv_mk hR h01 hC⟩
  · rw [if_neg h0, if_neg h0, if_pos h1, if_neg h3]
    exact ⟨0, σc, σm, rfl, rfl, tw_Inv_mk hR h01 hC⟩
  · obtain ⟨x, hx, tc, tm⟩ := tw_p_traced_1 hR (hC true) hj
    unfold g_Mo_traced_1 at tm
    rw [tm, if_neg h0, if_neg h1, if_neg og, eg, tc, tw_bi_s]
    rcases hx with rfl | rfl
    · rw [if_pos rfl]
      exact ⟨0, σc, σm, rfl, rfl, tw_Inv_mk hR h01 hC⟩
    · rw [if_neg (by decide)]
      exact ⟨1, σc, σm, rfl, rfl, tw_Inv_mk hR h01 hC⟩
theorem tw_q_control_1 {σc σm : tw_S} (h : tw_Inv σc σm) (p : Int32) : tw_CP (g_TH_control (1 : Int32) p σc) (g_Mo_control_1 p σm) := by
  obtain ⟨q, hh, r, hR, h01, hC⟩ := h
  have hg : g_TH_isGuest (1 : Int32) σc = some (some (.inl 1), σc) := by
    unfold g_TH_isGuest
    rw [if_neg (by decide), if_neg (by decide)]
  have og : ¬ tw_out (1 : Int32) 2 := by decide
  have eg : (((1 : Int32)).toNatClampNeg == 1) = true := by decide
  unfold g_TH_control g_Mo_control_1
  rw [hg, tw_bi_s, if_neg (by decide)]
  rcases tw_rg12 p with h0 | ⟨h0, h1, h2, h3⟩ | ⟨j, hj, rfl, h0, h1, h2, h3⟩
  · rw [show g_Co_exists p σc = some (some (.inl 0), σc) from if_pos h0, tw_bi_s, if_pos rfl, if_pos h0]
    exact ⟨0, σc, σm, rfl, rfl, tw_Inv_mk hR h01 hC⟩
  · rw [show g_Co_exists p σc = some (some (.inl 0), σc) from by unfold g_Co_exists; rw [if_neg h0, if_pos h1], tw_bi_s, if_pos rfl, if_neg h0, if_neg h3]
    exact ⟨0, σc, σm, rfl, rfl, tw_Inv_mk hR h01 hC⟩
  · have em := tw_m_look_1 hR hj
    unfold g_Mo_control_1 at em
    rw [em, tw_c_ex hj, tw_bi_s, if_neg (by decide), if_neg og, eg, tw_c_look true hj, tw_bi_s]
    exact ⟨_, σc, σm, rfl, rfl, tw_Inv_mk hR h01 hC⟩
theorem tw_q_command_1 {σc σm : tw_S} (h : tw_Inv σc σm) (p x : Int32) : tw_CP (g_TH_command (1 : Int32) p x σc) (g_Mo_command_1 p x σm) := by
  obtain ⟨q, hh, r, hR, h01, hC⟩ := h
  have hg : g_TH_isGuest (1 : Int32) σc = some (some (.inl 1), σc) := by
    unfold g_TH_isGuest
    rw [if_neg (by decide), if_neg (by decide)]
  have og : ¬ tw_out (1 : Int32) 2 := by decide
  have eg : (((1 : Int32)).toNatClampNeg == 1) = true := by decide
  unfold g_TH_command g_Mo_command_1
  rw [hg, tw_bi_s, if_neg (by decide)]
  rcases tw_rg12 p with h0 | ⟨h0, h1, h2, h3⟩ | ⟨j, hj, rfl, h0, h1, h2, h3⟩
  · have e1 : g_Co_isStoredTo p σc = some (some (.inl 0), σc) := by
      unfold g_Co_isStoredTo
      rw [show g_Co_exists p σc = some (some (.inl 0), σc) from if_pos h0, tw_bi_s, if_pos rfl]
    rw [e1, tw_bi_s, if_pos rfl, show g_Mo_isStored p σm = some (some (.inl 0), σm) from if_pos h0, tw_bi_s, if_pos rfl]
    exact ⟨0, σc, σm, rfl, rfl, tw_Inv_mk hR h01 hC⟩
  · have e1 : g_Co_isStoredTo p σc = some (some (.inl 0), σc) := by
      unfold g_Co_isStoredTo
      rw [show g_Co_exists p σc = some (some (.inl 0), σc) from by unfold g_Co_exists; rw [if_neg h0, if_pos h1], tw_bi_s, if_pos rfl]
    have e2 : g_Mo_isStored p σm = some (some (.inl 0), σm) := by
      unfold g_Mo_isStored
      rw [if_neg h0, if_pos (by
        rw [Int32.lt_iff_toInt_lt] at h2 ⊢
        have a : (11 : Int32).toInt = 11 := by decide
        have b : (9 : Int32).toInt = 9 := by decide
        omega)]
    rw [e1, tw_bi_s, if_pos rfl, e2, tw_bi_s, if_pos rfl]
    exact ⟨0, σc, σm, rfl, rfl, tw_Inv_mk hR h01 hC⟩
  · rw [tw_c_sto hj, tw_bi_s, tw_m_sto hj, tw_bi_s]
    by_cases hs : tw_sto j = 0
    · rw [if_pos hs, if_pos hs]
      exact ⟨0, σc, σm, rfl, rfl, tw_Inv_mk hR h01 hC⟩
    · rw [if_neg hs, if_neg hs, if_neg og, eg, tw_c_sc true hj, tw_bv_s, tw_m_sc_1 hj, tw_bv_s]
      exact ⟨1, _, _, rfl, rfl, tw_Inv_mk (tw_r_sc hR true hj x) h01 (fun g' => tw_coh_sc hC true j x g')⟩
theorem tw_q_input_1 {σc σm : tw_S} (h : tw_Inv σc σm) (t v : Int32) : tw_CP (g_TH_input (1 : Int32) t v σc) (g_Mo_input (1 : Int32) t v σm) := by
  obtain ⟨q, hh, r, hR, h01, hC⟩ := h
  have hg : g_TH_isGuest (1 : Int32) σc = some (some (.inl 1), σc) := by
    unfold g_TH_isGuest
    rw [if_neg (by decide), if_neg (by decide)]
  have og : ¬ tw_out (1 : Int32) 2 := by decide
  have eg : (((1 : Int32)).toNatClampNeg == 1) = true := by decide
  unfold g_TH_input g_Mo_input
  rw [hg, tw_bi_s, if_neg (show ¬ (1 : Int32) = 0 by decide), show g_Mo_guest (1 : Int32) σm = some (some (.inl 1), σm) from rfl, tw_bi_s, if_neg (show ¬ (1 : Int32) = 0 by decide)]
  by_cases ht : t < 0
  · rw [if_pos ht, if_pos ht]
    exact ⟨0, σc, σm, rfl, rfl, tw_Inv_mk hR h01 hC⟩
  · obtain ⟨n, hn, e1, e2, e3⟩ := tw_Rel_sz hR true
    have e2 : σm false 28 1 = nI n := e2
    have eN : ((1 : Int32)).toNatClampNeg = 1 := by decide
    rw [if_neg ht, if_neg ht, if_neg og, if_neg og, eg, eN, e2]
    unfold g_In_append
    rw [e1]
    by_cases h6 : n < 6
    · have l6 : nI n < 6 := nI_lt (b := 6) h6 (by decide)
      have hx : (6 : Int32) * 1 + nI n = nI (6 + n) := by
        rw [show (6 : Int32) * 1 = nI 6 from by decide, nI_add]
      have rd1 : tw_pt σm false 29 (6 + n) t false 28 1 = nI n := by
        rw [tw_pt_n _ _ (fun z => absurd z.2.1 (by decide))]; exact e2
      have rd2 : tw_pt (tw_pt σm false 29 (6 + n) t) false 30 (6 + n) v false 28 1 = nI n := by
        rw [tw_pt_n _ _ (fun z => absurd z.2.1 (by decide))]; exact rd1
      have o12 : ¬ tw_out (nI (6 + n)) 12 := nI_in (by omega) (by decide)
      have q12 : (nI (6 + n)).toNatClampNeg = 6 + n := nI_clamp (by omega)
      rw [if_pos l6, if_pos l6, if_neg (nI_in h6 (by decide)), nI_clamp (by omega), tw_bi_s, if_neg (by decide), nI_1, hx, if_neg o12, q12, rd1, hx, if_neg o12, q12, rd2, nI_1]
      exact ⟨1, _, _, rfl, rfl, tw_Inv_mk (tw_r_inp hR true h6 e1 t v) h01 (fun g' => tw_Coh_pt (tw_Coh_pt (tw_Coh_pt (hC g') rfl _) rfl _) rfl _)⟩
    · have l6 : ¬ nI n < 6 := nI_nlt (b := 6) (by omega) (by omega)
      rw [if_neg l6, if_neg l6, tw_bi_s, if_pos rfl]
      exact ⟨0, σc, σm, rfl, rfl, tw_Inv_mk hR h01 hC⟩
