/-! Ordinary instructions; a step. -/
theorem tw_cmp (x a b i : Int32) : ∃ v : Int32, (∀ σ, g_Gu_compute x a b i σ = some (some (.inl v), σ)) ∧ (∀ σ, g_Mo_calculate x a b i σ = some (some (.inl v), σ)) := by
  unfold g_Gu_compute g_Mo_calculate
  by_cases h0 : x = 0
  · exact ⟨a + i, fun σ => by rw [if_pos h0], fun σ => by rw [if_pos h0]⟩
  by_cases h1 : x = 1
  · exact ⟨a + b, fun σ => by rw [if_neg h0, if_pos h1], fun σ => by rw [if_neg h0, if_pos h1]⟩
  by_cases h2 : x = 2
  · exact ⟨a - b, fun σ => by rw [if_neg h0, if_neg h1, if_pos h2], fun σ => by rw [if_neg h0, if_neg h1, if_pos h2]⟩
  by_cases h3 : x = 3
  · exact ⟨a &&& b, fun σ => by rw [if_neg h0, if_neg h1, if_neg h2, if_pos h3], fun σ => by rw [if_neg h0, if_neg h1, if_neg h2, if_pos h3]⟩
  by_cases h4 : x = 4
  · exact ⟨a ||| b, fun σ => by rw [if_neg h0, if_neg h1, if_neg h2, if_neg h3, if_pos h4], fun σ => by rw [if_neg h0, if_neg h1, if_neg h2, if_neg h3, if_pos h4]⟩
  by_cases h5 : x = 5
  · exact ⟨a ^^^ b, fun σ => by rw [if_neg h0, if_neg h1, if_neg h2, if_neg h3, if_neg h4, if_pos h5], fun σ => by rw [if_neg h0, if_neg h1, if_neg h2, if_neg h3, if_neg h4, if_pos h5]⟩
  by_cases h6 : x = 6
  · by_cases hl : b ≤ a
    · exact ⟨0, fun σ => by rw [if_neg h0, if_neg h1, if_neg h2, if_neg h3, if_neg h4, if_neg h5, if_pos h6, if_pos hl], fun σ => by rw [if_neg h0, if_neg h1, if_neg h2, if_neg h3, if_neg h4, if_neg h5, if_pos h6, if_pos hl]⟩
    · exact ⟨1, fun σ => by rw [if_neg h0, if_neg h1, if_neg h2, if_neg h3, if_neg h4, if_neg h5, if_pos h6, if_neg hl], fun σ => by rw [if_neg h0, if_neg h1, if_neg h2, if_neg h3, if_neg h4, if_neg h5, if_pos h6, if_neg hl]⟩
  by_cases h7 : x = 7
  · exact ⟨a <<< ((b &&& (31 : Int32)) &&& 31), fun σ => by rw [if_neg h0, if_neg h1, if_neg h2, if_neg h3, if_neg h4, if_neg h5, if_neg h6, if_pos h7], fun σ => by rw [if_neg h0, if_neg h1, if_neg h2, if_neg h3, if_neg h4, if_neg h5, if_neg h6, if_pos h7]⟩
  by_cases h8 : x = 8
  · exact ⟨a >>> ((b &&& (31 : Int32)) &&& 31), fun σ => by rw [if_neg h0, if_neg h1, if_neg h2, if_neg h3, if_neg h4, if_neg h5, if_neg h6, if_neg h7, if_pos h8], fun σ => by rw [if_neg h0, if_neg h1, if_neg h2, if_neg h3, if_neg h4, if_neg h5, if_neg h6, if_neg h7, if_pos h8]⟩
  exact ⟨i <<< ((16 : Int32) &&& 31), fun σ => by rw [if_neg h0, if_neg h1, if_neg h2, if_neg h3, if_neg h4, if_neg h5, if_neg h6, if_neg h7, if_neg h8], fun σ => by rw [if_neg h0, if_neg h1, if_neg h2, if_neg h3, if_neg h4, if_neg h5, if_neg h6, if_neg h7, if_neg h8]⟩
theorem tw_setc_pc (g : Bool) (j : Nat) (x : Int32) (σ : tw_S) : tw_setc g j x σ g 0 6 = σ g 0 6 := by
  unfold tw_setc
  by_cases h : j = 0
  · rw [if_pos h]
  · rw [if_neg h, tw_pt_n _ _ (fun z => absurd z.2.1 (by decide))]
theorem tw_p_bod_0 {d : tw_Dt} {σc σm : tw_S} (hR : tw_Rel d σc σm) (hC : ∀ g', tw_Coh σc g') {a : Nat} (ha : a < 128) (both : Int32) (hb : both = σc false 5 7 &&& tw_pend σc false) : tw_OutP d (tw_boc false (nI a) σc) (tw_bom_0 both (nI a) σm) := by
  have hb0 : (128 : Int32) * 0 + nI a = nI (0 + a) := by
    rw [show (128 : Int32) * 0 = nI 0 from by decide, nI_add]
  have w23 : σm false 23 (0 + a) = σc false 1 a := tw_Rel_1 hR false ha
  have o1 : ¬ tw_out (nI a) 128 := nI_in ha (by decide)
  have o2 : ¬ tw_out (nI (0 + a)) 256 := nI_in (by omega) (by decide)
  have q1 : (nI a).toNatClampNeg = a := nI_clamp (by omega)
  have q2 : (nI (0 + a)).toNatClampNeg = 0 + a := nI_clamp (by omega)
  have pos : (0 : Int32) ≤ nI a := nI_pos' (by omega)
  unfold tw_boc tw_bom_0
  rw [if_pos pos, if_pos pos, if_neg o1, hb0, if_neg o2, q1, q2, w23]
  generalize σc false 1 a = w
  obtain ⟨o, ho, eo⟩ := pk_andE w (m := 31) 5 (by decide)
  have ho : o < 32 := ho
  have l17 : (17 : Int32) ≤ w &&& 31 ↔ 17 ≤ o := by rw [eo]; exact nI_leI (a := 17) (by decide) (by omega)
  have l17' : w &&& 31 < 17 ↔ o < 17 := by rw [eo]; exact nI_ltI (b := 17) (by omega) (by decide)
  by_cases h17 : 17 ≤ o
  · rw [if_pos (l17.mpr h17), if_neg (fun z => absurd (l17'.mp z) (by omega))]
    exact tw_o_hand (tw_o_handm (tw_p_sys_0 hR hC w both eo ho h17 hb))
  · rw [if_neg (fun z => h17 (l17.mp z)), if_pos (l17'.mpr (by omega))]
    refine tw_o_hand ?_
    obtain ⟨ra, hra, era⟩ := tw_reg_ix (w >>> ((8 : Int32) &&& 31))
    obtain ⟨rb, hrb, erb⟩ := tw_reg_ix (w >>> ((11 : Int32) &&& 31))
    obtain ⟨rd, hrd, erd⟩ := tw_reg_ix (w >>> ((5 : Int32) &&& 31))
    have a8 : ∀ j : Nat, (8 : Int32) * 0 + nI j = nI (0 + j) := fun j => by
      rw [show (8 : Int32) * 0 = nI 0 from by decide, nI_add]
    have wa : σm false 24 (0 + ra) = σc false 2 ra := tw_Rel_2 hR false hra
    have wb : σm false 24 (0 + rb) = σc false 2 rb := tw_Rel_2 hR false hrb
    have oa : ¬ tw_out (nI ra) 8 := nI_in hra (by decide)
    have ob : ¬ tw_out (nI rb) 8 := nI_in hrb (by decide)
    have oa2 : ¬ tw_out (nI (0 + ra)) 16 := nI_in (by omega) (by decide)
    have ob2 : ¬ tw_out (nI (0 + rb)) 16 := nI_in (by omega) (by decide)
    have qa : (nI ra).toNatClampNeg = ra := nI_clamp (by omega)
    have qb : (nI rb).toNatClampNeg = rb := nI_clamp (by omega)
    have qa2 : (nI (0 + ra)).toNatClampNeg = 0 + ra := nI_clamp (by omega)
    have qb2 : (nI (0 + rb)).toNatClampNeg = 0 + rb := nI_clamp (by omega)
    have hpc : σm false 26 0 = σc false 0 6 := tw_Rel_pc hR false
    unfold g_Gu_doOrdinary
    rw [era, erb, erd, a8, a8, if_neg oa, if_neg ob, if_neg oa2, if_neg ob2, qa, qb, qa2, qb2, wa, wb, hpc]
    generalize σc false 2 ra = va
    generalize σc false 2 rb = vb
    generalize w >>> ((16 : Int32) &&& 31) = vi
    have T : ∀ m : Nat, m < 64 → ∀ {x : Int32}, x = nI m → (w &&& 31 = x ↔ o = m) := fun m hm x hx => tw_o5 eo ho m hm hx
    have t10 := T 10 (by decide) (x := 10) rfl
    have t11 := T 11 (by decide) (x := 11) rfl
    have t12 := T 12 (by decide) (x := 12) rfl
    have t13 := T 13 (by decide) (x := 13) rfl
    have t14 := T 14 (by decide) (x := 14) rfl
    have t15 := T 15 (by decide) (x := 15) rfl
    have t16 := T 16 (by decide) (x := 16) rfl
    have l10 : (10 : Int32) ≤ w &&& 31 ↔ 10 ≤ o := by rw [eo]; exact nI_leI (a := 10) (by decide) (by omega)
    have l12 : (12 : Int32) ≤ w &&& 31 ↔ 12 ≤ o := by rw [eo]; exact nI_leI (a := 12) (by decide) (by omega)
    have l15 : (15 : Int32) ≤ w &&& 31 ↔ 15 ≤ o := by rw [eo]; exact nI_leI (a := 15) (by decide) (by omega)
    by_cases x10 : o = 10
    · rw [if_pos (t10.mpr x10), if_pos (l10.mpr (by omega)), if_neg (fun z => absurd (l12.mp z) (by omega)), if_pos (t10.mpr x10)]
      exact tw_o_hand (tw_o_handm (tw_p_load_0 hR hC hrd _ _))
    · rw [if_neg (fun z => x10 (t10.mp z))]
      by_cases x11 : o = 11
      · rw [if_pos (t11.mpr x11), if_pos (l10.mpr (by omega)), if_neg (fun z => absurd (l12.mp z) (by omega)), if_neg (fun z => x10 (t10.mp z)), if_pos (t11.mpr x11)]
        exact tw_o_hand (tw_o_handm (tw_p_store_0 hR hC _ _ _))
      · rw [if_neg (fun z => x11 (t11.mp z))]
        by_cases x12 : o = 12
        · rw [if_pos (t12.mpr x12), if_pos (l10.mpr (by omega)), if_pos (l12.mpr (by omega)), if_neg (fun z => absurd (l15.mp z) (by omega)), if_pos (t12.mpr x12)]
          by_cases hv : va = vb
          · rw [if_pos hv, if_pos hv]
            exact tw_o_ret hR hC false rfl
          · rw [if_neg hv, if_neg hv]
            exact tw_o_ret hR hC false rfl
        · rw [if_neg (fun z => x12 (t12.mp z))]
          by_cases x13 : o = 13
          · rw [if_pos (t13.mpr x13), if_pos (l10.mpr (by omega)), if_pos (l12.mpr (by omega)), if_neg (fun z => absurd (l15.mp z) (by omega)), if_neg (fun z => x12 (t12.mp z)), if_pos (t13.mpr x13)]
            by_cases hv : va = vb
            · rw [if_pos hv, if_pos hv]
              exact tw_o_ret hR hC false rfl
            · rw [if_neg hv, if_neg hv]
              exact tw_o_ret hR hC false rfl
          · rw [if_neg (fun z => x13 (t13.mp z))]
            by_cases x14 : o = 14
            · rw [if_pos (t14.mpr x14), if_pos (l10.mpr (by omega)), if_pos (l12.mpr (by omega)), if_neg (fun z => absurd (l15.mp z) (by omega)), if_neg (fun z => x12 (t12.mp z)), if_neg (fun z => x13 (t13.mp z))]
              by_cases hv : vb ≤ va
              · rw [if_pos hv, if_pos hv]
                exact tw_o_ret hR hC false rfl
              · rw [if_neg hv, if_neg hv]
                exact tw_o_ret hR hC false rfl
            · rw [if_neg (fun z => x14 (t14.mp z))]
              have hR3 := tw_r_set hR false hrd (σc false 0 6 + 1)
              have hC3 : ∀ g', tw_Coh (tw_setc false rd (σc false 0 6 + 1) σc) g' := fun g' => tw_coh_set (hC g') false rd _
              have pc3 : tw_setm false rd (σc false 0 6 + 1) σm false 26 0 = σc false 0 6 := (tw_Rel_pc hR3 false).trans (tw_setc_pc false rd _ σc)
              by_cases x15 : o = 15
              · rw [if_pos (t15.mpr x15), if_pos (l10.mpr (by omega)), if_pos (l12.mpr (by omega)), if_pos (l15.mpr (by omega)), tw_m_set_0 hrd, tw_bv_s, if_pos (t15.mpr x15)]
                unfold g_Gu_link
                rw [tw_c_set false hrd, tw_bv_s, pc3]
                exact tw_o_hand (tw_o_ret hR3 hC3 false rfl)
              · rw [if_neg (fun z => x15 (t15.mp z))]
                by_cases x16 : o = 16
                · rw [if_pos (t16.mpr x16), if_pos (l10.mpr (by omega)), if_pos (l12.mpr (by omega)), if_pos (l15.mpr (by omega)), tw_m_set_0 hrd, tw_bv_s, if_neg (fun z => x15 (t15.mp z))]
                  unfold g_Gu_link
                  rw [tw_c_set false hrd, tw_bv_s]
                  exact tw_o_hand (tw_o_ret hR3 hC3 false rfl)
                · rw [if_neg (fun z => x16 (t16.mp z)), if_neg (fun z => absurd (l10.mp z) (by omega))]
                  obtain ⟨v, c1, c2⟩ := tw_cmp (w &&& 31) va vb vi
                  rw [c1, c2, tw_bi_s, tw_bi_s, tw_c_set false hrd, tw_m_set_0 hrd, tw_bv_s, tw_bv_s]
                  have hR4 := tw_r_set hR false hrd v
                  exact tw_o_ret hR4 (fun g' => tw_coh_set (hC g') false rd v) false (by rw [← tw_Rel_pc hR4 false]; rfl)
theorem tw_p_bod_1 {d : tw_Dt} {σc σm : tw_S} (hR : tw_Rel d σc σm) (hC : ∀ g', tw_Coh σc g') {a : Nat} (ha : a < 128) (both : Int32) (hb : both = σc true 5 7 &&& tw_pend σc true) : tw_OutP d (tw_boc true (nI a) σc) (tw_bom_1 both (nI a) σm) := by
  have hb0 : (128 : Int32) * 1 + nI a = nI (128 + a) := by
    rw [show (128 : Int32) * 1 = nI 128 from by decide, nI_add]
  have w23 : σm false 23 (128 + a) = σc true 1 a := tw_Rel_1 hR true ha
  have o1 : ¬ tw_out (nI a) 128 := nI_in ha (by decide)
  have o2 : ¬ tw_out (nI (128 + a)) 256 := nI_in (by omega) (by decide)
  have q1 : (nI a).toNatClampNeg = a := nI_clamp (by omega)
  have q2 : (nI (128 + a)).toNatClampNeg = 128 + a := nI_clamp (by omega)
  have pos : (0 : Int32) ≤ nI a := nI_pos' (by omega)
  unfold tw_boc tw_bom_1
  rw [if_pos pos, if_pos pos, if_neg o1, hb0, if_neg o2, q1, q2, w23]
  generalize σc true 1 a = w
  obtain ⟨o, ho, eo⟩ := pk_andE w (m := 31) 5 (by decide)
  have ho : o < 32 := ho
  have l17 : (17 : Int32) ≤ w &&& 31 ↔ 17 ≤ o := by rw [eo]; exact nI_leI (a := 17) (by decide) (by omega)
  have l17' : w &&& 31 < 17 ↔ o < 17 := by rw [eo]; exact nI_ltI (b := 17) (by omega) (by decide)
  by_cases h17 : 17 ≤ o
  · rw [if_pos (l17.mpr h17), if_neg (fun z => absurd (l17'.mp z) (by omega))]
    exact tw_o_hand (tw_o_handm (tw_p_sys_1 hR hC w both eo ho h17 hb))
  · rw [if_neg (fun z => h17 (l17.mp z)), if_pos (l17'.mpr (by omega))]
    refine tw_o_hand ?_
    obtain ⟨ra, hra, era⟩ := tw_reg_ix (w >>> ((8 : Int32) &&& 31))
    obtain ⟨rb, hrb, erb⟩ := tw_reg_ix (w >>> ((11 : Int32) &&& 31))
    obtain ⟨rd, hrd, erd⟩ := tw_reg_ix (w >>> ((5 : Int32) &&& 31))
    have a8 : ∀ j : Nat, (8 : Int32) * 1 + nI j = nI (8 + j) := fun j => by
      rw [show (8 : Int32) * 1 = nI 8 from by decide, nI_add]
    have wa : σm false 24 (8 + ra) = σc true 2 ra := tw_Rel_2 hR true hra
    have wb : σm false 24 (8 + rb) = σc true 2 rb := tw_Rel_2 hR true hrb
    have oa : ¬ tw_out (nI ra) 8 := nI_in hra (by decide)
    have ob : ¬ tw_out (nI rb) 8 := nI_in hrb (by decide)
    have oa2 : ¬ tw_out (nI (8 + ra)) 16 := nI_in (by omega) (by decide)
    have ob2 : ¬ tw_out (nI (8 + rb)) 16 := nI_in (by omega) (by decide)
    have qa : (nI ra).toNatClampNeg = ra := nI_clamp (by omega)
    have qb : (nI rb).toNatClampNeg = rb := nI_clamp (by omega)
    have qa2 : (nI (8 + ra)).toNatClampNeg = 8 + ra := nI_clamp (by omega)
    have qb2 : (nI (8 + rb)).toNatClampNeg = 8 + rb := nI_clamp (by omega)
    have hpc : σm false 26 1 = σc true 0 6 := tw_Rel_pc hR true
    unfold g_Gu_doOrdinary
    rw [era, erb, erd, a8, a8, if_neg oa, if_neg ob, if_neg oa2, if_neg ob2, qa, qb, qa2, qb2, wa, wb, hpc]
    generalize σc true 2 ra = va
    generalize σc true 2 rb = vb
    generalize w >>> ((16 : Int32) &&& 31) = vi
    have T : ∀ m : Nat, m < 64 → ∀ {x : Int32}, x = nI m → (w &&& 31 = x ↔ o = m) := fun m hm x hx => tw_o5 eo ho m hm hx
    have t10 := T 10 (by decide) (x := 10) rfl
    have t11 := T 11 (by decide) (x := 11) rfl
    have t12 := T 12 (by decide) (x := 12) rfl
    have t13 := T 13 (by decide) (x := 13) rfl
    have t14 := T 14 (by decide) (x := 14) rfl
    have t15 := T 15 (by decide) (x := 15) rfl
    have t16 := T 16 (by decide) (x := 16) rfl
    have l10 : (10 : Int32) ≤ w &&& 31 ↔ 10 ≤ o := by rw [eo]; exact nI_leI (a := 10) (by decide) (by omega)
    have l12 : (12 : Int32) ≤ w &&& 31 ↔ 12 ≤ o := by rw [eo]; exact nI_leI (a := 12) (by decide) (by omega)
    have l15 : (15 : Int32) ≤ w &&& 31 ↔ 15 ≤ o := by rw [eo]; exact nI_leI (a := 15) (by decide) (by omega)
    by_cases x10 : o = 10
    · rw [if_pos (t10.mpr x10), if_pos (l10.mpr (by omega)), if_neg (fun z => absurd (l12.mp z) (by omega)), if_pos (t10.mpr x10)]
      exact tw_o_hand (tw_o_handm (tw_p_load_1 hR hC hrd _ _))
    · rw [if_neg (fun z => x10 (t10.mp z))]
      by_cases x11 : o = 11
      · rw [if_pos (t11.mpr x11), if_pos (l10.mpr (by omega)), if_neg (fun z => absurd (l12.mp z) (by omega)), if_neg (fun z => x10 (t10.mp z)), if_pos (t11.mpr x11)]
        exact tw_o_hand (tw_o_handm (tw_p_store_1 hR hC _ _ _))
      · rw [if_neg (fun z => x11 (t11.mp z))]
        by_cases x12 : o = 12
        · rw [if_pos (t12.mpr x12), if_pos (l10.mpr (by omega)), if_pos (l12.mpr (by omega)), if_neg (fun z => absurd (l15.mp z) (by omega)), if_pos (t12.mpr x12)]
          by_cases hv : va = vb
          · rw [if_pos hv, if_pos hv]
            exact tw_o_ret hR hC true rfl
          · rw [if_neg hv, if_neg hv]
            exact tw_o_ret hR hC true rfl
        · rw [if_neg (fun z => x12 (t12.mp z))]
          by_cases x13 : o = 13
          · rw [if_pos (t13.mpr x13), if_pos (l10.mpr (by omega)), if_pos (l12.mpr (by omega)), if_neg (fun z => absurd (l15.mp z) (by omega)), if_neg (fun z => x12 (t12.mp z)), if_pos (t13.mpr x13)]
            by_cases hv : va = vb
            · rw [if_pos hv, if_pos hv]
              exact tw_o_ret hR hC true rfl
            · rw [if_neg hv, if_neg hv]
              exact tw_o_ret hR hC true rfl
          · rw [if_neg (fun z => x13 (t13.mp z))]
            by_cases x14 : o = 14
            · rw [if_pos (t14.mpr x14), if_pos (l10.mpr (by omega)), if_pos (l12.mpr (by omega)), if_neg (fun z => absurd (l15.mp z) (by omega)), if_neg (fun z => x12 (t12.mp z)), if_neg (fun z => x13 (t13.mp z))]
              by_cases hv : vb ≤ va
              · rw [if_pos hv, if_pos hv]
                exact tw_o_ret hR hC true rfl
              · rw [if_neg hv, if_neg hv]
                exact tw_o_ret hR hC true rfl
            · rw [if_neg (fun z => x14 (t14.mp z))]
              have hR3 := tw_r_set hR true hrd (σc true 0 6 + 1)
              have hC3 : ∀ g', tw_Coh (tw_setc true rd (σc true 0 6 + 1) σc) g' := fun g' => tw_coh_set (hC g') true rd _
              have pc3 : tw_setm true rd (σc true 0 6 + 1) σm false 26 1 = σc true 0 6 := (tw_Rel_pc hR3 true).trans (tw_setc_pc true rd _ σc)
              by_cases x15 : o = 15
              · rw [if_pos (t15.mpr x15), if_pos (l10.mpr (by omega)), if_pos (l12.mpr (by omega)), if_pos (l15.mpr (by omega)), tw_m_set_1 hrd, tw_bv_s, if_pos (t15.mpr x15)]
                unfold g_Gu_link
                rw [tw_c_set true hrd, tw_bv_s, pc3]
                exact tw_o_hand (tw_o_ret hR3 hC3 true rfl)
              · rw [if_neg (fun z => x15 (t15.mp z))]
                by_cases x16 : o = 16
                · rw [if_pos (t16.mpr x16), if_pos (l10.mpr (by omega)), if_pos (l12.mpr (by omega)), if_pos (l15.mpr (by omega)), tw_m_set_1 hrd, tw_bv_s, if_neg (fun z => x15 (t15.mp z))]
                  unfold g_Gu_link
                  rw [tw_c_set true hrd, tw_bv_s]
                  exact tw_o_hand (tw_o_ret hR3 hC3 true rfl)
                · rw [if_neg (fun z => x16 (t16.mp z)), if_neg (fun z => absurd (l10.mp z) (by omega))]
                  obtain ⟨v, c1, c2⟩ := tw_cmp (w &&& 31) va vb vi
                  rw [c1, c2, tw_bi_s, tw_bi_s, tw_c_set true hrd, tw_m_set_1 hrd, tw_bv_s, tw_bv_s]
                  have hR4 := tw_r_set hR true hrd v
                  exact tw_o_ret hR4 (fun g' => tw_coh_set (hC g') true rd v) true (by rw [← tw_Rel_pc hR4 true]; rfl)
/-- the class counts a step -/
def tw_ds (d : tw_Dt) (g : Bool) (x : Int32) : tw_Dt := (fun g' => if g' = g then d.1 g' + x else d.1 g', d.2)
theorem tw_r_stp {d : tw_Dt} {σc σm : tw_S} (h : tw_Rel d σc σm) (g : Bool) : tw_Rel (tw_ds d g 1) (tw_pt σc g 3 8 (σc g 3 8 + 1)) σm := by
  have m38 : tw_m g 3 8 = none := if_neg (fun z => absurd z.2 (by decide))
  refine ⟨tw_R1_c h.1 m38 _, fun g' => ?_, ?_⟩
  · obtain ⟨h1, ⟨n, hn, h2, h3⟩, h4, h5⟩ := h.2.1 g'
    refine ⟨?_, ⟨n, hn, ?_, fun j hj => ?_⟩, fun v hv => ?_, ?_⟩
    · rw [tw_pt_n _ _ (fun z => absurd z.2.1 (by decide))]; exact h1
    · rw [tw_pt_n _ _ (fun z => absurd z.2.1 (by decide))]; exact h2
    · rw [tw_pt_n _ _ (fun z => absurd z.2.1 (by decide)), tw_pt_n _ _ (fun z => absurd z.2.1 (by decide))]; exact h3 j hj
    · rw [tw_pt_n _ _ (fun z => absurd z.2.1 (by decide))]; exact h4 v hv
    · show _ = _ + (if g' = g then d.1 g' + 1 else d.1 g')
      by_cases e : g' = g
      · subst e
        rw [tw_pt_s, if_pos rfl, h5, Int32.add_assoc]
      · rw [tw_pt_n _ _ (fun z => e z.1), if_neg e]
        exact h5
  · unfold tw_R3
    rw [tw_pt_n _ _ (fun z => absurd z.2.1 (by decide)), tw_pt_n _ _ (fun z => absurd z.2.1 (by decide)), tw_pt_n _ _ (fun z => absurd z.2.1 (by decide))]
    exact h.2.2
/-- the reference counts a step -/
theorem tw_r_stm {d : tw_Dt} {σc σm : tw_S} (g : Bool) (h : tw_Rel (tw_ds d g 1) σc σm) : tw_Rel d σc (tw_pt σm false 31 (9 * tw_b g + 8) (σm false 31 (9 * tw_b g + 8) + 1)) := by
  refine ⟨tw_R1_m h.1 (tw_m_no8 (tw_b_lt g)) _, fun g' => ?_, ?_⟩
  · obtain ⟨h1, ⟨n, hn, h2, h3⟩, h4, h5⟩ := h.2.1 g'
    refine ⟨h1, ⟨n, hn, h2, fun j hj => ?_⟩, fun v hv => ?_, ?_⟩
    · rw [tw_pt_n _ _ (fun z => absurd z.2.1 (by decide)), tw_pt_n _ _ (fun z => absurd z.2.1 (by decide))]; exact h3 j hj
    · rw [tw_pt_n _ _ (fun z => absurd z.2.1 (by decide)), tw_pt_n _ _ (fun z => absurd z.2.1 (by decide))]; exact h4 v hv
    · have h5 : σc g' 3 8 = σm false 31 (9 * tw_b g' + 8) + (if g' = g then d.1 g' + 1 else d.1 g') := h5
      by_cases e : g' = g
      · subst e
        rw [if_pos rfl] at h5
        rw [tw_pt_s, h5, Int32.add_assoc, Int32.add_comm 1 (d.1 g')]
      · rw [if_neg e] at h5
        rw [tw_pt_n _ _ (fun z => e (tw_b_inj (by have := z.2.2; omega)))]
        exact h5
  · unfold tw_R3
    rw [tw_pt_n _ _ (fun z => absurd z.2.1 (by decide)), tw_pt_n _ _ (fun z => absurd z.2.1 (by decide)), tw_pt_n _ _ (fun z => absurd z.2.1 (by decide))]
    exact h.2.2
theorem tw_p_step_0 {d : tw_Dt} {σc σm : tw_S} (hR0 : tw_Rel d σc σm) (hC0 : ∀ g', tw_Coh σc g') : tw_OutP (tw_ds d false 1) (g_Gu_step false σc) (g_Mo_step_0 σm) := by
  have hR := tw_r_stp hR0 false
  have hC : ∀ g', tw_Coh (tw_pt σc false 3 8 (σc false 3 8 + 1)) g' := fun g' => tw_Coh_pt (hC0 g') rfl _
  rw [tw_c_step, tw_m_step_0]
  generalize tw_pt σc false 3 8 (σc false 3 8 + 1) = sc at hR hC ⊢
  have e57 : σm false 25 7 = sc false 5 7 := tw_Rel_5 hR false (j := 7) (by decide)
  have e50 : σm false 25 0 = sc false 5 0 := tw_Rel_5 hR false (j := 0) (by decide)
  have epc : σm false 26 0 = sc false 0 6 := tw_Rel_pc hR false
  have eus : σm false 27 0 = sc false 0 7 := tw_Rel_us0 hR false
  rw [tw_c_due, tw_bi_s, tw_m_pend_0 hR, tw_bi_s, e57, e50, epc, eus]
  have fetch : tw_OutP (tw_ds d false 1) (tw_bi (g_Gu_reach_F false (sc false 0 6) sc) (tw_boc false)) (tw_bi (g_Mo_access_0_0 (sc false 0 6) σm) (tw_bom_0 (sc false 5 7 &&& tw_pend sc false))) := by
    rcases tw_p_acc_0_0 hR hC (sc false 0 6) with ⟨a, τc, τm, ha, ec, em, hR2, hC2, hfr⟩ | ⟨cause, τc, τm, hcs, ec, em, hR2, hC2, hfr⟩
    · rw [ec, em, tw_bi_s, tw_bi_s]
      have hp := tw_pend_on (g := false) hfr
      exact tw_p_bod_0 hR2 hC2 ha _ (by rw [hp.1, hp.2])
    · have epc2 : τc false 0 6 = sc false 0 6 := hfr false 0 6 (Or.inr (Or.inr (Or.inr rfl)))
      rw [ec, em, tw_bi_s, tw_bi_s]
      unfold tw_boc tw_bom_0
      rw [if_neg (by decide : ¬ (0 : Int32) ≤ -1), epc2]
      rcases hcs with rfl | rfl
      · rw [if_neg (by decide), show (-(-1 : Int32)) = 1 from by decide]
        exact tw_o_hand (tw_o_flt hR2 hC2 false 1 _)
      · rw [if_neg (by decide), show (-(-12 : Int32)) = 12 from by decide]
        exact tw_o_hand (tw_o_flt hR2 hC2 false 12 _)
  have hR6 : tw_Rel (tw_ds d false 1) (tw_pt sc false 3 6 (sc false 3 6 + 1)) (tw_pt σm false 31 6 (σm false 31 6 + 1)) := by
    have e : σm false 31 6 = sc false 3 6 := tw_Rel_3 hR false (j := 6) (by decide)
    rw [e]
    exact tw_r_cnt hR false (by decide) _
  have hC6 : ∀ g', tw_Coh (tw_pt sc false 3 6 (sc false 3 6 + 1)) g' := fun g' => tw_Coh_pt (hC g') rfl _
  by_cases hz : sc false 5 7 &&& tw_pend sc false = 0
  · rw [if_pos hz, if_pos hz]
    exact fetch
  · rw [if_neg hz, if_neg hz]
    by_cases hu : sc false 0 7 = 0
    · rw [if_pos hu, if_pos hu, tw_c_isOn, tw_bi_s]
      by_cases hi : sc false 5 0 &&& 1 = 0
      · rw [if_pos hi, if_pos ((tw_onb_0 false 1 sc).mpr hi)]
        exact fetch
      · rw [if_neg hi, if_neg (fun z => hi ((tw_onb_0 false 1 sc).mp z))]
        by_cases h2 : (sc false 5 7 &&& tw_pend sc false) &&& 2 = 0
        · rw [if_pos h2, if_pos h2, tw_c_trap, tw_m_trap_0_m2147483643]
          exact tw_o_trap hR6 hC6 false (-2147483643) 0
        · rw [if_neg h2, if_neg h2, tw_c_trap, tw_m_trap_0_m2147483639]
          exact tw_o_trap hR6 hC6 false (-2147483639) 0
    · rw [if_neg hu, if_neg hu]
      by_cases h2 : (sc false 5 7 &&& tw_pend sc false) &&& 2 = 0
      · rw [if_pos h2, if_pos h2, tw_c_trap, tw_m_trap_0_m2147483643]
        exact tw_o_trap hR6 hC6 false (-2147483643) 0
      · rw [if_neg h2, if_neg h2, tw_c_trap, tw_m_trap_0_m2147483639]
        exact tw_o_trap hR6 hC6 false (-2147483639) 0
theorem tw_p_step_1 {d : tw_Dt} {σc σm : tw_S} (hR0 : tw_Rel d σc σm) (hC0 : ∀ g', tw_Coh σc g') : tw_OutP (tw_ds d true 1) (g_Gu_step true σc) (g_Mo_step_1 σm) := by
  have hR := tw_r_stp hR0 true
  have hC : ∀ g', tw_Coh (tw_pt σc true 3 8 (σc true 3 8 + 1)) g' := fun g' => tw_Coh_pt (hC0 g') rfl _
  rw [tw_c_step, tw_m_step_1]
  generalize tw_pt σc true 3 8 (σc true 3 8 + 1) = sc at hR hC ⊢
  have e57 : σm false 25 19 = sc true 5 7 := tw_Rel_5 hR true (j := 7) (by decide)
  have e50 : σm false 25 12 = sc true 5 0 := tw_Rel_5 hR true (j := 0) (by decide)
  have epc : σm false 26 1 = sc true 0 6 := tw_Rel_pc hR true
  have eus : σm false 27 1 = sc true 0 7 := tw_Rel_us0 hR true
  rw [tw_c_due, tw_bi_s, tw_m_pend_1 hR, tw_bi_s, e57, e50, epc, eus]
  have fetch : tw_OutP (tw_ds d true 1) (tw_bi (g_Gu_reach_F true (sc true 0 6) sc) (tw_boc true)) (tw_bi (g_Mo_access_1_0 (sc true 0 6) σm) (tw_bom_1 (sc true 5 7 &&& tw_pend sc true))) := by
    rcases tw_p_acc_1_0 hR hC (sc true 0 6) with ⟨a, τc, τm, ha, ec, em, hR2, hC2, hfr⟩ | ⟨cause, τc, τm, hcs, ec, em, hR2, hC2, hfr⟩
    · rw [ec, em, tw_bi_s, tw_bi_s]
      have hp := tw_pend_on (g := true) hfr
      exact tw_p_bod_1 hR2 hC2 ha _ (by rw [hp.1, hp.2])
    · have epc2 : τc true 0 6 = sc true 0 6 := hfr true 0 6 (Or.inr (Or.inr (Or.inr rfl)))
      rw [ec, em, tw_bi_s, tw_bi_s]
      unfold tw_boc tw_bom_1
      rw [if_neg (by decide : ¬ (0 : Int32) ≤ -1), epc2]
      rcases hcs with rfl | rfl
      · rw [if_neg (by decide), show (-(-1 : Int32)) = 1 from by decide]
        exact tw_o_hand (tw_o_flt hR2 hC2 true 1 _)
      · rw [if_neg (by decide), show (-(-12 : Int32)) = 12 from by decide]
        exact tw_o_hand (tw_o_flt hR2 hC2 true 12 _)
  have hR6 : tw_Rel (tw_ds d true 1) (tw_pt sc true 3 6 (sc true 3 6 + 1)) (tw_pt σm false 31 15 (σm false 31 15 + 1)) := by
    have e : σm false 31 15 = sc true 3 6 := tw_Rel_3 hR true (j := 6) (by decide)
    rw [e]
    exact tw_r_cnt hR true (by decide) _
  have hC6 : ∀ g', tw_Coh (tw_pt sc true 3 6 (sc true 3 6 + 1)) g' := fun g' => tw_Coh_pt (hC g') rfl _
  by_cases hz : sc true 5 7 &&& tw_pend sc true = 0
  · rw [if_pos hz, if_pos hz]
    exact fetch
  · rw [if_neg hz, if_neg hz]
    by_cases hu : sc true 0 7 = 0
    · rw [if_pos hu, if_pos hu, tw_c_isOn, tw_bi_s]
      by_cases hi : sc true 5 0 &&& 1 = 0
      · rw [if_pos hi, if_pos ((tw_onb_0 true 1 sc).mpr hi)]
        exact fetch
      · rw [if_neg hi, if_neg (fun z => hi ((tw_onb_0 true 1 sc).mp z))]
        by_cases h2 : (sc true 5 7 &&& tw_pend sc true) &&& 2 = 0
        · rw [if_pos h2, if_pos h2, tw_c_trap, tw_m_trap_1_m2147483643]
          exact tw_o_trap hR6 hC6 true (-2147483643) 0
        · rw [if_neg h2, if_neg h2, tw_c_trap, tw_m_trap_1_m2147483639]
          exact tw_o_trap hR6 hC6 true (-2147483639) 0
    · rw [if_neg hu, if_neg hu]
      by_cases h2 : (sc true 5 7 &&& tw_pend sc true) &&& 2 = 0
      · rw [if_pos h2, if_pos h2, tw_c_trap, tw_m_trap_1_m2147483643]
        exact tw_o_trap hR6 hC6 true (-2147483643) 0
      · rw [if_neg h2, if_neg h2, tw_c_trap, tw_m_trap_1_m2147483639]
        exact tw_o_trap hR6 hC6 true (-2147483639) 0
