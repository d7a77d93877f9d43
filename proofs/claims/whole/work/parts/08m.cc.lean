/-! Controls stored, and the instructions that change them. -/
def tw_kb (k : Nat) : Int32 := if k = 0 then 15 else if k = 6 then 143 else if k = 7 then 3 else -1
theorem tw_and_m1 (x : Int32) : x &&& -1 = x := Int32.and_neg_one
theorem tw_c_put (g : Bool) {k : Nat} (hk : k < 12) (v : Int32) (σ : tw_S) : g_Co_put g (nI k) v σ = some (none, tw_pt σ g 5 k (v &&& tw_kb k)) := by
  have e : g_Co_keptBits (nI k) σ = some (some (.inl (tw_kb k)), σ) := by
    unfold g_Co_keptBits tw_kb
    by_cases h0 : k = 0
    · rw [if_pos h0, if_pos ((tw_k0 (by omega)).mpr h0)]
    · rw [if_neg h0, if_neg (fun z => h0 ((tw_k0 (by omega)).mp z))]
      by_cases h6 : k = 6
      · rw [if_pos h6, if_pos ((tw_k6 (by omega)).mpr h6)]
      · rw [if_neg h6, if_neg (fun z => h6 ((tw_k6 (by omega)).mp z))]
        by_cases h7 : k = 7
        · rw [if_pos h7, if_pos ((tw_k7 (by omega)).mpr h7)]
        · rw [if_neg h7, if_neg (fun z => h7 ((tw_k7 (by omega)).mp z))]
  unfold g_Co_put
  rw [e, tw_bi_s, if_neg (nI_in hk (by decide)), nI_clamp (by omega)]
theorem tw_r_ctl {d : tw_Dt} {σc σm : tw_S} (h : tw_Rel d σc σm) (g : Bool) {j : Nat} (hj : j < 12) (x : Int32) : tw_Rel d (tw_pt σc g 5 j x) (tw_pt σm false 25 (12 * tw_b g + j) x) := tw_Rel_pt h (tw_m5 g hj) rfl rfl (by decide) (by decide) x
/-- storeControl and assign: the states behind them -/
def tw_scc (g : Bool) (k : Nat) (v : Int32) (σ : tw_S) : tw_S := if k = 6 then tw_pt (tw_clrI 10 0 16 g (tw_pt σ g 5 k (v &&& tw_kb k))) g 3 5 (σ g 3 5 + 1) else tw_pt σ g 5 k (v &&& tw_kb k)
def tw_scm (g : Bool) (k : Nat) (v : Int32) (σ : tw_S) : tw_S := if k = 6 then tw_pt (tw_clrI 32 (16 * tw_b g) (16 * tw_b g + 16) false (tw_pt σ false 25 (12 * tw_b g + k) (v &&& tw_kb k))) false 31 (9 * tw_b g + 5) (σ false 31 (9 * tw_b g + 5) + 1) else tw_pt σ false 25 (12 * tw_b g + k) (v &&& tw_kb k)
theorem tw_c_sc (g : Bool) {k : Nat} (hk : k < 12) (v : Int32) (σ : tw_S) : g_Gu_storeControl g (nI k) v σ = some (none, tw_scc g k v σ) := by
  unfold g_Gu_storeControl tw_scc
  rw [tw_c_put g hk, tw_bv_s]
  by_cases h6 : k = 6
  · rw [if_pos h6, if_pos ((tw_k6 (by omega)).mpr h6), tw_c_flush, tw_bv_s, tw_pt_n (g' := g) (c' := 3) (j' := 5) _ _ (fun z => absurd z.2.1 (by decide))]
  · rw [if_neg h6, if_neg (fun z => h6 ((tw_k6 (by omega)).mp z))]
theorem tw_r_sc {d : tw_Dt} {σc σm : tw_S} (h : tw_Rel d σc σm) (g : Bool) {k : Nat} (hk : k < 12) (v : Int32) : tw_Rel d (tw_scc g k v σc) (tw_scm g k v σm) := by
  unfold tw_scc tw_scm
  by_cases h6 : k = 6
  · rw [if_pos h6, if_pos h6, tw_Rel_3 h g (by decide)]
    exact tw_r_cnt (tw_r_clr (tw_r_ctl h g hk _) g) g (by decide) _
  · rw [if_neg h6, if_neg h6]
    exact tw_r_ctl h g hk _
theorem tw_coh_sc {σ : tw_S} (hC : ∀ g', tw_Coh σ g') (g : Bool) (k : Nat) (v : Int32) (g' : Bool) : tw_Coh (tw_scc g k v σ) g' := by
  unfold tw_scc
  by_cases h6 : k = 6
  · rw [if_pos h6]
    refine tw_Coh_pt ?_ rfl _
    by_cases e : g' = g
    · rw [e]; exact tw_clr_coh _ g
    · exact tw_clr_coh2 (tw_Coh_ot (hC g') e _ _ _)
  · rw [if_neg h6]
    exact tw_Coh_pt (hC g') (by unfold tw_PC; rw [tw_bne h6]; rfl) _
theorem tw_m_sc_0 {k : Nat} (hk : k < 12) (v : Int32) (σ : tw_S) : g_Mo_assign_0 (nI k) v σ = some (none, tw_scm false k v σ) := by
  have hb0 : (12 : Int32) * 0 + nI k = nI (0 + k) := by
    rw [show (12 : Int32) * 0 = nI 0 from by decide, nI_add]
  unfold g_Mo_assign_0 tw_scm tw_kb
  rw [hb0]
  by_cases h0 : k = 0
  · rw [if_pos ((tw_k0 (by omega)).mpr h0), if_neg (nI_in (c := 0 + k) (by omega) (by decide)), if_neg (fun z => absurd ((tw_k6 (k := k) (by omega)).mp z) (by omega)), nI_clamp (by omega), if_neg (by omega), if_pos h0]
    rfl
  · rw [if_neg (fun z => h0 ((tw_k0 (by omega)).mp z))]
    by_cases h6 : k = 6
    · rw [if_pos ((tw_k6 (by omega)).mpr h6), if_neg (nI_in (c := 0 + k) (by omega) (by decide)), nI_clamp (by omega), tw_m_flush_0, tw_bv_s, if_pos h6, if_neg h0, if_pos h6, tw_pt_n (g' := false) (c' := 31) _ _ (fun z => absurd z.2.1 (by decide))]
      rfl
    · rw [if_neg (fun z => h6 ((tw_k6 (by omega)).mp z)), if_neg h6, if_neg h0, if_neg h6]
      by_cases h7 : k = 7
      · rw [if_pos ((tw_k7 (by omega)).mpr h7), if_neg (nI_in (c := 0 + k) (by omega) (by decide)), nI_clamp (by omega), if_pos h7]
        rfl
      · rw [if_neg (fun z => h7 ((tw_k7 (by omega)).mp z)), if_neg (nI_in (c := 0 + k) (by omega) (by decide)), nI_clamp (by omega), if_neg h7, tw_and_m1]
        rfl
theorem tw_m_sc_1 {k : Nat} (hk : k < 12) (v : Int32) (σ : tw_S) : g_Mo_assign_1 (nI k) v σ = some (none, tw_scm true k v σ) := by
  have hb0 : (12 : Int32) * 1 + nI k = nI (12 + k) := by
    rw [show (12 : Int32) * 1 = nI 12 from by decide, nI_add]
  unfold g_Mo_assign_1 tw_scm tw_kb
  rw [hb0]
  by_cases h0 : k = 0
  · rw [if_pos ((tw_k0 (by omega)).mpr h0), if_neg (nI_in (c := 12 + k) (by omega) (by decide)), if_neg (fun z => absurd ((tw_k6 (k := k) (by omega)).mp z) (by omega)), nI_clamp (by omega), if_neg (by omega), if_pos h0]
    rfl
  · rw [if_neg (fun z => h0 ((tw_k0 (by omega)).mp z))]
    by_cases h6 : k = 6
    · rw [if_pos ((tw_k6 (by omega)).mpr h6), if_neg (nI_in (c := 12 + k) (by omega) (by decide)), nI_clamp (by omega), tw_m_flush_1, tw_bv_s, if_pos h6, if_neg h0, if_pos h6, tw_pt_n (g' := false) (c' := 31) _ _ (fun z => absurd z.2.1 (by decide))]
      rfl
    · rw [if_neg (fun z => h6 ((tw_k6 (by omega)).mp z)), if_neg h6, if_neg h0, if_neg h6]
      by_cases h7 : k = 7
      · rw [if_pos ((tw_k7 (by omega)).mpr h7), if_neg (nI_in (c := 12 + k) (by omega) (by decide)), nI_clamp (by omega), if_pos h7]
        rfl
      · rw [if_neg (fun z => h7 ((tw_k7 (by omega)).mp z)), if_neg (nI_in (c := 12 + k) (by omega) (by decide)), nI_clamp (by omega), if_neg h7, tw_and_m1]
        rfl
theorem tw_p_take_0 {d : tw_Dt} {σc σm : tw_S} (hR : tw_Rel d σc σm) (hC : ∀ g', tw_Coh σc g') {k : Nat} (hk : k < 12) : ∃ (r : Int32) (τc τm : tw_S), g_Co_take false (nI k) σc = some (some (.inl r), τc) ∧ (∀ C : Int32 → tw_S → Option tw_R, tw_bi (g_Mo_control_0 (nI k) σm) (fun x σ => if nI k = (11 : Int32) then tw_bi (g_Mo_isThere_0 σ) (fun y σ2 => if y = (0 : Int32) then C x σ2 else tw_bv (g_Mo_takeInput_0 σ2) (fun σ3 => C x σ3)) else C x σ) = C r τm) ∧ tw_Rel d τc τm ∧ ∀ g', tw_Coh τc g' := by
  unfold g_Co_take
  rw [tw_c_look false hk, tw_bi_s]
  by_cases h11 : k = 11
  · have e11 : nI k = (11 : Int32) := (tw_k11 (by omega)).mpr h11
    rw [if_pos e11, tw_c_there, tw_bi_s]
    by_cases ht : tw_there σc false = 0
    · rw [if_pos ht]
      refine ⟨_, σc, σm, rfl, fun C => ?_, hR, hC⟩
      rw [tw_m_look_0 hR hk, tw_bi_s, if_pos e11, tw_m_there_0 hR, tw_bi_s, if_pos ht]
    · rw [if_neg ht]
      obtain ⟨τc, τm, e1, e2, e3, e4⟩ := tw_p_rm_0 hR hC ht
      rw [e1, tw_bv_s]
      refine ⟨_, τc, τm, rfl, fun C => ?_, e3, e4⟩
      rw [tw_m_look_0 hR hk, tw_bi_s, if_pos e11, tw_m_there_0 hR, tw_bi_s, if_neg ht, e2, tw_bv_s]
  · have e11 : ¬ nI k = (11 : Int32) := fun z => h11 ((tw_k11 (by omega)).mp z)
    rw [if_neg e11]
    refine ⟨_, σc, σm, rfl, fun C => ?_, hR, hC⟩
    rw [tw_m_look_0 hR hk, tw_bi_s, if_neg e11]
theorem tw_p_take_1 {d : tw_Dt} {σc σm : tw_S} (hR : tw_Rel d σc σm) (hC : ∀ g', tw_Coh σc g') {k : Nat} (hk : k < 12) : ∃ (r : Int32) (τc τm : tw_S), g_Co_take true (nI k) σc = some (some (.inl r), τc) ∧ (∀ C : Int32 → tw_S → Option tw_R, tw_bi (g_Mo_control_1 (nI k) σm) (fun x σ => if nI k = (11 : Int32) then tw_bi (g_Mo_isThere_1 σ) (fun y σ2 => if y = (0 : Int32) then C x σ2 else tw_bv (g_Mo_takeInput_1 σ2) (fun σ3 => C x σ3)) else C x σ) = C r τm) ∧ tw_Rel d τc τm ∧ ∀ g', tw_Coh τc g' := by
  unfold g_Co_take
  rw [tw_c_look true hk, tw_bi_s]
  by_cases h11 : k = 11
  · have e11 : nI k = (11 : Int32) := (tw_k11 (by omega)).mpr h11
    rw [if_pos e11, tw_c_there, tw_bi_s]
    by_cases ht : tw_there σc true = 0
    · rw [if_pos ht]
      refine ⟨_, σc, σm, rfl, fun C => ?_, hR, hC⟩
      rw [tw_m_look_1 hR hk, tw_bi_s, if_pos e11, tw_m_there_1 hR, tw_bi_s, if_pos ht]
    · rw [if_neg ht]
      obtain ⟨τc, τm, e1, e2, e3, e4⟩ := tw_p_rm_1 hR hC ht
      rw [e1, tw_bv_s]
      refine ⟨_, τc, τm, rfl, fun C => ?_, e3, e4⟩
      rw [tw_m_look_1 hR hk, tw_bi_s, if_pos e11, tw_m_there_1 hR, tw_bi_s, if_neg ht, e2, tw_bv_s]
  · have e11 : ¬ nI k = (11 : Int32) := fun z => h11 ((tw_k11 (by omega)).mp z)
    rw [if_neg e11]
    refine ⟨_, σc, σm, rfl, fun C => ?_, hR, hC⟩
    rw [tw_m_look_1 hR hk, tw_bi_s, if_neg e11]
/-- a trap that isn't a fault, on both sides -/
theorem tw_o_trap {d : tw_Dt} {τc τm : tw_S} (hR : tw_Rel d τc τm) (hC : ∀ g', tw_Coh τc g') (g : Bool) (c v : Int32) : tw_OutP d (some (some (.inr (false, 61)), tw_trc g c v τc)) (some (some (.inl 0), tw_trm g c v τm)) :=
  ⟨61, 0, _, _, rfl, rfl, Or.inr (Or.inl ⟨rfl, rfl⟩), tw_r_trap hR g c v, fun g' => tw_coh_trc (hC g') g c v⟩
def tw_sto (k : Nat) : Int32 := if k = 8 then 0 else if k = 10 then 0 else if k = 11 then 0 else 1
theorem tw_c_ex {k : Nat} (hk : k < 12) (σ : tw_S) : g_Co_exists (nI k) σ = some (some (.inl 1), σ) := by
  unfold g_Co_exists
  rw [if_neg (nI_pos (by omega)), if_neg (show ¬ (12 : Int32) ≤ nI k from nI_ge (a := k) (b := 12) hk (by decide))]
theorem tw_c_sto {k : Nat} (hk : k < 12) (σ : tw_S) : g_Co_isStoredTo (nI k) σ = some (some (.inl (tw_sto k)), σ) := by
  unfold g_Co_isStoredTo tw_sto
  rw [tw_c_ex hk, tw_bi_s, if_neg (by decide)]
  by_cases h8 : k = 8
  · rw [if_pos h8, if_pos ((tw_k8 (by omega)).mpr h8)]
  · rw [if_neg h8, if_neg (fun z => h8 ((tw_k8 (by omega)).mp z))]
    by_cases h10 : k = 10
    · rw [if_pos h10, if_pos ((tw_k10 (by omega)).mpr h10)]
    · rw [if_neg h10, if_neg (fun z => h10 ((tw_k10 (by omega)).mp z))]
      by_cases h11 : k = 11
      · rw [if_pos h11, if_pos ((tw_k11 (by omega)).mpr h11)]
      · rw [if_neg h11, if_neg (fun z => h11 ((tw_k11 (by omega)).mp z))]
theorem tw_m_sto {k : Nat} (hk : k < 12) (σ : tw_S) : g_Mo_isStored (nI k) σ = some (some (.inl (tw_sto k)), σ) := by
  unfold g_Mo_isStored tw_sto
  rw [if_neg (nI_pos (by omega))]
  have e9 : (9 : Int32) < nI k ↔ 9 < k := nI_ltI (a := 9) (by decide) (by omega)
  by_cases h9 : 9 < k
  · rw [if_pos (e9.mpr h9), if_neg (by omega)]
    by_cases h10 : k = 10
    · rw [if_pos h10]
    · rw [if_neg h10, if_pos (by omega)]
  · rw [if_neg (fun z => h9 (e9.mp z))]
    by_cases h8 : k = 8
    · rw [if_pos h8, if_pos ((tw_k8 (by omega)).mpr h8)]
    · rw [if_neg h8, if_neg (fun z => h8 ((tw_k8 (by omega)).mp z)), if_neg (by omega), if_neg (by omega)]
theorem tw_12 (v : Int32) : 12 ≤ v ↔ 11 < v := by
  rw [Int32.le_iff_toInt_le, Int32.lt_iff_toInt_lt]
  have a : (12 : Int32).toInt = 12 := by decide
  have b : (11 : Int32).toInt = 11 := by decide
  omega
theorem tw_Rel_2 {d : tw_Dt} {σc σm : tw_S} (h : tw_Rel d σc σm) (g : Bool) {j : Nat} (hj : j < 8) : σm false 24 (8 * tw_b g + j) = σc g 2 j := (h.1 g 2 j _ (tw_m2 g hj)).symm
theorem tw_m_ill_0 (w : Int32) (σ : tw_S) : tw_bi (g_Mo_illegal_0 w σ) (fun x σ => some (some (.inl x), σ)) = some (some (.inl 0), tw_trm false 2 w σ) := by
  unfold g_Mo_illegal_0
  rw [tw_m_trap_0_2]
  rfl
theorem tw_c_ill_0 (w : Int32) (σ : tw_S) : tw_br (g_Gu_trap false 2 w σ) (fun o σ => some (some (.inr (false, o)), σ)) = some (some (.inr (false, 61)), tw_trc false 2 w σ) := by
  rw [tw_c_trap]
  rfl
theorem tw_p_cc_0 {d : tw_Dt} {σc σm : tw_S} (hR : tw_Rel d σc σm) (hC : ∀ g', tw_Coh σc g') (w : Int32) (hop : w &&& 31 = 19 ∨ w &&& 31 = 20 ∨ w &&& 31 = 21) : tw_OutP d (g_Gu_changeControl false w σc) (g_Mo_controls_0 w (w &&& 31) σm) := by
  obtain ⟨ra, hra, era⟩ := tw_reg_ix (w >>> ((8 : Int32) &&& 31))
  obtain ⟨rd, hrd, erd⟩ := tw_reg_ix (w >>> ((5 : Int32) &&& 31))
  have hb0 : (8 : Int32) * 0 + nI ra = nI (0 + ra) := by
    rw [show (8 : Int32) * 0 = nI 0 from by decide, nI_add]
  have e24 : σm false 24 (0 + ra) = σc false 2 ra := tw_Rel_2 hR false hra
  unfold g_Gu_changeControl g_Mo_controls_0
  rw [era, erd, hb0]
  by_cases hneg : w >>> ((16 : Int32) &&& 31) < 0
  · have ex : g_Co_exists (w >>> ((16 : Int32) &&& 31)) σc = some (some (.inl 0), σc) := if_pos hneg
    simp only [ex, tw_bi_s, if_pos hneg, if_true, tw_m_ill_0, tw_c_ill_0, ite_self]
    exact tw_o_trap hR hC false 2 w
  · by_cases hbig : 11 < w >>> ((16 : Int32) &&& 31)
    · have ex : g_Co_exists (w >>> ((16 : Int32) &&& 31)) σc = some (some (.inl 0), σc) := by
        unfold g_Co_exists
        rw [if_neg hneg, if_pos ((tw_12 _).mpr hbig)]
      simp only [ex, tw_bi_s, if_neg hneg, if_pos hbig, if_true, tw_m_ill_0, tw_c_ill_0, ite_self]
      exact tw_o_trap hR hC false 2 w
    · obtain ⟨k, hk0, ek⟩ := nI_of2 (M := 11) (n := 11) (by decide) hneg (Int32.not_lt.mp hbig)
      have hk : k < 12 := by omega
      rw [ek] at hneg hbig ⊢
      obtain ⟨r, τc, τm, et, em, hR2, hC2⟩ := tw_p_take_0 hR hC hk
      have hR3 := tw_r_set hR2 false hrd r
      have hC3 : ∀ g', tw_Coh (tw_setc false rd r τc) g' := fun g' => tw_coh_set (hC2 g') false rd r
      have fin : ∀ x : Int32, tw_OutP d (some (some (.inr (false, 60)), tw_pt (tw_pt (tw_scc false k x (tw_setc false rd r τc)) false 5 10 (tw_scc false k x (tw_setc false rd r τc) false 5 10 + 1)) false 0 6 (tw_scc false k x (tw_setc false rd r τc) false 0 6 + 1))) (some (some (.inl 1), tw_pt (tw_pt (tw_scm false k x (tw_setm false rd r τm)) false 25 10 (tw_scm false k x (tw_setm false rd r τm) false 25 10 + 1)) false 26 0 (tw_scm false k x (tw_setm false rd r τm) false 26 0 + 1))) := fun x =>
        tw_o_ret (tw_r_sc hR3 false hk x) (fun g' => tw_coh_sc hC3 false k x g') false (by rw [← tw_Rel_pc (tw_r_sc hR3 false hk x) false]; rfl)
      have o1 : ¬ tw_out (nI ra) 8 := nI_in hra (by decide)
      have o2 : ¬ tw_out (nI (0 + ra)) 16 := nI_in (by omega) (by decide)
      have q1 : (nI ra).toNatClampNeg = ra := nI_clamp (by omega)
      have q2 : (nI (0 + ra)).toNatClampNeg = 0 + ra := nI_clamp (by omega)
      by_cases h19 : w &&& 31 = 19
      · rw [if_pos h19, if_pos h19, tw_c_ex hk, tw_bi_s, if_neg (by decide), tw_c_sto hk, tw_bi_s, if_neg hneg, if_neg hbig, tw_m_sto hk, tw_bi_s]
        by_cases hs : tw_sto k = 0
        · rw [if_pos hs, if_pos hs, tw_m_ill_0, tw_c_ill_0]
          exact tw_o_trap hR hC false 2 w
        · rw [if_neg hs, if_neg hs, if_neg o1, if_neg o2, q1, q2, et, tw_bi_s, tw_c_set false hrd, tw_bv_s]
          unfold g_Gu_changed
          rw [h19, if_neg (by decide), if_neg (by decide), tw_bi_s, tw_c_sc false hk, tw_bv_s]
          rw [em (fun x σ => tw_bv (g_Mo_put_0 (nI rd) x σ) (fun σ7 => tw_bv (g_Mo_assign_0 (nI k) (σm false 24 (0 + ra)) σ7) (fun σ8 => some (some (.inl (1 : Int32)), (tw_pt (tw_pt σ8 false 25 10 ((σ8 false 25 10) + (1 : Int32))) false 26 0 ((σ8 false 26 0) + (1 : Int32)))))))]
          rw [tw_m_set_0 hrd, tw_bv_s, tw_m_sc_0 hk, tw_bv_s, e24]
          exact fin _
      · rw [if_neg h19, if_neg h19]
        by_cases ha : nI ra = (0 : Int32)
        · rw [if_pos ha, if_pos ha, tw_c_ex hk, tw_bi_s, if_neg (by decide), if_neg hneg, if_neg hbig, if_neg o1, if_neg o2, et, tw_bi_s, tw_c_set false hrd, tw_bv_s]
          rw [em (fun x σ => tw_bv (g_Mo_put_0 (nI rd) x σ) (fun σ8 => some (some (.inl (1 : Int32)), (tw_pt (tw_pt σ8 false 25 10 ((σ8 false 25 10) + (1 : Int32))) false 26 0 ((σ8 false 26 0) + (1 : Int32))))))]
          rw [tw_m_set_0 hrd, tw_bv_s]
          exact tw_o_ret hR3 hC3 false (by rw [← tw_Rel_pc hR3 false]; rfl)
        · rw [if_neg ha, if_neg ha, tw_c_ex hk, tw_bi_s, if_neg (by decide), tw_c_sto hk, tw_bi_s, if_neg hneg, if_neg hbig, tw_m_sto hk, tw_bi_s]
          by_cases hs : tw_sto k = 0
          · rw [if_pos hs, if_pos hs, tw_m_ill_0, tw_c_ill_0]
            exact tw_o_trap hR hC false 2 w
          · rw [if_neg hs, if_neg hs, if_neg o1, if_neg o2, q1, q2, et, tw_bi_s, tw_c_set false hrd, tw_bv_s]
            unfold g_Gu_changed
            rcases hop with h | h | h
            · exact absurd h h19
            · rw [h, if_pos rfl, tw_bi_s, tw_c_sc false hk, tw_bv_s]
              rw [em (fun x σ => tw_bv (g_Mo_put_0 (nI rd) x σ) (fun σ7 => if (20 : Int32) = (20 : Int32) then (tw_bv (g_Mo_assign_0 (nI k) (x ||| (σm false 24 (0 + ra))) σ7) (fun σ8 => some (some (.inl (1 : Int32)), (tw_pt (tw_pt σ8 false 25 10 ((σ8 false 25 10) + (1 : Int32))) false 26 0 ((σ8 false 26 0) + (1 : Int32)))))) else (tw_bv (g_Mo_assign_0 (nI k) (x &&& ((σm false 24 (0 + ra)) ^^^ (-1 : Int32))) σ7) (fun σ8 => some (some (.inl (1 : Int32)), (tw_pt (tw_pt σ8 false 25 10 ((σ8 false 25 10) + (1 : Int32))) false 26 0 ((σ8 false 26 0) + (1 : Int32))))))))]
              rw [tw_m_set_0 hrd, tw_bv_s, if_pos rfl, tw_m_sc_0 hk, tw_bv_s, e24]
              exact fin _
            · rw [h, if_neg (by decide), if_pos rfl, tw_bi_s, tw_c_sc false hk, tw_bv_s]
              rw [em (fun x σ => tw_bv (g_Mo_put_0 (nI rd) x σ) (fun σ7 => if (21 : Int32) = (20 : Int32) then (tw_bv (g_Mo_assign_0 (nI k) (x ||| (σm false 24 (0 + ra))) σ7) (fun σ8 => some (some (.inl (1 : Int32)), (tw_pt (tw_pt σ8 false 25 10 ((σ8 false 25 10) + (1 : Int32))) false 26 0 ((σ8 false 26 0) + (1 : Int32)))))) else (tw_bv (g_Mo_assign_0 (nI k) (x &&& ((σm false 24 (0 + ra)) ^^^ (-1 : Int32))) σ7) (fun σ8 => some (some (.inl (1 : Int32)), (tw_pt (tw_pt σ8 false 25 10 ((σ8 false 25 10) + (1 : Int32))) false 26 0 ((σ8 false 26 0) + (1 : Int32))))))))]
              rw [tw_m_set_0 hrd, tw_bv_s, if_neg (by decide), tw_m_sc_0 hk, tw_bv_s, e24]
              exact fin _
theorem tw_m_ill_1 (w : Int32) (σ : tw_S) : tw_bi (g_Mo_illegal_1 w σ) (fun x σ => some (some (.inl x), σ)) = some (some (.inl 0), tw_trm true 2 w σ) := by
  unfold g_Mo_illegal_1
  rw [tw_m_trap_1_2]
  rfl
theorem tw_c_ill_1 (w : Int32) (σ : tw_S) : tw_br (g_Gu_trap true 2 w σ) (fun o σ => some (some (.inr (false, o)), σ)) = some (some (.inr (false, 61)), tw_trc true 2 w σ) := by
  rw [tw_c_trap]
  rfl
theorem tw_p_cc_1 {d : tw_Dt} {σc σm : tw_S} (hR : tw_Rel d σc σm) (hC : ∀ g', tw_Coh σc g') (w : Int32) (hop : w &&& 31 = 19 ∨ w &&& 31 = 20 ∨ w &&& 31 = 21) : tw_OutP d (g_Gu_changeControl true w σc) (g_Mo_controls_1 w (w &&& 31) σm) := by
  obtain ⟨ra, hra, era⟩ := tw_reg_ix (w >>> ((8 : Int32) &&& 31))
  obtain ⟨rd, hrd, erd⟩ := tw_reg_ix (w >>> ((5 : Int32) &&& 31))
  have hb0 : (8 : Int32) * 1 + nI ra = nI (8 + ra) := by
    rw [show (8 : Int32) * 1 = nI 8 from by decide, nI_add]
  have e24 : σm false 24 (8 + ra) = σc true 2 ra := tw_Rel_2 hR true hra
  unfold g_Gu_changeControl g_Mo_controls_1
  rw [era, erd, hb0]
  by_cases hneg : w >>> ((16 : Int32) &&& 31) < 0
  · have ex : g_Co_exists (w >>> ((16 : Int32) &&& 31)) σc = some (some (.inl 0), σc) := if_pos hneg
    simp only [ex, tw_bi_s, if_pos hneg, if_true, tw_m_ill_1, tw_c_ill_1, ite_self]
    exact tw_o_trap hR hC true 2 w
  · by_cases hbig : 11 < w >>> ((16 : Int32) &&& 31)
    · have ex : g_Co_exists (w >>> ((16 : Int32) &&& 31)) σc = some (some (.inl 0), σc) := by
        unfold g_Co_exists
        rw [if_neg hneg, if_pos ((tw_12 _).mpr hbig)]
      simp only [ex, tw_bi_s, if_neg hneg, if_pos hbig, if_true, tw_m_ill_1, tw_c_ill_1, ite_self]
      exact tw_o_trap hR hC true 2 w
    · obtain ⟨k, hk0, ek⟩ := nI_of2 (M := 11) (n := 11) (by decide) hneg (Int32.not_lt.mp hbig)
      have hk : k < 12 := by omega
      rw [ek] at hneg hbig ⊢
      obtain ⟨r, τc, τm, et, em, hR2, hC2⟩ := tw_p_take_1 hR hC hk
      have hR3 := tw_r_set hR2 true hrd r
      have hC3 : ∀ g', tw_Coh (tw_setc true rd r τc) g' := fun g' => tw_coh_set (hC2 g') true rd r
      have fin : ∀ x : Int32, tw_OutP d (some (some (.inr (false, 60)), tw_pt (tw_pt (tw_scc true k x (tw_setc true rd r τc)) true 5 10 (tw_scc true k x (tw_setc true rd r τc) true 5 10 + 1)) true 0 6 (tw_scc true k x (tw_setc true rd r τc) true 0 6 + 1))) (some (some (.inl 1), tw_pt (tw_pt (tw_scm true k x (tw_setm true rd r τm)) false 25 22 (tw_scm true k x (tw_setm true rd r τm) false 25 22 + 1)) false 26 1 (tw_scm true k x (tw_setm true rd r τm) false 26 1 + 1))) := fun x =>
        tw_o_ret (tw_r_sc hR3 true hk x) (fun g' => tw_coh_sc hC3 true k x g') true (by rw [← tw_Rel_pc (tw_r_sc hR3 true hk x) true]; rfl)
      have o1 : ¬ tw_out (nI ra) 8 := nI_in hra (by decide)
      have o2 : ¬ tw_out (nI (8 + ra)) 16 := nI_in (by omega) (by decide)
      have q1 : (nI ra).toNatClampNeg = ra := nI_clamp (by omega)
      have q2 : (nI (8 + ra)).toNatClampNeg = 8 + ra := nI_clamp (by omega)
      by_cases h19 : w &&& 31 = 19
      · rw [if_pos h19, if_pos h19, tw_c_ex hk, tw_bi_s, if_neg (by decide), tw_c_sto hk, tw_bi_s, if_neg hneg, if_neg hbig, tw_m_sto hk, tw_bi_s]
        by_cases hs : tw_sto k = 0
        · rw [if_pos hs, if_pos hs, tw_m_ill_1, tw_c_ill_1]
          exact tw_o_trap hR hC true 2 w
        · rw [if_neg hs, if_neg hs, if_neg o1, if_neg o2, q1, q2, et, tw_bi_s, tw_c_set true hrd, tw_bv_s]
          unfold g_Gu_changed
          rw [h19, if_neg (by decide), if_neg (by decide), tw_bi_s, tw_c_sc true hk, tw_bv_s]
          rw [em (fun x σ => tw_bv (g_Mo_put_1 (nI rd) x σ) (fun σ7 => tw_bv (g_Mo_assign_1 (nI k) (σm false 24 (8 + ra)) σ7) (fun σ8 => some (some (.inl (1 : Int32)), (tw_pt (tw_pt σ8 false 25 22 ((σ8 false 25 22) + (1 : Int32))) false 26 1 ((σ8 false 26 1) + (1 : Int32)))))))]
          rw [tw_m_set_1 hrd, tw_bv_s, tw_m_sc_1 hk, tw_bv_s, e24]
          exact fin _
      · rw [if_neg h19, if_neg h19]
        by_cases ha : nI ra = (0 : Int32)
        · rw [if_pos ha, if_pos ha, tw_c_ex hk, tw_bi_s, if_neg (by decide), if_neg hneg, if_neg hbig, if_neg o1, if_neg o2, et, tw_bi_s, tw_c_set true hrd, tw_bv_s]
          rw [em (fun x σ => tw_bv (g_Mo_put_1 (nI rd) x σ) (fun σ8 => some (some (.inl (1 : Int32)), (tw_pt (tw_pt σ8 false 25 22 ((σ8 false 25 22) + (1 : Int32))) false 26 1 ((σ8 false 26 1) + (1 : Int32))))))]
          rw [tw_m_set_1 hrd, tw_bv_s]
          exact tw_o_ret hR3 hC3 true (by rw [← tw_Rel_pc hR3 true]; rfl)
        · rw [if_neg ha, if_neg ha, tw_c_ex hk, tw_bi_s, if_neg (by decide), tw_c_sto hk, tw_bi_s, if_neg hneg, if_neg hbig, tw_m_sto hk, tw_bi_s]
          by_cases hs : tw_sto k = 0
          · rw [if_pos hs, if_pos hs, tw_m_ill_1, tw_c_ill_1]
            exact tw_o_trap hR hC true 2 w
          · rw [if_neg hs, if_neg hs, if_neg o1, if_neg o2, q1, q2, et, tw_bi_s, tw_c_set true hrd, tw_bv_s]
            unfold g_Gu_changed
            rcases hop with h | h | h
            · exact absurd h h19
            · rw [h, if_pos rfl, tw_bi_s, tw_c_sc true hk, tw_bv_s]
              rw [em (fun x σ => tw_bv (g_Mo_put_1 (nI rd) x σ) (fun σ7 => if (20 : Int32) = (20 : Int32) then (tw_bv (g_Mo_assign_1 (nI k) (x ||| (σm false 24 (8 + ra))) σ7) (fun σ8 => some (some (.inl (1 : Int32)), (tw_pt (tw_pt σ8 false 25 22 ((σ8 false 25 22) + (1 : Int32))) false 26 1 ((σ8 false 26 1) + (1 : Int32)))))) else (tw_bv (g_Mo_assign_1 (nI k) (x &&& ((σm false 24 (8 + ra)) ^^^ (-1 : Int32))) σ7) (fun σ8 => some (some (.inl (1 : Int32)), (tw_pt (tw_pt σ8 false 25 22 ((σ8 false 25 22) + (1 : Int32))) false 26 1 ((σ8 false 26 1) + (1 : Int32))))))))]
              rw [tw_m_set_1 hrd, tw_bv_s, if_pos rfl, tw_m_sc_1 hk, tw_bv_s, e24]
              exact fin _
            · rw [h, if_neg (by decide), if_pos rfl, tw_bi_s, tw_c_sc true hk, tw_bv_s]
              rw [em (fun x σ => tw_bv (g_Mo_put_1 (nI rd) x σ) (fun σ7 => if (21 : Int32) = (20 : Int32) then (tw_bv (g_Mo_assign_1 (nI k) (x ||| (σm false 24 (8 + ra))) σ7) (fun σ8 => some (some (.inl (1 : Int32)), (tw_pt (tw_pt σ8 false 25 22 ((σ8 false 25 22) + (1 : Int32))) false 26 1 ((σ8 false 26 1) + (1 : Int32)))))) else (tw_bv (g_Mo_assign_1 (nI k) (x &&& ((σm false 24 (8 + ra)) ^^^ (-1 : Int32))) σ7) (fun σ8 => some (some (.inl (1 : Int32)), (tw_pt (tw_pt σ8 false 25 22 ((σ8 false 25 22) + (1 : Int32))) false 26 1 ((σ8 false 26 1) + (1 : Int32))))))))]
              rw [tw_m_set_1 hrd, tw_bv_s, if_neg (by decide), tw_m_sc_1 hk, tw_bv_s, e24]
              exact fin _
