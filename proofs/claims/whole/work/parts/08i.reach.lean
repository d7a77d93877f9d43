/-! fill and reach, each by itself. -/
theorem tw_lt8b {k : Nat} (hk : k < 32) : nI k < 8 ↔ k < 8 := nI_ltI (b := 8) (by omega) (by decide)
theorem tw_c_fill_F (g : Bool) {v a pg f : Nat} {sec : Int32} (hv : v < 16) (ha : a < 128) (hpg : pg < 32) {τ : tw_S} (h0 : τ g 14 0 = nI f) (h1 : τ g 14 1 = sec) (h2 : τ g 14 2 = nI a) (h3 : τ g 14 3 = nI pg) : g_Gu_fill_F g (nI v) τ = if tw_alw 8 0 (τ g 1 a) (τ g 0 7) (τ g 5 0 &&& 8) = 0 then some (some (.inl 12), τ) else if 8 ≤ pg then some (some (.inl 1), τ) else some (some (.inl 0), tw_flc g v a pg f sec (τ g 1 a ||| 32) τ) := by
  unfold g_Gu_fill_F
  rw [h2, if_neg (nI_in ha (by decide)), nI_clamp (by omega), tw_c_isOn]
  show tw_bi (g_En_allows_F (τ g 1 a) (τ g 0 7) (tw_onb g 8 τ) τ) _ = _
  rw [tw_c_alw_F, tw_alw_s (tw_onb_0 g 8 τ)]
  show (if tw_alw 8 0 (τ g 1 a) (τ g 0 7) (τ g 5 0 &&& 8) = 0 then _ else _) = _
  by_cases ha0 : tw_alw 8 0 (τ g 1 a) (τ g 0 7) (τ g 5 0 &&& 8) = 0
  · rw [if_pos ha0, if_pos ha0]
  · rw [if_neg ha0, if_neg ha0, h3]
    by_cases hp : 8 ≤ pg
    · rw [if_neg (fun z => absurd ((tw_lt8b hpg).mp z) (by omega)), if_pos hp]
    · rw [if_pos ((tw_lt8b hpg).mpr (by omega)), if_neg hp, h2, if_neg (nI_in ha (by decide)), nI_clamp (by omega)]
      unfold g_Sh_put
      rw [if_neg (nI_in hv (by decide)), nI_clamp (by omega)]
      have n14 : ∀ j, tw_pt τ g 1 a (τ g 1 a ||| 32) g 14 j = τ g 14 j := fun j => tw_pt_n _ _ (fun z => absurd z.2.1 (by decide))
      rw [n14, n14, n14, h0, h1, h3]
      rfl
theorem tw_c_fill_L (g : Bool) {v a pg f : Nat} {sec : Int32} (hv : v < 16) (ha : a < 128) (hpg : pg < 32) {τ : tw_S} (h0 : τ g 14 0 = nI f) (h1 : τ g 14 1 = sec) (h2 : τ g 14 2 = nI a) (h3 : τ g 14 3 = nI pg) : g_Gu_fill_L g (nI v) τ = if tw_alw 2 1 (τ g 1 a) (τ g 0 7) (τ g 5 0 &&& 8) = 0 then some (some (.inl 13), τ) else if 8 ≤ pg then some (some (.inl 5), τ) else some (some (.inl 0), tw_flc g v a pg f sec (τ g 1 a ||| 32) τ) := by
  unfold g_Gu_fill_L
  rw [h2, if_neg (nI_in ha (by decide)), nI_clamp (by omega), tw_c_isOn]
  show tw_bi (g_En_allows_L (τ g 1 a) (τ g 0 7) (tw_onb g 8 τ) τ) _ = _
  rw [tw_c_alw_L, tw_alw_s (tw_onb_0 g 8 τ)]
  show (if tw_alw 2 1 (τ g 1 a) (τ g 0 7) (τ g 5 0 &&& 8) = 0 then _ else _) = _
  by_cases ha0 : tw_alw 2 1 (τ g 1 a) (τ g 0 7) (τ g 5 0 &&& 8) = 0
  · rw [if_pos ha0, if_pos ha0]
  · rw [if_neg ha0, if_neg ha0, h3]
    by_cases hp : 8 ≤ pg
    · rw [if_neg (fun z => absurd ((tw_lt8b hpg).mp z) (by omega)), if_pos hp]
    · rw [if_pos ((tw_lt8b hpg).mpr (by omega)), if_neg hp, h2, if_neg (nI_in ha (by decide)), nI_clamp (by omega)]
      unfold g_Sh_put
      rw [if_neg (nI_in hv (by decide)), nI_clamp (by omega)]
      have n14 : ∀ j, tw_pt τ g 1 a (τ g 1 a ||| 32) g 14 j = τ g 14 j := fun j => tw_pt_n _ _ (fun z => absurd z.2.1 (by decide))
      rw [n14, n14, n14, h0, h1, h3]
      rfl
theorem tw_c_fill_S (g : Bool) {v a pg f : Nat} {sec : Int32} (hv : v < 16) (ha : a < 128) (hpg : pg < 32) {τ : tw_S} (h0 : τ g 14 0 = nI f) (h1 : τ g 14 1 = sec) (h2 : τ g 14 2 = nI a) (h3 : τ g 14 3 = nI pg) : g_Gu_fill_S g (nI v) τ = if tw_alw 4 2 (τ g 1 a) (τ g 0 7) (τ g 5 0 &&& 8) = 0 then some (some (.inl 15), τ) else if 8 ≤ pg then some (some (.inl 7), τ) else some (some (.inl 0), tw_flc g v a pg f sec (τ g 1 a ||| 96) τ) := by
  unfold g_Gu_fill_S
  rw [h2, if_neg (nI_in ha (by decide)), nI_clamp (by omega), tw_c_isOn]
  show tw_bi (g_En_allows_S (τ g 1 a) (τ g 0 7) (tw_onb g 8 τ) τ) _ = _
  rw [tw_c_alw_S, tw_alw_s (tw_onb_0 g 8 τ)]
  show (if tw_alw 4 2 (τ g 1 a) (τ g 0 7) (τ g 5 0 &&& 8) = 0 then _ else _) = _
  by_cases ha0 : tw_alw 4 2 (τ g 1 a) (τ g 0 7) (τ g 5 0 &&& 8) = 0
  · rw [if_pos ha0, if_pos ha0]
  · rw [if_neg ha0, if_neg ha0, h3]
    by_cases hp : 8 ≤ pg
    · rw [if_neg (fun z => absurd ((tw_lt8b hpg).mp z) (by omega)), if_pos hp]
    · rw [if_pos ((tw_lt8b hpg).mpr (by omega)), if_neg hp, h2, if_neg (nI_in ha (by decide)), nI_clamp (by omega)]
      unfold g_Sh_put
      rw [if_neg (nI_in hv (by decide)), nI_clamp (by omega)]
      have n14 : ∀ j, tw_pt τ g 1 a (τ g 1 a ||| 96) g 14 j = τ g 14 j := fun j => tw_pt_n _ _ (fun z => absurd z.2.1 (by decide))
      rw [n14, n14, n14, h0, h1, h3]
      rfl
/-- the reference's trap for a fault of an access -/
def tw_flt (g : Bool) (cause v : Int32) (σ : tw_S) : tw_S := tw_pt (tw_trm g cause v σ) false 31 (9 * tw_b g + 2) (σ false 31 (9 * tw_b g + 2) + 1)
theorem tw_m_fault_0_0 (v : Int32) (σ : tw_S) : g_Mo_fault_0_0 v σ = some (some (.inl (-1)), tw_flt false 12 v σ) := by
  unfold g_Mo_fault_0_0
  rw [tw_m_trap_0_12]
  rfl
theorem tw_m_outside_0_0 (v : Int32) (σ : tw_S) : g_Mo_outside_0_0 v σ = some (some (.inl (-1)), tw_flt false 1 v σ) := by
  unfold g_Mo_outside_0_0
  rw [tw_m_trap_0_1]
  rfl
theorem tw_m_reach_0_0 {n a pg f : Nat} (hn : n < 256) (ha : a < 128) (hpg : pg < 32) {μ : tw_S} (h17 : μ false 22 17 = nI a) (h18 : μ false 22 18 = nI f) : g_Mo_reach_0_0 (nI n) (nI pg) μ = if tw_alw 8 0 (μ false 23 (0 + a)) (μ false 27 0) (μ false 25 0 &&& 8) = 0 then some (some (.inl (-1)), tw_flt false 12 (nI n) μ) else if 8 ≤ pg then some (some (.inl (-1)), tw_flt false 1 (nI n) μ) else if μ false 22 19 = 0 then some (some (.inl (nI (16 * pg + n % 16))), tw_flm false (n / 16) a pg f (if nI a = nI f then -1 else nI a) (μ false 23 (0 + a) ||| 32) μ) else some (some (.inl (nI (16 * pg + n % 16))), tw_pt μ false 23 (0 + a) (μ false 23 (0 + a) ||| 32)) := by
  have hb0 : ∀ i : Nat, (128 : Int32) * 0 + nI i = nI (0 + i) := fun i => by
    rw [show (128 : Int32) * 0 = nI 0 from by decide, nI_add]
  have hat : (16 : Int32) * nI pg + (nI n &&& 15) = nI (16 * pg + n % 16) := by
    rw [tw_an15 hn, show (16 : Int32) = nI 16 from rfl, pk_mul, nI_add]
  have hvp : (16 : Int32) * 0 + nI n >>> ((4 : Int32) &&& 31) = nI (0 + n / 16) := by
    rw [tw_sh4 hn, show (16 : Int32) * 0 = nI 0 from by decide, nI_add]
  unfold g_Mo_reach_0_0
  rw [h17, hb0, if_neg (nI_in (by omega) (by decide)), nI_clamp (by omega), tw_m_alw_0_0]
  show (if tw_alw 8 0 (μ false 23 (0 + a)) (μ false 27 0) (μ false 25 0 &&& 8) = 0 then _ else _) = _
  by_cases ha0 : tw_alw 8 0 (μ false 23 (0 + a)) (μ false 27 0) (μ false 25 0 &&& 8) = 0
  · rw [if_pos ha0, if_pos ha0, tw_m_fault_0_0]
    rfl
  · rw [if_neg ha0, if_neg ha0]
    by_cases hp : 8 ≤ pg
    · rw [if_neg (fun z => absurd ((tw_lt8b hpg).mp z) (by omega)), if_pos hp, tw_m_outside_0_0]
      rfl
    · rw [if_pos ((tw_lt8b hpg).mpr (by omega)), if_neg hp, h17, hb0, if_neg (nI_in (by omega) (by decide)), nI_clamp (by omega), hat, hvp]
      by_cases h19 : μ false 22 19 = 0
      · rw [if_pos h19, if_pos h19]
        unfold g_Mo_fill_0
        have e17 : tw_pt μ false 23 (0 + a) (μ false 23 (0 + a) ||| 32) false 22 17 = nI a := h17
        have e18 : tw_pt μ false 23 (0 + a) (μ false 23 (0 + a) ||| 32) false 22 18 = nI f := h18
        rw [if_neg (nI_in (by omega) (by decide)), nI_clamp (by omega), e17, e18]
        unfold tw_flm
        by_cases h64 : (μ false 23 (0 + a) ||| 32) &&& 64 = 0
        · rw [if_pos h64]
          by_cases haf : nI a = nI f
          · rw [if_pos haf, if_pos haf, if_pos h64]; rfl
          · rw [if_neg haf, if_neg haf, if_pos h64]; rfl
        · rw [if_neg h64]
          by_cases haf : nI a = nI f
          · rw [if_pos haf, if_pos haf, if_neg h64]; rfl
          · rw [if_neg haf, if_neg haf, if_neg h64]; rfl
      · rw [if_neg h19, if_neg h19]
theorem tw_m_fault_0_1 (v : Int32) (σ : tw_S) : g_Mo_fault_0_1 v σ = some (some (.inl (-1)), tw_flt false 13 v σ) := by
  unfold g_Mo_fault_0_1
  rw [tw_m_trap_0_13]
  rfl
theorem tw_m_outside_0_1 (v : Int32) (σ : tw_S) : g_Mo_outside_0_1 v σ = some (some (.inl (-1)), tw_flt false 5 v σ) := by
  unfold g_Mo_outside_0_1
  rw [tw_m_trap_0_5]
  rfl
theorem tw_m_reach_0_1 {n a pg f : Nat} (hn : n < 256) (ha : a < 128) (hpg : pg < 32) {μ : tw_S} (h17 : μ false 22 17 = nI a) (h18 : μ false 22 18 = nI f) : g_Mo_reach_0_1 (nI n) (nI pg) μ = if tw_alw 2 1 (μ false 23 (0 + a)) (μ false 27 0) (μ false 25 0 &&& 8) = 0 then some (some (.inl (-1)), tw_flt false 13 (nI n) μ) else if 8 ≤ pg then some (some (.inl (-1)), tw_flt false 5 (nI n) μ) else if μ false 22 19 = 0 then some (some (.inl (nI (16 * pg + n % 16))), tw_flm false (n / 16) a pg f (if nI a = nI f then -1 else nI a) (μ false 23 (0 + a) ||| 32) μ) else some (some (.inl (nI (16 * pg + n % 16))), tw_pt μ false 23 (0 + a) (μ false 23 (0 + a) ||| 32)) := by
  have hb0 : ∀ i : Nat, (128 : Int32) * 0 + nI i = nI (0 + i) := fun i => by
    rw [show (128 : Int32) * 0 = nI 0 from by decide, nI_add]
  have hat : (16 : Int32) * nI pg + (nI n &&& 15) = nI (16 * pg + n % 16) := by
    rw [tw_an15 hn, show (16 : Int32) = nI 16 from rfl, pk_mul, nI_add]
  have hvp : (16 : Int32) * 0 + nI n >>> ((4 : Int32) &&& 31) = nI (0 + n / 16) := by
    rw [tw_sh4 hn, show (16 : Int32) * 0 = nI 0 from by decide, nI_add]
  unfold g_Mo_reach_0_1
  rw [h17, hb0, if_neg (nI_in (by omega) (by decide)), nI_clamp (by omega), tw_m_alw_0_1]
  show (if tw_alw 2 1 (μ false 23 (0 + a)) (μ false 27 0) (μ false 25 0 &&& 8) = 0 then _ else _) = _
  by_cases ha0 : tw_alw 2 1 (μ false 23 (0 + a)) (μ false 27 0) (μ false 25 0 &&& 8) = 0
  · rw [if_pos ha0, if_pos ha0, tw_m_fault_0_1]
    rfl
  · rw [if_neg ha0, if_neg ha0]
    by_cases hp : 8 ≤ pg
    · rw [if_neg (fun z => absurd ((tw_lt8b hpg).mp z) (by omega)), if_pos hp, tw_m_outside_0_1]
      rfl
    · rw [if_pos ((tw_lt8b hpg).mpr (by omega)), if_neg hp, h17, hb0, if_neg (nI_in (by omega) (by decide)), nI_clamp (by omega), hat, hvp]
      by_cases h19 : μ false 22 19 = 0
      · rw [if_pos h19, if_pos h19]
        unfold g_Mo_fill_0
        have e17 : tw_pt μ false 23 (0 + a) (μ false 23 (0 + a) ||| 32) false 22 17 = nI a := h17
        have e18 : tw_pt μ false 23 (0 + a) (μ false 23 (0 + a) ||| 32) false 22 18 = nI f := h18
        rw [if_neg (nI_in (by omega) (by decide)), nI_clamp (by omega), e17, e18]
        unfold tw_flm
        by_cases h64 : (μ false 23 (0 + a) ||| 32) &&& 64 = 0
        · rw [if_pos h64]
          by_cases haf : nI a = nI f
          · rw [if_pos haf, if_pos haf, if_pos h64]; rfl
          · rw [if_neg haf, if_neg haf, if_pos h64]; rfl
        · rw [if_neg h64]
          by_cases haf : nI a = nI f
          · rw [if_pos haf, if_pos haf, if_neg h64]; rfl
          · rw [if_neg haf, if_neg haf, if_neg h64]; rfl
      · rw [if_neg h19, if_neg h19]
theorem tw_m_fault_0_2 (v : Int32) (σ : tw_S) : g_Mo_fault_0_2 v σ = some (some (.inl (-1)), tw_flt false 15 v σ) := by
  unfold g_Mo_fault_0_2
  rw [tw_m_trap_0_15]
  rfl
theorem tw_m_outside_0_2 (v : Int32) (σ : tw_S) : g_Mo_outside_0_2 v σ = some (some (.inl (-1)), tw_flt false 7 v σ) := by
  unfold g_Mo_outside_0_2
  rw [tw_m_trap_0_7]
  rfl
theorem tw_m_reach_0_2 {n a pg f : Nat} (hn : n < 256) (ha : a < 128) (hpg : pg < 32) {μ : tw_S} (h17 : μ false 22 17 = nI a) (h18 : μ false 22 18 = nI f) : g_Mo_reach_0_2 (nI n) (nI pg) μ = if tw_alw 4 2 (μ false 23 (0 + a)) (μ false 27 0) (μ false 25 0 &&& 8) = 0 then some (some (.inl (-1)), tw_flt false 15 (nI n) μ) else if 8 ≤ pg then some (some (.inl (-1)), tw_flt false 7 (nI n) μ) else if μ false 22 19 = 0 then some (some (.inl (nI (16 * pg + n % 16))), tw_flm false (n / 16) a pg f (if nI a = nI f then -1 else nI a) (μ false 23 (0 + a) ||| 96) μ) else some (some (.inl (nI (16 * pg + n % 16))), tw_pt μ false 23 (0 + a) (μ false 23 (0 + a) ||| 96)) := by
  have hb0 : ∀ i : Nat, (128 : Int32) * 0 + nI i = nI (0 + i) := fun i => by
    rw [show (128 : Int32) * 0 = nI 0 from by decide, nI_add]
  have hat : (16 : Int32) * nI pg + (nI n &&& 15) = nI (16 * pg + n % 16) := by
    rw [tw_an15 hn, show (16 : Int32) = nI 16 from rfl, pk_mul, nI_add]
  have hvp : (16 : Int32) * 0 + nI n >>> ((4 : Int32) &&& 31) = nI (0 + n / 16) := by
    rw [tw_sh4 hn, show (16 : Int32) * 0 = nI 0 from by decide, nI_add]
  unfold g_Mo_reach_0_2
  rw [h17, hb0, if_neg (nI_in (by omega) (by decide)), nI_clamp (by omega), tw_m_alw_0_2]
  show (if tw_alw 4 2 (μ false 23 (0 + a)) (μ false 27 0) (μ false 25 0 &&& 8) = 0 then _ else _) = _
  by_cases ha0 : tw_alw 4 2 (μ false 23 (0 + a)) (μ false 27 0) (μ false 25 0 &&& 8) = 0
  · rw [if_pos ha0, if_pos ha0, tw_m_fault_0_2]
    rfl
  · rw [if_neg ha0, if_neg ha0]
    by_cases hp : 8 ≤ pg
    · rw [if_neg (fun z => absurd ((tw_lt8b hpg).mp z) (by omega)), if_pos hp, tw_m_outside_0_2]
      rfl
    · rw [if_pos ((tw_lt8b hpg).mpr (by omega)), if_neg hp, h17, hb0, if_neg (nI_in (by omega) (by decide)), nI_clamp (by omega), hat, hvp]
      by_cases h19 : μ false 22 19 = 0
      · rw [if_pos h19, if_pos h19]
        unfold g_Mo_fill_0
        have e17 : tw_pt μ false 23 (0 + a) (μ false 23 (0 + a) ||| 96) false 22 17 = nI a := h17
        have e18 : tw_pt μ false 23 (0 + a) (μ false 23 (0 + a) ||| 96) false 22 18 = nI f := h18
        rw [if_neg (nI_in (by omega) (by decide)), nI_clamp (by omega), e17, e18]
        unfold tw_flm
        by_cases h64 : (μ false 23 (0 + a) ||| 96) &&& 64 = 0
        · rw [if_pos h64]
          by_cases haf : nI a = nI f
          · rw [if_pos haf, if_pos haf, if_pos h64]; rfl
          · rw [if_neg haf, if_neg haf, if_pos h64]; rfl
        · rw [if_neg h64]
          by_cases haf : nI a = nI f
          · rw [if_pos haf, if_pos haf, if_neg h64]; rfl
          · rw [if_neg haf, if_neg haf, if_neg h64]; rfl
      · rw [if_neg h19, if_neg h19]
theorem tw_m_fault_1_0 (v : Int32) (σ : tw_S) : g_Mo_fault_1_0 v σ = some (some (.inl (-1)), tw_flt true 12 v σ) := by
  unfold g_Mo_fault_1_0
  rw [tw_m_trap_1_12]
  rfl
theorem tw_m_outside_1_0 (v : Int32) (σ : tw_S) : g_Mo_outside_1_0 v σ = some (some (.inl (-1)), tw_flt true 1 v σ) := by
  unfold g_Mo_outside_1_0
  rw [tw_m_trap_1_1]
  rfl
theorem tw_m_reach_1_0 {n a pg f : Nat} (hn : n < 256) (ha : a < 128) (hpg : pg < 32) {μ : tw_S} (h17 : μ false 22 17 = nI a) (h18 : μ false 22 18 = nI f) : g_Mo_reach_1_0 (nI n) (nI pg) μ = if tw_alw 8 0 (μ false 23 (128 + a)) (μ false 27 1) (μ false 25 12 &&& 8) = 0 then some (some (.inl (-1)), tw_flt true 12 (nI n) μ) else if 8 ≤ pg then some (some (.inl (-1)), tw_flt true 1 (nI n) μ) else if μ false 22 19 = 0 then some (some (.inl (nI (16 * pg + n % 16))), tw_flm true (n / 16) a pg f (if nI a = nI f then -1 else nI a) (μ false 23 (128 + a) ||| 32) μ) else some (some (.inl (nI (16 * pg + n % 16))), tw_pt μ false 23 (128 + a) (μ false 23 (128 + a) ||| 32)) := by
  have hb0 : ∀ i : Nat, (128 : Int32) * 1 + nI i = nI (128 + i) := fun i => by
    rw [show (128 : Int32) * 1 = nI 128 from by decide, nI_add]
  have hat : (16 : Int32) * nI pg + (nI n &&& 15) = nI (16 * pg + n % 16) := by
    rw [tw_an15 hn, show (16 : Int32) = nI 16 from rfl, pk_mul, nI_add]
  have hvp : (16 : Int32) * 1 + nI n >>> ((4 : Int32) &&& 31) = nI (16 + n / 16) := by
    rw [tw_sh4 hn, show (16 : Int32) * 1 = nI 16 from by decide, nI_add]
  unfold g_Mo_reach_1_0
  rw [h17, hb0, if_neg (nI_in (by omega) (by decide)), nI_clamp (by omega), tw_m_alw_1_0]
  show (if tw_alw 8 0 (μ false 23 (128 + a)) (μ false 27 1) (μ false 25 12 &&& 8) = 0 then _ else _) = _
  by_cases ha0 : tw_alw 8 0 (μ false 23 (128 + a)) (μ false 27 1) (μ false 25 12 &&& 8) = 0
  · rw [if_pos ha0, if_pos ha0, tw_m_fault_1_0]
    rfl
  · rw [if_neg ha0, if_neg ha0]
    by_cases hp : 8 ≤ pg
    · rw [if_neg (fun z => absurd ((tw_lt8b hpg).mp z) (by omega)), if_pos hp, tw_m_outside_1_0]
      rfl
    · rw [if_pos ((tw_lt8b hpg).mpr (by omega)), if_neg hp, h17, hb0, if_neg (nI_in (by omega) (by decide)), nI_clamp (by omega), hat, hvp]
      by_cases h19 : μ false 22 19 = 0
      · rw [if_pos h19, if_pos h19]
        unfold g_Mo_fill_1
        have e17 : tw_pt μ false 23 (128 + a) (μ false 23 (128 + a) ||| 32) false 22 17 = nI a := h17
        have e18 : tw_pt μ false 23 (128 + a) (μ false 23 (128 + a) ||| 32) false 22 18 = nI f := h18
        rw [if_neg (nI_in (by omega) (by decide)), nI_clamp (by omega), e17, e18]
        unfold tw_flm
        by_cases h64 : (μ false 23 (128 + a) ||| 32) &&& 64 = 0
        · rw [if_pos h64]
          by_cases haf : nI a = nI f
          · rw [if_pos haf, if_pos haf, if_pos h64]; rfl
          · rw [if_neg haf, if_neg haf, if_pos h64]; rfl
        · rw [if_neg h64]
          by_cases haf : nI a = nI f
          · rw [if_pos haf, if_pos haf, if_neg h64]; rfl
          · rw [if_neg haf, if_neg haf, if_neg h64]; rfl
      · rw [if_neg h19, if_neg h19]
theorem tw_m_fault_1_1 (v : Int32) (σ : tw_S) : g_Mo_fault_1_1 v σ = some (some (.inl (-1)), tw_flt true 13 v σ) := by
  unfold g_Mo_fault_1_1
  rw [tw_m_trap_1_13]
  rfl
theorem tw_m_outside_1_1 (v : Int32) (σ : tw_S) : g_Mo_outside_1_1 v σ = some (some (.inl (-1)), tw_flt true 5 v σ) := by
  unfold g_Mo_outside_1_1
  rw [tw_m_trap_1_5]
  rfl
theorem tw_m_reach_1_1 {n a pg f : Nat} (hn : n < 256) (ha : a < 128) (hpg : pg < 32) {μ : tw_S} (h17 : μ false 22 17 = nI a) (h18 : μ false 22 18 = nI f) : g_Mo_reach_1_1 (nI n) (nI pg) μ = if tw_alw 2 1 (μ false 23 (128 + a)) (μ false 27 1) (μ false 25 12 &&& 8) = 0 then some (some (.inl (-1)), tw_flt true 13 (nI n) μ) else if 8 ≤ pg then some (some (.inl (-1)), tw_flt true 5 (nI n) μ) else if μ false 22 19 = 0 then some (some (.inl (nI (16 * pg + n % 16))), tw_flm true (n / 16) a pg f (if nI a = nI f then -1 else nI a) (μ false 23 (128 + a) ||| 32) μ) else some (some (.inl (nI (16 * pg + n % 16))), tw_pt μ false 23 (128 + a) (μ false 23 (128 + a) ||| 32)) := by
  have hb0 : ∀ i : Nat, (128 : Int32) * 1 + nI i = nI (128 + i) := fun i => by
    rw [show (128 : Int32) * 1 = nI 128 from by decide, nI_add]
  have hat : (16 : Int32) * nI pg + (nI n &&& 15) = nI (16 * pg + n % 16) := by
    rw [tw_an15 hn, show (16 : Int32) = nI 16 from rfl, pk_mul, nI_add]
  have hvp : (16 : Int32) * 1 + nI n >>> ((4 : Int32) &&& 31) = nI (16 + n / 16) := by
    rw [tw_sh4 hn, show (16 : Int32) * 1 = nI 16 from by decide, nI_add]
  unfold g_Mo_reach_1_1
  rw [h17, hb0, if_neg (nI_in (by omega) (by decide)), nI_clamp (by omega), tw_m_alw_1_1]
  show (if tw_alw 2 1 (μ false 23 (128 + a)) (μ false 27 1) (μ false 25 12 &&& 8) = 0 then _ else _) = _
  by_cases ha0 : tw_alw 2 1 (μ false 23 (128 + a)) (μ false 27 1) (μ false 25 12 &&& 8) = 0
  · rw [if_pos ha0, if_pos ha0, tw_m_fault_1_1]
    rfl
  · rw [if_neg ha0, if_neg ha0]
    by_cases hp : 8 ≤ pg
    · rw [if_neg (fun z => absurd ((tw_lt8b hpg).mp z) (by omega)), if_pos hp, tw_m_outside_1_1]
      rfl
    · rw [if_pos ((tw_lt8b hpg).mpr (by omega)), if_neg hp, h17, hb0, if_neg (nI_in (by omega) (by decide)), nI_clamp (by omega), hat, hvp]
      by_cases h19 : μ false 22 19 = 0
      · rw [if_pos h19, if_pos h19]
        unfold g_Mo_fill_1
        have e17 : tw_pt μ false 23 (128 + a) (μ false 23 (128 + a) ||| 32) false 22 17 = nI a := h17
        have e18 : tw_pt μ false 23 (128 + a) (μ false 23 (128 + a) ||| 32) false 22 18 = nI f := h18
        rw [if_neg (nI_in (by omega) (by decide)), nI_clamp (by omega), e17, e18]
        unfold tw_flm
        by_cases h64 : (μ false 23 (128 + a) ||| 32) &&& 64 = 0
        · rw [if_pos h64]
          by_cases haf : nI a = nI f
          · rw [if_pos haf, if_pos haf, if_pos h64]; rfl
          · rw [if_neg haf, if_neg haf, if_pos h64]; rfl
        · rw [if_neg h64]
          by_cases haf : nI a = nI f
          · rw [if_pos haf, if_pos haf, if_neg h64]; rfl
          · rw [if_neg haf, if_neg haf, if_neg h64]; rfl
      · rw [if_neg h19, if_neg h19]
theorem tw_m_fault_1_2 (v : Int32) (σ : tw_S) : g_Mo_fault_1_2 v σ = some (some (.inl (-1)), tw_flt true 15 v σ) := by
  unfold g_Mo_fault_1_2
  rw [tw_m_trap_1_15]
  rfl
theorem tw_m_outside_1_2 (v : Int32) (σ : tw_S) : g_Mo_outside_1_2 v σ = some (some (.inl (-1)), tw_flt true 7 v σ) := by
  unfold g_Mo_outside_1_2
  rw [tw_m_trap_1_7]
  rfl
theorem tw_m_reach_1_2 {n a pg f : Nat} (hn : n < 256) (ha : a < 128) (hpg : pg < 32) {μ : tw_S} (h17 : μ false 22 17 = nI a) (h18 : μ false 22 18 = nI f) : g_Mo_reach_1_2 (nI n) (nI pg) μ = if tw_alw 4 2 (μ false 23 (128 + a)) (μ false 27 1) (μ false 25 12 &&& 8) = 0 then some (some (.inl (-1)), tw_flt true 15 (nI n) μ) else if 8 ≤ pg then some (some (.inl (-1)), tw_flt true 7 (nI n) μ) else if μ false 22 19 = 0 then some (some (.inl (nI (16 * pg + n % 16))), tw_flm true (n / 16) a pg f (if nI a = nI f then -1 else nI a) (μ false 23 (128 + a) ||| 96) μ) else some (some (.inl (nI (16 * pg + n % 16))), tw_pt μ false 23 (128 + a) (μ false 23 (128 + a) ||| 96)) := by
  have hb0 : ∀ i : Nat, (128 : Int32) * 1 + nI i = nI (128 + i) := fun i => by
    rw [show (128 : Int32) * 1 = nI 128 from by decide, nI_add]
  have hat : (16 : Int32) * nI pg + (nI n &&& 15) = nI (16 * pg + n % 16) := by
    rw [tw_an15 hn, show (16 : Int32) = nI 16 from rfl, pk_mul, nI_add]
  have hvp : (16 : Int32) * 1 + nI n >>> ((4 : Int32) &&& 31) = nI (16 + n / 16) := by
    rw [tw_sh4 hn, show (16 : Int32) * 1 = nI 16 from by decide, nI_add]
  unfold g_Mo_reach_1_2
  rw [h17, hb0, if_neg (nI_in (by omega) (by decide)), nI_clamp (by omega), tw_m_alw_1_2]
  show (if tw_alw 4 2 (μ false 23 (128 + a)) (μ false 27 1) (μ false 25 12 &&& 8) = 0 then _ else _) = _
  by_cases ha0 : tw_alw 4 2 (μ false 23 (128 + a)) (μ false 27 1) (μ false 25 12 &&& 8) = 0
  · rw [if_pos ha0, if_pos ha0, tw_m_fault_1_2]
    rfl
  · rw [if_neg ha0, if_neg ha0]
    by_cases hp : 8 ≤ pg
    · rw [if_neg (fun z => absurd ((tw_lt8b hpg).mp z) (by omega)), if_pos hp, tw_m_outside_1_2]
      rfl
    · rw [if_pos ((tw_lt8b hpg).mpr (by omega)), if_neg hp, h17, hb0, if_neg (nI_in (by omega) (by decide)), nI_clamp (by omega), hat, hvp]
      by_cases h19 : μ false 22 19 = 0
      · rw [if_pos h19, if_pos h19]
        unfold g_Mo_fill_1
        have e17 : tw_pt μ false 23 (128 + a) (μ false 23 (128 + a) ||| 96) false 22 17 = nI a := h17
        have e18 : tw_pt μ false 23 (128 + a) (μ false 23 (128 + a) ||| 96) false 22 18 = nI f := h18
        rw [if_neg (nI_in (by omega) (by decide)), nI_clamp (by omega), e17, e18]
        unfold tw_flm
        by_cases h64 : (μ false 23 (128 + a) ||| 96) &&& 64 = 0
        · rw [if_pos h64]
          by_cases haf : nI a = nI f
          · rw [if_pos haf, if_pos haf, if_pos h64]; rfl
          · rw [if_neg haf, if_neg haf, if_pos h64]; rfl
        · rw [if_neg h64]
          by_cases haf : nI a = nI f
          · rw [if_pos haf, if_pos haf, if_neg h64]; rfl
          · rw [if_neg haf, if_neg haf, if_neg h64]; rfl
      · rw [if_neg h19, if_neg h19]
