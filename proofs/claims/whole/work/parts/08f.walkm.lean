/-! The reference's walk. -/
theorem tw_F_on {t v : Nat} {M M' : Nat → Int32} (hv : v < 16) (h : ∀ i, i < 128 → M' i = M i) : tw_F t M' v = tw_F t M v := by
  unfold tw_F
  by_cases h8 : 8 ≤ t
  · rw [if_pos h8, if_pos h8]
  · rw [if_neg h8, if_neg h8, h _ (by omega)]
    by_cases hb : ¬ tw_brk (M (16 * t + v / 4)) = 0
    · rw [if_pos hb, if_pos hb]
    · rw [if_neg hb, if_neg hb]
      by_cases hl : M (16 * t + v / 4) &&& 10 = 0
      · rw [if_pos hl, if_pos hl]
        by_cases hk : 8 ≤ (tw_num (M (16 * t + v / 4))).toNatClampNeg
        · rw [if_pos hk, if_pos hk]
        · rw [if_neg hk, if_neg hk, h _ (by omega)]
      · rw [if_neg hl, if_neg hl]
/-- an answer handed on -/
def tw_hand (X : Option tw_R) : Option tw_R := tw_bi X (fun x σ => some (some (.inl x), σ))
theorem tw_m_walk_0_0 {t n : Nat} (ht : t < 16) (hn : n < 256) (σ : tw_S) {M : Nat → Int32} (hT : σ false 25 6 &&& 15 = nI t) (hM : ∀ i, i < 128 → σ false 23 (0 + i) = M i) : ∃ τ, (∀ g' c j, ¬ (c = 22 ∧ (j = 17 ∨ j = 18)) → τ g' c j = σ g' c j) ∧ g_Mo_walk_0_0 (nI n) σ = (match tw_F t M (n / 16) with | .inl 0 => tw_hand (g_Mo_fault_0_0 (nI n) τ) | .inl _ => tw_hand (g_Mo_outside_0_0 (nI n) τ) | .inr q => tw_hand (g_Mo_reach_0_0 (nI n) (nI q.2.1) τ)) ∧ (∀ a pg sec, tw_F t M (n / 16) = .inr (a, pg, sec) → τ false 22 17 = nI a ∧ τ false 22 18 = nI (16 * t + n / 16 / 4)) := by
  have pn : ∀ (σ : tw_S) (x : Int32) (j0 : Nat), (j0 = 17 ∨ j0 = 18) → ∀ g' c j, ¬ (c = 22 ∧ (j = 17 ∨ j = 18)) → tw_pt σ false 22 j0 x g' c j = σ g' c j := fun σ x j0 h0 g' c j hc => tw_pt_n _ _ (fun z => hc ⟨z.2.1, by rw [z.2.2]; exact h0⟩)
  unfold g_Mo_walk_0_0 tw_F
  rw [hT]
  by_cases h8 : 8 ≤ t
  · rw [if_neg (fun z => absurd ((tw_lt8 ht).mp z) (by omega)), if_pos h8]
    exact ⟨σ, fun _ _ _ _ => rfl, rfl, fun a pg sec e => by cases e⟩
  · have hf : (16 : Int32) * nI t + nI n >>> ((6 : Int32) &&& 31) = nI (16 * t + n / 16 / 4) := by
      rw [tw_sh6 hn, show (16 : Int32) = nI 16 from rfl, pk_mul, nI_add]
      congr 1
      omega
    have hfl : 16 * t + n / 16 / 4 < 128 := by omega
    have hb0 : ∀ i : Nat, (128 : Int32) * 0 + nI i = nI (0 + i) := fun i => by
      rw [show (128 : Int32) * 0 = nI 0 from by decide, nI_add]
    rw [if_pos ((tw_lt8 ht).mpr (by omega)), if_neg h8, hf, hb0, if_neg (nI_in (by omega) (by decide)), nI_clamp (by omega), hM _ hfl, tw_o_brk]
    generalize hw : M (16 * t + n / 16 / 4) = w1
    obtain ⟨k, hk, ek, ekc⟩ := tw_num_nI w1
    have ek' : (w1 >>> ((8 : Int32) &&& 31)) &&& 15 = nI k := ek
    have wi : (nI n >>> ((4 : Int32) &&& 31)) &&& 3 = nI (n / 16 % 4) := by rw [tw_sh4 hn, tw_an3 (by omega)]
    show ∃ τ, _ ∧ (if tw_brk w1 = 0 then _ else _) = _ ∧ _
    rw [ekc]
    by_cases hb : tw_brk w1 = 0
    · rw [if_pos hb, if_neg (show ¬ ¬ tw_brk w1 = 0 from fun z => z hb)]
      by_cases hl : w1 &&& 10 = 0
      · rw [if_pos hl, if_pos hl, ek']
        by_cases hk8 : 8 ≤ k
        · rw [if_neg (fun z => absurd ((tw_lt8 hk).mp z) (by omega)), if_pos hk8]
          exact ⟨_, fun g' c j hc => by rw [pn _ _ 17 (Or.inl rfl) g' c j hc, pn _ _ 18 (Or.inr rfl) g' c j hc], rfl, fun a pg sec e => by cases e⟩
        · have hs : (16 : Int32) * nI k + nI (n / 16 % 4) = nI (16 * k + n / 16 % 4) := by
            rw [show (16 : Int32) = nI 16 from rfl, pk_mul, nI_add]
          have hsl : 16 * k + n / 16 % 4 < 128 := by omega
          have hm : tw_pt (tw_pt σ false 22 18 (nI (16 * t + n / 16 / 4))) false 22 17 (nI (16 * t + n / 16 / 4)) false 23 (0 + (16 * k + n / 16 % 4)) = M (16 * k + n / 16 % 4) := by
            rw [pn _ _ 17 (Or.inl rfl) _ _ _ (fun z => absurd z.1 (by decide)), pn _ _ 18 (Or.inr rfl) _ _ _ (fun z => absurd z.1 (by decide))]
            exact hM _ hsl
          rw [if_pos ((tw_lt8 hk).mpr (by omega)), if_neg hk8, wi, hs, hb0, if_neg (nI_in (by omega) (by decide)), nI_clamp (by omega), hm, tw_o_brk]
          generalize hw2 : M (16 * k + n / 16 % 4) = w2
          obtain ⟨k2, hk2, ek2, ekc2⟩ := tw_num_nI w2
          have ek2' : (w2 >>> ((8 : Int32) &&& 31)) &&& 15 = nI k2 := ek2
          show ∃ τ, _ ∧ (if tw_brk w2 = 0 then _ else _) = _ ∧ _
          rw [ekc2, ek2']
          by_cases hb2 : tw_brk w2 = 0
          · rw [if_pos hb2, if_neg (show ¬ ¬ tw_brk w2 = 0 from fun z => z hb2)]
            by_cases hl2 : w2 &&& 10 = 0
            · rw [if_pos hl2, if_pos hl2]
              exact ⟨_, fun g' c j hc => by rw [pn _ _ 17 (Or.inl rfl) g' c j hc, pn _ _ 17 (Or.inl rfl) g' c j hc, pn _ _ 18 (Or.inr rfl) g' c j hc], rfl, fun a pg sec e => by cases e⟩
            · rw [if_neg hl2, if_neg hl2]
              refine ⟨_, fun g' c j hc => by rw [pn _ _ 17 (Or.inl rfl) g' c j hc, pn _ _ 17 (Or.inl rfl) g' c j hc, pn _ _ 18 (Or.inr rfl) g' c j hc], rfl, fun a pg sec e => ?_⟩
              cases e
              simp [tw_pt_eq]
          · rw [if_neg hb2, if_pos hb2]
            exact ⟨_, fun g' c j hc => by rw [pn _ _ 17 (Or.inl rfl) g' c j hc, pn _ _ 17 (Or.inl rfl) g' c j hc, pn _ _ 18 (Or.inr rfl) g' c j hc], rfl, fun a pg sec e => by cases e⟩
      · rw [if_neg hl, if_neg hl, ek', wi, nI_add]
        by_cases h4 : k % 4 = 0
        · rw [if_pos ((tw_and3 hk).mpr h4), if_pos h4]
          refine ⟨_, fun g' c j hc => by rw [pn _ _ 17 (Or.inl rfl) g' c j hc, pn _ _ 18 (Or.inr rfl) g' c j hc], rfl, fun a pg sec e => ?_⟩
          cases e
          simp [tw_pt_eq]
        · rw [if_neg (fun z => h4 ((tw_and3 hk).mp z)), if_neg h4]
          exact ⟨_, fun g' c j hc => by rw [pn _ _ 17 (Or.inl rfl) g' c j hc, pn _ _ 18 (Or.inr rfl) g' c j hc], rfl, fun a pg sec e => by cases e⟩
    · rw [if_neg hb, if_pos hb]
      exact ⟨_, fun g' c j hc => by rw [pn _ _ 17 (Or.inl rfl) g' c j hc, pn _ _ 18 (Or.inr rfl) g' c j hc], rfl, fun a pg sec e => by cases e⟩
theorem tw_m_walk_0_1 {t n : Nat} (ht : t < 16) (hn : n < 256) (σ : tw_S) {M : Nat → Int32} (hT : σ false 25 6 &&& 15 = nI t) (hM : ∀ i, i < 128 → σ false 23 (0 + i) = M i) : ∃ τ, (∀ g' c j, ¬ (c = 22 ∧ (j = 17 ∨ j = 18)) → τ g' c j = σ g' c j) ∧ g_Mo_walk_0_1 (nI n) σ = (match tw_F t M (n / 16) with | .inl 0 => tw_hand (g_Mo_fault_0_1 (nI n) τ) | .inl _ => tw_hand (g_Mo_outside_0_1 (nI n) τ) | .inr q => tw_hand (g_Mo_reach_0_1 (nI n) (nI q.2.1) τ)) ∧ (∀ a pg sec, tw_F t M (n / 16) = .inr (a, pg, sec) → τ false 22 17 = nI a ∧ τ false 22 18 = nI (16 * t + n / 16 / 4)) := by
  have pn : ∀ (σ : tw_S) (x : Int32) (j0 : Nat), (j0 = 17 ∨ j0 = 18) → ∀ g' c j, ¬ (c = 22 ∧ (j = 17 ∨ j = 18)) → tw_pt σ false 22 j0 x g' c j = σ g' c j := fun σ x j0 h0 g' c j hc => tw_pt_n _ _ (fun z => hc ⟨z.2.1, by rw [z.2.2]; exact h0⟩)
  unfold g_Mo_walk_0_1 tw_F
  rw [hT]
  by_cases h8 : 8 ≤ t
  · rw [if_neg (fun z => absurd ((tw_lt8 ht).mp z) (by omega)), if_pos h8]
    exact ⟨σ, fun _ _ _ _ => rfl, rfl, fun a pg sec e => by cases e⟩
  · have hf : (16 : Int32) * nI t + nI n >>> ((6 : Int32) &&& 31) = nI (16 * t + n / 16 / 4) := by
      rw [tw_sh6 hn, show (16 : Int32) = nI 16 from rfl, pk_mul, nI_add]
      congr 1
      omega
    have hfl : 16 * t + n / 16 / 4 < 128 := by omega
    have hb0 : ∀ i : Nat, (128 : Int32) * 0 + nI i = nI (0 + i) := fun i => by
      rw [show (128 : Int32) * 0 = nI 0 from by decide, nI_add]
    rw [if_pos ((tw_lt8 ht).mpr (by omega)), if_neg h8, hf, hb0, if_neg (nI_in (by omega) (by decide)), nI_clamp (by omega), hM _ hfl, tw_o_brk]
    generalize hw : M (16 * t + n / 16 / 4) = w1
    obtain ⟨k, hk, ek, ekc⟩ := tw_num_nI w1
    have ek' : (w1 >>> ((8 : Int32) &&& 31)) &&& 15 = nI k := ek
    have wi : (nI n >>> ((4 : Int32) &&& 31)) &&& 3 = nI (n / 16 % 4) := by rw [tw_sh4 hn, tw_an3 (by omega)]
    show ∃ τ, _ ∧ (if tw_brk w1 = 0 then _ else _) = _ ∧ _
    rw [ekc]
    by_cases hb : tw_brk w1 = 0
    · rw [if_pos hb, if_neg (show ¬ ¬ tw_brk w1 = 0 from fun z => z hb)]
      by_cases hl : w1 &&& 10 = 0
      · rw [if_pos hl, if_pos hl, ek']
        by_cases hk8 : 8 ≤ k
        · rw [if_neg (fun z => absurd ((tw_lt8 hk).mp z) (by omega)), if_pos hk8]
          exact ⟨_, fun g' c j hc => by rw [pn _ _ 17 (Or.inl rfl) g' c j hc, pn _ _ 18 (Or.inr rfl) g' c j hc], rfl, fun a pg sec e => by cases e⟩
        · have hs : (16 : Int32) * nI k + nI (n / 16 % 4) = nI (16 * k + n / 16 % 4) := by
            rw [show (16 : Int32) = nI 16 from rfl, pk_mul, nI_add]
          have hsl : 16 * k + n / 16 % 4 < 128 := by omega
          have hm : tw_pt (tw_pt σ false 22 18 (nI (16 * t + n / 16 / 4))) false 22 17 (nI (16 * t + n / 16 / 4)) false 23 (0 + (16 * k + n / 16 % 4)) = M (16 * k + n / 16 % 4) := by
            rw [pn _ _ 17 (Or.inl rfl) _ _ _ (fun z => absurd z.1 (by decide)), pn _ _ 18 (Or.inr rfl) _ _ _ (fun z => absurd z.1 (by decide))]
            exact hM _ hsl
          rw [if_pos ((tw_lt8 hk).mpr (by omega)), if_neg hk8, wi, hs, hb0, if_neg (nI_in (by omega) (by decide)), nI_clamp (by omega), hm, tw_o_brk]
          generalize hw2 : M (16 * k + n / 16 % 4) = w2
          obtain ⟨k2, hk2, ek2, ekc2⟩ := tw_num_nI w2
          have ek2' : (w2 >>> ((8 : Int32) &&& 31)) &&& 15 = nI k2 := ek2
          show ∃ τ, _ ∧ (if tw_brk w2 = 0 then _ else _) = _ ∧ _
          rw [ekc2, ek2']
          by_cases hb2 : tw_brk w2 = 0
          · rw [if_pos hb2, if_neg (show ¬ ¬ tw_brk w2 = 0 from fun z => z hb2)]
            by_cases hl2 : w2 &&& 10 = 0
            · rw [if_pos hl2, if_pos hl2]
              exact ⟨_, fun g' c j hc => by rw [pn _ _ 17 (Or.inl rfl) g' c j hc, pn _ _ 17 (Or.inl rfl) g' c j hc, pn _ _ 18 (Or.inr rfl) g' c j hc], rfl, fun a pg sec e => by cases e⟩
            · rw [if_neg hl2, if_neg hl2]
              refine ⟨_, fun g' c j hc => by rw [pn _ _ 17 (Or.inl rfl) g' c j hc, pn _ _ 17 (Or.inl rfl) g' c j hc, pn _ _ 18 (Or.inr rfl) g' c j hc], rfl, fun a pg sec e => ?_⟩
              cases e
              simp [tw_pt_eq]
          · rw [if_neg hb2, if_pos hb2]
            exact ⟨_, fun g' c j hc => by rw [pn _ _ 17 (Or.inl rfl) g' c j hc, pn _ _ 17 (Or.inl rfl) g' c j hc, pn _ _ 18 (Or.inr rfl) g' c j hc], rfl, fun a pg sec e => by cases e⟩
      · rw [if_neg hl, if_neg hl, ek', wi, nI_add]
        by_cases h4 : k % 4 = 0
        · rw [if_pos ((tw_and3 hk).mpr h4), if_pos h4]
          refine ⟨_, fun g' c j hc => by rw [pn _ _ 17 (Or.inl rfl) g' c j hc, pn _ _ 18 (Or.inr rfl) g' c j hc], rfl, fun a pg sec e => ?_⟩
          cases e
          simp [tw_pt_eq]
        · rw [if_neg (fun z => h4 ((tw_and3 hk).mp z)), if_neg h4]
          exact ⟨_, fun g' c j hc => by rw [pn _ _ 17 (Or.inl rfl) g' c j hc, pn _ _ 18 (Or.inr rfl) g' c j hc], rfl, fun a pg sec e => by cases e⟩
    · rw [if_neg hb, if_pos hb]
      exact ⟨_, fun g' c j hc => by rw [pn _ _ 17 (Or.inl rfl) g' c j hc, pn _ _ 18 (Or.inr rfl) g' c j hc], rfl, fun a pg sec e => by cases e⟩
theorem tw_m_walk_0_2 {t n : Nat} (ht : t < 16) (hn : n < 256) (σ : tw_S) {M : Nat → Int32} (hT : σ false 25 6 &&& 15 = nI t) (hM : ∀ i, i < 128 → σ false 23 (0 + i) = M i) : ∃ τ, (∀ g' c j, ¬ (c = 22 ∧ (j = 17 ∨ j = 18)) → τ g' c j = σ g' c j) ∧ g_Mo_walk_0_2 (nI n) σ = (match tw_F t M (n / 16) with | .inl 0 => tw_hand (g_Mo_fault_0_2 (nI n) τ) | .inl _ => tw_hand (g_Mo_outside_0_2 (nI n) τ) | .inr q => tw_hand (g_Mo_reach_0_2 (nI n) (nI q.2.1) τ)) ∧ (∀ a pg sec, tw_F t M (n / 16) = .inr (a, pg, sec) → τ false 22 17 = nI a ∧ τ false 22 18 = nI (16 * t + n / 16 / 4)) := by
  have pn : ∀ (σ : tw_S) (x : Int32) (j0 : Nat), (j0 = 17 ∨ j0 = 18) → ∀ g' c j, ¬ (c = 22 ∧ (j = 17 ∨ j = 18)) → tw_pt σ false 22 j0 x g' c j = σ g' c j := fun σ x j0 h0 g' c j hc => tw_pt_n _ _ (fun z => hc ⟨z.2.1, by rw [z.2.2]; exact h0⟩)
  unfold g_Mo_walk_0_2 tw_F
  rw [hT]
  by_cases h8 : 8 ≤ t
  · rw [if_neg (fun z => absurd ((tw_lt8 ht).mp z) (by omega)), if_pos h8]
    exact ⟨σ, fun _ _ _ _ => rfl, rfl, fun a pg sec e => by cases e⟩
  · have hf : (16 : Int32) * nI t + nI n >>> ((6 : Int32) &&& 31) = nI (16 * t + n / 16 / 4) := by
      rw [tw_sh6 hn, show (16 : Int32) = nI 16 from rfl, pk_mul, nI_add]
      congr 1
      omega
    have hfl : 16 * t + n / 16 / 4 < 128 := by omega
    have hb0 : ∀ i : Nat, (128 : Int32) * 0 + nI i = nI (0 + i) := fun i => by
      rw [show (128 : Int32) * 0 = nI 0 from by decide, nI_add]
    rw [if_pos ((tw_lt8 ht).mpr (by omega)), if_neg h8, hf, hb0, if_neg (nI_in (by omega) (by decide)), nI_clamp (by omega), hM _ hfl, tw_o_brk]
    generalize hw : M (16 * t + n / 16 / 4) = w1
    obtain ⟨k, hk, ek, ekc⟩ := tw_num_nI w1
    have ek' : (w1 >>> ((8 : Int32) &&& 31)) &&& 15 = nI k := ek
    have wi : (nI n >>> ((4 : Int32) &&& 31)) &&& 3 = nI (n / 16 % 4) := by rw [tw_sh4 hn, tw_an3 (by omega)]
    show ∃ τ, _ ∧ (if tw_brk w1 = 0 then _ else _) = _ ∧ _
    rw [ekc]
    by_cases hb : tw_brk w1 = 0
    · rw [if_pos hb, if_neg (show ¬ ¬ tw_brk w1 = 0 from fun z => z hb)]
      by_cases hl : w1 &&& 10 = 0
      · rw [if_pos hl, if_pos hl, ek']
        by_cases hk8 : 8 ≤ k
        · rw [if_neg (fun z => absurd ((tw_lt8 hk).mp z) (by omega)), if_pos hk8]
          exact ⟨_, fun g' c j hc => by rw [pn _ _ 17 (Or.inl rfl) g' c j hc, pn _ _ 18 (Or.inr rfl) g' c j hc], rfl, fun a pg sec e => by cases e⟩
        · have hs : (16 : Int32) * nI k + nI (n / 16 % 4) = nI (16 * k + n / 16 % 4) := by
            rw [show (16 : Int32) = nI 16 from rfl, pk_mul, nI_add]
          have hsl : 16 * k + n / 16 % 4 < 128 := by omega
          have hm : tw_pt (tw_pt σ false 22 18 (nI (16 * t + n / 16 / 4))) false 22 17 (nI (16 * t + n / 16 / 4)) false 23 (0 + (16 * k + n / 16 % 4)) = M (16 * k + n / 16 % 4) := by
            rw [pn _ _ 17 (Or.inl rfl) _ _ _ (fun z => absurd z.1 (by decide)), pn _ _ 18 (Or.inr rfl) _ _ _ (fun z => absurd z.1 (by decide))]
            exact hM _ hsl
          rw [if_pos ((tw_lt8 hk).mpr (by omega)), if_neg hk8, wi, hs, hb0, if_neg (nI_in (by omega) (by decide)), nI_clamp (by omega), hm, tw_o_brk]
          generalize hw2 : M (16 * k + n / 16 % 4) = w2
          obtain ⟨k2, hk2, ek2, ekc2⟩ := tw_num_nI w2
          have ek2' : (w2 >>> ((8 : Int32) &&& 31)) &&& 15 = nI k2 := ek2
          show ∃ τ, _ ∧ (if tw_brk w2 = 0 then _ else _) = _ ∧ _
          rw [ekc2, ek2']
          by_cases hb2 : tw_brk w2 = 0
          · rw [if_pos hb2, if_neg (show ¬ ¬ tw_brk w2 = 0 from fun z => z hb2)]
            by_cases hl2 : w2 &&& 10 = 0
            · rw [if_pos hl2, if_pos hl2]
              exact ⟨_, fun g' c j hc => by rw [pn _ _ 17 (Or.inl rfl) g' c j hc, pn _ _ 17 (Or.inl rfl) g' c j hc, pn _ _ 18 (Or.inr rfl) g' c j hc], rfl, fun a pg sec e => by cases e⟩
            · rw [if_neg hl2, if_neg hl2]
              refine ⟨_, fun g' c j hc => by rw [pn _ _ 17 (Or.inl rfl) g' c j hc, pn _ _ 17 (Or.inl rfl) g' c j hc, pn _ _ 18 (Or.inr rfl) g' c j hc], rfl, fun a pg sec e => ?_⟩
              cases e
              simp [tw_pt_eq]
          · rw [if_neg hb2, if_pos hb2]
            exact ⟨_, fun g' c j hc => by rw [pn _ _ 17 (Or.inl rfl) g' c j hc, pn _ _ 17 (Or.inl rfl) g' c j hc, pn _ _ 18 (Or.inr rfl) g' c j hc], rfl, fun a pg sec e => by cases e⟩
      · rw [if_neg hl, if_neg hl, ek', wi, nI_add]
        by_cases h4 : k % 4 = 0
        · rw [if_pos ((tw_and3 hk).mpr h4), if_pos h4]
          refine ⟨_, fun g' c j hc => by rw [pn _ _ 17 (Or.inl rfl) g' c j hc, pn _ _ 18 (Or.inr rfl) g' c j hc], rfl, fun a pg sec e => ?_⟩
          cases e
          simp [tw_pt_eq]
        · rw [if_neg (fun z => h4 ((tw_and3 hk).mp z)), if_neg h4]
          exact ⟨_, fun g' c j hc => by rw [pn _ _ 17 (Or.inl rfl) g' c j hc, pn _ _ 18 (Or.inr rfl) g' c j hc], rfl, fun a pg sec e => by cases e⟩
    · rw [if_neg hb, if_pos hb]
      exact ⟨_, fun g' c j hc => by rw [pn _ _ 17 (Or.inl rfl) g' c j hc, pn _ _ 18 (Or.inr rfl) g' c j hc], rfl, fun a pg sec e => by cases e⟩
theorem tw_m_walk_1_0 {t n : Nat} (ht : t < 16) (hn : n < 256) (σ : tw_S) {M : Nat → Int32} (hT : σ false 25 18 &&& 15 = nI t) (hM : ∀ i, i < 128 → σ false 23 (128 + i) = M i) : ∃ τ, (∀ g' c j, ¬ (c = 22 ∧ (j = 17 ∨ j = 18)) → τ g' c j = σ g' c j) ∧ g_Mo_walk_1_0 (nI n) σ = (match tw_F t M (n / 16) with | .inl 0 => tw_hand (g_Mo_fault_1_0 (nI n) τ) | .inl _ => tw_hand (g_Mo_outside_1_0 (nI n) τ) | .inr q => tw_hand (g_Mo_reach_1_0 (nI n) (nI q.2.1) τ)) ∧ (∀ a pg sec, tw_F t M (n / 16) = .inr (a, pg, sec) → τ false 22 17 = nI a ∧ τ false 22 18 = nI (16 * t + n / 16 / 4)) := by
  have pn : ∀ (σ : tw_S) (x : Int32) (j0 : Nat), (j0 = 17 ∨ j0 = 18) → ∀ g' c j, ¬ (c = 22 ∧ (j = 17 ∨ j = 18)) → tw_pt σ false 22 j0 x g' c j = σ g' c j := fun σ x j0 h0 g' c j hc => tw_pt_n _ _ (fun z => hc ⟨z.2.1, by rw [z.2.2]; exact h0⟩)
  unfold g_Mo_walk_1_0 tw_F
  rw [hT]
  by_cases h8 : 8 ≤ t
  · rw [if_neg (fun z => absurd ((tw_lt8 ht).mp z) (by omega)), if_pos h8]
    exact ⟨σ, fun _ _ _ _ => rfl, rfl, fun a pg sec e => by cases e⟩
  · have hf : (16 : Int32) * nI t + nI n >>> ((6 : Int32) &&& 31) = nI (16 * t + n / 16 / 4) := by
      rw [tw_sh6 hn, show (16 : Int32) = nI 16 from rfl, pk_mul, nI_add]
      congr 1
      omega
    have hfl : 16 * t + n / 16 / 4 < 128 := by omega
    have hb0 : ∀ i : Nat, (128 : Int32) * 1 + nI i = nI (128 + i) := fun i => by
      rw [show (128 : Int32) * 1 = nI 128 from by decide, nI_add]
    rw [if_pos ((tw_lt8 ht).mpr (by omega)), if_neg h8, hf, hb0, if_neg (nI_in (by omega) (by decide)), nI_clamp (by omega), hM _ hfl, tw_o_brk]
    generalize hw : M (16 * t + n / 16 / 4) = w1
    obtain ⟨k, hk, ek, ekc⟩ := tw_num_nI w1
    have ek' : (w1 >>> ((8 : Int32) &&& 31)) &&& 15 = nI k := ek
    have wi : (nI n >>> ((4 : Int32) &&& 31)) &&& 3 = nI (n / 16 % 4) := by rw [tw_sh4 hn, tw_an3 (by omega)]
    show ∃ τ, _ ∧ (if tw_brk w1 = 0 then _ else _) = _ ∧ _
    rw [ekc]
    by_cases hb : tw_brk w1 = 0
    · rw [if_pos hb, if_neg (show ¬ ¬ tw_brk w1 = 0 from fun z => z hb)]
      by_cases hl : w1 &&& 10 = 0
      · rw [if_pos hl, if_pos hl, ek']
        by_cases hk8 : 8 ≤ k
        · rw [if_neg (fun z => absurd ((tw_lt8 hk).mp z) (by omega)), if_pos hk8]
          exact ⟨_, fun g' c j hc => by rw [pn _ _ 17 (Or.inl rfl) g' c j hc, pn _ _ 18 (Or.inr rfl) g' c j hc], rfl, fun a pg sec e => by cases e⟩
        · have hs : (16 : Int32) * nI k + nI (n / 16 % 4) = nI (16 * k + n / 16 % 4) := by
            rw [show (16 : Int32) = nI 16 from rfl, pk_mul, nI_add]
          have hsl : 16 * k + n / 16 % 4 < 128 := by omega
          have hm : tw_pt (tw_pt σ false 22 18 (nI (16 * t + n / 16 / 4))) false 22 17 (nI (16 * t + n / 16 / 4)) false 23 (128 + (16 * k + n / 16 % 4)) = M (16 * k + n / 16 % 4) := by
            rw [pn _ _ 17 (Or.inl rfl) _ _ _ (fun z => absurd z.1 (by decide)), pn _ _ 18 (Or.inr rfl) _ _ _ (fun z => absurd z.1 (by decide))]
            exact hM _ hsl
          rw [if_pos ((tw_lt8 hk).mpr (by omega)), if_neg hk8, wi, hs, hb0, if_neg (nI_in (by omega) (by decide)), nI_clamp (by omega), hm, tw_o_brk]
          generalize hw2 : M (16 * k + n / 16 % 4) = w2
          obtain ⟨k2, hk2, ek2, ekc2⟩ := tw_num_nI w2
          have ek2' : (w2 >>> ((8 : Int32) &&& 31)) &&& 15 = nI k2 := ek2
          show ∃ τ, _ ∧ (if tw_brk w2 = 0 then _ else _) = _ ∧ _
          rw [ekc2, ek2']
          by_cases hb2 : tw_brk w2 = 0
          · rw [if_pos hb2, if_neg (show ¬ ¬ tw_brk w2 = 0 from fun z => z hb2)]
            by_cases hl2 : w2 &&& 10 = 0
            · rw [if_pos hl2, if_pos hl2]
              exact ⟨_, fun g' c j hc => by rw [pn _ _ 17 (Or.inl rfl) g' c j hc, pn _ _ 17 (Or.inl rfl) g' c j hc, pn _ _ 18 (Or.inr rfl) g' c j hc], rfl, fun a pg sec e => by cases e⟩
            · rw [if_neg hl2, if_neg hl2]
              refine ⟨_, fun g' c j hc => by rw [pn _ _ 17 (Or.inl rfl) g' c j hc, pn _ _ 17 (Or.inl rfl) g' c j hc, pn _ _ 18 (Or.inr rfl) g' c j hc], rfl, fun a pg sec e => ?_⟩
              cases e
              simp [tw_pt_eq]
          · rw [if_neg hb2, if_pos hb2]
            exact ⟨_, fun g' c j hc => by rw [pn _ _ 17 (Or.inl rfl) g' c j hc, pn _ _ 17 (Or.inl rfl) g' c j hc, pn _ _ 18 (Or.inr rfl) g' c j hc], rfl, fun a pg sec e => by cases e⟩
      · rw [if_neg hl, if_neg hl, ek', wi, nI_add]
        by_cases h4 : k % 4 = 0
        · rw [if_pos ((tw_and3 hk).mpr h4), if_pos h4]
          refine ⟨_, fun g' c j hc => by rw [pn _ _ 17 (Or.inl rfl) g' c j hc, pn _ _ 18 (Or.inr rfl) g' c j hc], rfl, fun a pg sec e => ?_⟩
          cases e
          simp [tw_pt_eq]
        · rw [if_neg (fun z => h4 ((tw_and3 hk).mp z)), if_neg h4]
          exact ⟨_, fun g' c j hc => by rw [pn _ _ 17 (Or.inl rfl) g' c j hc, pn _ _ 18 (Or.inr rfl) g' c j hc], rfl, fun a pg sec e => by cases e⟩
    · rw [if_neg hb, if_pos hb]
      exact ⟨_, fun g' c j hc => by rw [pn _ _ 17 (Or.inl rfl) g' c j hc, pn _ _ 18 (Or.inr rfl) g' c j hc], rfl, fun a pg sec e => by cases e⟩
theorem tw_m_walk_1_1 {t n : Nat} (ht : t < 16) (hn : n < 256) (σ : tw_S) {M : Nat → Int32} (hT : σ false 25 18 &&& 15 = nI t) (hM : ∀ i, i < 128 → σ false 23 (128 + i) = M i) : ∃ τ, (∀ g' c j, ¬ (c = 22 ∧ (j = 17 ∨ j = 18)) → τ g' c j = σ g' c j) ∧ g_Mo_walk_1_1 (nI n) σ = (match tw_F t M (n / 16) with | .inl 0 => tw_hand (g_Mo_fault_1_1 (nI n) τ) | .inl _ => tw_hand (g_Mo_outside_1_1 (nI n) τ) | .inr q => tw_hand (g_Mo_reach_1_1 (nI n) (nI q.2.1) τ)) ∧ (∀ a pg sec, tw_F t M (n / 16) = .inr (a, pg, sec) → τ false 22 17 = nI a ∧ τ false 22 18 = nI (16 * t + n / 16 / 4)) := by
  have pn : ∀ (σ : tw_S) (x : Int32) (j0 : Nat), (j0 = 17 ∨ j0 = 18) → ∀ g' c j, ¬ (c = 22 ∧ (j = 17 ∨ j = 18)) → tw_pt σ false 22 j0 x g' c j = σ g' c j := fun σ x j0 h0 g' c j hc => tw_pt_n _ _ (fun z => hc ⟨z.2.1, by rw [z.2.2]; exact h0⟩)
  unfold g_Mo_walk_1_1 tw_F
  rw [hT]
  by_cases h8 : 8 ≤ t
  · rw [if_neg (fun z => absurd ((tw_lt8 ht).mp z) (by omega)), if_pos h8]
    exact ⟨σ, fun _ _ _ _ => rfl, rfl, fun a pg sec e => by cases e⟩
  · have hf : (16 : Int32) * nI t + nI n >>> ((6 : Int32) &&& 31) = nI (16 * t + n / 16 / 4) := by
      rw [tw_sh6 hn, show (16 : Int32) = nI 16 from rfl, pk_mul, nI_add]
      congr 1
      omega
    have hfl : 16 * t + n / 16 / 4 < 128 := by omega
    have hb0 : ∀ i : Nat, (128 : Int32) * 1 + nI i = nI (128 + i) := fun i => by
      rw [show (128 : Int32) * 1 = nI 128 from by decide, nI_add]
    rw [if_pos ((tw_lt8 ht).mpr (by omega)), if_neg h8, hf, hb0, if_neg (nI_in (by omega) (by decide)), nI_clamp (by omega), hM _ hfl, tw_o_brk]
    generalize hw : M (16 * t + n / 16 / 4) = w1
    obtain ⟨k, hk, ek, ekc⟩ := tw_num_nI w1
    have ek' : (w1 >>> ((8 : Int32) &&& 31)) &&& 15 = nI k := ek
    have wi : (nI n >>> ((4 : Int32) &&& 31)) &&& 3 = nI (n / 16 % 4) := by rw [tw_sh4 hn, tw_an3 (by omega)]
    show ∃ τ, _ ∧ (if tw_brk w1 = 0 then _ else _) = _ ∧ _
    rw [ekc]
    by_cases hb : tw_brk w1 = 0
    · rw [if_pos hb, if_neg (show ¬ ¬ tw_brk w1 = 0 from fun z => z hb)]
      by_cases hl : w1 &&& 10 = 0
      · rw [if_pos hl, if_pos hl, ek']
        by_cases hk8 : 8 ≤ k
        · rw [if_neg (fun z => absurd ((tw_lt8 hk).mp z) (by omega)), if_pos hk8]
          exact ⟨_, fun g' c j hc => by rw [pn _ _ 17 (Or.inl rfl) g' c j hc, pn _ _ 18 (Or.inr rfl) g' c j hc], rfl, fun a pg sec e => by cases e⟩
        · have hs : (16 : Int32) * nI k + nI (n / 16 % 4) = nI (16 * k + n / 16 % 4) := by
            rw [show (16 : Int32) = nI 16 from rfl, pk_mul, nI_add]
          have hsl : 16 * k + n / 16 % 4 < 128 := by omega
          have hm : tw_pt (tw_pt σ false 22 18 (nI (16 * t + n / 16 / 4))) false 22 17 (nI (16 * t + n / 16 / 4)) false 23 (128 + (16 * k + n / 16 % 4)) = M (16 * k + n / 16 % 4) := by
            rw [pn _ _ 17 (Or.inl rfl) _ _ _ (fun z => absurd z.1 (by decide)), pn _ _ 18 (Or.inr rfl) _ _ _ (fun z => absurd z.1 (by decide))]
            exact hM _ hsl
          rw [if_pos ((tw_lt8 hk).mpr (by omega)), if_neg hk8, wi, hs, hb0, if_neg (nI_in (by omega) (by decide)), nI_clamp (by omega), hm, tw_o_brk]
          generalize hw2 : M (16 * k + n / 16 % 4) = w2
          obtain ⟨k2, hk2, ek2, ekc2⟩ := tw_num_nI w2
          have ek2' : (w2 >>> ((8 : Int32) &&& 31)) &&& 15 = nI k2 := ek2
          show ∃ τ, _ ∧ (if tw_brk w2 = 0 then _ else _) = _ ∧ _
          rw [ekc2, ek2']
          by_cases hb2 : tw_brk w2 = 0
          · rw [if_pos hb2, if_neg (show ¬ ¬ tw_brk w2 = 0 from fun z => z hb2)]
            by_cases hl2 : w2 &&& 10 = 0
            · rw [if_pos hl2, if_pos hl2]
              exact ⟨_, fun g' c j hc => by rw [pn _ _ 17 (Or.inl rfl) g' c j hc, pn _ _ 17 (Or.inl rfl) g' c j hc, pn _ _ 18 (Or.inr rfl) g' c j hc], rfl, fun a pg sec e => by cases e⟩
            · rw [if_neg hl2, if_neg hl2]
              refine ⟨_, fun g' c j hc => by rw [pn _ _ 17 (Or.inl rfl) g' c j hc, pn _ _ 17 (Or.inl rfl) g' c j hc, pn _ _ 18 (Or.inr rfl) g' c j hc], rfl, fun a pg sec e => ?_⟩
              cases e
              simp [tw_pt_eq]
          · rw [if_neg hb2, if_pos hb2]
            exact ⟨_, fun g' c j hc => by rw [pn _ _ 17 (Or.inl rfl) g' c j hc, pn _ _ 17 (Or.inl rfl) g' c j hc, pn _ _ 18 (Or.inr rfl) g' c j hc], rfl, fun a pg sec e => by cases e⟩
      · rw [if_neg hl, if_neg hl, ek', wi, nI_add]
        by_cases h4 : k % 4 = 0
        · rw [if_pos ((tw_and3 hk).mpr h4), if_pos h4]
          refine ⟨_, fun g' c j hc => by rw [pn _ _ 17 (Or.inl rfl) g' c j hc, pn _ _ 18 (Or.inr rfl) g' c j hc], rfl, fun a pg sec e => ?_⟩
          cases e
          simp [tw_pt_eq]
        · rw [if_neg (fun z => h4 ((tw_and3 hk).mp z)), if_neg h4]
          exact ⟨_, fun g' c j hc => by rw [pn _ _ 17 (Or.inl rfl) g' c j hc, pn _ _ 18 (Or.inr rfl) g' c j hc], rfl, fun a pg sec e => by cases e⟩
    · rw [if_neg hb, if_pos hb]
      exact ⟨_, fun g' c j hc => by rw [pn _ _ 17 (Or.inl rfl) g' c j hc, pn _ _ 18 (Or.inr rfl) g' c j hc], rfl, fun a pg sec e => by cases e⟩
theorem tw_m_walk_1_2 {t n : Nat} (ht : t < 16) (hn : n < 256) (σ : tw_S) {M : Nat → Int32} (hT : σ false 25 18 &&& 15 = nI t) (hM : ∀ i, i < 128 → σ false 23 (128 + i) = M i) : ∃ τ, (∀ g' c j, ¬ (c = 22 ∧ (j = 17 ∨ j = 18)) → τ g' c j = σ g' c j) ∧ g_Mo_walk_1_2 (nI n) σ = (match tw_F t M (n / 16) with | .inl 0 => tw_hand (g_Mo_fault_1_2 (nI n) τ) | .inl _ => tw_hand (g_Mo_outside_1_2 (nI n) τ) | .inr q => tw_hand (g_Mo_reach_1_2 (nI n) (nI q.2.1) τ)) ∧ (∀ a pg sec, tw_F t M (n / 16) = .inr (a, pg, sec) → τ false 22 17 = nI a ∧ τ false 22 18 = nI (16 * t + n / 16 / 4)) := by
  have pn : ∀ (σ : tw_S) (x : Int32) (j0 : Nat), (j0 = 17 ∨ j0 = 18) → ∀ g' c j, ¬ (c = 22 ∧ (j = 17 ∨ j = 18)) → tw_pt σ false 22 j0 x g' c j = σ g' c j := fun σ x j0 h0 g' c j hc => tw_pt_n _ _ (fun z => hc ⟨z.2.1, by rw [z.2.2]; exact h0⟩)
  unfold g_Mo_walk_1_2 tw_F
  rw [hT]
  by_cases h8 : 8 ≤ t
  · rw [if_neg (fun z => absurd ((tw_lt8 ht).mp z) (by omega)), if_pos h8]
    exact ⟨σ, fun _ _ _ _ => rfl, rfl, fun a pg sec e => by cases e⟩
  · have hf : (16 : Int32) * nI t + nI n >>> ((6 : Int32) &&& 31) = nI (16 * t + n / 16 / 4) := by
      rw [tw_sh6 hn, show (16 : Int32) = nI 16 from rfl, pk_mul, nI_add]
      congr 1
      omega
    have hfl : 16 * t + n / 16 / 4 < 128 := by omega
    have hb0 : ∀ i : Nat, (128 : Int32) * 1 + nI i = nI (128 + i) := fun i => by
      rw [show (128 : Int32) * 1 = nI 128 from by decide, nI_add]
    rw [if_pos ((tw_lt8 ht).mpr (by omega)), if_neg h8, hf, hb0, if_neg (nI_in (by omega) (by decide)), nI_clamp (by omega), hM _ hfl, tw_o_brk]
    generalize hw : M (16 * t + n / 16 / 4) = w1
    obtain ⟨k, hk, ek, ekc⟩ := tw_num_nI w1
    have ek' : (w1 >>> ((8 : Int32) &&& 31)) &&& 15 = nI k := ek
    have wi : (nI n >>> ((4 : Int32) &&& 31)) &&& 3 = nI (n / 16 % 4) := by rw [tw_sh4 hn, tw_an3 (by omega)]
    show ∃ τ, _ ∧ (if tw_brk w1 = 0 then _ else _) = _ ∧ _
    rw [ekc]
    by_cases hb : tw_brk w1 = 0
    · rw [if_pos hb, if_neg (show ¬ ¬ tw_brk w1 = 0 from fun z => z hb)]
      by_cases hl : w1 &&& 10 = 0
      · rw [if_pos hl, if_pos hl, ek']
        by_cases hk8 : 8 ≤ k
        · rw [if_neg (fun z => absurd ((tw_lt8 hk).mp z) (by omega)), if_pos hk8]
          exact ⟨_, fun g' c j hc => by rw [pn _ _ 17 (Or.inl rfl) g' c j hc, pn _ _ 18 (Or.inr rfl) g' c j hc], rfl, fun a pg sec e => by cases e⟩
        · have hs : (16 : Int32) * nI k + nI (n / 16 % 4) = nI (16 * k + n / 16 % 4) := by
            rw [show (16 : Int32) = nI 16 from rfl, pk_mul, nI_add]
          have hsl : 16 * k + n / 16 % 4 < 128 := by omega
          have hm : tw_pt (tw_pt σ false 22 18 (nI (16 * t + n / 16 / 4))) false 22 17 (nI (16 * t + n / 16 / 4)) false 23 (128 + (16 * k + n / 16 % 4)) = M (16 * k + n / 16 % 4) := by
            rw [pn _ _ 17 (Or.inl rfl) _ _ _ (fun z => absurd z.1 (by decide)), pn _ _ 18 (Or.inr rfl) _ _ _ (fun z => absurd z.1 (by decide))]
            exact hM _ hsl
          rw [if_pos ((tw_lt8 hk).mpr (by omega)), if_neg hk8, wi, hs, hb0, if_neg (nI_in (by omega) (by decide)), nI_clamp (by omega), hm, tw_o_brk]
          generalize hw2 : M (16 * k + n / 16 % 4) = w2
          obtain ⟨k2, hk2, ek2, ekc2⟩ := tw_num_nI w2
          have ek2' : (w2 >>> ((8 : Int32) &&& 31)) &&& 15 = nI k2 := ek2
          show ∃ τ, _ ∧ (if tw_brk w2 = 0 then _ else _) = _ ∧ _
          rw [ekc2, ek2']
          by_cases hb2 : tw_brk w2 = 0
          · rw [if_pos hb2, if_neg (show ¬ ¬ tw_brk w2 = 0 from fun z => z hb2)]
            by_cases hl2 : w2 &&& 10 = 0
            · rw [if_pos hl2, if_pos hl2]
              exact ⟨_, fun g' c j hc => by rw [pn _ _ 17 (Or.inl rfl) g' c j hc, pn _ _ 17 (Or.inl rfl) g' c j hc, pn _ _ 18 (Or.inr rfl) g' c j hc], rfl, fun a pg sec e => by cases e⟩
            · rw [if_neg hl2, if_neg hl2]
              refine ⟨_, fun g' c j hc => by rw [pn _ _ 17 (Or.inl rfl) g' c j hc, pn _ _ 17 (Or.inl rfl) g' c j hc, pn _ _ 18 (Or.inr rfl) g' c j hc], rfl, fun a pg sec e => ?_⟩
              cases e
              simp [tw_pt_eq]
          · rw [if_neg hb2, if_pos hb2]
            exact ⟨_, fun g' c j hc => by rw [pn _ _ 17 (Or.inl rfl) g' c j hc, pn _ _ 17 (Or.inl rfl) g' c j hc, pn _ _ 18 (Or.inr rfl) g' c j hc], rfl, fun a pg sec e => by cases e⟩
      · rw [if_neg hl, if_neg hl, ek', wi, nI_add]
        by_cases h4 : k % 4 = 0
        · rw [if_pos ((tw_and3 hk).mpr h4), if_pos h4]
          refine ⟨_, fun g' c j hc => by rw [pn _ _ 17 (Or.inl rfl) g' c j hc, pn _ _ 18 (Or.inr rfl) g' c j hc], rfl, fun a pg sec e => ?_⟩
          cases e
          simp [tw_pt_eq]
        · rw [if_neg (fun z => h4 ((tw_and3 hk).mp z)), if_neg h4]
          exact ⟨_, fun g' c j hc => by rw [pn _ _ 17 (Or.inl rfl) g' c j hc, pn _ _ 18 (Or.inr rfl) g' c j hc], rfl, fun a pg sec e => by cases e⟩
    · rw [if_neg hb, if_pos hb]
      exact ⟨_, fun g' c j hc => by rw [pn _ _ 17 (Or.inl rfl) g' c j hc, pn _ _ 18 (Or.inr rfl) g' c j hc], rfl, fun a pg sec e => by cases e⟩
