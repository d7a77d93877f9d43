/-! Controls. -/
def tw_lok (σ : tw_S) (g : Bool) (k : Nat) : Int32 := if k = 8 then tw_pend σ g else if k = 11 then (if tw_there σ g = 0 then 0 else σ g 8 0) else σ g 5 k
theorem tw_eqk {k m : Nat} {x : Int32} (hx : x = nI m) (hk : k < 64) (hm : m < 64) : nI k = x ↔ k = m := by
  rw [hx]
  exact nI_eq (by omega) (by omega)
theorem tw_k0 {k : Nat} (hk : k < 64) : nI k = (0 : Int32) ↔ k = 0 := tw_eqk (m := 0) rfl hk (by decide)
theorem tw_k6 {k : Nat} (hk : k < 64) : nI k = (6 : Int32) ↔ k = 6 := tw_eqk (m := 6) rfl hk (by decide)
theorem tw_k7 {k : Nat} (hk : k < 64) : nI k = (7 : Int32) ↔ k = 7 := tw_eqk (m := 7) rfl hk (by decide)
theorem tw_k8 {k : Nat} (hk : k < 64) : nI k = (8 : Int32) ↔ k = 8 := tw_eqk (m := 8) rfl hk (by decide)
theorem tw_k10 {k : Nat} (hk : k < 64) : nI k = (10 : Int32) ↔ k = 10 := tw_eqk (m := 10) rfl hk (by decide)
theorem tw_k11 {k : Nat} (hk : k < 64) : nI k = (11 : Int32) ↔ k = 11 := tw_eqk (m := 11) rfl hk (by decide)
theorem tw_c_look (g : Bool) {k : Nat} (hk : k < 12) (σ : tw_S) : g_Co_look g (nI k) σ = some (some (.inl (tw_lok σ g k)), σ) := by
  unfold g_Co_look tw_lok
  by_cases h8 : k = 8
  · rw [if_pos ((tw_k8 (k := k) (by omega)).mpr h8), if_pos h8, tw_c_pend]
    rfl
  · rw [if_neg (fun z => h8 ((tw_k8 (k := k) (by omega)).mp z)), if_neg h8]
    by_cases h11 : k = 11
    · rw [if_pos ((tw_k11 (k := k) (by omega)).mpr h11), if_pos h11, tw_c_there, tw_bi_s]
      by_cases ht : tw_there σ g = 0
      · rw [if_pos ht, if_pos ht]
      · rw [if_neg ht, if_neg ht]
    · rw [if_neg (fun z => h11 ((tw_k11 (k := k) (by omega)).mp z)), if_neg h11, if_neg (nI_in hk (by decide)), nI_clamp (by omega)]
theorem tw_there_pos {σ : tw_S} {g : Bool} {n : Nat} (hn : n ≤ 6) (e : σ g 6 2 = nI n) (h : ¬ tw_there σ g = 0) : 0 < n := by
  by_cases z : n = 0
  · subst z
    refine absurd ?_ h
    unfold tw_there
    rw [e, if_pos (by decide)]
  · omega
theorem tw_m_look_0 {d : tw_Dt} {σc σm : tw_S} (h : tw_Rel d σc σm) {k : Nat} (hk : k < 12) : g_Mo_control_0 (nI k) σm = some (some (.inl (tw_lok σc false k)), σm) := by
  have hb0 : (12 : Int32) * 0 + nI k = nI (0 + k) := by
    rw [show (12 : Int32) * 0 = nI 0 from by decide, nI_add]
  unfold g_Mo_control_0 tw_lok
  rw [if_neg (nI_pos (by omega)), if_pos (show nI k ≤ 11 from nI_le (b := 11) (by omega) (by decide))]
  by_cases h11 : k = 11
  · rw [if_pos ((tw_k11 (k := k) (by omega)).mpr h11), if_neg (by omega), if_pos h11, tw_m_there_0 h, tw_bi_s]
    by_cases ht : tw_there σc false = 0
    · rw [if_pos ht, if_pos ht]
    · obtain ⟨n, hn, e1, e2, e3⟩ := tw_Rel_sz h false
      have e6 : σm false 30 0 = σc false 8 0 := (e3 0 (tw_there_pos hn e1 ht)).2.symm
      rw [if_neg ht, if_neg ht, e6]
  · rw [if_neg (fun z => h11 ((tw_k11 (k := k) (by omega)).mp z))]
    by_cases h8 : k = 8
    · rw [if_pos ((tw_k8 (k := k) (by omega)).mpr h8), if_pos h8, tw_m_pend_0 h]
      rfl
    · have e5 : σm false 25 (0 + k) = σc false 5 k := tw_Rel_5 h false hk
      rw [if_neg (fun z => h8 ((tw_k8 (k := k) (by omega)).mp z)), if_neg h8, if_neg h11, hb0, if_neg (nI_in (by omega) (by decide)), nI_clamp (by omega), e5]
theorem tw_m_look_1 {d : tw_Dt} {σc σm : tw_S} (h : tw_Rel d σc σm) {k : Nat} (hk : k < 12) : g_Mo_control_1 (nI k) σm = some (some (.inl (tw_lok σc true k)), σm) := by
  have hb0 : (12 : Int32) * 1 + nI k = nI (12 + k) := by
    rw [show (12 : Int32) * 1 = nI 12 from by decide, nI_add]
  unfold g_Mo_control_1 tw_lok
  rw [if_neg (nI_pos (by omega)), if_pos (show nI k ≤ 11 from nI_le (b := 11) (by omega) (by decide))]
  by_cases h11 : k = 11
  · rw [if_pos ((tw_k11 (k := k) (by omega)).mpr h11), if_neg (by omega), if_pos h11, tw_m_there_1 h, tw_bi_s]
    by_cases ht : tw_there σc true = 0
    · rw [if_pos ht, if_pos ht]
    · obtain ⟨n, hn, e1, e2, e3⟩ := tw_Rel_sz h true
      have e6 : σm false 30 6 = σc true 8 0 := (e3 0 (tw_there_pos hn e1 ht)).2.symm
      rw [if_neg ht, if_neg ht, e6]
  · rw [if_neg (fun z => h11 ((tw_k11 (k := k) (by omega)).mp z))]
    by_cases h8 : k = 8
    · rw [if_pos ((tw_k8 (k := k) (by omega)).mpr h8), if_pos h8, tw_m_pend_1 h]
      rfl
    · have e5 : σm false 25 (12 + k) = σc true 5 k := tw_Rel_5 h true hk
      rw [if_neg (fun z => h8 ((tw_k8 (k := k) (by omega)).mp z)), if_neg h8, if_neg h11, hb0, if_neg (nI_in (by omega) (by decide)), nI_clamp (by omega), e5]
/-- two rows moved down by one -/
def tw_shI (c1 c2 lo hi : Nat) (g : Bool) (σ : tw_S) : tw_S := fun g' c j => if g' = g ∧ (c = c1 ∨ c = c2) ∧ lo ≤ j ∧ j < hi then σ g' c (j + 1) else σ g' c j
theorem tw_shI_0 (c1 c2 hi : Nat) (g : Bool) (σ : tw_S) : tw_shI c1 c2 hi hi g σ = σ := tw_ext fun g' c j => if_neg (fun z => by omega)
theorem tw_shI_s {c1 c2 lo hi : Nat} (hc : ¬ c1 = c2) (g : Bool) (σ : tw_S) (h : lo < hi) : tw_shI c1 c2 (lo + 1) hi g (tw_pt (tw_pt σ g c1 lo (σ g c1 (lo + 1))) g c2 lo (σ g c2 (lo + 1))) = tw_shI c1 c2 lo hi g σ := tw_ext fun g' c j => by
  have hp : ∀ j, ¬ j = lo → tw_pt (tw_pt σ g c1 lo (σ g c1 (lo + 1))) g c2 lo (σ g c2 (lo + 1)) g' c j = σ g' c j := fun j hj => by
    rw [tw_pt_n _ _ (fun z => hj z.2.2), tw_pt_n _ _ (fun z => hj z.2.2)]
  show (if g' = g ∧ (c = c1 ∨ c = c2) ∧ lo + 1 ≤ j ∧ j < hi then tw_pt (tw_pt σ g c1 lo (σ g c1 (lo + 1))) g c2 lo (σ g c2 (lo + 1)) g' c (j + 1) else tw_pt (tw_pt σ g c1 lo (σ g c1 (lo + 1))) g c2 lo (σ g c2 (lo + 1)) g' c j) = (if g' = g ∧ (c = c1 ∨ c = c2) ∧ lo ≤ j ∧ j < hi then σ g' c (j + 1) else σ g' c j)
  by_cases e : g' = g ∧ (c = c1 ∨ c = c2) ∧ lo + 1 ≤ j ∧ j < hi
  · rw [if_pos e, if_pos ⟨e.1, e.2.1, by omega, e.2.2.2⟩, hp (j + 1) (by omega)]
  · rw [if_neg e]
    by_cases ej : j = lo
    · subst ej
      by_cases e2 : g' = g ∧ (c = c1 ∨ c = c2)
      · rw [if_pos ⟨e2.1, e2.2, Nat.le_refl _, h⟩]
        obtain ⟨rfl, rfl | rfl⟩ := e2
        · rw [tw_pt_n _ _ (fun z => hc z.2.1), tw_pt_s]
        · rw [tw_pt_s]
      · rw [if_neg (fun z => e2 ⟨z.1, z.2.1⟩), tw_pt_n _ _ (fun z => e2 ⟨z.1, Or.inr z.2.1⟩), tw_pt_n _ _ (fun z => e2 ⟨z.1, Or.inl z.2.1⟩)]
    · rw [hp j ej, if_neg (fun z => e ⟨z.1, z.2.1, by omega, z.2.2.2⟩)]
theorem tw_c_rm (g : Bool) {N : Nat} (hN : N ≤ 5) : ∀ (m i k : Nat) (σ : tw_S), i + m = N → m < k → σ g 6 2 = nI N → l_In_removeFirst k g (nI i) σ = some (none, tw_shI 7 8 i N g σ)
  | 0, i, k + 1, σ, h, _, hs => by
    have hi : i = N := by omega
    subst hi
    unfold l_In_removeFirst
    rw [hs, if_pos (nI_le (Nat.le_refl _) (by omega)), tw_shI_0]
  | m + 1, i, k + 1, σ, h, hk, hs => by
    unfold l_In_removeFirst
    rw [hs, if_neg (nI_ge (by omega) (by omega)), nI_1, if_neg (nI_in (c := i + 1) (by omega) (by decide)), if_neg (nI_in (c := i) (by omega) (by decide)), nI_clamp (n := i) (by omega), nI_clamp (n := i + 1) (by omega)]
    rw [tw_c_rm g hN m (i + 1) k _ (by omega) (by omega) (by rw [tw_pt_n _ _ (fun z => absurd z.2.1 (by decide)), tw_pt_n _ _ (fun z => absurd z.2.1 (by decide))]; exact hs)]
    have e : tw_pt σ g 7 i (σ g 7 (i + 1)) g 8 (i + 1) = σ g 8 (i + 1) := tw_pt_n _ _ (fun z => absurd z.2.1 (by decide))
    first
      | rw [e, tw_shI_s (by decide) g σ (by omega)]
      | rw [tw_shI_s (by decide) g σ (by omega)]
theorem tw_m_rm_0 : ∀ (m i k : Nat) (σ : tw_S), i + m = 5 → 0 ≤ i → m < k → l_Mo_takeInput_0 k (nI i) σ = some (none, tw_pt (tw_shI 29 30 i 5 false σ) false 28 0 (σ false 28 0 - 1))
  | 0, i, k + 1, σ, h, h0, _ => by
    have hi : i = 5 := by omega
    subst hi
    unfold l_Mo_takeInput_0
    rw [if_pos (by decide), tw_shI_0]
  | m + 1, i, k + 1, σ, h, h0, hk => by
    unfold l_Mo_takeInput_0
    rw [show ((6 : Int32) * 0 + 5) = nI 5 from by decide, if_neg (nI_ge (a := i) (b := 5) (by omega) (by decide)), nI_1, if_neg (nI_in (c := i + 1) (by omega) (by decide)), if_neg (nI_in (c := i) (by omega) (by decide)), nI_clamp (n := i) (by omega), nI_clamp (n := i + 1) (by omega)]
    rw [tw_m_rm_0 m (i + 1) k _ (by omega) (by omega) (by omega), tw_shI_s (by decide) false σ (by omega), tw_pt_n _ _ (fun z => absurd z.2.1 (by decide)), tw_pt_n _ _ (fun z => absurd z.2.1 (by decide))]
theorem tw_p_rm_0 {d : tw_Dt} {σc σm : tw_S} (hR : tw_Rel d σc σm) (hC : ∀ g', tw_Coh σc g') (ht : ¬ tw_there σc false = 0) : ∃ τc τm, g_In_removeFirst false σc = some (none, τc) ∧ g_Mo_takeInput_0 σm = some (none, τm) ∧ tw_Rel d τc τm ∧ ∀ g', tw_Coh τc g' := by
  obtain ⟨N, hN, e1, e2, e3⟩ := tw_Rel_sz hR false
  have e2 : σm false 28 0 = nI N := e2
  have hp := tw_there_pos hN e1 ht
  obtain ⟨N, rfl⟩ : ∃ M, N = M + 1 := ⟨N - 1, by omega⟩
  have es : σc false 6 2 - 1 = nI N := by rw [e1]; exact nI_pred N
  have em : σm false 28 0 - 1 = nI N := by rw [e2]; exact nI_pred N
  refine ⟨tw_shI 7 8 0 N false (tw_pt σc false 6 2 (nI N)), tw_pt (tw_shI 29 30 0 5 false σm) false 28 0 (nI N), ?_, ?_, ?_, ?_⟩
  · unfold g_In_removeFirst
    rw [if_neg (by rw [e1]; exact nI_ne0 (by omega) (by omega)), es]
    exact tw_c_rm false (N := N) (by omega) N 0 7 _ (by omega) (by omega) (tw_pt_s _ _ _ _ _)
  · unfold g_Mo_takeInput_0
    rw [show ((6 : Int32) * 0) = nI 0 from by decide, tw_m_rm_0 5 0 6 σm (by decide) (by decide) (by decide), em]
  · have kc : ∀ g' c j, ¬ (g' = false ∧ (c = 7 ∨ c = 8)) → ¬ (g' = false ∧ c = 6 ∧ j = 2) → tw_shI 7 8 0 N false (tw_pt σc false 6 2 (nI N)) g' c j = σc g' c j := fun g' c j h1 h2 => by
      show (if g' = false ∧ (c = 7 ∨ c = 8) ∧ 0 ≤ j ∧ j < N then _ else _) = _
      rw [if_neg (fun z => h1 ⟨z.1, z.2.1⟩), tw_pt_n _ _ h2]
    have km : ∀ c j, ¬ ((c = 29 ∨ c = 30) ∧ 0 ≤ j ∧ j < 5) → ¬ (c = 28 ∧ j = 0) → tw_pt (tw_shI 29 30 0 5 false σm) false 28 0 (nI N) false c j = σm false c j := fun c j h1 h2 => by
      rw [tw_pt_n _ _ (fun z => h2 ⟨z.2.1, z.2.2⟩)]
      exact if_neg (fun z => h1 ⟨z.2.1, z.2.2⟩)
    have s6 : tw_shI 7 8 0 N false (tw_pt σc false 6 2 (nI N)) false 6 2 = nI N := by
      show (if false = false ∧ ((6 : Nat) = 7 ∨ (6 : Nat) = 8) ∧ _ then _ else _) = _
      rw [if_neg (fun z => by omega), tw_pt_s]
    refine ⟨fun g' c j q hq => ?_, fun g' => ?_, ?_⟩
    · by_cases hs : g' = false ∧ c = 6 ∧ j = 2
      · obtain ⟨rfl, rfl, rfl⟩ := hs
        rw [tw_msz] at hq
        cases hq
        rw [s6]
        exact (tw_pt_s _ _ _ _ _).symm
      · have hq2 : ¬ (q.1 = 28 ∧ q.2 = 0) := fun z => hs (tw_m_inj (tw_msz false) (by rw [hq]; exact congrArg some (Prod.ext z.1 z.2)))
        have hq3 : ¬ (q.1 = 29 ∨ q.1 = 30) := fun z => by
          obtain ⟨a1, a2, a3, a4, a5⟩ := tw_m_spec hq
          rcases z with z | z
          · rw [z] at a4 a3
            have a4 : j < 0 + 0 := a4
            omega
          · rw [z] at a4 a3
            have a4 : j < 0 + 0 := a4
            omega
        have hc : ¬ (c = 7 ∨ c = 8) := fun z => by
          obtain ⟨a1, a2, a3, a4, a5⟩ := tw_m_spec hq
          rcases z with rfl | rfl
          · have : tw_m g' 7 j = none := if_neg (fun y => absurd y.2 (by show ¬ j < 0 + 0; omega))
            rw [this] at hq; cases hq
          · have : tw_m g' 8 j = none := if_neg (fun y => absurd y.2 (by show ¬ j < 0 + 0; omega))
            rw [this] at hq; cases hq
        rw [kc g' c j (fun z => hc z.2) hs, km q.1 q.2 (fun z => hq3 z.1) hq2]
        exact hR.1 g' c j q hq
    · obtain ⟨h1, ⟨n', hn', h2, h3⟩, h4, h5⟩ := hR.2.1 g'
      by_cases eg : g' = false
      · subst eg
        refine ⟨?_, ⟨N, by omega, s6, fun j hj => ?_⟩, fun v hv => ?_, ?_⟩
        · rw [kc _ 0 7 (fun z => by omega) (fun z => by omega)]; exact h1
        · have t7 : tw_shI 7 8 0 N false (tw_pt σc false 6 2 (nI N)) false 7 j = σc false 7 (j + 1) := by
            show (if false = false ∧ ((7 : Nat) = 7 ∨ (7 : Nat) = 8) ∧ 0 ≤ j ∧ j < N then _ else _) = _
            rw [if_pos ⟨rfl, Or.inl rfl, Nat.zero_le _, hj⟩, tw_pt_n _ _ (fun z => absurd z.2.1 (by decide))]
          have t8 : tw_shI 7 8 0 N false (tw_pt σc false 6 2 (nI N)) false 8 j = σc false 8 (j + 1) := by
            show (if false = false ∧ ((8 : Nat) = 7 ∨ (8 : Nat) = 8) ∧ 0 ≤ j ∧ j < N then _ else _) = _
            rw [if_pos ⟨rfl, Or.inr rfl, Nat.zero_le _, hj⟩, tw_pt_n _ _ (fun z => absurd z.2.1 (by decide))]
          have u7 : tw_pt (tw_shI 29 30 0 5 false σm) false 28 0 (nI N) false 29 (0 + j) = σm false 29 (0 + (j + 1)) := by
            rw [tw_pt_n _ _ (fun z => absurd z.2.1 (by decide))]
            exact if_pos ⟨rfl, Or.inl rfl, by omega, by omega⟩
          have u8 : tw_pt (tw_shI 29 30 0 5 false σm) false 28 0 (nI N) false 30 (0 + j) = σm false 30 (0 + (j + 1)) := by
            rw [tw_pt_n _ _ (fun z => absurd z.2.1 (by decide))]
            exact if_pos ⟨rfl, Or.inr rfl, by omega, by omega⟩
          have e4 := e3 (j + 1) (by omega)
          exact ⟨t7.trans (e4.1.trans u7.symm), t8.trans (e4.2.trans u8.symm)⟩
        · rw [kc _ 11 v (fun z => by omega) (fun z => by omega), km 33 _ (fun z => by omega) (fun z => by omega), km 34 _ (fun z => by omega) (fun z => by omega)]
          exact h4 v hv
        · rw [kc _ 3 8 (fun z => by omega) (fun z => by omega), km 31 _ (fun z => by omega) (fun z => by omega)]
          exact h5
      · have hb : ¬ tw_b g' = 0 := fun z => eg (tw_b_inj (z.trans rfl))
        have hbl := tw_b_lt g'
        refine ⟨?_, ⟨n', hn', ?_, fun j hj => ?_⟩, fun v hv => ?_, ?_⟩
        · rw [kc _ 0 7 (fun z => eg z.1) (fun z => eg z.1)]; exact h1
        · rw [kc _ 6 2 (fun z => eg z.1) (fun z => eg z.1)]; exact h2
        · rw [kc _ 7 j (fun z => eg z.1) (fun z => eg z.1), kc _ 8 j (fun z => eg z.1) (fun z => eg z.1), km 29 _ (fun z => by omega) (fun z => by omega), km 30 _ (fun z => by omega) (fun z => by omega)]
          exact h3 j hj
        · rw [kc _ 11 v (fun z => eg z.1) (fun z => eg z.1), km 33 _ (fun z => by omega) (fun z => by omega), km 34 _ (fun z => by omega) (fun z => by omega)]
          exact h4 v hv
        · rw [kc _ 3 8 (fun z => eg z.1) (fun z => eg z.1), km 31 _ (fun z => by omega) (fun z => by omega)]
          exact h5
    · unfold tw_R3
      rw [kc false 20 1 (fun z => by omega) (fun z => by omega), kc false 20 2 (fun z => by omega) (fun z => by omega), kc false 20 3 (fun z => by omega) (fun z => by omega), km 22 0 (fun z => by omega) (fun z => by omega), km 22 1 (fun z => by omega) (fun z => by omega), km 22 2 (fun z => by omega) (fun z => by omega)]
      exact hR.2.2
  · intro g'
    have kc : ∀ c j, ¬ (c = 7 ∨ c = 8) → ¬ (c = 6 ∧ j = 2) → tw_shI 7 8 0 N false (tw_pt σc false 6 2 (nI N)) g' c j = σc g' c j := fun c j h1 h2 => by
      show (if g' = false ∧ (c = 7 ∨ c = 8) ∧ 0 ≤ j ∧ j < N then _ else _) = _
      rw [if_neg (fun z => h1 z.2.1), tw_pt_n _ _ (fun z => h2 ⟨z.2.1, z.2.2⟩)]
    exact tw_Coh_on (hC g') (kc 5 6 (by decide) (by decide)) (fun i _ => Or.inl (kc 1 i (by decide) (fun z => by omega))) (fun v _ => ⟨kc 10 v (by decide) (fun z => by omega), kc 11 v (by decide) (fun z => by omega), kc 12 v (by decide) (fun z => by omega), kc 13 v (by decide) (fun z => by omega)⟩)
theorem tw_m_rm_1 : ∀ (m i k : Nat) (σ : tw_S), i + m = 11 → 6 ≤ i → m < k → l_Mo_takeInput_1 k (nI i) σ = some (none, tw_pt (tw_shI 29 30 i 11 false σ) false 28 1 (σ false 28 1 - 1))
  | 0, i, k + 1, σ, h, h0, _ => by
    have hi : i = 11 := by omega
    subst hi
    unfold l_Mo_takeInput_1
    rw [if_pos (by decide), tw_shI_0]
  | m + 1, i, k + 1, σ, h, h0, hk => by
    unfold l_Mo_takeInput_1
    rw [show ((6 : Int32) * 1 + 5) = nI 11 from by decide, if_neg (nI_ge (a := i) (b := 11) (by omega) (by decide)), nI_1, if_neg (nI_in (c := i + 1) (by omega) (by decide)), if_neg (nI_in (c := i) (by omega) (by decide)), nI_clamp (n := i) (by omega), nI_clamp (n := i + 1) (by omega)]
    rw [tw_m_rm_1 m (i + 1) k _ (by omega) (by omega) (by omega), tw_shI_s (by decide) false σ (by omega), tw_pt_n _ _ (fun z => absurd z.2.1 (by decide)), tw_pt_n _ _ (fun z => absurd z.2.1 (by decide))]
theorem tw_p_rm_1 {d : tw_Dt} {σc σm : tw_S} (hR : tw_Rel d σc σm) (hC : ∀ g', tw_Coh σc g') (ht : ¬ tw_there σc true = 0) : ∃ τc τm, g_In_removeFirst true σc = some (none, τc) ∧ g_Mo_takeInput_1 σm = some (none, τm) ∧ tw_Rel d τc τm ∧ ∀ g', tw_Coh τc g' := by
  obtain ⟨N, hN, e1, e2, e3⟩ := tw_Rel_sz hR true
  have e2 : σm false 28 1 = nI N := e2
  have hp := tw_there_pos hN e1 ht
  obtain ⟨N, rfl⟩ : ∃ M, N = M + 1 := ⟨N - 1, by omega⟩
  have es : σc true 6 2 - 1 = nI N := by rw [e1]; exact nI_pred N
  have em : σm false 28 1 - 1 = nI N := by rw [e2]; exact nI_pred N
  refine ⟨tw_shI 7 8 0 N true (tw_pt σc true 6 2 (nI N)), tw_pt (tw_shI 29 30 6 11 false σm) false 28 1 (nI N), ?_, ?_, ?_, ?_⟩
  · unfold g_In_removeFirst
    rw [if_neg (by rw [e1]; exact nI_ne0 (by omega) (by omega)), es]
    exact tw_c_rm true (N := N) (by omega) N 0 7 _ (by omega) (by omega) (tw_pt_s _ _ _ _ _)
  · unfold g_Mo_takeInput_1
    rw [show ((6 : Int32) * 1) = nI 6 from by decide, tw_m_rm_1 5 6 6 σm (by decide) (by decide) (by decide), em]
  · have kc : ∀ g' c j, ¬ (g' = true ∧ (c = 7 ∨ c = 8)) → ¬ (g' = true ∧ c = 6 ∧ j = 2) → tw_shI 7 8 0 N true (tw_pt σc true 6 2 (nI N)) g' c j = σc g' c j := fun g' c j h1 h2 => by
      show (if g' = true ∧ (c = 7 ∨ c = 8) ∧ 0 ≤ j ∧ j < N then _ else _) = _
      rw [if_neg (fun z => h1 ⟨z.1, z.2.1⟩), tw_pt_n _ _ h2]
    have km : ∀ c j, ¬ ((c = 29 ∨ c = 30) ∧ 6 ≤ j ∧ j < 11) → ¬ (c = 28 ∧ j = 1) → tw_pt (tw_shI 29 30 6 11 false σm) false 28 1 (nI N) false c j = σm false c j := fun c j h1 h2 => by
      rw [tw_pt_n _ _ (fun z => h2 ⟨z.2.1, z.2.2⟩)]
      exact if_neg (fun z => h1 ⟨z.2.1, z.2.2⟩)
    have s6 : tw_shI 7 8 0 N true (tw_pt σc true 6 2 (nI N)) true 6 2 = nI N := by
      show (if true = true ∧ ((6 : Nat) = 7 ∨ (6 : Nat) = 8) ∧ _ then _ else _) = _
      rw [if_neg (fun z => by omega), tw_pt_s]
    refine ⟨fun g' c j q hq => ?_, fun g' => ?_, ?_⟩
    · by_cases hs : g' = true ∧ c = 6 ∧ j = 2
      · obtain ⟨rfl, rfl, rfl⟩ := hs
        rw [tw_msz] at hq
        cases hq
        rw [s6]
        exact (tw_pt_s _ _ _ _ _).symm
      · have hq2 : ¬ (q.1 = 28 ∧ q.2 = 1) := fun z => hs (tw_m_inj (tw_msz true) (by rw [hq]; exact congrArg some (Prod.ext z.1 z.2)))
        have hq3 : ¬ (q.1 = 29 ∨ q.1 = 30) := fun z => by
          obtain ⟨a1, a2, a3, a4, a5⟩ := tw_m_spec hq
          rcases z with z | z
          · rw [z] at a4 a3
            have a4 : j < 0 + 0 := a4
            omega
          · rw [z] at a4 a3
            have a4 : j < 0 + 0 := a4
            omega
        have hc : ¬ (c = 7 ∨ c = 8) := fun z => by
          obtain ⟨a1, a2, a3, a4, a5⟩ := tw_m_spec hq
          rcases z with rfl | rfl
          · have : tw_m g' 7 j = none := if_neg (fun y => absurd y.2 (by show ¬ j < 0 + 0; omega))
            rw [this] at hq; cases hq
          · have : tw_m g' 8 j = none := if_neg (fun y => absurd y.2 (by show ¬ j < 0 + 0; omega))
            rw [this] at hq; cases hq
        rw [kc g' c j (fun z => hc z.2) hs, km q.1 q.2 (fun z => hq3 z.1) hq2]
        exact hR.1 g' c j q hq
    · obtain ⟨h1, ⟨n', hn', h2, h3⟩, h4, h5⟩ := hR.2.1 g'
      by_cases eg : g' = true
      · subst eg
        refine ⟨?_, ⟨N, by omega, s6, fun j hj => ?_⟩, fun v hv => ?_, ?_⟩
        · rw [kc _ 0 7 (fun z => by omega) (fun z => by omega)]; exact h1
        · have t7 : tw_shI 7 8 0 N true (tw_pt σc true 6 2 (nI N)) true 7 j = σc true 7 (j + 1) := by
            show (if true = true ∧ ((7 : Nat) = 7 ∨ (7 : Nat) = 8) ∧ 0 ≤ j ∧ j < N then _ else _) = _
            rw [if_pos ⟨rfl, Or.inl rfl, Nat.zero_le _, hj⟩, tw_pt_n _ _ (fun z => absurd z.2.1 (by decide))]
          have t8 : tw_shI 7 8 0 N true (tw_pt σc true 6 2 (nI N)) true 8 j = σc true 8 (j + 1) := by
            show (if true = true ∧ ((8 : Nat) = 7 ∨ (8 : Nat) = 8) ∧ 0 ≤ j ∧ j < N then _ else _) = _
            rw [if_pos ⟨rfl, Or.inr rfl, Nat.zero_le _, hj⟩, tw_pt_n _ _ (fun z => absurd z.2.1 (by decide))]
          have u7 : tw_pt (tw_shI 29 30 6 11 false σm) false 28 1 (nI N) false 29 (6 + j) = σm false 29 (6 + (j + 1)) := by
            rw [tw_pt_n _ _ (fun z => absurd z.2.1 (by decide))]
            exact if_pos ⟨rfl, Or.inl rfl, by omega, by omega⟩
          have u8 : tw_pt (tw_shI 29 30 6 11 false σm) false 28 1 (nI N) false 30 (6 + j) = σm false 30 (6 + (j + 1)) := by
            rw [tw_pt_n _ _ (fun z => absurd z.2.1 (by decide))]
            exact if_pos ⟨rfl, Or.inr rfl, by omega, by omega⟩
          have e4 := e3 (j + 1) (by omega)
          exact ⟨t7.trans (e4.1.trans u7.symm), t8.trans (e4.2.trans u8.symm)⟩
        · rw [kc _ 11 v (fun z => by omega) (fun z => by omega), km 33 _ (fun z => by omega) (fun z => by omega), km 34 _ (fun z => by omega) (fun z => by omega)]
          exact h4 v hv
        · rw [kc _ 3 8 (fun z => by omega) (fun z => by omega), km 31 _ (fun z => by omega) (fun z => by omega)]
          exact h5
      · have hb : ¬ tw_b g' = 1 := fun z => eg (tw_b_inj (z.trans rfl))
        have hbl := tw_b_lt g'
        refine ⟨?_, ⟨n', hn', ?_, fun j hj => ?_⟩, fun v hv => ?_, ?_⟩
        · rw [kc _ 0 7 (fun z => eg z.1) (fun z => eg z.1)]; exact h1
        · rw [kc _ 6 2 (fun z => eg z.1) (fun z => eg z.1)]; exact h2
        · rw [kc _ 7 j (fun z => eg z.1) (fun z => eg z.1), kc _ 8 j (fun z => eg z.1) (fun z => eg z.1), km 29 _ (fun z => by omega) (fun z => by omega), km 30 _ (fun z => by omega) (fun z => by omega)]
          exact h3 j hj
        · rw [kc _ 11 v (fun z => eg z.1) (fun z => eg z.1), km 33 _ (fun z => by omega) (fun z => by omega), km 34 _ (fun z => by omega) (fun z => by omega)]
          exact h4 v hv
        · rw [kc _ 3 8 (fun z => eg z.1) (fun z => eg z.1), km 31 _ (fun z => by omega) (fun z => by omega)]
          exact h5
    · unfold tw_R3
      rw [kc false 20 1 (fun z => by omega) (fun z => by omega), kc false 20 2 (fun z => by omega) (fun z => by omega), kc false 20 3 (fun z => by omega) (fun z => by omega), km 22 0 (fun z => by omega) (fun z => by omega), km 22 1 (fun z => by omega) (fun z => by omega), km 22 2 (fun z => by omega) (fun z => by omega)]
      exact hR.2.2
  · intro g'
    have kc : ∀ c j, ¬ (c = 7 ∨ c = 8) → ¬ (c = 6 ∧ j = 2) → tw_shI 7 8 0 N true (tw_pt σc true 6 2 (nI N)) g' c j = σc g' c j := fun c j h1 h2 => by
      show (if g' = true ∧ (c = 7 ∨ c = 8) ∧ 0 ≤ j ∧ j < N then _ else _) = _
      rw [if_neg (fun z => h1 z.2.1), tw_pt_n _ _ (fun z => h2 ⟨z.2.1, z.2.2⟩)]
    exact tw_Coh_on (hC g') (kc 5 6 (by decide) (by decide)) (fun i _ => Or.inl (kc 1 i (by decide) (fun z => by omega))) (fun v _ => ⟨kc 10 v (by decide) (fun z => by omega), kc 11 v (by decide) (fun z => by omega), kc 12 v (by decide) (fun z => by omega), kc 13 v (by decide) (fun z => by omega)⟩)
