/-! The walk on both sides. -/
def tw_brk (w : Int32) : Int32 := if w &&& 1 = 0 then 1 else if w &&& 6 = 4 then 1 else 0
def tw_lf (w : Int32) : Int32 := if w &&& 10 = 0 then 0 else 1
theorem tw_e_brk (w : Int32) (σ : tw_S) : g_En_isBroken w σ = some (some (.inl (tw_brk w)), σ) := by
  unfold g_En_isBroken tw_brk
  by_cases h1 : w &&& 1 = 0
  · rw [if_pos h1, if_pos h1]
  · rw [if_neg h1, if_neg h1]
    by_cases h2 : w &&& 6 = 4
    · rw [if_pos h2, if_pos h2]
    · rw [if_neg h2, if_neg h2]
theorem tw_e_lf (w : Int32) (σ : tw_S) : g_En_isLeaf w σ = some (some (.inl (tw_lf w)), σ) := by
  unfold g_En_isLeaf tw_lf
  by_cases h1 : w &&& 10 = 0
  · rw [if_pos h1, if_pos h1]
  · rw [if_neg h1, if_neg h1]
theorem tw_o_brk (w : Int32) (σ : tw_S) : g_Mo_broken w σ = some (some (.inl (tw_brk w)), σ) := tw_e_brk w σ
theorem tw_brk_wd {w : Int32} (h : tw_brk w = 0) : tw_Wd w := by
  unfold tw_brk at h
  by_cases h1 : w &&& 1 = 0
  · rw [if_pos h1] at h; exact absurd h (by decide)
  · rw [if_neg h1] at h
    by_cases h2 : w &&& 6 = 4
    · rw [if_pos h2] at h; exact absurd h (by decide)
    · exact ⟨h1, h2⟩
theorem tw_wd_brk {w : Int32} (h : tw_Wd w) : tw_brk w = 0 := by
  unfold tw_brk
  rw [if_neg h.1, if_neg h.2]
/-- the walk for virtual page v by the tables in page t: .inl 0 a page fault, .inl 1 outside, .inr (the leaf's place, the page, the second word) -/
def tw_F (t : Nat) (M : Nat → Int32) (v : Nat) : Nat ⊕ (Nat × Nat × Int32) :=
  if 8 ≤ t then .inl 1 else
  if ¬ tw_brk (M (16 * t + v / 4)) = 0 then .inl 0 else
  if M (16 * t + v / 4) &&& 10 = 0 then
    (if 8 ≤ (tw_num (M (16 * t + v / 4))).toNatClampNeg then .inl 1 else
     if ¬ tw_brk (M (16 * (tw_num (M (16 * t + v / 4))).toNatClampNeg + v % 4)) = 0 then .inl 0 else
     if M (16 * (tw_num (M (16 * t + v / 4))).toNatClampNeg + v % 4) &&& 10 = 0 then .inl 0 else
     .inr (16 * (tw_num (M (16 * t + v / 4))).toNatClampNeg + v % 4, (tw_num (M (16 * (tw_num (M (16 * t + v / 4))).toNatClampNeg + v % 4))).toNatClampNeg, nI (16 * (tw_num (M (16 * t + v / 4))).toNatClampNeg + v % 4)))
  else if (tw_num (M (16 * t + v / 4))).toNatClampNeg % 4 = 0 then .inr (16 * t + v / 4, (tw_num (M (16 * t + v / 4))).toNatClampNeg + v % 4, -1) else .inl 0
theorem tw_num_nI (w : Int32) : ∃ k, k < 16 ∧ tw_num w = nI k ∧ (tw_num w).toNatClampNeg = k := by
  obtain ⟨j, hj, e⟩ := pk_andE (w >>> ((8 : Int32) &&& 31)) (m := 15) 4 (by decide)
  have e : tw_num w = nI j := e
  exact ⟨j, hj, e, by rw [e]; exact nI_clamp (by omega)⟩
theorem tw_sh4 {n : Nat} (h : n < 256) : nI n >>> ((4 : Int32) &&& 31) = nI (n / 16) := pk_shrN (by omega) _ 4 (by decide)
theorem tw_sh6 {n : Nat} (h : n < 256) : nI n >>> ((6 : Int32) &&& 31) = nI (n / 64) := pk_shrN (by omega) _ 6 (by decide)
theorem tw_sl4 {n : Nat} (h : n < 256) : nI n <<< ((4 : Int32) &&& 31) = nI (n * 16) := pk_shlN _ 4 (by decide) (by omega)
theorem tw_an3 {n : Nat} (h : n < 256) : nI n &&& 3 = nI (n % 4) := pk_andN (by omega) 2 (by decide)
theorem tw_an15 {n : Nat} (h : n < 256) : nI n &&& 15 = nI (n % 16) := pk_andN (by omega) 4 (by decide)
theorem tw_lt8 {k : Nat} (hk : k < 16) : nI k < 8 ↔ k < 8 := nI_ltI (b := 8) (by omega) (by decide)
theorem tw_rem4 {k : Nat} (hk : k < 16) : nI k - nI k / 4 * 4 = 0 ↔ k % 4 = 0 := by
  have e : nI k - nI k / 4 * 4 = nI (k % 4) := pk_rem (a := k) (d := 4) (by omega) (by decide) (by decide)
  rw [e]
  exact nI_eq (b := 0) (by omega) (by decide)
theorem tw_and3 {k : Nat} (hk : k < 16) : nI k &&& 3 = 0 ↔ k % 4 = 0 := by
  rw [tw_an3 (by omega)]
  exact nI_eq (b := 0) (by omega) (by decide)
/-- the class's search for F -/
theorem tw_c_search_F (g : Bool) {t n : Nat} (ht : t < 16) (hn : n < 256) (σ : tw_S) : ∃ τ, (∀ g' c j, ¬ c = 14 → τ g' c j = σ g' c j) ∧ g_Wa_search_F g (nI t) (nI n) σ = some (some (.inl (match tw_F t (σ g 1) (n / 16) with | .inl 0 => 12 | .inl _ => 1 | .inr _ => 0)), τ) ∧ (∀ a pg sec, tw_F t (σ g 1) (n / 16) = .inr (a, pg, sec) → τ g 14 0 = nI (16 * t + n / 16 / 4) ∧ τ g 14 1 = sec ∧ τ g 14 2 = nI a ∧ τ g 14 3 = nI pg) := by
  unfold g_Wa_search_F tw_F
  by_cases h8 : 8 ≤ t
  · rw [if_neg (fun z => absurd ((tw_lt8 ht).mp z) (by omega)), if_pos h8]
    exact ⟨σ, fun _ _ _ _ => rfl, rfl, fun a pg sec e => by cases e⟩
  · have hf : nI t <<< ((4 : Int32) &&& 31) + nI n >>> ((6 : Int32) &&& 31) = nI (16 * t + n / 16 / 4) := by
      rw [tw_sl4 (by omega), tw_sh6 hn, nI_add]
      congr 1
      omega
    have hfl : 16 * t + n / 16 / 4 < 128 := by omega
    rw [if_pos ((tw_lt8 ht).mpr (by omega)), if_neg h8, hf, tw_pt_s, if_neg (nI_in hfl (by decide)), nI_clamp (by omega), tw_e_brk]
    generalize hw : σ g 1 (16 * t + n / 16 / 4) = w1
    obtain ⟨k, hk, ek, ekc⟩ := tw_num_nI w1
    have ek' : (w1 >>> ((8 : Int32) &&& 31)) &&& 15 = nI k := ek
    have wi : (nI n >>> ((4 : Int32) &&& 31)) &&& 3 = nI (n / 16 % 4) := by rw [tw_sh4 hn, tw_an3 (by omega)]
    show ∃ τ, _ ∧ (if tw_brk w1 = 0 then _ else _) = _ ∧ _
    rw [ekc]
    by_cases hb : tw_brk w1 = 0
    · rw [if_pos hb, if_neg (fun z => z hb), tw_e_lf]
      show ∃ τ, _ ∧ (if tw_lf w1 = 0 then _ else _) = _ ∧ _
      by_cases hl : w1 &&& 10 = 0
      · rw [show tw_lf w1 = 0 from if_pos hl, if_pos rfl, if_pos hl, ek']
        by_cases hk8 : 8 ≤ k
        · rw [if_neg (fun z => absurd ((tw_lt8 hk).mp z) (by omega)), if_pos hk8]
          exact ⟨_, fun g' c j hc => by rw [tw_pt_n _ _ (fun z => hc z.2.1), tw_pt_n _ _ (fun z => hc z.2.1), tw_pt_n _ _ (fun z => hc z.2.1)], rfl, fun a pg sec e => by cases e⟩
        · have hs : nI k <<< ((4 : Int32) &&& 31) + nI (n / 16 % 4) = nI (16 * k + n / 16 % 4) := by
            rw [tw_sl4 (by omega), nI_add]
            congr 1
            omega
          have hsl : 16 * k + n / 16 % 4 < 128 := by omega
          rw [if_pos ((tw_lt8 hk).mpr (by omega)), if_neg hk8, wi, hs, tw_pt_s, if_neg (nI_in hsl (by decide)), nI_clamp (by omega), tw_e_brk]
          have hm : tw_pt (tw_pt (tw_pt σ g 14 0 (nI (16 * t + n / 16 / 4))) g 14 1 (-1)) g 14 2 (nI (16 * t + n / 16 / 4)) g 1 (16 * k + n / 16 % 4) = σ g 1 (16 * k + n / 16 % 4) := by
            rw [tw_pt_n _ _ (fun z => absurd z.2.1 (by decide)), tw_pt_n _ _ (fun z => absurd z.2.1 (by decide)), tw_pt_n _ _ (fun z => absurd z.2.1 (by decide))]
          rw [hm]
          generalize hw2 : σ g 1 (16 * k + n / 16 % 4) = w2
          obtain ⟨k2, hk2, ek2, ekc2⟩ := tw_num_nI w2
          have ek2' : (w2 >>> ((8 : Int32) &&& 31)) &&& 15 = nI k2 := ek2
          show ∃ τ, _ ∧ (if tw_brk w2 = 0 then _ else _) = _ ∧ _
          rw [ekc2, ek2']
          by_cases hb2 : tw_brk w2 = 0
          · rw [if_pos hb2, if_neg (fun z => z hb2), tw_e_lf]
            show ∃ τ, _ ∧ (if tw_lf w2 = 0 then _ else _) = _ ∧ _
            by_cases hl2 : w2 &&& 10 = 0
            · rw [show tw_lf w2 = 0 from if_pos hl2, if_pos rfl, if_pos hl2]
              exact ⟨_, fun g' c j hc => by simp only [tw_pt_n _ _ (fun z => hc z.2.1)], rfl, fun a pg sec e => by cases e⟩
            · rw [show tw_lf w2 = 1 from if_neg hl2, if_neg (by decide), if_neg hl2]
              refine ⟨_, fun g' c j hc => by rw [tw_pt_n _ _ (fun z => hc z.2.1), tw_pt_n _ _ (fun z => hc z.2.1), tw_pt_n _ _ (fun z => hc z.2.1), tw_pt_n _ _ (fun z => hc z.2.1), tw_pt_n _ _ (fun z => hc z.2.1), tw_pt_n _ _ (fun z => hc z.2.1)], rfl, fun a pg sec e => ?_⟩
              cases e
              simp [tw_pt_eq]
          · rw [if_neg hb2, if_pos hb2]
            exact ⟨_, fun g' c j hc => by rw [tw_pt_n _ _ (fun z => hc z.2.1), tw_pt_n _ _ (fun z => hc z.2.1), tw_pt_n _ _ (fun z => hc z.2.1), tw_pt_n _ _ (fun z => hc z.2.1), tw_pt_n _ _ (fun z => hc z.2.1), tw_pt_n _ _ (fun z => hc z.2.1)], rfl, fun a pg sec e => by cases e⟩
      · rw [show tw_lf w1 = 1 from if_neg hl, if_neg (by decide), if_neg hl, ek', wi, nI_add]
        by_cases h4 : k % 4 = 0
        · rw [if_pos ((tw_rem4 hk).mpr h4), if_pos h4]
          refine ⟨_, fun g' c j hc => by rw [tw_pt_n _ _ (fun z => hc z.2.1), tw_pt_n _ _ (fun z => hc z.2.1), tw_pt_n _ _ (fun z => hc z.2.1), tw_pt_n _ _ (fun z => hc z.2.1)], rfl, fun a pg sec e => ?_⟩
          cases e
          simp [tw_pt_eq]
        · rw [if_neg (fun z => h4 ((tw_rem4 hk).mp z)), if_neg h4]
          exact ⟨_, fun g' c j hc => by rw [tw_pt_n _ _ (fun z => hc z.2.1), tw_pt_n _ _ (fun z => hc z.2.1), tw_pt_n _ _ (fun z => hc z.2.1), tw_pt_n _ _ (fun z => hc z.2.1)], rfl, fun a pg sec e => by cases e⟩
    · rw [if_neg hb, if_pos hb]
      exact ⟨_, fun g' c j hc => by rw [tw_pt_n _ _ (fun z => hc z.2.1), tw_pt_n _ _ (fun z => hc z.2.1), tw_pt_n _ _ (fun z => hc z.2.1)], rfl, fun a pg sec e => by cases e⟩
/-- the class's search for L -/
theorem tw_c_search_L (g : Bool) {t n : Nat} (ht : t < 16) (hn : n < 256) (σ : tw_S) : ∃ τ, (∀ g' c j, ¬ c = 14 → τ g' c j = σ g' c j) ∧ g_Wa_search_L g (nI t) (nI n) σ = some (some (.inl (match tw_F t (σ g 1) (n / 16) with | .inl 0 => 13 | .inl _ => 5 | .inr _ => 0)), τ) ∧ (∀ a pg sec, tw_F t (σ g 1) (n / 16) = .inr (a, pg, sec) → τ g 14 0 = nI (16 * t + n / 16 / 4) ∧ τ g 14 1 = sec ∧ τ g 14 2 = nI a ∧ τ g 14 3 = nI pg) := by
  unfold g_Wa_search_L tw_F
  by_cases h8 : 8 ≤ t
  · rw [if_neg (fun z => absurd ((tw_lt8 ht).mp z) (by omega)), if_pos h8]
    exact ⟨σ, fun _ _ _ _ => rfl, rfl, fun a pg sec e => by cases e⟩
  · have hf : nI t <<< ((4 : Int32) &&& 31) + nI n >>> ((6 : Int32) &&& 31) = nI (16 * t + n / 16 / 4) := by
      rw [tw_sl4 (by omega), tw_sh6 hn, nI_add]
      congr 1
      omega
    have hfl : 16 * t + n / 16 / 4 < 128 := by omega
    rw [if_pos ((tw_lt8 ht).mpr (by omega)), if_neg h8, hf, tw_pt_s, if_neg (nI_in hfl (by decide)), nI_clamp (by omega), tw_e_brk]
    generalize hw : σ g 1 (16 * t + n / 16 / 4) = w1
    obtain ⟨k, hk, ek, ekc⟩ := tw_num_nI w1
    have ek' : (w1 >>> ((8 : Int32) &&& 31)) &&& 15 = nI k := ek
    have wi : (nI n >>> ((4 : Int32) &&& 31)) &&& 3 = nI (n / 16 % 4) := by rw [tw_sh4 hn, tw_an3 (by omega)]
    show ∃ τ, _ ∧ (if tw_brk w1 = 0 then _ else _) = _ ∧ _
    rw [ekc]
    by_cases hb : tw_brk w1 = 0
    · rw [if_pos hb, if_neg (fun z => z hb), tw_e_lf]
      show ∃ τ, _ ∧ (if tw_lf w1 = 0 then _ else _) = _ ∧ _
      by_cases hl : w1 &&& 10 = 0
      · rw [show tw_lf w1 = 0 from if_pos hl, if_pos rfl, if_pos hl, ek']
        by_cases hk8 : 8 ≤ k
        · rw [if_neg (fun z => absurd ((tw_lt8 hk).mp z) (by omega)), if_pos hk8]
          exact ⟨_, fun g' c j hc => by rw [tw_pt_n _ _ (fun z => hc z.2.1), tw_pt_n _ _ (fun z => hc z.2.1), tw_pt_n _ _ (fun z => hc z.2.1)], rfl, fun a pg sec e => by cases e⟩
        · have hs : nI k <<< ((4 : Int32) &&& 31) + nI (n / 16 % 4) = nI (16 * k + n / 16 % 4) := by
            rw [tw_sl4 (by omega), nI_add]
            congr 1
            omega
          have hsl : 16 * k + n / 16 % 4 < 128 := by omega
          rw [if_pos ((tw_lt8 hk).mpr (by omega)), if_neg hk8, wi, hs, tw_pt_s, if_neg (nI_in hsl (by decide)), nI_clamp (by omega), tw_e_brk]
          have hm : tw_pt (tw_pt (tw_pt σ g 14 0 (nI (16 * t + n / 16 / 4))) g 14 1 (-1)) g 14 2 (nI (16 * t + n / 16 / 4)) g 1 (16 * k + n / 16 % 4) = σ g 1 (16 * k + n / 16 % 4) := by
            rw [tw_pt_n _ _ (fun z => absurd z.2.1 (by decide)), tw_pt_n _ _ (fun z => absurd z.2.1 (by decide)), tw_pt_n _ _ (fun z => absurd z.2.1 (by decide))]
          rw [hm]
          generalize hw2 : σ g 1 (16 * k + n / 16 % 4) = w2
          obtain ⟨k2, hk2, ek2, ekc2⟩ := tw_num_nI w2
          have ek2' : (w2 >>> ((8 : Int32) &&& 31)) &&& 15 = nI k2 := ek2
          show ∃ τ, _ ∧ (if tw_brk w2 = 0 then _ else _) = _ ∧ _
          rw [ekc2, ek2']
          by_cases hb2 : tw_brk w2 = 0
          · rw [if_pos hb2, if_neg (fun z => z hb2), tw_e_lf]
            show ∃ τ, _ ∧ (if tw_lf w2 = 0 then _ else _) = _ ∧ _
            by_cases hl2 : w2 &&& 10 = 0
            · rw [show tw_lf w2 = 0 from if_pos hl2, if_pos rfl, if_pos hl2]
              exact ⟨_, fun g' c j hc => by simp only [tw_pt_n _ _ (fun z => hc z.2.1)], rfl, fun a pg sec e => by cases e⟩
            · rw [show tw_lf w2 = 1 from if_neg hl2, if_neg (by decide), if_neg hl2]
              refine ⟨_, fun g' c j hc => by rw [tw_pt_n _ _ (fun z => hc z.2.1), tw_pt_n _ _ (fun z => hc z.2.1), tw_pt_n _ _ (fun z => hc z.2.1), tw_pt_n _ _ (fun z => hc z.2.1), tw_pt_n _ _ (fun z => hc z.2.1), tw_pt_n _ _ (fun z => hc z.2.1)], rfl, fun a pg sec e => ?_⟩
              cases e
              simp [tw_pt_eq]
          · rw [if_neg hb2, if_pos hb2]
            exact ⟨_, fun g' c j hc => by rw [tw_pt_n _ _ (fun z => hc z.2.1), tw_pt_n _ _ (fun z => hc z.2.1), tw_pt_n _ _ (fun z => hc z.2.1), tw_pt_n _ _ (fun z => hc z.2.1), tw_pt_n _ _ (fun z => hc z.2.1), tw_pt_n _ _ (fun z => hc z.2.1)], rfl, fun a pg sec e => by cases e⟩
      · rw [show tw_lf w1 = 1 from if_neg hl, if_neg (by decide), if_neg hl, ek', wi, nI_add]
        by_cases h4 : k % 4 = 0
        · rw [if_pos ((tw_rem4 hk).mpr h4), if_pos h4]
          refine ⟨_, fun g' c j hc => by rw [tw_pt_n _ _ (fun z => hc z.2.1), tw_pt_n _ _ (fun z => hc z.2.1), tw_pt_n _ _ (fun z => hc z.2.1), tw_pt_n _ _ (fun z => hc z.2.1)], rfl, fun a pg sec e => ?_⟩
          cases e
          simp [tw_pt_eq]
        · rw [if_neg (fun z => h4 ((tw_rem4 hk).mp z)), if_neg h4]
          exact ⟨_, fun g' c j hc => by rw [tw_pt_n _ _ (fun z => hc z.2.1), tw_pt_n _ _ (fun z => hc z.2.1), tw_pt_n _ _ (fun z => hc z.2.1), tw_pt_n _ _ (fun z => hc z.2.1)], rfl, fun a pg sec e => by cases e⟩
    · rw [if_neg hb, if_pos hb]
      exact ⟨_, fun g' c j hc => by rw [tw_pt_n _ _ (fun z => hc z.2.1), tw_pt_n _ _ (fun z => hc z.2.1), tw_pt_n _ _ (fun z => hc z.2.1)], rfl, fun a pg sec e => by cases e⟩
/-- the class's search for S -/
theorem tw_c_search_S (g : Bool) {t n : Nat} (ht : t < 16) (hn : n < 256) (σ : tw_S) : ∃ τ, (∀ g' c j, ¬ c = 14 → τ g' c j = σ g' c j) ∧ g_Wa_search_S g (nI t) (nI n) σ = some (some (.inl (match tw_F t (σ g 1) (n / 16) with | .inl 0 => 15 | .inl _ => 7 | .inr _ => 0)), τ) ∧ (∀ a pg sec, tw_F t (σ g 1) (n / 16) = .inr (a, pg, sec) → τ g 14 0 = nI (16 * t + n / 16 / 4) ∧ τ g 14 1 = sec ∧ τ g 14 2 = nI a ∧ τ g 14 3 = nI pg) := by
  unfold g_Wa_search_S tw_F
  by_cases h8 : 8 ≤ t
  · rw [if_neg (fun z => absurd ((tw_lt8 ht).mp z) (by omega)), if_pos h8]
    exact ⟨σ, fun _ _ _ _ => rfl, rfl, fun a pg sec e => by cases e⟩
  · have hf : nI t <<< ((4 : Int32) &&& 31) + nI n >>> ((6 : Int32) &&& 31) = nI (16 * t + n / 16 / 4) := by
      rw [tw_sl4 (by omega), tw_sh6 hn, nI_add]
      congr 1
      omega
    have hfl : 16 * t + n / 16 / 4 < 128 := by omega
    rw [if_pos ((tw_lt8 ht).mpr (by omega)), if_neg h8, hf, tw_pt_s, if_neg (nI_in hfl (by decide)), nI_clamp (by omega), tw_e_brk]
    generalize hw : σ g 1 (16 * t + n / 16 / 4) = w1
    obtain ⟨k, hk, ek, ekc⟩ := tw_num_nI w1
    have ek' : (w1 >>> ((8 : Int32) &&& 31)) &&& 15 = nI k := ek
    have wi : (nI n >>> ((4 : Int32) &&& 31)) &&& 3 = nI (n / 16 % 4) := by rw [tw_sh4 hn, tw_an3 (by omega)]
    show ∃ τ, _ ∧ (if tw_brk w1 = 0 then _ else _) = _ ∧ _
    rw [ekc]
    by_cases hb : tw_brk w1 = 0
    · rw [if_pos hb, if_neg (fun z => z hb), tw_e_lf]
      show ∃ τ, _ ∧ (if tw_lf w1 = 0 then _ else _) = _ ∧ _
      by_cases hl : w1 &&& 10 = 0
      · rw [show tw_lf w1 = 0 from if_pos hl, if_pos rfl, if_pos hl, ek']
        by_cases hk8 : 8 ≤ k
        · rw [if_neg (fun z => absurd ((tw_lt8 hk).mp z) (by omega)), if_pos hk8]
          exact ⟨_, fun g' c j hc => by rw [tw_pt_n _ _ (fun z => hc z.2.1), tw_pt_n _ _ (fun z => hc z.2.1), tw_pt_n _ _ (fun z => hc z.2.1)], rfl, fun a pg sec e => by cases e⟩
        · have hs : nI k <<< ((4 : Int32) &&& 31) + nI (n / 16 % 4) = nI (16 * k + n / 16 % 4) := by
            rw [tw_sl4 (by omega), nI_add]
            congr 1
            omega
          have hsl : 16 * k + n / 16 % 4 < 128 := by omega
          rw [if_pos ((tw_lt8 hk).mpr (by omega)), if_neg hk8, wi, hs, tw_pt_s, if_neg (nI_in hsl (by decide)), nI_clamp (by omega), tw_e_brk]
          have hm : tw_pt (tw_pt (tw_pt σ g 14 0 (nI (16 * t + n / 16 / 4))) g 14 1 (-1)) g 14 2 (nI (16 * t + n / 16 / 4)) g 1 (16 * k + n / 16 % 4) = σ g 1 (16 * k + n / 16 % 4) := by
            rw [tw_pt_n _ _ (fun z => absurd z.2.1 (by decide)), tw_pt_n _ _ (fun z => absurd z.2.1 (by decide)), tw_pt_n _ _ (fun z => absurd z.2.1 (by decide))]
          rw [hm]
          generalize hw2 : σ g 1 (16 * k + n / 16 % 4) = w2
          obtain ⟨k2, hk2, ek2, ekc2⟩ := tw_num_nI w2
          have ek2' : (w2 >>> ((8 : Int32) &&& 31)) &&& 15 = nI k2 := ek2
          show ∃ τ, _ ∧ (if tw_brk w2 = 0 then _ else _) = _ ∧ _
          rw [ekc2, ek2']
          by_cases hb2 : tw_brk w2 = 0
          · rw [if_pos hb2, if_neg (fun z => z hb2), tw_e_lf]
            show ∃ τ, _ ∧ (if tw_lf w2 = 0 then _ else _) = _ ∧ _
            by_cases hl2 : w2 &&& 10 = 0
            · rw [show tw_lf w2 = 0 from if_pos hl2, if_pos rfl, if_pos hl2]
              exact ⟨_, fun g' c j hc => by simp only [tw_pt_n _ _ (fun z => hc z.2.1)], rfl, fun a pg sec e => by cases e⟩
            · rw [show tw_lf w2 = 1 from if_neg hl2, if_neg (by decide), if_neg hl2]
              refine ⟨_, fun g' c j hc => by rw [tw_pt_n _ _ (fun z => hc z.2.1), tw_pt_n _ _ (fun z => hc z.2.1), tw_pt_n _ _ (fun z => hc z.2.1), tw_pt_n _ _ (fun z => hc z.2.1), tw_pt_n _ _ (fun z => hc z.2.1), tw_pt_n _ _ (fun z => hc z.2.1)], rfl, fun a pg sec e => ?_⟩
              cases e
              simp [tw_pt_eq]
          · rw [if_neg hb2, if_pos hb2]
            exact ⟨_, fun g' c j hc => by rw [tw_pt_n _ _ (fun z => hc z.2.1), tw_pt_n _ _ (fun z => hc z.2.1), tw_pt_n _ _ (fun z => hc z.2.1), tw_pt_n _ _ (fun z => hc z.2.1), tw_pt_n _ _ (fun z => hc z.2.1), tw_pt_n _ _ (fun z => hc z.2.1)], rfl, fun a pg sec e => by cases e⟩
      · rw [show tw_lf w1 = 1 from if_neg hl, if_neg (by decide), if_neg hl, ek', wi, nI_add]
        by_cases h4 : k % 4 = 0
        · rw [if_pos ((tw_rem4 hk).mpr h4), if_pos h4]
          refine ⟨_, fun g' c j hc => by rw [tw_pt_n _ _ (fun z => hc z.2.1), tw_pt_n _ _ (fun z => hc z.2.1), tw_pt_n _ _ (fun z => hc z.2.1), tw_pt_n _ _ (fun z => hc z.2.1)], rfl, fun a pg sec e => ?_⟩
          cases e
          simp [tw_pt_eq]
        · rw [if_neg (fun z => h4 ((tw_rem4 hk).mp z)), if_neg h4]
          exact ⟨_, fun g' c j hc => by rw [tw_pt_n _ _ (fun z => hc z.2.1), tw_pt_n _ _ (fun z => hc z.2.1), tw_pt_n _ _ (fun z => hc z.2.1), tw_pt_n _ _ (fun z => hc z.2.1)], rfl, fun a pg sec e => by cases e⟩
    · rw [if_neg hb, if_pos hb]
      exact ⟨_, fun g' c j hc => by rw [tw_pt_n _ _ (fun z => hc z.2.1), tw_pt_n _ _ (fun z => hc z.2.1), tw_pt_n _ _ (fun z => hc z.2.1)], rfl, fun a pg sec e => by cases e⟩
