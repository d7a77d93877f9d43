/-! Values that both sides work out alike. -/
theorem tw_le_of {x y : Int32} (h : ¬ x ≤ y) : y < x := Int32.not_le.mp h
/-- an input is there -/
def tw_there (σ : tw_S) (g : Bool) : Int32 := if σ g 6 2 ≤ 0 then 0 else if σ g 5 10 < σ g 7 0 then 0 else 1
def tw_pend (σ : tw_S) (g : Bool) : Int32 := if σ g 5 10 < σ g 5 9 then (if tw_there σ g = 0 then 0 else 2) else (if tw_there σ g = 0 then 1 else 3)
theorem tw_c_there (g : Bool) (σ : tw_S) : g_In_isThere g (σ g 5 10) σ = some (some (.inl (tw_there σ g)), σ) := by
  unfold g_In_isThere tw_there
  by_cases h1 : σ g 6 2 ≤ 0
  · rw [if_pos h1, if_pos h1]
  · rw [if_neg h1, if_neg h1]
    by_cases h2 : σ g 5 10 < σ g 7 0
    · rw [if_pos h2, if_pos h2]
    · rw [if_neg h2, if_neg h2]
theorem tw_c_pend (g : Bool) (σ : tw_S) : g_Co_pendingBits g σ = some (some (.inl (tw_pend σ g)), σ) := by
  unfold g_Co_pendingBits tw_pend
  rw [tw_c_there]
  by_cases h1 : σ g 5 10 < σ g 5 9
  · rw [if_pos h1, if_pos h1]
    by_cases h2 : tw_there σ g = 0
    · rw [if_pos h2]; exact if_pos h2
    · rw [if_neg h2]; exact if_neg h2
  · rw [if_neg h1, if_neg h1]
    by_cases h2 : tw_there σ g = 0
    · rw [if_pos h2]; exact if_pos h2
    · rw [if_neg h2]; exact if_neg h2
theorem tw_c_due (g : Bool) (σ : tw_S) : g_Co_dueBits g σ = some (some (.inl (σ g 5 7 &&& tw_pend σ g)), σ) := by
  unfold g_Co_dueBits
  rw [tw_c_pend]
  rfl
/-- how many inputs wait -/
theorem tw_Rel_sz {d : tw_Dt} {σc σm : tw_S} (h : tw_Rel d σc σm) (g : Bool) : ∃ n, n ≤ 6 ∧ σc g 6 2 = nI n ∧ σm false 28 (tw_b g) = nI n ∧ ∀ j, j < n → σc g 7 j = σm false 29 (6 * tw_b g + j) ∧ σc g 8 j = σm false 30 (6 * tw_b g + j) := by
  obtain ⟨-, ⟨n, hn, h2, h3⟩, -, -⟩ := h.2.1 g
  exact ⟨n, hn, h2, by rw [← h.1 g 6 2 _ (tw_msz g)]; exact h2, h3⟩
theorem tw_Rel_5 {d : tw_Dt} {σc σm : tw_S} (h : tw_Rel d σc σm) (g : Bool) {j : Nat} (hj : j < 12) : σm false 25 (12 * tw_b g + j) = σc g 5 j := (h.1 g 5 j _ (tw_m5 g hj)).symm
theorem tw_m_there_0 {d : tw_Dt} {σc σm : tw_S} (h : tw_Rel d σc σm) : g_Mo_isThere_0 σm = some (some (.inl (tw_there σc false)), σm) := by
  obtain ⟨n, hn, e1, e2, e3⟩ := tw_Rel_sz h false
  have e2 : σm false 28 0 = nI n := e2
  have e5 : σm false 25 10 = σc false 5 10 := tw_Rel_5 h false (j := 10) (by decide)
  unfold g_Mo_isThere_0 tw_there
  rw [e1, e2, e5]
  by_cases h1 : nI n ≤ 0
  · rw [if_pos h1, if_pos h1]
  · have hn0 : 0 < n := by
      by_cases z : n = 0
      · subst z; exact absurd (by decide) h1
      · omega
    have e6 : σm false 29 0 = σc false 7 0 := (e3 0 hn0).1.symm
    rw [if_neg h1, if_neg h1, e6]
    by_cases h2 : σc false 5 10 < σc false 7 0
    · rw [if_pos h2, if_pos h2]
    · rw [if_neg h2, if_neg h2]
theorem tw_m_pend_0 {d : tw_Dt} {σc σm : tw_S} (h : tw_Rel d σc σm) : g_Mo_pending_0 σm = some (some (.inl (tw_pend σc false)), σm) := by
  have e5 : σm false 25 10 = σc false 5 10 := tw_Rel_5 h false (j := 10) (by decide)
  have e6 : σm false 25 9 = σc false 5 9 := tw_Rel_5 h false (j := 9) (by decide)
  unfold g_Mo_pending_0 tw_pend
  rw [tw_m_there_0 h, e5, e6]
  by_cases h1 : σc false 5 10 < σc false 5 9
  · rw [if_pos h1, if_pos h1]
    by_cases h2 : tw_there σc false = 0
    · rw [if_pos h2]; exact if_pos h2
    · rw [if_neg h2]; exact if_neg h2
  · rw [if_neg h1, if_neg h1]
    by_cases h2 : tw_there σc false = 0
    · rw [if_pos h2]; exact if_pos h2
    · rw [if_neg h2]; exact if_neg h2
theorem tw_m_there_1 {d : tw_Dt} {σc σm : tw_S} (h : tw_Rel d σc σm) : g_Mo_isThere_1 σm = some (some (.inl (tw_there σc true)), σm) := by
  obtain ⟨n, hn, e1, e2, e3⟩ := tw_Rel_sz h true
  have e2 : σm false 28 1 = nI n := e2
  have e5 : σm false 25 22 = σc true 5 10 := tw_Rel_5 h true (j := 10) (by decide)
  unfold g_Mo_isThere_1 tw_there
  rw [e1, e2, e5]
  by_cases h1 : nI n ≤ 0
  · rw [if_pos h1, if_pos h1]
  · have hn0 : 0 < n := by
      by_cases z : n = 0
      · subst z; exact absurd (by decide) h1
      · omega
    have e6 : σm false 29 6 = σc true 7 0 := (e3 0 hn0).1.symm
    rw [if_neg h1, if_neg h1, e6]
    by_cases h2 : σc true 5 10 < σc true 7 0
    · rw [if_pos h2, if_pos h2]
    · rw [if_neg h2, if_neg h2]
theorem tw_m_pend_1 {d : tw_Dt} {σc σm : tw_S} (h : tw_Rel d σc σm) : g_Mo_pending_1 σm = some (some (.inl (tw_pend σc true)), σm) := by
  have e5 : σm false 25 22 = σc true 5 10 := tw_Rel_5 h true (j := 10) (by decide)
  have e6 : σm false 25 21 = σc true 5 9 := tw_Rel_5 h true (j := 9) (by decide)
  unfold g_Mo_pending_1 tw_pend
  rw [tw_m_there_1 h, e5, e6]
  by_cases h1 : σc true 5 10 < σc true 5 9
  · rw [if_pos h1, if_pos h1]
    by_cases h2 : tw_there σc true = 0
    · rw [if_pos h2]; exact if_pos h2
    · rw [if_neg h2]; exact if_neg h2
  · rw [if_neg h1, if_neg h1]
    by_cases h2 : tw_there σc true = 0
    · rw [if_pos h2]; exact if_pos h2
    · rw [if_neg h2]; exact if_neg h2
/-- one pair of registers -/
theorem tw_ix_in {a b : Nat} {x : Int32} (hx : x = nI a) (h : a < b) (hb : b < 2 ^ 31) : ¬ tw_out x b := by
  rw [hx]
  exact nI_in h hb
theorem tw_reg_ix (w : Int32) : ∃ j, j < 8 ∧ w &&& 7 = nI j := pk_andE w (m := 7) 3 (by decide)
/-- what retire does -/
theorem tw_r_ret {d : tw_Dt} {σc σm : tw_S} (h : tw_Rel d σc σm) (g : Bool) (x : Int32) : tw_Rel d (tw_pt (tw_pt σc g 5 10 (σc g 5 10 + 1)) g 0 6 x) (tw_pt (tw_pt σm false 25 (12 * tw_b g + 10) (σm false 25 (12 * tw_b g + 10) + 1)) false 26 (tw_b g) x) := by
  rw [tw_Rel_5 h g (by decide)]
  exact tw_Rel_pt (tw_Rel_pt h (tw_m5 g (by decide)) rfl rfl (by decide) (by decide) _) (tw_mpc g) rfl rfl (by decide) (by decide) _
/-- a register set on both sides -/
theorem tw_r_reg {d : tw_Dt} {σc σm : tw_S} (h : tw_Rel d σc σm) (g : Bool) {j : Nat} (hj : j < 8) (x : Int32) : tw_Rel d (tw_pt σc g 2 j x) (tw_pt σm false 24 (8 * tw_b g + j) x) := tw_Rel_pt h (tw_m2 g hj) rfl rfl (by decide) (by decide) x
/-- setRegister and put -/
def tw_setc (g : Bool) (j : Nat) (x : Int32) (σ : tw_S) : tw_S := if j = 0 then σ else tw_pt σ g 2 j x
def tw_setm (g : Bool) (j : Nat) (x : Int32) (σ : tw_S) : tw_S := if j = 0 then σ else tw_pt σ false 24 (8 * tw_b g + j) x
theorem tw_c_set (g : Bool) {j : Nat} (hj : j < 8) (x : Int32) (σ : tw_S) : g_Gu_setRegister g (nI j) x σ = some (none, tw_setc g j x σ) := by
  unfold g_Gu_setRegister tw_setc
  by_cases h : j = 0
  · rw [if_pos h, if_pos (by rw [h]; rfl)]
  · rw [if_neg h, if_neg (nI_ne0 (by omega) (by omega)), if_neg (nI_in hj (by decide)), nI_clamp (by omega)]
theorem tw_r_set {d : tw_Dt} {σc σm : tw_S} (h : tw_Rel d σc σm) (g : Bool) {j : Nat} (hj : j < 8) (x : Int32) : tw_Rel d (tw_setc g j x σc) (tw_setm g j x σm) := by
  unfold tw_setc tw_setm
  by_cases h0 : j = 0
  · rw [if_pos h0, if_pos h0]; exact h
  · rw [if_neg h0, if_neg h0]; exact tw_r_reg h g hj x
theorem tw_nI (a b : Int32) (n m : Nat) (ha : a = nI n) (hb : b = nI m) (j : Nat) : a * b + nI j = nI (n * m + j) := by rw [ha, hb, pk_mul, nI_add]
theorem tw_m_set_0 {j : Nat} (hj : j < 8) (x : Int32) (σ : tw_S) : g_Mo_put_0 (nI j) x σ = some (none, tw_setm false j x σ) := by
  unfold g_Mo_put_0 tw_setm
  rw [tw_nI 8 0 8 0 (by decide) (by decide) j]
  by_cases h : j = 0
  · rw [if_pos h, if_pos (by rw [h]; rfl)]
  · rw [if_neg h, if_neg (nI_ne0 (by omega) (by omega)), if_neg (nI_in (by omega) (by decide)), nI_clamp (by omega)]
    rfl
theorem tw_m_set_1 {j : Nat} (hj : j < 8) (x : Int32) (σ : tw_S) : g_Mo_put_1 (nI j) x σ = some (none, tw_setm true j x σ) := by
  unfold g_Mo_put_1 tw_setm
  rw [tw_nI 8 1 8 1 (by decide) (by decide) j]
  by_cases h : j = 0
  · rw [if_pos h, if_pos (by rw [h]; rfl)]
  · rw [if_neg h, if_neg (nI_ne0 (by omega) (by omega)), if_neg (nI_in (by omega) (by decide)), nI_clamp (by omega)]
    rfl
