/-! The law's loop ends with 1. -/
theorem tw_lawc {n i : Nat} (hn : n < 2 ^ 20) (hi : i < 2 ^ 20) : nI n - 4 < nI i ↔ n < i + 4 := by
  have e : (nI n - 4).toInt = (n : Int) - 4 := by
    have := pk_sub_toInt (a := n) (b := 4) (by omega) (by decide)
    exact this
  rw [Int32.lt_iff_toInt_lt, e, nI_toInt (by omega)]
  omega
set_option maxHeartbeats 8000000 in
theorem tw_lawl (f : Nat → Int32) {n : Nat} (hn : n ≤ 2049) : ∀ (m i k : Nat) (σ : tw_S), tw_Inv σ σ → n < i + 4 * (m + 1) → i ≤ 2053 → m < k → ∃ σ', l_law f n k (nI i) σ = some (some (.inl 1), σ')
  | m, i, 0, σ, _, _, _, hk => by omega
  | m, i, k + 1, σ, hI, hm, hi, hk => by
    unfold l_law
    by_cases hx : n < i + 4
    · rw [if_pos ((tw_lawc (by omega) (by omega)).mpr hx)]
      exact ⟨σ, rfl⟩
    · obtain ⟨m, rfl⟩ : ∃ m', m = m' + 1 := ⟨m - 1, by omega⟩
      have ih : ∀ τ : tw_S, tw_Inv τ τ → ∃ σ', l_law f n k (nI i + 4) τ = some (some (.inl 1), σ') := fun τ hτ => by
        have := tw_lawl f hn m (i + 4) k τ hτ (by omega) (by omega) (by omega)
        rw [← nI_add] at this
        exact this
      have o0 : ¬ tw_out (nI i) n := nI_in (by omega) (by omega)
      have o1 : ¬ tw_out (nI i + 1) n := by rw [nI_1]; exact nI_in (by omega) (by omega)
      have o2 : ¬ tw_out (nI i + 2) n := by rw [show nI i + 2 = nI (i + 2) from nI_add i 2]; exact nI_in (by omega) (by omega)
      have o3 : ¬ tw_out (nI i + 3) n := by rw [show nI i + 3 = nI (i + 3) from nI_add i 3]; exact nI_in (by omega) (by omega)
      rw [if_neg (fun z => hx ((tw_lawc (by omega) (by omega)).mp z)), if_neg o0]
      generalize f (nI i).toNatClampNeg &&& 15 = o
      generalize f (nI i + 1).toNatClampNeg = v1
      generalize f (nI i + 2).toNatClampNeg = v2
      generalize f (nI i + 3).toNatClampNeg = v3
      by_cases h0 : o = 0
      · obtain ⟨x, σ1, σ2, e1, e2, hJ⟩ := tw_one_poke hI v1 v2 v3
        rw [if_pos h0, if_neg o1, if_neg o2, if_neg o3, e1, tw_bi_s, e2, tw_bi_s, if_pos rfl]
        exact ih σ2 hJ
      rw [if_neg h0]
      by_cases h1 : o = 1
      · obtain ⟨x, σ1, σ2, e1, e2, hJ⟩ := tw_one_peek hI v1 v2
        rw [if_pos h1, if_neg o1, if_neg o2, e1, tw_bi_s, e2, tw_bi_s, if_pos rfl]
        exact ih σ2 hJ
      rw [if_neg h1]
      by_cases h2 : o = 2
      · obtain ⟨x, σ1, σ2, e1, e2, hJ⟩ := tw_one_give hI v1 v2 v3
        rw [if_pos h2, if_neg o1, if_neg o2, if_neg o3, e1, tw_bi_s, e2, tw_bi_s, if_pos rfl]
        exact ih σ2 hJ
      rw [if_neg h2]
      by_cases h3 : o = 3
      · obtain ⟨x, σ1, σ2, e1, e2, hJ⟩ := tw_one_register hI v1 v2
        rw [if_pos h3, if_neg o1, if_neg o2, e1, tw_bi_s, e2, tw_bi_s, if_pos rfl]
        exact ih σ2 hJ
      rw [if_neg h3]
      by_cases h4 : o = 4
      · obtain ⟨x, σ1, σ2, e1, e2, hJ⟩ := tw_one_command hI v1 v2 v3
        rw [if_pos h4, if_neg o1, if_neg o2, if_neg o3, e1, tw_bi_s, e2, tw_bi_s, if_pos rfl]
        exact ih σ2 hJ
      rw [if_neg h4]
      by_cases h5 : o = 5
      · obtain ⟨x, σ1, σ2, e1, e2, hJ⟩ := tw_one_control hI v1 v2
        rw [if_pos h5, if_neg o1, if_neg o2, e1, tw_bi_s, e2, tw_bi_s, if_pos rfl]
        exact ih σ2 hJ
      rw [if_neg h5]
      by_cases h6 : o = 6
      · rw [if_pos h6, if_neg o1, if_neg o2, if_neg o3]
        by_cases hz : v3 = 0
        · obtain ⟨x, σ1, σ2, e1, e2, hJ⟩ := tw_one_place hI v1 v2 0 (by decide)
          rw [if_pos hz, e1, tw_bi_s]
          rw [e2, tw_bi_s, if_pos rfl]
          exact ih σ2 hJ
        · obtain ⟨x, σ1, σ2, e1, e2, hJ⟩ := tw_one_place hI v1 v2 1 (by decide)
          rw [if_neg hz, e1, tw_bi_s]
          rw [e2, tw_bi_s, if_pos rfl]
          exact ih σ2 hJ
      rw [if_neg h6]
      by_cases h7 : o = 7
      · obtain ⟨x, σ1, σ2, e1, e2, hJ⟩ := tw_one_pc hI v1
        rw [if_pos h7, if_neg o1, e1, tw_bi_s, e2, tw_bi_s, if_pos rfl]
        exact ih σ2 hJ
      rw [if_neg h7]
      by_cases h8 : o = 8
      · obtain ⟨x, σ1, σ2, e1, e2, hJ⟩ := tw_one_user hI v1
        rw [if_pos h8, if_neg o1, e1, tw_bi_s, e2, tw_bi_s, if_pos rfl]
        exact ih σ2 hJ
      rw [if_neg h8]
      by_cases h9 : o = 9
      · obtain ⟨x, σ1, σ2, e1, e2, hJ⟩ := tw_one_input hI v1 v2 v3
        rw [if_pos h9, if_neg o1, if_neg o2, if_neg o3, e1, tw_bi_s, e2, tw_bi_s, if_pos rfl]
        exact ih σ2 hJ
      rw [if_neg h9]
      by_cases h10 : o = 10
      · obtain ⟨x, σ1, σ2, e1, e2, hJ⟩ := tw_one_run hI v1
        rw [if_pos h10, if_neg o1, e1, tw_bi_s, e2, tw_bi_s, if_pos rfl]
        exact ih σ2 hJ
      rw [if_neg h10]
      by_cases h11 : o = 11
      · obtain ⟨x, σ1, σ2, e1, e2, hJ⟩ := tw_one_turn hI 
        rw [if_pos h11, e1, tw_bi_s, e2, tw_bi_s, if_pos rfl]
        exact ih σ2 hJ
      rw [if_neg h11]
      by_cases h12 : o = 12
      · obtain ⟨x, σ1, σ2, e1, e2, hJ⟩ := tw_one_shadow hI v1 v2
        rw [if_pos h12, if_neg o1, if_neg o2, e1, tw_bi_s, e2, tw_bi_s, if_pos rfl]
        exact ih σ2 hJ
      rw [if_neg h12]
      by_cases h13 : o = 13
      · obtain ⟨x, σ1, σ2, e1, e2, hJ⟩ := tw_one_traced hI v1 v2
        rw [if_pos h13, if_neg o1, if_neg o2, e1, tw_bi_s, e2, tw_bi_s, if_pos rfl]
        exact ih σ2 hJ
      rw [if_neg h13]
      by_cases h14 : o = 14
      · obtain ⟨x, σ1, σ2, e1, e2, hJ⟩ := tw_one_count hI v1 v2
        rw [if_pos h14, if_neg o1, if_neg o2, e1, tw_bi_s, e2, tw_bi_s, if_pos rfl]
        exact ih σ2 hJ
      rw [if_neg h14]
      exact ih σ hI
