/-! The first pairs: trap. -/
/-- a change of the mode on both sides -/
theorem tw_Rel_us {d : tw_Dt} {σc σm : tw_S} (h : tw_Rel d σc σm) (g : Bool) {x : Int32} (hx : x = 0 ∨ x = 1) : tw_Rel d (tw_pt σc g 0 7 x) (tw_pt σm false 27 (tw_b g) x) := by
  refine ⟨tw_R1_pt h.1 (tw_mus g) x, fun g' => ?_, ?_⟩
  · obtain ⟨h1, ⟨n, hn, h2, h3⟩, h4, h5⟩ := h.2.1 g'
    refine ⟨?_, ⟨n, hn, ?_, fun j hj => ?_⟩, fun v hv => ?_, ?_⟩
    · rw [tw_pt_eq]
      by_cases e : g' = g ∧ (0 : Nat) = 0 ∧ (7 : Nat) = 7
      · rw [if_pos e]; exact hx
      · rw [if_neg e]; exact h1
    · rw [tw_pt_n _ _ (fun z => absurd z.2.1 (by decide))]; exact h2
    · rw [tw_pt_n _ _ (fun z => absurd z.2.1 (by decide)), tw_pt_n _ _ (fun z => absurd z.2.1 (by decide)), tw_pt_n _ _ (fun z => absurd z.2.1 (by decide)), tw_pt_n _ _ (fun z => absurd z.2.1 (by decide))]; exact h3 j hj
    · rw [tw_pt_n _ _ (fun z => absurd z.2.1 (by decide)), tw_pt_n _ _ (fun z => absurd z.2.1 (by decide)), tw_pt_n _ _ (fun z => absurd z.2.1 (by decide))]; exact h4 v hv
    · rw [tw_pt_n _ _ (fun z => absurd z.2.1 (by decide)), tw_pt_n _ _ (fun z => absurd z.2.1 (by decide))]; exact h5
  · unfold tw_R3
    rw [tw_pt_n _ _ (fun z => absurd z.2.1 (by decide)), tw_pt_n _ _ (fun z => absurd z.2.1 (by decide)), tw_pt_n _ _ (fun z => absurd z.2.1 (by decide)), tw_pt_n _ _ (fun z => absurd z.2.1 (by decide)), tw_pt_n _ _ (fun z => absurd z.2.1 (by decide)), tw_pt_n _ _ (fun z => absurd z.2.1 (by decide))]
    exact h.2.2
/-- STATUS behind a trap -/
def tw_stt (s u : Int32) : Int32 := ((s &&& 8) ||| (if s &&& 1 = 0 then 0 else 2)) ||| (if u = 0 then 4 else 0)
def tw_trc (g : Bool) (cause v : Int32) (σ : tw_S) : tw_S := tw_pt (tw_pt (tw_pt (tw_pt (tw_pt (tw_pt σ g 5 3 cause) g 5 4 v) g 5 2 (σ g 0 6)) g 5 0 (tw_stt (σ g 5 0) (σ g 0 7))) g 0 7 0) g 0 6 (σ g 5 1)
def tw_trm (g : Bool) (cause v : Int32) (σ : tw_S) : tw_S := tw_pt (tw_pt (tw_pt (tw_pt (tw_pt (tw_pt σ false 25 (12 * tw_b g + 3) cause) false 25 (12 * tw_b g + 4) v) false 25 (12 * tw_b g + 2) (σ false 26 (tw_b g))) false 25 (12 * tw_b g) (tw_stt (σ false 25 (12 * tw_b g)) (σ false 27 (tw_b g)))) false 27 (tw_b g) 0) false 26 (tw_b g) (σ false 25 (12 * tw_b g + 1))
theorem tw_or0 (x : Int32) : x ||| 0 = x := Int32.or_zero
theorem tw_bit1 (s : Int32) : s &&& 1 = 0 ∨ s &&& 1 = 1 := by
  obtain ⟨j, hj, e⟩ := pk_andE s (m := 1) 1 (by decide)
  have : j = 0 ∨ j = 1 := by omega
  rcases this with rfl | rfl
  · exact Or.inl e
  · exact Or.inr e
theorem tw_stt_m (s u : Int32) (b : Int32) (hb : b = if u = 0 then 4 else 0) : (((s &&& 8) ||| ((s &&& 1) <<< ((1 : Int32) &&& 31))) ||| b) = tw_stt s u := by
  unfold tw_stt
  rw [hb]
  rcases tw_bit1 s with e | e
  · rw [e, if_pos rfl, show ((0 : Int32) <<< ((1 : Int32) &&& 31)) = 0 by decide]
  · rw [e, if_neg (show ¬ (1 : Int32) = 0 by decide), show ((1 : Int32) <<< ((1 : Int32) &&& 31)) = 2 by decide]
theorem tw_or_as (a b c : Int32) : a ||| (b ||| c) = (a ||| b) ||| c := (Int32.or_assoc a b c).symm
/-- the class's trap -/
theorem tw_c_trap (g : Bool) (cause v : Int32) (σ : tw_S) : g_Gu_trap g cause v σ = some (some (.inr (false, 61)), tw_trc g cause v σ) := by
  have e0 : tw_pt (tw_pt (tw_pt σ g 5 3 cause) g 5 4 v) g 5 2 (σ g 0 6) g 5 0 = σ g 5 0 := by
    rw [tw_pt_n _ _ (fun z => absurd z.2.2 (by decide)), tw_pt_n _ _ (fun z => absurd z.2.2 (by decide)), tw_pt_n _ _ (fun z => absurd z.2.2 (by decide))]
  unfold g_Gu_trap g_Co_enterTrap g_Co_isOn tw_trc tw_stt
  by_cases h1 : σ g 5 0 &&& 1 = 0 <;> by_cases h2 : σ g 0 7 = 0 <;> simp only [e0, h1, h2, tw_bi, tw_bv, if_true, if_false, tw_or_as, tw_or0] <;> rfl
/-- the two keep the relation -/
theorem tw_r_trap {d : tw_Dt} {σc σm : tw_S} (h : tw_Rel d σc σm) (g : Bool) (cause v : Int32) : tw_Rel d (tw_trc g cause v σc) (tw_trm g cause v σm) := by
  unfold tw_trc tw_trm
  have e50 : σm false 25 (12 * tw_b g) = σc g 5 0 := (h.1 g 5 0 _ (tw_m5 g (by decide))).symm
  rw [← h.1 g 0 6 _ (tw_mpc g), ← h.1 g 0 7 _ (tw_mus g), ← h.1 g 5 1 _ (tw_m5 g (by decide)), e50]
  have p : ∀ {σc σm : tw_S}, tw_Rel d σc σm → ∀ (j : Nat) (x : Int32), j < 12 → tw_Rel d (tw_pt σc g 5 j x) (tw_pt σm false 25 (12 * tw_b g + j) x) := fun h j x hj => tw_Rel_pt h (tw_m5 g hj) rfl rfl (by decide) (by decide) x
  refine tw_Rel_pt (tw_Rel_us (p (p (p (p h 3 cause (by decide)) 4 v (by decide)) 2 _ (by decide)) 0 _ (by decide)) g (Or.inl rfl)) (tw_mpc g) rfl rfl (by decide) (by decide) _
theorem tw_m_trap_0_1 (v : Int32) (σ : tw_S) : g_Mo_trap_0_1 v σ = some (none, tw_pt (tw_trm false (1) v σ) false 31 2 (σ false 31 2 + 1)) := by
  unfold g_Mo_trap_0_1 tw_trm
  by_cases h : σ false 27 0 = 0
  · rw [if_pos h, tw_stt_m _ (σ false 27 0) 4 (by rw [if_pos h])]; rfl
  · rw [if_neg h, tw_stt_m _ (σ false 27 0) 0 (by rw [if_neg h])]; rfl
theorem tw_m_trap_0_5 (v : Int32) (σ : tw_S) : g_Mo_trap_0_5 v σ = some (none, tw_pt (tw_trm false (5) v σ) false 31 2 (σ false 31 2 + 1)) := by
  unfold g_Mo_trap_0_5 tw_trm
  by_cases h : σ false 27 0 = 0
  · rw [if_pos h, tw_stt_m _ (σ false 27 0) 4 (by rw [if_pos h])]; rfl
  · rw [if_neg h, tw_stt_m _ (σ false 27 0) 0 (by rw [if_neg h])]; rfl
theorem tw_m_trap_0_7 (v : Int32) (σ : tw_S) : g_Mo_trap_0_7 v σ = some (none, tw_pt (tw_trm false (7) v σ) false 31 2 (σ false 31 2 + 1)) := by
  unfold g_Mo_trap_0_7 tw_trm
  by_cases h : σ false 27 0 = 0
  · rw [if_pos h, tw_stt_m _ (σ false 27 0) 4 (by rw [if_pos h])]; rfl
  · rw [if_neg h, tw_stt_m _ (σ false 27 0) 0 (by rw [if_neg h])]; rfl
theorem tw_m_trap_0_12 (v : Int32) (σ : tw_S) : g_Mo_trap_0_12 v σ = some (none, tw_pt (tw_trm false (12) v σ) false 31 2 (σ false 31 2 + 1)) := by
  unfold g_Mo_trap_0_12 tw_trm
  by_cases h : σ false 27 0 = 0
  · rw [if_pos h, tw_stt_m _ (σ false 27 0) 4 (by rw [if_pos h])]; rfl
  · rw [if_neg h, tw_stt_m _ (σ false 27 0) 0 (by rw [if_neg h])]; rfl
theorem tw_m_trap_0_13 (v : Int32) (σ : tw_S) : g_Mo_trap_0_13 v σ = some (none, tw_pt (tw_trm false (13) v σ) false 31 2 (σ false 31 2 + 1)) := by
  unfold g_Mo_trap_0_13 tw_trm
  by_cases h : σ false 27 0 = 0
  · rw [if_pos h, tw_stt_m _ (σ false 27 0) 4 (by rw [if_pos h])]; rfl
  · rw [if_neg h, tw_stt_m _ (σ false 27 0) 0 (by rw [if_neg h])]; rfl
theorem tw_m_trap_0_15 (v : Int32) (σ : tw_S) : g_Mo_trap_0_15 v σ = some (none, tw_pt (tw_trm false (15) v σ) false 31 2 (σ false 31 2 + 1)) := by
  unfold g_Mo_trap_0_15 tw_trm
  by_cases h : σ false 27 0 = 0
  · rw [if_pos h, tw_stt_m _ (σ false 27 0) 4 (by rw [if_pos h])]; rfl
  · rw [if_neg h, tw_stt_m _ (σ false 27 0) 0 (by rw [if_neg h])]; rfl
theorem tw_m_trap_0_2 (v : Int32) (σ : tw_S) : g_Mo_trap_0_2 v σ = some (none, tw_trm false (2) v σ) := by
  unfold g_Mo_trap_0_2 tw_trm
  by_cases h : σ false 27 0 = 0
  · rw [if_pos h, tw_stt_m _ (σ false 27 0) 4 (by rw [if_pos h])]; rfl
  · rw [if_neg h, tw_stt_m _ (σ false 27 0) 0 (by rw [if_neg h])]; rfl
theorem tw_m_trap_0_3 (v : Int32) (σ : tw_S) : g_Mo_trap_0_3 v σ = some (none, tw_trm false (3) v σ) := by
  unfold g_Mo_trap_0_3 tw_trm
  by_cases h : σ false 27 0 = 0
  · rw [if_pos h, tw_stt_m _ (σ false 27 0) 4 (by rw [if_pos h])]; rfl
  · rw [if_neg h, tw_stt_m _ (σ false 27 0) 0 (by rw [if_neg h])]; rfl
theorem tw_m_trap_0_8 (v : Int32) (σ : tw_S) : g_Mo_trap_0_8 v σ = some (none, tw_trm false (8) v σ) := by
  unfold g_Mo_trap_0_8 tw_trm
  by_cases h : σ false 27 0 = 0
  · rw [if_pos h, tw_stt_m _ (σ false 27 0) 4 (by rw [if_pos h])]; rfl
  · rw [if_neg h, tw_stt_m _ (σ false 27 0) 0 (by rw [if_neg h])]; rfl
theorem tw_m_trap_0_9 (v : Int32) (σ : tw_S) : g_Mo_trap_0_9 v σ = some (none, tw_trm false (9) v σ) := by
  unfold g_Mo_trap_0_9 tw_trm
  by_cases h : σ false 27 0 = 0
  · rw [if_pos h, tw_stt_m _ (σ false 27 0) 4 (by rw [if_pos h])]; rfl
  · rw [if_neg h, tw_stt_m _ (σ false 27 0) 0 (by rw [if_neg h])]; rfl
theorem tw_m_trap_0_m2147483643 (v : Int32) (σ : tw_S) : g_Mo_trap_0_m2147483643 v σ = some (none, tw_trm false (-2147483643) v σ) := by
  unfold g_Mo_trap_0_m2147483643 tw_trm
  by_cases h : σ false 27 0 = 0
  · rw [if_pos h, tw_stt_m _ (σ false 27 0) 4 (by rw [if_pos h])]; rfl
  · rw [if_neg h, tw_stt_m _ (σ false 27 0) 0 (by rw [if_neg h])]; rfl
theorem tw_m_trap_0_m2147483639 (v : Int32) (σ : tw_S) : g_Mo_trap_0_m2147483639 v σ = some (none, tw_trm false (-2147483639) v σ) := by
  unfold g_Mo_trap_0_m2147483639 tw_trm
  by_cases h : σ false 27 0 = 0
  · rw [if_pos h, tw_stt_m _ (σ false 27 0) 4 (by rw [if_pos h])]; rfl
  · rw [if_neg h, tw_stt_m _ (σ false 27 0) 0 (by rw [if_neg h])]; rfl
theorem tw_m_trap_1_1 (v : Int32) (σ : tw_S) : g_Mo_trap_1_1 v σ = some (none, tw_pt (tw_trm true (1) v σ) false 31 11 (σ false 31 11 + 1)) := by
  unfold g_Mo_trap_1_1 tw_trm
  by_cases h : σ false 27 1 = 0
  · rw [if_pos h, tw_stt_m _ (σ false 27 1) 4 (by rw [if_pos h])]; rfl
  · rw [if_neg h, tw_stt_m _ (σ false 27 1) 0 (by rw [if_neg h])]; rfl
theorem tw_m_trap_1_5 (v : Int32) (σ : tw_S) : g_Mo_trap_1_5 v σ = some (none, tw_pt (tw_trm true (5) v σ) false 31 11 (σ false 31 11 + 1)) := by
  unfold g_Mo_trap_1_5 tw_trm
  by_cases h : σ false 27 1 = 0
  · rw [if_pos h, tw_stt_m _ (σ false 27 1) 4 (by rw [if_pos h])]; rfl
  · rw [if_neg h, tw_stt_m _ (σ false 27 1) 0 (by rw [if_neg h])]; rfl
theorem tw_m_trap_1_7 (v : Int32) (σ : tw_S) : g_Mo_trap_1_7 v σ = some (none, tw_pt (tw_trm true (7) v σ) false 31 11 (σ false 31 11 + 1)) := by
  unfold g_Mo_trap_1_7 tw_trm
  by_cases h : σ false 27 1 = 0
  · rw [if_pos h, tw_stt_m _ (σ false 27 1) 4 (by rw [if_pos h])]; rfl
  · rw [if_neg h, tw_stt_m _ (σ false 27 1) 0 (by rw [if_neg h])]; rfl
theorem tw_m_trap_1_12 (v : Int32) (σ : tw_S) : g_Mo_trap_1_12 v σ = some (none, tw_pt (tw_trm true (12) v σ) false 31 11 (σ false 31 11 + 1)) := by
  unfold g_Mo_trap_1_12 tw_trm
  by_cases h : σ false 27 1 = 0
  · rw [if_pos h, tw_stt_m _ (σ false 27 1) 4 (by rw [if_pos h])]; rfl
  · rw [if_neg h, tw_stt_m _ (σ false 27 1) 0 (by rw [if_neg h])]; rfl
theorem tw_m_trap_1_13 (v : Int32) (σ : tw_S) : g_Mo_trap_1_13 v σ = some (none, tw_pt (tw_trm true (13) v σ) false 31 11 (σ false 31 11 + 1)) := by
  unfold g_Mo_trap_1_13 tw_trm
  by_cases h : σ false 27 1 = 0
  · rw [if_pos h, tw_stt_m _ (σ false 27 1) 4 (by rw [if_pos h])]; rfl
  · rw [if_neg h, tw_stt_m _ (σ false 27 1) 0 (by rw [if_neg h])]; rfl
theorem tw_m_trap_1_15 (v : Int32) (σ : tw_S) : g_Mo_trap_1_15 v σ = some (none, tw_pt (tw_trm true (15) v σ) false 31 11 (σ false 31 11 + 1)) := by
  unfold g_Mo_trap_1_15 tw_trm
  by_cases h : σ false 27 1 = 0
  · rw [if_pos h, tw_stt_m _ (σ false 27 1) 4 (by rw [if_pos h])]; rfl
  · rw [if_neg h, tw_stt_m _ (σ false 27 1) 0 (by rw [if_neg h])]; rfl
theorem tw_m_trap_1_2 (v : Int32) (σ : tw_S) : g_Mo_trap_1_2 v σ = some (none, tw_trm true (2) v σ) := by
  unfold g_Mo_trap_1_2 tw_trm
  by_cases h : σ false 27 1 = 0
  · rw [if_pos h, tw_stt_m _ (σ false 27 1) 4 (by rw [if_pos h])]; rfl
  · rw [if_neg h, tw_stt_m _ (σ false 27 1) 0 (by rw [if_neg h])]; rfl
theorem tw_m_trap_1_3 (v : Int32) (σ : tw_S) : g_Mo_trap_1_3 v σ = some (none, tw_trm true (3) v σ) := by
  unfold g_Mo_trap_1_3 tw_trm
  by_cases h : σ false 27 1 = 0
  · rw [if_pos h, tw_stt_m _ (σ false 27 1) 4 (by rw [if_pos h])]; rfl
  · rw [if_neg h, tw_stt_m _ (σ false 27 1) 0 (by rw [if_neg h])]; rfl
theorem tw_m_trap_1_8 (v : Int32) (σ : tw_S) : g_Mo_trap_1_8 v σ = some (none, tw_trm true (8) v σ) := by
  unfold g_Mo_trap_1_8 tw_trm
  by_cases h : σ false 27 1 = 0
  · rw [if_pos h, tw_stt_m _ (σ false 27 1) 4 (by rw [if_pos h])]; rfl
  · rw [if_neg h, tw_stt_m _ (σ false 27 1) 0 (by rw [if_neg h])]; rfl
theorem tw_m_trap_1_9 (v : Int32) (σ : tw_S) : g_Mo_trap_1_9 v σ = some (none, tw_trm true (9) v σ) := by
  unfold g_Mo_trap_1_9 tw_trm
  by_cases h : σ false 27 1 = 0
  · rw [if_pos h, tw_stt_m _ (σ false 27 1) 4 (by rw [if_pos h])]; rfl
  · rw [if_neg h, tw_stt_m _ (σ false 27 1) 0 (by rw [if_neg h])]; rfl
theorem tw_m_trap_1_m2147483643 (v : Int32) (σ : tw_S) : g_Mo_trap_1_m2147483643 v σ = some (none, tw_trm true (-2147483643) v σ) := by
  unfold g_Mo_trap_1_m2147483643 tw_trm
  by_cases h : σ false 27 1 = 0
  · rw [if_pos h, tw_stt_m _ (σ false 27 1) 4 (by rw [if_pos h])]; rfl
  · rw [if_neg h, tw_stt_m _ (σ false 27 1) 0 (by rw [if_neg h])]; rfl
theorem tw_m_trap_1_m2147483639 (v : Int32) (σ : tw_S) : g_Mo_trap_1_m2147483639 v σ = some (none, tw_trm true (-2147483639) v σ) := by
  unfold g_Mo_trap_1_m2147483639 tw_trm
  by_cases h : σ false 27 1 = 0
  · rw [if_pos h, tw_stt_m _ (σ false 27 1) 4 (by rw [if_pos h])]; rfl
  · rw [if_neg h, tw_stt_m _ (σ false 27 1) 0 (by rw [if_neg h])]; rfl
