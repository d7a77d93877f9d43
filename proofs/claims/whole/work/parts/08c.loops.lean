/-! clear and flush. -/
/-- the entries from i on are gone -/
def tw_clrI (c lo hi : Nat) (g : Bool) (σ : tw_S) : tw_S := fun g' c' j => if g' = g ∧ c' = c ∧ lo ≤ j ∧ j < hi then -1 else σ g' c' j
theorem tw_clrI_0 (c hi : Nat) (g : Bool) (σ : tw_S) : tw_clrI c hi hi g σ = σ := tw_ext fun g' c' j => if_neg (fun z => by omega)
theorem tw_clrI_s {c lo hi : Nat} (g : Bool) (σ : tw_S) (h : lo < hi) : tw_clrI c (lo + 1) hi g (tw_pt σ g c lo (-1)) = tw_clrI c lo hi g σ := tw_ext fun g' c' j => by
  show (if g' = g ∧ c' = c ∧ lo + 1 ≤ j ∧ j < hi then -1 else tw_pt σ g c lo (-1) g' c' j) = (if g' = g ∧ c' = c ∧ lo ≤ j ∧ j < hi then -1 else σ g' c' j)
  rw [tw_pt_eq]
  by_cases h1 : g' = g ∧ c' = c ∧ lo + 1 ≤ j ∧ j < hi
  · rw [if_pos h1, if_pos ⟨h1.1, h1.2.1, by omega, h1.2.2.2⟩]
  · rw [if_neg h1]
    by_cases h2 : g' = g ∧ c' = c ∧ j = lo
    · rw [if_pos h2, if_pos ⟨h2.1, h2.2.1, by omega, by omega⟩]
    · rw [if_neg h2, if_neg (fun z => by
        by_cases e : j = lo
        · exact h2 ⟨z.1, z.2.1, e⟩
        · exact h1 ⟨z.1, z.2.1, by omega, z.2.2.2⟩)]
theorem tw_c_clear (g : Bool) : ∀ (m i k : Nat) (σ : tw_S), i + m = 16 → m < k → l_Sh_clear k g (nI i) σ = some (none, tw_clrI 10 i 16 g σ)
  | 0, i, k + 1, σ, h, _ => by
    have hi : i = 16 := by omega
    subst hi
    unfold l_Sh_clear
    rw [if_pos (by decide), tw_clrI_0]
  | m + 1, i, k + 1, σ, h, hk => by
    unfold l_Sh_clear
    rw [if_neg (show ¬ (16 : Int32) ≤ nI i from nI_ge (a := i) (b := 16) (by omega) (by decide)), if_neg (nI_in (by omega) (by decide)), nI_clamp (by omega), nI_1, tw_c_clear g m (i + 1) k _ (by omega) (by omega), tw_clrI_s g σ (by omega)]
theorem tw_c_flush (g : Bool) (σ : tw_S) : g_Gu_flush g σ = some (none, tw_pt (tw_clrI 10 0 16 g σ) g 3 5 (σ g 3 5 + 1)) := by
  unfold g_Gu_flush g_Sh_clear
  rw [show (0 : Int32) = nI 0 from rfl, tw_c_clear g 16 0 17 σ rfl (by decide)]
  show some (none, tw_pt (tw_clrI 10 0 16 g σ) g 3 5 (tw_clrI 10 0 16 g σ g 3 5 + 1)) = _
  rw [show tw_clrI 10 0 16 g σ g 3 5 = σ g 3 5 from if_neg (fun z => absurd z.2.1 (by decide))]
theorem tw_m_clear_0 : ∀ (m i k : Nat) (σ : tw_S), i + m = 16 → 0 ≤ i → m < k → l_Mo_flush_0 k (nI i) σ = some (none, tw_pt (tw_clrI 32 i 16 false σ) false 31 5 (σ false 31 5 + 1))
  | 0, i, k + 1, σ, h, h0, _ => by
    have hi : i = 16 := by omega
    subst hi
    unfold l_Mo_flush_0
    rw [if_pos (by decide), tw_clrI_0]
  | m + 1, i, k + 1, σ, h, h0, hk => by
    unfold l_Mo_flush_0
    rw [show ((16 : Int32) * 0 + 16) = nI 16 from by decide, if_neg (nI_ge (a := i) (b := 16) (by omega) (by decide)), if_neg (nI_in (by omega) (by decide)), nI_clamp (by omega), nI_1, tw_m_clear_0 m (i + 1) k _ (by omega) (by omega) (by omega), tw_clrI_s false σ (by omega), tw_pt_n _ _ (fun z => absurd z.2.1 (by decide))]
theorem tw_m_flush_0 (σ : tw_S) : g_Mo_flush_0 σ = some (none, tw_pt (tw_clrI 32 0 16 false σ) false 31 5 (σ false 31 5 + 1)) := by
  unfold g_Mo_flush_0
  rw [show ((16 : Int32) * 0) = nI 0 from by decide, tw_m_clear_0 16 0 17 σ (by decide) (by decide) (by decide)]
theorem tw_m_clear_1 : ∀ (m i k : Nat) (σ : tw_S), i + m = 32 → 16 ≤ i → m < k → l_Mo_flush_1 k (nI i) σ = some (none, tw_pt (tw_clrI 32 i 32 false σ) false 31 14 (σ false 31 14 + 1))
  | 0, i, k + 1, σ, h, h0, _ => by
    have hi : i = 32 := by omega
    subst hi
    unfold l_Mo_flush_1
    rw [if_pos (by decide), tw_clrI_0]
  | m + 1, i, k + 1, σ, h, h0, hk => by
    unfold l_Mo_flush_1
    rw [show ((16 : Int32) * 1 + 16) = nI 32 from by decide, if_neg (nI_ge (a := i) (b := 32) (by omega) (by decide)), if_neg (nI_in (by omega) (by decide)), nI_clamp (by omega), nI_1, tw_m_clear_1 m (i + 1) k _ (by omega) (by omega) (by omega), tw_clrI_s false σ (by omega), tw_pt_n _ _ (fun z => absurd z.2.1 (by decide))]
theorem tw_m_flush_1 (σ : tw_S) : g_Mo_flush_1 σ = some (none, tw_pt (tw_clrI 32 16 32 false σ) false 31 14 (σ false 31 14 + 1)) := by
  unfold g_Mo_flush_1
  rw [show ((16 : Int32) * 1) = nI 16 from by decide, tw_m_clear_1 16 16 17 σ (by decide) (by decide) (by decide)]
/-- all entries of a guest gone, on both sides -/
theorem tw_r_clr {d : tw_Dt} {σc σm : tw_S} (h : tw_Rel d σc σm) (g : Bool) : tw_Rel d (tw_clrI 10 0 16 g σc) (tw_clrI 32 (16 * tw_b g) (16 * tw_b g + 16) false σm) := by
  refine ⟨fun g' c j q hq => ?_, fun g' => tw_R2_on (h.2.1 g') (fun c j hp => ?_) (fun c j hp => ?_), ?_⟩
  · show (if g' = g ∧ c = 10 ∧ 0 ≤ j ∧ j < 16 then -1 else σc g' c j) = (if false = false ∧ q.1 = 32 ∧ 16 * tw_b g ≤ q.2 ∧ q.2 < 16 * tw_b g + 16 then -1 else σm false q.1 q.2)
    by_cases e : g' = g ∧ c = 10 ∧ 0 ≤ j ∧ j < 16
    · obtain ⟨rfl, rfl, -, hj⟩ := e
      rw [tw_m10 g' hj] at hq
      cases hq
      rw [if_pos ⟨rfl, rfl, Nat.zero_le _, hj⟩, if_pos ⟨rfl, rfl, by omega, by omega⟩]
    · rw [if_neg e, if_neg (fun z => ?_)]
      · exact h.1 g' c j q hq
      · obtain ⟨a1, a2, a3, a4, a5⟩ := tw_m_spec hq
        rw [z.2.1] at a1 a2 a3 a4 a5
        have a1 : (10, 16, 16, 0) = (c, (tw_U c j).2) := a1
        have a4 : j < 0 + 16 := a4
        have a5 : q.2 = 16 * tw_b g' + (j - 0) := a5
        have hc : c = 10 := (congrArg Prod.fst a1).symm
        refine e ⟨tw_b_inj ?_, hc, Nat.zero_le _, by omega⟩
        have h1 := tw_b_lt g
        have h2 := tw_b_lt g'
        omega
  · exact if_neg (fun z => by rw [z.2.1] at hp; exact absurd hp Bool.false_ne_true)
  · exact if_neg (fun z => by rw [z.2.1] at hp; exact absurd hp Bool.false_ne_true)
  · have k1 : ∀ j, tw_clrI 10 0 16 g σc false 20 j = σc false 20 j := fun j => if_neg (fun z => absurd z.2.1 (by decide))
    have k2 : ∀ j, tw_clrI 32 (16 * tw_b g) (16 * tw_b g + 16) false σm false 22 j = σm false 22 j := fun j => if_neg (fun z => absurd z.2.1 (by decide))
    unfold tw_R3
    rw [k1, k1, k1, k2, k2, k2]
    exact h.2.2
theorem tw_bne {a b : Nat} (h : ¬ a = b) : Nat.beq a b = false := by
  cases e : Nat.beq a b with
  | false => rfl
  | true => exact absurd (Nat.eq_of_beq_eq_true e) h
/-- a count on both sides -/
theorem tw_r_cnt {d : tw_Dt} {σc σm : tw_S} (h : tw_Rel d σc σm) (g : Bool) {j : Nat} (hj : j < 8) (x : Int32) : tw_Rel d (tw_pt σc g 3 j x) (tw_pt σm false 31 (9 * tw_b g + j) x) := by
  refine tw_Rel_pt h (tw_m3 g hj) ?_ ?_ (by decide) (by decide) x
  · show Nat.beq j 8 = false
    exact tw_bne (by omega)
  · have hb := tw_b_lt g
    show (Nat.beq (9 * tw_b g + j) 8 || Nat.beq (9 * tw_b g + j) 17) = false
    rw [tw_bne (by omega), tw_bne (by omega)]
    rfl
theorem tw_Rel_3 {d : tw_Dt} {σc σm : tw_S} (h : tw_Rel d σc σm) (g : Bool) {j : Nat} (hj : j < 8) : σm false 31 (9 * tw_b g + j) = σc g 3 j := (h.1 g 3 j _ (tw_m3 g hj)).symm
theorem tw_clr_coh (σ : tw_S) (g : Bool) : tw_Coh (tw_clrI 10 0 16 g σ) g := fun v hv => Or.inl (if_pos ⟨rfl, rfl, Nat.zero_le _, hv⟩)
theorem tw_clr_coh2 {σ : tw_S} {g g' : Bool} (h : tw_Coh σ g') : tw_Coh (tw_clrI 10 0 16 g σ) g' := by
  by_cases e : g' = g
  · rw [e]; exact tw_clr_coh σ g
  · have key : ∀ c j, tw_clrI 10 0 16 g σ g' c j = σ g' c j := fun c j => if_neg (fun z => e z.1)
    exact tw_Coh_on h (key 5 6) (fun i _ => Or.inl (key 1 i)) (fun v _ => ⟨key 10 v, key 11 v, key 12 v, key 13 v⟩)
