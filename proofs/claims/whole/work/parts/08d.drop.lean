/-! drop and traced. -/
/-- the entries from lo on whose words are p are gone -/
def tw_drp (p : Int32) (lo : Nat) (g : Bool) (σ : tw_S) : tw_S := fun g' c j => if g' = g ∧ c = 10 ∧ lo ≤ j ∧ j < 16 ∧ (¬ σ g 10 j = -1 ∧ (σ g 12 j = p ∨ σ g 13 j = p)) then -1 else σ g' c j
theorem tw_drp_0 (p : Int32) (g : Bool) (σ : tw_S) : tw_drp p 16 g σ = σ := tw_ext fun g' c j => if_neg (fun z => by omega)
theorem tw_drp_no {p : Int32} {i : Nat} {g : Bool} {σ : tw_S} (h : ¬ (¬ σ g 10 i = -1 ∧ (σ g 12 i = p ∨ σ g 13 i = p))) : tw_drp p (i + 1) g σ = tw_drp p i g σ := tw_ext fun g' c j => by
  show (if g' = g ∧ c = 10 ∧ i + 1 ≤ j ∧ j < 16 ∧ (¬ σ g 10 j = -1 ∧ (σ g 12 j = p ∨ σ g 13 j = p)) then -1 else σ g' c j) = (if g' = g ∧ c = 10 ∧ i ≤ j ∧ j < 16 ∧ (¬ σ g 10 j = -1 ∧ (σ g 12 j = p ∨ σ g 13 j = p)) then -1 else σ g' c j)
  by_cases e : g' = g ∧ c = 10 ∧ i ≤ j ∧ j < 16 ∧ (¬ σ g 10 j = -1 ∧ (σ g 12 j = p ∨ σ g 13 j = p))
  · obtain ⟨e1, e2, e3, e4, e5⟩ := e
    have : ¬ j = i := fun z => h (by rw [← z]; exact e5)
    rw [if_pos ⟨e1, e2, by omega, e4, e5⟩, if_pos ⟨e1, e2, e3, e4, e5⟩]
  · rw [if_neg e, if_neg (fun z => e ⟨z.1, z.2.1, by omega, z.2.2.2⟩)]
theorem tw_drp_yes {p : Int32} {i : Nat} {g : Bool} {σ : tw_S} (hi : i < 16) (h : ¬ σ g 10 i = -1 ∧ (σ g 12 i = p ∨ σ g 13 i = p)) : tw_drp p (i + 1) g (tw_pt σ g 10 i (-1)) = tw_drp p i g σ := tw_ext fun g' c j => by
  have k12 : tw_pt σ g 10 i (-1) g 12 j = σ g 12 j := tw_pt_n _ _ (fun z => absurd z.2.1 (by decide))
  have k13 : tw_pt σ g 10 i (-1) g 13 j = σ g 13 j := tw_pt_n _ _ (fun z => absurd z.2.1 (by decide))
  show (if g' = g ∧ c = 10 ∧ i + 1 ≤ j ∧ j < 16 ∧ (¬ tw_pt σ g 10 i (-1) g 10 j = -1 ∧ (tw_pt σ g 10 i (-1) g 12 j = p ∨ tw_pt σ g 10 i (-1) g 13 j = p)) then -1 else tw_pt σ g 10 i (-1) g' c j) = (if g' = g ∧ c = 10 ∧ i ≤ j ∧ j < 16 ∧ (¬ σ g 10 j = -1 ∧ (σ g 12 j = p ∨ σ g 13 j = p)) then -1 else σ g' c j)
  rw [k12, k13]
  by_cases ej : j = i
  · subst ej
    rw [if_neg (fun z => by omega)]
    by_cases e : g' = g ∧ c = 10
    · obtain ⟨rfl, rfl⟩ := e
      rw [tw_pt_s, if_pos ⟨rfl, rfl, Nat.le_refl _, hi, h⟩]
    · rw [tw_pt_n _ _ (fun z => e ⟨z.1, z.2.1⟩), if_neg (fun z => e ⟨z.1, z.2.1⟩)]
  · have k10 : tw_pt σ g 10 i (-1) g 10 j = σ g 10 j := tw_pt_n _ _ (fun z => ej z.2.2)
    rw [k10, tw_pt_n (g' := g') (c' := c) (j' := j) _ _ (fun z => ej z.2.2)]
    by_cases e : g' = g ∧ c = 10 ∧ i ≤ j ∧ j < 16 ∧ (¬ σ g 10 j = -1 ∧ (σ g 12 j = p ∨ σ g 13 j = p))
    · rw [if_pos e, if_pos ⟨e.1, e.2.1, by omega, e.2.2.2⟩]
    · rw [if_neg e, if_neg (fun z => e ⟨z.1, z.2.1, by omega, z.2.2.2⟩)]
theorem tw_pg_lt {x : Int32} (h : x = -1 ∨ 0 ≤ x) : x < 0 ↔ x = -1 := by
  constructor
  · intro hx
    rcases h with h | h
    · exact h
    · exact absurd hx (Int32.not_lt.mpr h)
  · intro hx
    rw [hx]
    decide
theorem tw_p_drop_0 {d : tw_Dt} (p c0 : Int32) : ∀ (m i k : Nat) (cnt : Int32) (σc σm : tw_S), i + m = 16 → m < k → tw_Rel d (tw_pt σc false 3 4 (c0 + cnt)) σm → (∀ v, v < 16 → σc false 10 v = -1 ∨ 0 ≤ σc false 10 v) → ∃ (cnt' : Int32) (σm' : tw_S), l_Sh_dropThoseOf k false p cnt (nI i) σc = some (some (.inl cnt'), tw_drp p i false σc) ∧ l_Mo_drop_0 k p (nI (0 + i)) σm = some (none, σm') ∧ tw_Rel d (tw_pt (tw_drp p i false σc) false 3 4 (c0 + cnt')) σm'
  | 0, i, k + 1, cnt, σc, σm, h, _, hR, _ => by
    have hi : i = 16 := by omega
    subst hi
    refine ⟨cnt, σm, ?_, ?_, ?_⟩
    · unfold l_Sh_dropThoseOf
      rw [if_pos (by decide), tw_drp_0]
    · unfold l_Mo_drop_0
      rw [if_pos (by decide)]
    · rw [tw_drp_0]; exact hR
  | m + 1, i, k + 1, cnt, σc, σm, h, hk, hR, hpg => by
    have hi : i < 16 := by omega
    have n10 : ∀ (c : Nat) (j : Nat), ¬ c = 3 → tw_pt σc false 3 4 (c0 + cnt) false c j = σc false c j := fun c j hc => tw_pt_n _ _ (fun z => hc z.2.1)
    have r10 : σm false 32 (0 + i) = σc false 10 i := by rw [← n10 10 i (by decide)]; exact (hR.1 false 10 i _ (tw_m10 false hi)).symm
    have r12 : σm false 35 (0 + i) = σc false 12 i := by rw [← n10 12 i (by decide)]; exact (hR.1 false 12 i _ (tw_m12 false hi)).symm
    have r13 : σm false 36 (0 + i) = σc false 13 i := by rw [← n10 13 i (by decide)]; exact (hR.1 false 13 i _ (tw_m13 false hi)).symm
    have r3 : σm false 31 4 = c0 + cnt := by
      have := tw_Rel_3 hR false (j := 4) (by decide)
      rw [tw_pt_s] at this
      exact this
    have hit : (¬ σc false 10 i = -1 ∧ (σc false 12 i = p ∨ σc false 13 i = p)) → ∃ (cnt' : Int32) (σm' : tw_S), l_Sh_dropThoseOf k false p (cnt + 1) (nI (i + 1)) (tw_pt σc false 10 i (-1)) = some (some (.inl cnt'), tw_drp p i false σc) ∧ l_Mo_drop_0 k p (nI (0 + i + 1)) (tw_pt (tw_pt σm false 32 (0 + i) (-1)) false 31 4 (σm false 31 4 + 1)) = some (none, σm') ∧ tw_Rel d (tw_pt (tw_drp p i false σc) false 3 4 (c0 + cnt')) σm' := by
      intro hh
      have hR2 : tw_Rel d (tw_pt (tw_pt σc false 10 i (-1)) false 3 4 (c0 + (cnt + 1))) (tw_pt (tw_pt σm false 32 (0 + i) (-1)) false 31 4 (σm false 31 4 + 1)) := by
        have h1 := tw_r_cnt (tw_Rel_pt hR (tw_m10 false hi) rfl rfl (by decide) (by decide) (-1)) false (j := 4) (by decide) (c0 + cnt + 1)
        have e1 : tw_pt (tw_pt (tw_pt σc false 3 4 (c0 + cnt)) false 10 i (-1)) false 3 4 (c0 + cnt + 1) = tw_pt (tw_pt σc false 10 i (-1)) false 3 4 (c0 + (cnt + 1)) := tw_ext fun g' c j => by
          rw [Int32.add_assoc]
          simp only [tw_pt_eq]
          by_cases e : g' = false ∧ c = 3 ∧ j = 4
          · rw [if_pos e, if_pos e]
          · rw [if_neg e, if_neg e, if_neg e]
        rw [e1] at h1
        rw [r3]
        exact h1
      obtain ⟨cnt', σm', a1, a2, a3⟩ := tw_p_drop_0 p c0 m (i + 1) k (cnt + 1) (tw_pt σc false 10 i (-1)) _ (by omega) (by omega) hR2 (fun v hv => by
        rw [tw_pt_eq]
        by_cases e : false = false ∧ (10 : Nat) = 10 ∧ v = i
        · rw [if_pos e]; exact Or.inl rfl
        · rw [if_neg e]; exact hpg v hv)
      rw [tw_drp_yes hi hh] at a1 a3
      exact ⟨cnt', σm', a1, a2, a3⟩
    have miss : ¬ (¬ σc false 10 i = -1 ∧ (σc false 12 i = p ∨ σc false 13 i = p)) → ∃ (cnt' : Int32) (σm' : tw_S), l_Sh_dropThoseOf k false p cnt (nI (i + 1)) σc = some (some (.inl cnt'), tw_drp p i false σc) ∧ l_Mo_drop_0 k p (nI (0 + i + 1)) σm = some (none, σm') ∧ tw_Rel d (tw_pt (tw_drp p i false σc) false 3 4 (c0 + cnt')) σm' := by
      intro hh
      obtain ⟨cnt', σm', a1, a2, a3⟩ := tw_p_drop_0 p c0 m (i + 1) k cnt σc σm (by omega) (by omega) hR hpg
      rw [tw_drp_no hh] at a1 a3
      exact ⟨cnt', σm', a1, a2, a3⟩
    have u1 : ∀ (X : Prop), (X → ¬ (16 : Int32) ≤ nI i) → True := fun _ _ => trivial
    unfold l_Sh_dropThoseOf l_Mo_drop_0
    rw [show ((16 : Int32) * 0 + 16) = nI 16 from by decide, if_neg (show ¬ (16 : Int32) ≤ nI i from nI_ge (a := i) (b := 16) hi (by decide)), if_neg (nI_ge (a := 0 + i) (b := 16) (by omega) (by decide)), if_neg (nI_in hi (by decide)), if_neg (nI_in (c := 0 + i) (by omega) (by decide)), nI_clamp (n := i) (by omega), nI_clamp (n := 0 + i) (by omega), nI_1, nI_1, r10, r12, r13]
    by_cases h1 : σc false 10 i = -1
    · rw [if_pos h1, if_pos ((tw_pg_lt (hpg i hi)).mpr h1)]
      exact miss (fun z => z.1 h1)
    · rw [if_neg h1, if_neg (fun z => h1 ((tw_pg_lt (hpg i hi)).mp z))]
      by_cases h2 : σc false 12 i = p
      · rw [if_pos h2, if_pos h2]
        exact hit ⟨h1, Or.inl h2⟩
      · rw [if_neg h2, if_neg h2]
        by_cases h3 : σc false 13 i = p
        · rw [if_pos h3, if_pos h3]
          exact hit ⟨h1, Or.inr h3⟩
        · rw [if_neg h3, if_neg h3]
          exact miss (fun z => z.2.elim h2 h3)
theorem tw_p_drop_1 {d : tw_Dt} (p c0 : Int32) : ∀ (m i k : Nat) (cnt : Int32) (σc σm : tw_S), i + m = 16 → m < k → tw_Rel d (tw_pt σc true 3 4 (c0 + cnt)) σm → (∀ v, v < 16 → σc true 10 v = -1 ∨ 0 ≤ σc true 10 v) → ∃ (cnt' : Int32) (σm' : tw_S), l_Sh_dropThoseOf k true p cnt (nI i) σc = some (some (.inl cnt'), tw_drp p i true σc) ∧ l_Mo_drop_1 k p (nI (16 + i)) σm = some (none, σm') ∧ tw_Rel d (tw_pt (tw_drp p i true σc) true 3 4 (c0 + cnt')) σm'
  | 0, i, k + 1, cnt, σc, σm, h, _, hR, _ => by
    have hi : i = 16 := by omega
    subst hi
    refine ⟨cnt, σm, ?_, ?_, ?_⟩
    · unfold l_Sh_dropThoseOf
      rw [if_pos (by decide), tw_drp_0]
    · unfold l_Mo_drop_1
      rw [if_pos (by decide)]
    · rw [tw_drp_0]; exact hR
  | m + 1, i, k + 1, cnt, σc, σm, h, hk, hR, hpg => by
    have hi : i < 16 := by omega
    have n10 : ∀ (c : Nat) (j : Nat), ¬ c = 3 → tw_pt σc true 3 4 (c0 + cnt) true c j = σc true c j := fun c j hc => tw_pt_n _ _ (fun z => hc z.2.1)
    have r10 : σm false 32 (16 + i) = σc true 10 i := by rw [← n10 10 i (by decide)]; exact (hR.1 true 10 i _ (tw_m10 true hi)).symm
    have r12 : σm false 35 (16 + i) = σc true 12 i := by rw [← n10 12 i (by decide)]; exact (hR.1 true 12 i _ (tw_m12 true hi)).symm
    have r13 : σm false 36 (16 + i) = σc true 13 i := by rw [← n10 13 i (by decide)]; exact (hR.1 true 13 i _ (tw_m13 true hi)).symm
    have r3 : σm false 31 13 = c0 + cnt := by
      have := tw_Rel_3 hR true (j := 4) (by decide)
      rw [tw_pt_s] at this
      exact this
    have hit : (¬ σc true 10 i = -1 ∧ (σc true 12 i = p ∨ σc true 13 i = p)) → ∃ (cnt' : Int32) (σm' : tw_S), l_Sh_dropThoseOf k true p (cnt + 1) (nI (i + 1)) (tw_pt σc true 10 i (-1)) = some (some (.inl cnt'), tw_drp p i true σc) ∧ l_Mo_drop_1 k p (nI (16 + i + 1)) (tw_pt (tw_pt σm false 32 (16 + i) (-1)) false 31 13 (σm false 31 13 + 1)) = some (none, σm') ∧ tw_Rel d (tw_pt (tw_drp p i true σc) true 3 4 (c0 + cnt')) σm' := by
      intro hh
      have hR2 : tw_Rel d (tw_pt (tw_pt σc true 10 i (-1)) true 3 4 (c0 + (cnt + 1))) (tw_pt (tw_pt σm false 32 (16 + i) (-1)) false 31 13 (σm false 31 13 + 1)) := by
        have h1 := tw_r_cnt (tw_Rel_pt hR (tw_m10 true hi) rfl rfl (by decide) (by decide) (-1)) true (j := 4) (by decide) (c0 + cnt + 1)
        have e1 : tw_pt (tw_pt (tw_pt σc true 3 4 (c0 + cnt)) true 10 i (-1)) true 3 4 (c0 + cnt + 1) = tw_pt (tw_pt σc true 10 i (-1)) true 3 4 (c0 + (cnt + 1)) := tw_ext fun g' c j => by
          rw [Int32.add_assoc]
          simp only [tw_pt_eq]
          by_cases e : g' = true ∧ c = 3 ∧ j = 4
          · rw [if_pos e, if_pos e]
          · rw [if_neg e, if_neg e, if_neg e]
        rw [e1] at h1
        rw [r3]
        exact h1
      obtain ⟨cnt', σm', a1, a2, a3⟩ := tw_p_drop_1 p c0 m (i + 1) k (cnt + 1) (tw_pt σc true 10 i (-1)) _ (by omega) (by omega) hR2 (fun v hv => by
        rw [tw_pt_eq]
        by_cases e : true = true ∧ (10 : Nat) = 10 ∧ v = i
        · rw [if_pos e]; exact Or.inl rfl
        · rw [if_neg e]; exact hpg v hv)
      rw [tw_drp_yes hi hh] at a1 a3
      exact ⟨cnt', σm', a1, a2, a3⟩
    have miss : ¬ (¬ σc true 10 i = -1 ∧ (σc true 12 i = p ∨ σc true 13 i = p)) → ∃ (cnt' : Int32) (σm' : tw_S), l_Sh_dropThoseOf k true p cnt (nI (i + 1)) σc = some (some (.inl cnt'), tw_drp p i true σc) ∧ l_Mo_drop_1 k p (nI (16 + i + 1)) σm = some (none, σm') ∧ tw_Rel d (tw_pt (tw_drp p i true σc) true 3 4 (c0 + cnt')) σm' := by
      intro hh
      obtain ⟨cnt', σm', a1, a2, a3⟩ := tw_p_drop_1 p c0 m (i + 1) k cnt σc σm (by omega) (by omega) hR hpg
      rw [tw_drp_no hh] at a1 a3
      exact ⟨cnt', σm', a1, a2, a3⟩
    have u1 : ∀ (X : Prop), (X → ¬ (16 : Int32) ≤ nI i) → True := fun _ _ => trivial
    unfold l_Sh_dropThoseOf l_Mo_drop_1
    rw [show ((16 : Int32) * 1 + 16) = nI 32 from by decide, if_neg (show ¬ (16 : Int32) ≤ nI i from nI_ge (a := i) (b := 16) hi (by decide)), if_neg (nI_ge (a := 16 + i) (b := 32) (by omega) (by decide)), if_neg (nI_in hi (by decide)), if_neg (nI_in (c := 16 + i) (by omega) (by decide)), nI_clamp (n := i) (by omega), nI_clamp (n := 16 + i) (by omega), nI_1, nI_1, r10, r12, r13]
    by_cases h1 : σc true 10 i = -1
    · rw [if_pos h1, if_pos ((tw_pg_lt (hpg i hi)).mpr h1)]
      exact miss (fun z => z.1 h1)
    · rw [if_neg h1, if_neg (fun z => h1 ((tw_pg_lt (hpg i hi)).mp z))]
      by_cases h2 : σc true 12 i = p
      · rw [if_pos h2, if_pos h2]
        exact hit ⟨h1, Or.inl h2⟩
      · rw [if_neg h2, if_neg h2]
        by_cases h3 : σc true 13 i = p
        · rw [if_pos h3, if_pos h3]
          exact hit ⟨h1, Or.inr h3⟩
        · rw [if_neg h3, if_neg h3]
          exact miss (fun z => z.2.elim h2 h3)
