/-! What lets an access through, on both sides; entries and walks. -/
def tw_alw (need : Int32) (kd : Nat) (w u s : Int32) : Int32 := if w &&& need = 0 then 0 else if w &&& 16 = 0 then (if u = 0 then 1 else 0) else (if u = 0 then (if s = 0 then 0 else if kd = 0 then 0 else 1) else 1)
theorem tw_alw_s {need : Int32} {kd : Nat} {w u s s' : Int32} (h : s = 0 ↔ s' = 0) : tw_alw need kd w u s = tw_alw need kd w u s' := by
  unfold tw_alw
  by_cases e : s = 0
  · rw [if_pos e, if_pos (h.mp e)]
  · rw [if_neg e, if_neg (fun z => e (h.mpr z))]
theorem tw_alw_w {need : Int32} {kd : Nat} {w w' u s : Int32} (h : w &&& 30 = w' &&& 30) (hn : 30 &&& need = need) : tw_alw need kd w u s = tw_alw need kd w' u s := by
  unfold tw_alw
  rw [← tw_and_and w hn, ← tw_and_and w' hn, ← tw_and_and w (m := 30) (k := 16) (by decide), ← tw_and_and w' (m := 30) (k := 16) (by decide), h]
def tw_onb (g : Bool) (m : Int32) (σ : tw_S) : Int32 := if σ g 5 0 &&& m = 0 then 0 else 1
theorem tw_c_isOn (g : Bool) (m : Int32) (σ : tw_S) : g_Co_isOn g m σ = some (some (.inl (tw_onb g m σ)), σ) := by
  unfold g_Co_isOn tw_onb
  by_cases h : σ g 5 0 &&& m = 0
  · rw [if_pos h, if_pos h]
  · rw [if_neg h, if_neg h]
theorem tw_onb_0 (g : Bool) (m : Int32) (σ : tw_S) : tw_onb g m σ = 0 ↔ σ g 5 0 &&& m = 0 := by
  unfold tw_onb
  by_cases h : σ g 5 0 &&& m = 0
  · rw [if_pos h]; exact ⟨fun _ => h, fun _ => rfl⟩
  · rw [if_neg h]; exact ⟨fun z => absurd z (by decide), fun z => absurd z h⟩
theorem tw_c_alw_F (w u s : Int32) (σ : tw_S) : g_En_allows_F w u s σ = some (some (.inl (tw_alw 8 0 w u s)), σ) := by
  unfold g_En_allows_F tw_alw
  by_cases h1 : w &&& 8 = 0 <;> by_cases h2 : w &&& 16 = 0 <;> by_cases h3 : u = 0 <;> by_cases h4 : s = 0 <;> simp [h1, h2, h3, h4]
theorem tw_c_alw_L (w u s : Int32) (σ : tw_S) : g_En_allows_L w u s σ = some (some (.inl (tw_alw 2 1 w u s)), σ) := by
  unfold g_En_allows_L tw_alw
  by_cases h1 : w &&& 2 = 0 <;> by_cases h2 : w &&& 16 = 0 <;> by_cases h3 : u = 0 <;> by_cases h4 : s = 0 <;> simp [h1, h2, h3, h4]
theorem tw_c_alw_S (w u s : Int32) (σ : tw_S) : g_En_allows_S w u s σ = some (some (.inl (tw_alw 4 2 w u s)), σ) := by
  unfold g_En_allows_S tw_alw
  by_cases h1 : w &&& 4 = 0 <;> by_cases h2 : w &&& 16 = 0 <;> by_cases h3 : u = 0 <;> by_cases h4 : s = 0 <;> simp [h1, h2, h3, h4]
theorem tw_m_alw_0_0 (w : Int32) (σ : tw_S) : g_Mo_allowed_0_0 w σ = some (some (.inl (tw_alw 8 0 w (σ false 27 0) (σ false 25 0 &&& 8))), σ) := by
  unfold g_Mo_allowed_0_0 tw_alw
  by_cases h1 : w &&& 8 = 0 <;> by_cases h2 : w &&& 16 = 0 <;> by_cases h3 : σ false 27 0 = 0 <;> by_cases h4 : σ false 25 0 &&& 8 = 0 <;> simp [h1, h2, h3, h4]
theorem tw_m_alw_0_1 (w : Int32) (σ : tw_S) : g_Mo_allowed_0_1 w σ = some (some (.inl (tw_alw 2 1 w (σ false 27 0) (σ false 25 0 &&& 8))), σ) := by
  unfold g_Mo_allowed_0_1 tw_alw
  by_cases h1 : w &&& 2 = 0 <;> by_cases h2 : w &&& 16 = 0 <;> by_cases h3 : σ false 27 0 = 0 <;> by_cases h4 : σ false 25 0 &&& 8 = 0 <;> simp [h1, h2, h3, h4]
theorem tw_m_alw_0_2 (w : Int32) (σ : tw_S) : g_Mo_allowed_0_2 w σ = some (some (.inl (tw_alw 4 2 w (σ false 27 0) (σ false 25 0 &&& 8))), σ) := by
  unfold g_Mo_allowed_0_2 tw_alw
  by_cases h1 : w &&& 4 = 0 <;> by_cases h2 : w &&& 16 = 0 <;> by_cases h3 : σ false 27 0 = 0 <;> by_cases h4 : σ false 25 0 &&& 8 = 0 <;> simp [h1, h2, h3, h4]
theorem tw_m_alw_1_0 (w : Int32) (σ : tw_S) : g_Mo_allowed_1_0 w σ = some (some (.inl (tw_alw 8 0 w (σ false 27 1) (σ false 25 12 &&& 8))), σ) := by
  unfold g_Mo_allowed_1_0 tw_alw
  by_cases h1 : w &&& 8 = 0 <;> by_cases h2 : w &&& 16 = 0 <;> by_cases h3 : σ false 27 1 = 0 <;> by_cases h4 : σ false 25 12 &&& 8 = 0 <;> simp [h1, h2, h3, h4]
theorem tw_m_alw_1_1 (w : Int32) (σ : tw_S) : g_Mo_allowed_1_1 w σ = some (some (.inl (tw_alw 2 1 w (σ false 27 1) (σ false 25 12 &&& 8))), σ) := by
  unfold g_Mo_allowed_1_1 tw_alw
  by_cases h1 : w &&& 2 = 0 <;> by_cases h2 : w &&& 16 = 0 <;> by_cases h3 : σ false 27 1 = 0 <;> by_cases h4 : σ false 25 12 &&& 8 = 0 <;> simp [h1, h2, h3, h4]
theorem tw_m_alw_1_2 (w : Int32) (σ : tw_S) : g_Mo_allowed_1_2 w σ = some (some (.inl (tw_alw 4 2 w (σ false 27 1) (σ false 25 12 &&& 8))), σ) := by
  unfold g_Mo_allowed_1_2 tw_alw
  by_cases h1 : w &&& 4 = 0 <;> by_cases h2 : w &&& 16 = 0 <;> by_cases h3 : σ false 27 1 = 0 <;> by_cases h4 : σ false 25 12 &&& 8 = 0 <;> simp [h1, h2, h3, h4]
/-- does the entry of page v let the access through? -/
def tw_thr (need : Int32) (kd : Nat) (σ : tw_S) (g : Bool) (v : Nat) : Prop := ¬ σ g 10 v = -1 ∧ ¬ tw_alw need kd (σ g 11 v) (σ g 0 7) (σ g 5 0 &&& 8) = 0 ∧ (kd = 2 → ¬ σ g 11 v &&& 64 = 0)
theorem tw_c_thr_F (g : Bool) {v : Nat} (hv : v < 16) (σ : tw_S) : ∃ r, g_Sh_letsThrough_F g (nI v) (σ g 0 7) (tw_onb g 8 σ) σ = some (some (.inl r), σ) ∧ (r = 0 ↔ ¬ tw_thr 8 0 σ g v) := by
  unfold g_Sh_letsThrough_F tw_thr
  rw [if_neg (nI_in hv (by decide)), nI_clamp (by omega), tw_c_alw_F, tw_alw_s (tw_onb_0 g 8 σ)]
  by_cases h1 : σ g 10 v = -1
  · rw [if_pos h1]
    exact ⟨0, rfl, fun _ z => z.1 h1, fun _ => rfl⟩
  · rw [if_neg h1]
    show ∃ r, (if tw_alw 8 0 (σ g 11 v) (σ g 0 7) (σ g 5 0 &&& 8) = 0 then _ else _) = _ ∧ _
    by_cases h2 : tw_alw 8 0 (σ g 11 v) (σ g 0 7) (σ g 5 0 &&& 8) = 0
    · rw [if_pos h2]
      exact ⟨0, rfl, fun _ z => z.2.1 h2, fun _ => rfl⟩
    · rw [if_neg h2]
      exact ⟨1, rfl, fun z => absurd z (by decide), fun z => absurd ⟨h1, h2, fun e => absurd e (by decide)⟩ z⟩
theorem tw_c_thr_L (g : Bool) {v : Nat} (hv : v < 16) (σ : tw_S) : ∃ r, g_Sh_letsThrough_L g (nI v) (σ g 0 7) (tw_onb g 8 σ) σ = some (some (.inl r), σ) ∧ (r = 0 ↔ ¬ tw_thr 2 1 σ g v) := by
  unfold g_Sh_letsThrough_L tw_thr
  rw [if_neg (nI_in hv (by decide)), nI_clamp (by omega), tw_c_alw_L, tw_alw_s (tw_onb_0 g 8 σ)]
  by_cases h1 : σ g 10 v = -1
  · rw [if_pos h1]
    exact ⟨0, rfl, fun _ z => z.1 h1, fun _ => rfl⟩
  · rw [if_neg h1]
    show ∃ r, (if tw_alw 2 1 (σ g 11 v) (σ g 0 7) (σ g 5 0 &&& 8) = 0 then _ else _) = _ ∧ _
    by_cases h2 : tw_alw 2 1 (σ g 11 v) (σ g 0 7) (σ g 5 0 &&& 8) = 0
    · rw [if_pos h2]
      exact ⟨0, rfl, fun _ z => z.2.1 h2, fun _ => rfl⟩
    · rw [if_neg h2]
      exact ⟨1, rfl, fun z => absurd z (by decide), fun z => absurd ⟨h1, h2, fun e => absurd e (by decide)⟩ z⟩
theorem tw_c_thr_S (g : Bool) {v : Nat} (hv : v < 16) (σ : tw_S) : ∃ r, g_Sh_letsThrough_S g (nI v) (σ g 0 7) (tw_onb g 8 σ) σ = some (some (.inl r), σ) ∧ (r = 0 ↔ ¬ tw_thr 4 2 σ g v) := by
  unfold g_Sh_letsThrough_S tw_thr
  rw [if_neg (nI_in hv (by decide)), nI_clamp (by omega), tw_c_alw_S, tw_alw_s (tw_onb_0 g 8 σ)]
  by_cases h1 : σ g 10 v = -1
  · rw [if_pos h1]
    exact ⟨0, rfl, fun _ z => z.1 h1, fun _ => rfl⟩
  · rw [if_neg h1]
    show ∃ r, (if tw_alw 4 2 (σ g 11 v) (σ g 0 7) (σ g 5 0 &&& 8) = 0 then _ else _) = _ ∧ _
    by_cases h2 : tw_alw 4 2 (σ g 11 v) (σ g 0 7) (σ g 5 0 &&& 8) = 0
    · rw [if_pos h2]
      exact ⟨0, rfl, fun _ z => z.2.1 h2, fun _ => rfl⟩
    · rw [if_neg h2]
      by_cases h3 : σ g 11 v &&& 64 = 0
      · rw [if_pos h3]
        exact ⟨0, rfl, fun _ z => z.2.2 rfl h3, fun _ => rfl⟩
      · rw [if_neg h3]
        exact ⟨1, rfl, fun z => absurd z (by decide), fun z => absurd ⟨h1, h2, fun _ => h3⟩ z⟩
/-- an entry is what the walk finds -/
theorem tw_En0_F {T : Int32} {M : Nat → Int32} {v : Nat} {P B F S : Int32} (h : tw_En0 T M v P B F S) : ∃ t a pg, t < 8 ∧ T &&& 15 = nI t ∧ tw_F t M v = .inr (a, pg, S) ∧ P = nI pg ∧ pg < 8 ∧ a < 128 ∧ M a &&& 30 = B &&& 30 ∧ ¬ M a &&& 32 = 0 ∧ (¬ B &&& 64 = 0 → ¬ M a &&& 64 = 0) := by
  obtain ⟨t, k, pg, a, h1, h2, h3, h4, h5, h6, h7, h8, h9, h10, h11, h12⟩ := h
  refine ⟨t, a, pg, h1, h2, ?_, h7, h6, h8, h10, h11, h12⟩
  obtain ⟨k', hk', ek, ekc⟩ := tw_num_nI (M (16 * t + v / 4))
  rcases h9 with ⟨a1, a2, a3, a4, a5, a6⟩ | ⟨a1, a2, a3, a4, a5, a6, a7⟩
  · have e : k' = k := (nI_eq (by omega) (by omega)).mp (ek.symm.trans h5)
    subst e
    unfold tw_F
    rw [if_neg (by omega), if_neg (fun z => z (tw_wd_brk h4)), if_neg a1, ekc, if_pos a2, a4, a5, a6]
  · have e : k' = k := (nI_eq (by omega) (by omega)).mp (ek.symm.trans h5)
    subst e
    unfold tw_F
    rw [if_neg (by omega), if_neg (fun z => z (tw_wd_brk h4)), if_pos a1, ekc, if_neg (by omega), ← a3, if_neg (fun z => z (tw_wd_brk a5)), if_neg a6, a7, nI_clamp (by omega), a4]
/-- what the walk finds becomes an entry, with A (and D) on in the leaf -/
theorem tw_F_En0 {T : Int32} {M : Nat → Int32} {t v a pg : Nat} {sec x : Int32} (hx : x = 32 ∨ x = 96) (ht : T &&& 15 = nI t) (hv : v < 16) (h : tw_F t M v = .inr (a, pg, sec)) (hp : pg < 8) {M' : Nat → Int32} (hM : ∀ i, i < 128 → M' i = if i = a then M a ||| x else M i) : a < 128 ∧ t < 8 ∧ tw_En0 T M' v (nI pg) ((M a ||| x) &&& 94) (nI (16 * t + v / 4)) sec ∧ (nI a = nI (16 * t + v / 4) ↔ sec = -1) ∧ (¬ sec = -1 → sec = nI a) := by
  have orw : ∀ i, i < 128 → tw_orw (M i) (M' i) := fun i hi => by
    rw [hM i hi]
    by_cases e : i = a
    · rw [if_pos e, e]
      rcases hx with rfl | rfl
      · exact Or.inr (Or.inl rfl)
      · exact Or.inr (Or.inr rfl)
    · rw [if_neg e]; exact Or.inl rfl
  have lw : ∀ (h128 : a < 128), M' a &&& 30 = ((M a ||| x) &&& 94) &&& 30 ∧ ¬ M' a &&& 32 = 0 ∧ (¬ ((M a ||| x) &&& 94) &&& 64 = 0 → ¬ M' a &&& 64 = 0) := fun h128 => by
    rw [hM a h128, if_pos rfl, tw_and_and _ (by decide), tw_and_and _ (by decide)]
    refine ⟨rfl, ?_, fun z => z⟩
    rcases hx with rfl | rfl
    · exact tw_or_on _ (by decide)
    · exact tw_or_on _ (by decide)
  unfold tw_F at h
  by_cases h8 : 8 ≤ t
  · rw [if_pos h8] at h; cases h
  · rw [if_neg h8] at h
    obtain ⟨k, hk, ek, ekc⟩ := tw_num_nI (M (16 * t + v / 4))
    by_cases hb : ¬ tw_brk (M (16 * t + v / 4)) = 0
    · rw [if_pos hb] at h; cases h
    · rw [if_neg hb] at h
      have hwd : tw_Wd (M (16 * t + v / 4)) := tw_brk_wd (Decidable.not_not.mp hb)
      have e1 := orw (16 * t + v / 4) (by omega)
      by_cases hl : M (16 * t + v / 4) &&& 10 = 0
      · rw [if_pos hl, ekc] at h
        by_cases hk8 : 8 ≤ k
        · rw [if_pos hk8] at h; cases h
        · rw [if_neg hk8] at h
          by_cases hb2 : ¬ tw_brk (M (16 * k + v % 4)) = 0
          · rw [if_pos hb2] at h; cases h
          · rw [if_neg hb2] at h
            by_cases hl2 : M (16 * k + v % 4) &&& 10 = 0
            · rw [if_pos hl2] at h; cases h
            · rw [if_neg hl2] at h
              obtain ⟨k2, hk2, ek2, ekc2⟩ := tw_num_nI (M (16 * k + v % 4))
              cases h
              have h128 : 16 * k + v % 4 < 128 := by omega
              have e2 := orw (16 * k + v % 4) h128
              obtain ⟨l1, l2, l3⟩ := lw h128
              refine ⟨h128, by omega, ⟨t, k, _, 16 * k + v % 4, by omega, ht, rfl, tw_orw_wd e1 hwd, (tw_orw_num e1).trans ek, hp, rfl, h128, Or.inr ⟨?_, by omega, rfl, rfl, tw_orw_wd e2 (tw_brk_wd (Decidable.not_not.mp hb2)), tw_orw_ne e2 hl2, ?_⟩, l1, l2, l3⟩, ⟨fun z => ?_, fun z => ?_⟩, fun _ => rfl⟩
              · rw [tw_orw_and e1 (by decide) (by decide)]; exact hl
              · rw [tw_orw_num e2, ekc2]; exact ek2
              · have z2 : 16 * k + v % 4 = 16 * t + v / 4 := (nI_eq (by omega) (by omega)).mp z
                rw [z2] at hl2
                exact absurd hl hl2
              · exact absurd z (fun y => by
                  have := congrArg Int32.toInt y
                  rw [nI_toInt (by omega)] at this
                  have t1 : (-1 : Int32).toInt = -1 := by decide
                  omega)
      · rw [if_neg hl, ekc] at h
        by_cases h4 : k % 4 = 0
        · rw [if_pos h4] at h
          cases h
          have h128 : 16 * t + v / 4 < 128 := by omega
          obtain ⟨l1, l2, l3⟩ := lw h128
          exact ⟨h128, by omega, ⟨t, k, k + v % 4, 16 * t + v / 4, by omega, ht, rfl, tw_orw_wd e1 hwd, (tw_orw_num e1).trans ek, hp, rfl, h128, Or.inl ⟨tw_orw_ne e1 hl, h4, hk, rfl, rfl, rfl⟩, l1, l2, l3⟩, ⟨fun _ => rfl, fun _ => rfl⟩, fun z => absurd rfl z⟩
        · rw [if_neg h4] at h; cases h
