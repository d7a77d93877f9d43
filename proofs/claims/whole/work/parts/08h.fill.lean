/-! Accesses: reach and access. -/
theorem tw_m14 (g : Bool) (j : Nat) : tw_m g 14 j = none := if_neg (fun z => absurd z.2 (by show ¬ j < 0 + 0; omega))
theorem tw_Rel_onc {d : tw_Dt} {σc σm τ : tw_S} (h : tw_Rel d σc σm) (hτ : ∀ g c j, ¬ c = 14 → τ g c j = σc g c j) : tw_Rel d τ σm := by
  refine ⟨fun g c j q hq => ?_, fun g => tw_R2_on (h.2.1 g) (fun c j hp => hτ g c j (fun z => by rw [z] at hp; exact absurd hp Bool.false_ne_true)) (fun _ _ _ => rfl), ?_⟩
  · rw [hτ g c j (fun z => by rw [z, tw_m14] at hq; cases hq)]
    exact h.1 g c j q hq
  · unfold tw_R3
    rw [hτ false 20 1 (by decide), hτ false 20 2 (by decide), hτ false 20 3 (by decide)]
    exact h.2.2
theorem tw_Rel_onm {d : tw_Dt} {σc σm τ : tw_S} (h : tw_Rel d σc σm) (hτ : ∀ g c j, ¬ (c = 22 ∧ 3 ≤ j) → τ g c j = σm g c j) : tw_Rel d σc τ := by
  refine ⟨fun g c j q hq => ?_, fun g => tw_R2_on (h.2.1 g) (fun _ _ _ => rfl) (fun c j hp => hτ false c j (fun z => by rw [z.1] at hp; exact absurd hp Bool.false_ne_true)), ?_⟩
  · rw [hτ false q.1 q.2 (fun z => tw_m_no (k := 22) (i := q.2) rfl g c j (by rw [hq, ← z.1]))]
    exact h.1 g c j q hq
  · unfold tw_R3
    rw [hτ false 22 0 (by omega), hτ false 22 1 (by omega), hτ false 22 2 (by omega)]
    exact h.2.2
theorem tw_Coh_onc {σ τ : tw_S} {g : Bool} (h : tw_Coh σ g) (hτ : ∀ g c j, ¬ c = 14 → τ g c j = σ g c j) : tw_Coh τ g :=
  tw_Coh_on h (hτ g 5 6 (by decide)) (fun i _ => Or.inl (hτ g 1 i (by decide))) (fun v _ => ⟨hτ g 10 v (by decide), hτ g 11 v (by decide), hτ g 12 v (by decide), hτ g 13 v (by decide)⟩)
/-- the bits of an entry, on both sides -/
theorem tw_r_bits {d : tw_Dt} {σc σm : tw_S} (h : tw_Rel d σc σm) (g : Bool) {v : Nat} (hv : v < 16) {B : Int32} (hB : B &&& 94 = B) : tw_Rel d (tw_pt σc g 11 v B) (tw_pt (tw_pt σm false 33 (16 * tw_b g + v) (B &&& 30)) false 34 (16 * tw_b g + v) (if B &&& 64 = 0 then 0 else 1)) := by
  have m11 : ∀ j, tw_m g 11 j = none := fun j => if_neg (fun z => absurd z.2 (by show ¬ j < 0 + 0; omega))
  refine ⟨tw_R1_m (tw_R1_m (tw_R1_c h.1 (m11 v) B) (tw_m_no rfl) _) (tw_m_no rfl) _, fun g' => ?_, ?_⟩
  · obtain ⟨h1, ⟨n, hn, h2, h3⟩, h4, h5⟩ := h.2.1 g'
    refine ⟨?_, ⟨n, hn, ?_, fun j hj => ?_⟩, fun u hu => ?_, ?_⟩
    · rw [tw_pt_n _ _ (fun z => absurd z.2.1 (by decide))]; exact h1
    · rw [tw_pt_n _ _ (fun z => absurd z.2.1 (by decide))]; exact h2
    · rw [tw_pt_n _ _ (fun z => absurd z.2.1 (by decide)), tw_pt_n _ _ (fun z => absurd z.2.1 (by decide)), tw_pt_n _ _ (fun z => absurd z.2.1 (by decide)), tw_pt_n _ _ (fun z => absurd z.2.1 (by decide)), tw_pt_n _ _ (fun z => absurd z.2.1 (by decide)), tw_pt_n _ _ (fun z => absurd z.2.1 (by decide))]; exact h3 j hj
    · by_cases e : g' = g ∧ u = v
      · obtain ⟨rfl, rfl⟩ := e
        rw [tw_pt_s, tw_pt_s, tw_pt_n _ _ (fun z => absurd z.2.1 (by decide)), tw_pt_s]
        exact ⟨rfl, rfl, hB⟩
      · have hs : ¬ 16 * tw_b g' + u = 16 * tw_b g + v := fun z => e (by
          have := tw_slot (s := 16) (n := 16) (tw_b_lt g') (tw_b_lt g) (Nat.le_refl _) hu hv z
          exact ⟨tw_b_inj this.1, this.2⟩)
        rw [tw_pt_n _ _ (fun z => e ⟨z.1, z.2.2⟩), tw_pt_n _ _ (fun z => absurd z.2.1 (by decide)), tw_pt_n _ _ (fun z => hs z.2.2), tw_pt_n _ _ (fun z => hs z.2.2), tw_pt_n _ _ (fun z => absurd z.2.1 (by decide))]
        exact h4 u hu
    · rw [tw_pt_n _ _ (fun z => absurd z.2.1 (by decide)), tw_pt_n _ _ (fun z => absurd z.2.1 (by decide)), tw_pt_n _ _ (fun z => absurd z.2.1 (by decide))]; exact h5
  · unfold tw_R3
    rw [tw_pt_n _ _ (fun z => absurd z.2.1 (by decide)), tw_pt_n _ _ (fun z => absurd z.2.1 (by decide)), tw_pt_n _ _ (fun z => absurd z.2.1 (by decide)), tw_pt_n _ _ (fun z => absurd z.2.1 (by decide)), tw_pt_n _ _ (fun z => absurd z.2.1 (by decide)), tw_pt_n _ _ (fun z => absurd z.2.1 (by decide)), tw_pt_n _ _ (fun z => absurd z.2.1 (by decide)), tw_pt_n _ _ (fun z => absurd z.2.1 (by decide)), tw_pt_n _ _ (fun z => absurd z.2.1 (by decide))]
    exact h.2.2
/-- a word of the memory, on both sides -/
theorem tw_r_mem {d : tw_Dt} {σc σm : tw_S} (h : tw_Rel d σc σm) (g : Bool) {i : Nat} (hi : i < 128) (x : Int32) : tw_Rel d (tw_pt σc g 1 i x) (tw_pt σm false 23 (128 * tw_b g + i) x) := tw_Rel_pt h (tw_m1 g hi) rfl rfl (by decide) (by decide) x
theorem tw_r_pg {d : tw_Dt} {σc σm : tw_S} (h : tw_Rel d σc σm) (g : Bool) {i : Nat} (hi : i < 16) (x : Int32) : tw_Rel d (tw_pt σc g 10 i x) (tw_pt σm false 32 (16 * tw_b g + i) x) := tw_Rel_pt h (tw_m10 g hi) rfl rfl (by decide) (by decide) x
theorem tw_r_fi {d : tw_Dt} {σc σm : tw_S} (h : tw_Rel d σc σm) (g : Bool) {i : Nat} (hi : i < 16) (x : Int32) : tw_Rel d (tw_pt σc g 12 i x) (tw_pt σm false 35 (16 * tw_b g + i) x) := tw_Rel_pt h (tw_m12 g hi) rfl rfl (by decide) (by decide) x
theorem tw_r_se {d : tw_Dt} {σc σm : tw_S} (h : tw_Rel d σc σm) (g : Bool) {i : Nat} (hi : i < 16) (x : Int32) : tw_Rel d (tw_pt σc g 13 i x) (tw_pt σm false 36 (16 * tw_b g + i) x) := tw_Rel_pt h (tw_m13 g hi) rfl rfl (by decide) (by decide) x
theorem tw_Rel_1 {d : tw_Dt} {σc σm : tw_S} (h : tw_Rel d σc σm) (g : Bool) {i : Nat} (hi : i < 128) : σm false 23 (128 * tw_b g + i) = σc g 1 i := (h.1 g 1 i _ (tw_m1 g hi)).symm
/-- a fill, on both sides -/
def tw_flc (g : Bool) (v a pg f : Nat) (sec w : Int32) (σ : tw_S) : tw_S := tw_pt (tw_pt (tw_pt (tw_pt (tw_pt (tw_pt σ g 1 a w) g 10 v (nI pg)) g 11 v (w &&& 94)) g 12 v (nI f)) g 13 v sec) g 3 1 (σ g 3 1 + 1)
def tw_flm (g : Bool) (v a pg f : Nat) (sec w : Int32) (σ : tw_S) : tw_S := tw_pt (tw_pt (tw_pt (tw_pt (tw_pt (tw_pt (tw_pt σ false 23 (128 * tw_b g + a) w) false 32 (16 * tw_b g + v) (nI pg)) false 33 (16 * tw_b g + v) (w &&& 30)) false 34 (16 * tw_b g + v) (if w &&& 64 = 0 then 0 else 1)) false 35 (16 * tw_b g + v) (nI f)) false 36 (16 * tw_b g + v) sec) false 31 (9 * tw_b g + 1) (σ false 31 (9 * tw_b g + 1) + 1)
theorem tw_r_fill {d : tw_Dt} {σc σm : tw_S} (h : tw_Rel d σc σm) (g : Bool) {v a pg f : Nat} (hv : v < 16) (ha : a < 128) (sec w : Int32) : tw_Rel d (tw_flc g v a pg f sec w σc) (tw_flm g v a pg f sec w σm) := by
  unfold tw_flc tw_flm
  rw [tw_Rel_3 h g (by decide)]
  have hb := tw_r_bits (tw_r_pg (tw_r_mem h g ha w) g hv (nI pg)) g hv (B := w &&& 94) (tw_and_and w (by decide))
  rw [tw_and_and w (by decide), tw_and_and w (by decide)] at hb
  exact tw_r_cnt (tw_r_se (tw_r_fi hb g hv (nI f)) g hv sec) g (by decide) _
theorem tw_coh_fill {σ : tw_S} {g : Bool} (hC : ∀ g', tw_Coh σ g') {t v a pg : Nat} {sec x : Int32} (hx : x = 32 ∨ x = 96) (ht : σ g 5 6 &&& 15 = nI t) (hv : v < 16) (h : tw_F t (σ g 1) v = .inr (a, pg, sec)) (hp : pg < 8) : ∀ g', tw_Coh (tw_flc g v a pg (16 * t + v / 4) sec (σ g 1 a ||| x) σ) g' := by
  intro g'
  have keep : ∀ g2 c j, ¬ (g2 = g ∧ (c = 1 ∨ c = 10 ∨ c = 11 ∨ c = 12 ∨ c = 13 ∨ c = 3)) → tw_flc g v a pg (16 * t + v / 4) sec (σ g 1 a ||| x) σ g2 c j = σ g2 c j := fun g2 c j hn => by
    unfold tw_flc
    rw [tw_pt_n _ _ (fun z => hn ⟨z.1, by omega⟩), tw_pt_n _ _ (fun z => hn ⟨z.1, by omega⟩), tw_pt_n _ _ (fun z => hn ⟨z.1, by omega⟩), tw_pt_n _ _ (fun z => hn ⟨z.1, by omega⟩), tw_pt_n _ _ (fun z => hn ⟨z.1, by omega⟩), tw_pt_n _ _ (fun z => hn ⟨z.1, by omega⟩)]
  by_cases eg : g' = g
  · subst eg
    have k1 : ∀ i, tw_flc g' v a pg (16 * t + v / 4) sec (σ g' 1 a ||| x) σ g' 1 i = if i = a then σ g' 1 a ||| x else σ g' 1 i := fun i => by
      unfold tw_flc
      rw [tw_pt_n _ _ (fun z => absurd z.2.1 (by decide)), tw_pt_n _ _ (fun z => absurd z.2.1 (by decide)), tw_pt_n _ _ (fun z => absurd z.2.1 (by decide)), tw_pt_n _ _ (fun z => absurd z.2.1 (by decide)), tw_pt_n _ _ (fun z => absurd z.2.1 (by decide)), tw_pt_eq]
      by_cases e : i = a
      · rw [if_pos ⟨rfl, rfl, e⟩, if_pos e]
      · rw [if_neg (fun z => e z.2.2), if_neg e]
    have k5 : tw_flc g' v a pg (16 * t + v / 4) sec (σ g' 1 a ||| x) σ g' 5 6 = σ g' 5 6 := keep g' 5 6 (fun z => by omega)
    obtain ⟨ha, ht8, hE, -, -⟩ := tw_F_En0 hx ht hv h hp (M' := tw_flc g' v a pg (16 * t + v / 4) sec (σ g' 1 a ||| x) σ g' 1) (fun i _ => k1 i)
    intro u hu
    by_cases eu : u = v
    · subst eu
      refine Or.inr ?_
      rw [k5]
      have e10 : tw_flc g' u a pg (16 * t + u / 4) sec (σ g' 1 a ||| x) σ g' 10 u = nI pg := by simp [tw_flc, tw_pt_eq]
      have e11 : tw_flc g' u a pg (16 * t + u / 4) sec (σ g' 1 a ||| x) σ g' 11 u = (σ g' 1 a ||| x) &&& 94 := by simp [tw_flc, tw_pt_eq]
      have e12 : tw_flc g' u a pg (16 * t + u / 4) sec (σ g' 1 a ||| x) σ g' 12 u = nI (16 * t + u / 4) := by simp [tw_flc, tw_pt_eq]
      have e13 : tw_flc g' u a pg (16 * t + u / 4) sec (σ g' 1 a ||| x) σ g' 13 u = sec := by simp [tw_flc, tw_pt_eq]
      rw [e10, e11, e12, e13]
      exact hE
    · have e10 : tw_flc g' v a pg (16 * t + v / 4) sec (σ g' 1 a ||| x) σ g' 10 u = σ g' 10 u := by simp [tw_flc, tw_pt_eq, eu]
      have e11 : tw_flc g' v a pg (16 * t + v / 4) sec (σ g' 1 a ||| x) σ g' 11 u = σ g' 11 u := by simp [tw_flc, tw_pt_eq, eu]
      have e12 : tw_flc g' v a pg (16 * t + v / 4) sec (σ g' 1 a ||| x) σ g' 12 u = σ g' 12 u := by simp [tw_flc, tw_pt_eq, eu]
      have e13 : tw_flc g' v a pg (16 * t + v / 4) sec (σ g' 1 a ||| x) σ g' 13 u = σ g' 13 u := by simp [tw_flc, tw_pt_eq, eu]
      rw [k5, e10, e11, e12, e13]
      rcases hC g' u hu with hh | hh
      · exact Or.inl hh
      · refine Or.inr (tw_En0_or hu hh (fun i hi => ?_))
        rw [k1 i]
        by_cases e : i = a
        · rw [if_pos e, e]
          rcases hx with rfl | rfl
          · exact Or.inr (Or.inl rfl)
          · exact Or.inr (Or.inr rfl)
        · rw [if_neg e]; exact Or.inl rfl
  · have key : ∀ c j, tw_flc g v a pg (16 * t + v / 4) sec (σ g 1 a ||| x) σ g' c j = σ g' c j := fun c j => keep g' c j (fun z => eg z.1)
    exact tw_Coh_on (hC g') (key 5 6) (fun i _ => Or.inl (key 1 i)) (fun u _ => ⟨key 10 u, key 11 u, key 12 u, key 13 u⟩)
