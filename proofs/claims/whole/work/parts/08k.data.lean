/-! Faults, loads, stores. -/
theorem tw_coh_trc {σ : tw_S} {g' : Bool} (h : tw_Coh σ g') (g : Bool) (cause v : Int32) : tw_Coh (tw_trc g cause v σ) g' := by
  unfold tw_trc
  exact tw_Coh_pt (tw_Coh_pt (tw_Coh_pt (tw_Coh_pt (tw_Coh_pt (tw_Coh_pt h rfl _) rfl _) rfl _) rfl _) rfl _) rfl _
/-- how a step ends on both sides -/
def tw_OutP (d : tw_Dt) (rc rm : Option tw_R) : Prop := ∃ (o : Nat) (x : Int32) (τc τm : tw_S), rc = some (some (.inr (false, o)), τc) ∧ rm = some (some (.inl x), τm) ∧ ((o = 60 ∧ x = 1) ∨ (o = 61 ∧ x = 0) ∨ (o = 62 ∧ x = 2)) ∧ tw_Rel d τc τm ∧ ∀ g', tw_Coh τc g'
theorem tw_trm_cnt (g : Bool) (cause v : Int32) (σ : tw_S) (i : Nat) (y : Int32) : tw_trm g cause v (tw_pt σ false 31 i y) = tw_pt (tw_trm g cause v σ) false 31 i y := tw_ext fun g' c' j' => by
  have n25 : ∀ j, tw_pt σ false 31 i y false 25 j = σ false 25 j := fun j => tw_pt_n _ _ (fun z => absurd z.2.1 (by decide))
  have n26 : ∀ j, tw_pt σ false 31 i y false 26 j = σ false 26 j := fun j => tw_pt_n _ _ (fun z => absurd z.2.1 (by decide))
  have n27 : ∀ j, tw_pt σ false 31 i y false 27 j = σ false 27 j := fun j => tw_pt_n _ _ (fun z => absurd z.2.1 (by decide))
  unfold tw_trm
  rw [n25, n25, n26, n27]
  by_cases e : g' = false ∧ c' = 31 ∧ j' = i
  · obtain ⟨rfl, rfl, rfl⟩ := e
    rw [tw_pt_s, tw_pt_n _ _ (fun z => absurd z.2.1 (by decide)), tw_pt_n _ _ (fun z => absurd z.2.1 (by decide)), tw_pt_n _ _ (fun z => absurd z.2.1 (by decide)), tw_pt_n _ _ (fun z => absurd z.2.1 (by decide)), tw_pt_n _ _ (fun z => absurd z.2.1 (by decide)), tw_pt_n _ _ (fun z => absurd z.2.1 (by decide)), tw_pt_s]
  · simp only [tw_pt_eq, if_neg e]
/-- a fault of an access, on both sides -/
theorem tw_r_flt {d : tw_Dt} {τc τm : tw_S} (h : tw_Rel d τc τm) (g : Bool) (cause v : Int32) : tw_Rel d (tw_trc g cause v (tw_pt τc g 3 2 (τc g 3 2 + 1))) (tw_flt g cause v τm) := by
  unfold tw_flt
  rw [tw_Rel_3 h g (by decide), ← tw_trm_cnt]
  exact tw_r_trap (tw_r_cnt h g (by decide) _) g cause v
theorem tw_c_fault (g : Bool) (cause v : Int32) (σ : tw_S) : g_Gu_fault g cause v σ = some (some (.inr (false, 61)), tw_trc g cause v (tw_pt σ g 3 2 (σ g 3 2 + 1))) := by
  unfold g_Gu_fault
  rw [tw_c_trap]
  rfl
theorem tw_o_flt {d : tw_Dt} {τc τm : tw_S} (hR : tw_Rel d τc τm) (hC : ∀ g', tw_Coh τc g') (g : Bool) (cause v : Int32) : tw_OutP d (g_Gu_fault g cause v τc) (some (some (.inl 0), tw_flt g cause v τm)) :=
  ⟨61, 0, _, _, tw_c_fault g cause v τc, rfl, Or.inr (Or.inl ⟨rfl, rfl⟩), tw_r_flt hR g cause v, fun g' => tw_coh_trc (tw_Coh_pt (hC g') rfl _) g cause v⟩
/-- an Outcome handed on -/
theorem tw_o_hand {d : tw_Dt} {a b : Option tw_R} (h : tw_OutP d a b) : tw_OutP d (tw_br a (fun o σ => some (some (.inr (false, o)), σ))) b := by
  obtain ⟨o, x, τc, τm, e1, e2, h1, h2, h3⟩ := h
  exact ⟨o, x, τc, τm, by rw [e1]; rfl, e2, h1, h2, h3⟩
theorem tw_o_handm {d : tw_Dt} {a b : Option tw_R} (h : tw_OutP d a b) : tw_OutP d a (tw_bi b (fun x σ => some (some (.inl x), σ))) := by
  obtain ⟨o, x, τc, τm, e1, e2, h1, h2, h3⟩ := h
  exact ⟨o, x, τc, τm, e1, by rw [e2]; rfl, h1, h2, h3⟩
/-- retire, on both sides -/
theorem tw_o_ret {d : tw_Dt} {τc τm : tw_S} (hR : tw_Rel d τc τm) (hC : ∀ g', tw_Coh τc g') (g : Bool) {x y : Int32} (hxy : y = x) : tw_OutP d (some (some (.inr (false, 60)), tw_pt (tw_pt τc g 5 10 (τc g 5 10 + 1)) g 0 6 x)) (some (some (.inl 1), tw_pt (tw_pt τm false 25 (12 * tw_b g + 10) (τm false 25 (12 * tw_b g + 10) + 1)) false 26 (tw_b g) y)) := by
  rw [hxy]
  exact ⟨60, 1, _, _, rfl, rfl, Or.inl ⟨rfl, rfl⟩, tw_r_ret hR g x, fun g' => tw_Coh_pt (tw_Coh_pt (hC g') rfl _) rfl _⟩
theorem tw_Rel_pc {d : tw_Dt} {σc σm : tw_S} (h : tw_Rel d σc σm) (g : Bool) : σm false 26 (tw_b g) = σc g 0 6 := (h.1 g 0 6 _ (tw_mpc g)).symm
theorem tw_Rel_us0 {d : tw_Dt} {σc σm : tw_S} (h : tw_Rel d σc σm) (g : Bool) : σm false 27 (tw_b g) = σc g 0 7 := (h.1 g 0 7 _ (tw_mus g)).symm
theorem tw_coh_set {σ : tw_S} {g' : Bool} (h : tw_Coh σ g') (g : Bool) (j : Nat) (x : Int32) : tw_Coh (tw_setc g j x σ) g' := by
  unfold tw_setc
  by_cases e : j = 0
  · rw [if_pos e]; exact h
  · rw [if_neg e]; exact tw_Coh_pt h rfl _
theorem tw_nI_m1 {f : Nat} (h : f < 2 ^ 31) : ¬ nI f = -1 := fun y => by
  have := congrArg Int32.toInt y
  rw [nI_toInt h] at this
  have t1 : (-1 : Int32).toInt = -1 := by decide
  omega
theorem tw_isIn_nI {f : Nat} (h : f < 128) (p : Int32) (σ : tw_S) : g_Sh_isIn (nI f) p σ = some (some (.inl (if nI (f / 16) = p then 1 else 0)), σ) := by
  unfold g_Sh_isIn
  rw [if_neg (tw_nI_m1 (by omega)), tw_sh4 (by omega)]
  by_cases e : nI (f / 16) = p
  · rw [if_pos e, if_pos e]
  · rw [if_neg e, if_neg e]
theorem tw_isIn_m1 (p : Int32) (σ : tw_S) : g_Sh_isIn (-1) p σ = some (some (.inl 0), σ) := by
  unfold g_Sh_isIn
  rw [if_pos rfl]
theorem tw_div16 {f : Nat} (h : f < 128) : nI f / 16 = nI (f / 16) := pk_div (a := f) (d := 16) (by omega) (by decide) (by decide)
/-- the words of an entry -/
theorem tw_coh_fs {σ : tw_S} {g : Bool} (h : tw_Coh σ g) {v : Nat} (hv : v < 16) (hp : ¬ σ g 10 v = -1) : ∃ f, f < 128 ∧ σ g 12 v = nI f ∧ (σ g 13 v = -1 ∨ ∃ s, s < 128 ∧ σ g 13 v = nI s) := by
  rcases h v hv with e | ⟨t, k, pg, a, h1, h2, h3, h4, h5, h6, h7, h8, h9, -⟩
  · exact absurd e hp
  · refine ⟨16 * t + v / 4, by omega, h3, ?_⟩
    rcases h9 with ⟨-, -, -, -, h, -⟩ | ⟨-, -, -, h, -⟩
    · exact Or.inl h
    · exact Or.inr ⟨a, h8, h⟩
theorem tw_Rel_fi {d : tw_Dt} {σc σm : tw_S} (h : tw_Rel d σc σm) (g : Bool) {v : Nat} (hv : v < 16) : σm false 35 (16 * tw_b g + v) = σc g 12 v := (h.1 g 12 v _ (tw_m12 g hv)).symm
theorem tw_Rel_se {d : tw_Dt} {σc σm : tw_S} (h : tw_Rel d σc σm) (g : Bool) {v : Nat} (hv : v < 16) : σm false 36 (16 * tw_b g + v) = σc g 13 v := (h.1 g 13 v _ (tw_m13 g hv)).symm
theorem tw_m_tr1_0 (p : Int32) : ∀ (m i k : Nat) (σ : tw_S), i + m = 16 → 0 ≤ i → m < k → l_Mo_traced_0 k p 1 (nI i) σ = some (some (.inl 1), σ)
  | 0, i, k + 1, σ, h, h0, _ => by
    have hi : i = 16 := by omega
    subst hi
    unfold l_Mo_traced_0
    rw [if_pos (by decide), if_pos (Or.inr rfl)]
  | m + 1, i, k + 1, σ, h, h0, hk => by
    unfold l_Mo_traced_0
    rw [show ((16 : Int32) * 0 + 16) = nI 16 from by decide, if_neg (nI_ge (a := i) (b := 16) (by omega) (by decide)), if_neg (by decide), nI_1]
    exact tw_m_tr1_0 p m (i + 1) k σ (by omega) (by omega) (by omega)
theorem tw_p_tr_0 {d : tw_Dt} {σc σm : tw_S} (hR : tw_Rel d σc σm) (hC : tw_Coh σc false) (p : Int32) : ∀ (m i k : Nat), i + m = 16 → m < k → ∃ r : Int32, (r = 0 ∨ r = 1) ∧ l_Sh_isTraced k false p (nI i) σc = some (some (.inl r), σc) ∧ l_Mo_traced_0 k p 0 (nI (0 + i)) σm = some (some (.inl r), σm)
  | 0, i, k + 1, h, _ => by
    have hi : i = 16 := by omega
    subst hi
    refine ⟨0, Or.inl rfl, ?_, ?_⟩
    · unfold l_Sh_isTraced
      rw [if_pos (by decide)]
    · unfold l_Mo_traced_0
      rw [if_pos (by decide), if_pos (Or.inl rfl)]
  | m + 1, i, k + 1, h, hk => by
    have hi : i < 16 := by omega
    have ih := tw_p_tr_0 hR hC p m (i + 1) k (by omega) (by omega)
    have r10 : σm false 32 (0 + i) = σc false 10 i := tw_Rel_pg hR false hi
    have r12 : σm false 35 (0 + i) = σc false 12 i := tw_Rel_fi hR false hi
    have r13 : σm false 36 (0 + i) = σc false 13 i := tw_Rel_se hR false hi
    unfold l_Sh_isTraced l_Mo_traced_0
    rw [show ((16 : Int32) * 0 + 16) = nI 16 from by decide, if_neg (show ¬ (16 : Int32) ≤ nI i from nI_ge (a := i) (b := 16) hi (by decide)), if_neg (nI_ge (a := 0 + i) (b := 16) (by omega) (by decide)), if_neg (nI_in hi (by decide)), if_pos rfl, if_neg (nI_in (c := 0 + i) (by omega) (by decide)), nI_clamp (n := i) (by omega), nI_clamp (n := 0 + i) (by omega), nI_1, nI_1, r10, r12, r13]
    by_cases h1 : σc false 10 i = -1
    · rw [if_pos h1, if_pos ((tw_pg_lt (tw_coh_pg hC i hi)).mpr h1)]
      exact ih
    · rw [if_neg h1, if_neg (fun z => h1 ((tw_pg_lt (tw_coh_pg hC i hi)).mp z))]
      obtain ⟨f, hf, ef, hs⟩ := tw_coh_fs hC hi h1
      rw [ef, tw_isIn_nI hf, tw_div16 hf, tw_bi_s]
      by_cases h2 : nI (f / 16) = p
      · rw [if_pos h2, if_pos h2, if_neg (by decide)]
        exact ⟨1, Or.inr rfl, rfl, tw_m_tr1_0 p m (0 + i + 1) k σm (by omega) (by omega) (by omega)⟩
      · rw [if_neg h2, if_neg h2, if_pos rfl]
        rcases hs with es | ⟨s, hsl, es⟩
        · rw [es, tw_isIn_m1, tw_bi_s, if_pos rfl, if_pos (by decide)]
          exact ih
        · rw [es, tw_isIn_nI hsl, tw_div16 hsl, tw_bi_s, if_neg (nI_pos (by omega))]
          by_cases h3 : nI (s / 16) = p
          · rw [if_pos h3, if_pos h3, if_neg (by decide)]
            exact ⟨1, Or.inr rfl, rfl, tw_m_tr1_0 p m (0 + i + 1) k σm (by omega) (by omega) (by omega)⟩
          · rw [if_neg h3, if_neg h3, if_pos rfl]
            exact ih
theorem tw_p_traced_0 {d : tw_Dt} {σc σm : tw_S} (hR : tw_Rel d σc σm) (hC : tw_Coh σc false) {p : Nat} (hp : p < 8) : ∃ r : Int32, (r = 0 ∨ r = 1) ∧ g_Sh_isTraced false (nI p) σc = some (some (.inl r), σc) ∧ g_Mo_traced_0 (nI p) σm = some (some (.inl r), σm) := by
  obtain ⟨r, h1, h2, h3⟩ := tw_p_tr_0 hR hC (nI p) 16 0 17 rfl (by decide)
  refine ⟨r, h1, h2, ?_⟩
  unfold g_Mo_traced_0
  rw [if_neg (nI_pos (by omega)), if_pos (show nI p ≤ 7 from nI_le (b := 7) (by omega) (by decide)), show ((16 : Int32) * 0) = nI 0 from by decide]
  exact h3
theorem tw_m_tr1_1 (p : Int32) : ∀ (m i k : Nat) (σ : tw_S), i + m = 32 → 16 ≤ i → m < k → l_Mo_traced_1 k p 1 (nI i) σ = some (some (.inl 1), σ)
  | 0, i, k + 1, σ, h, h0, _ => by
    have hi : i = 32 := by omega
    subst hi
    unfold l_Mo_traced_1
    rw [if_pos (by decide), if_pos (Or.inr rfl)]
  | m + 1, i, k + 1, σ, h, h0, hk => by
    unfold l_Mo_traced_1
    rw [show ((16 : Int32) * 1 + 16) = nI 32 from by decide, if_neg (nI_ge (a := i) (b := 32) (by omega) (by decide)), if_neg (by decide), nI_1]
    exact tw_m_tr1_1 p m (i + 1) k σ (by omega) (by omega) (by omega)
theorem tw_p_tr_1 {d : tw_Dt} {σc σm : tw_S} (hR : tw_Rel d σc σm) (hC : tw_Coh σc true) (p : Int32) : ∀ (m i k : Nat), i + m = 16 → m < k → ∃ r : Int32, (r = 0 ∨ r = 1) ∧ l_Sh_isTraced k true p (nI i) σc = some (some (.inl r), σc) ∧ l_Mo_traced_1 k p 0 (nI (16 + i)) σm = some (some (.inl r), σm)
  | 0, i, k + 1, h, _ => by
    have hi : i = 16 := by omega
    subst hi
    refine ⟨0, Or.inl rfl, ?_, ?_⟩
    · unfold l_Sh_isTraced
      rw [if_pos (by decide)]
    · unfold l_Mo_traced_1
      rw [if_pos (by decide), if_pos (Or.inl rfl)]
  | m + 1, i, k + 1, h, hk => by
    have hi : i < 16 := by omega
    have ih := tw_p_tr_1 hR hC p m (i + 1) k (by omega) (by omega)
    have r10 : σm false 32 (16 + i) = σc true 10 i := tw_Rel_pg hR true hi
    have r12 : σm false 35 (16 + i) = σc true 12 i := tw_Rel_fi hR true hi
    have r13 : σm false 36 (16 + i) = σc true 13 i := tw_Rel_se hR true hi
    unfold l_Sh_isTraced l_Mo_traced_1
    rw [show ((16 : Int32) * 1 + 16) = nI 32 from by decide, if_neg (show ¬ (16 : Int32) ≤ nI i from nI_ge (a := i) (b := 16) hi (by decide)), if_neg (nI_ge (a := 16 + i) (b := 32) (by omega) (by decide)), if_neg (nI_in hi (by decide)), if_pos rfl, if_neg (nI_in (c := 16 + i) (by omega) (by decide)), nI_clamp (n := i) (by omega), nI_clamp (n := 16 + i) (by omega), nI_1, nI_1, r10, r12, r13]
    by_cases h1 : σc true 10 i = -1
    · rw [if_pos h1, if_pos ((tw_pg_lt (tw_coh_pg hC i hi)).mpr h1)]
      exact ih
    · rw [if_neg h1, if_neg (fun z => h1 ((tw_pg_lt (tw_coh_pg hC i hi)).mp z))]
      obtain ⟨f, hf, ef, hs⟩ := tw_coh_fs hC hi h1
      rw [ef, tw_isIn_nI hf, tw_div16 hf, tw_bi_s]
      by_cases h2 : nI (f / 16) = p
      · rw [if_pos h2, if_pos h2, if_neg (by decide)]
        exact ⟨1, Or.inr rfl, rfl, tw_m_tr1_1 p m (16 + i + 1) k σm (by omega) (by omega) (by omega)⟩
      · rw [if_neg h2, if_neg h2, if_pos rfl]
        rcases hs with es | ⟨s, hsl, es⟩
        · rw [es, tw_isIn_m1, tw_bi_s, if_pos rfl, if_pos (by decide)]
          exact ih
        · rw [es, tw_isIn_nI hsl, tw_div16 hsl, tw_bi_s, if_neg (nI_pos (by omega))]
          by_cases h3 : nI (s / 16) = p
          · rw [if_pos h3, if_pos h3, if_neg (by decide)]
            exact ⟨1, Or.inr rfl, rfl, tw_m_tr1_1 p m (16 + i + 1) k σm (by omega) (by omega) (by omega)⟩
          · rw [if_neg h3, if_neg h3, if_pos rfl]
            exact ih
theorem tw_p_traced_1 {d : tw_Dt} {σc σm : tw_S} (hR : tw_Rel d σc σm) (hC : tw_Coh σc true) {p : Nat} (hp : p < 8) : ∃ r : Int32, (r = 0 ∨ r = 1) ∧ g_Sh_isTraced true (nI p) σc = some (some (.inl r), σc) ∧ g_Mo_traced_1 (nI p) σm = some (some (.inl r), σm) := by
  obtain ⟨r, h1, h2, h3⟩ := tw_p_tr_1 hR hC (nI p) 16 0 17 rfl (by decide)
  refine ⟨r, h1, h2, ?_⟩
  unfold g_Mo_traced_1
  rw [if_neg (nI_pos (by omega)), if_pos (show nI p ≤ 7 from nI_le (b := 7) (by omega) (by decide)), show ((16 : Int32) * 1) = nI 16 from by decide]
  exact h3
/-- behind a store into the memory and the drop of its entries the entries are right -/
theorem tw_coh_over {σ : tw_S} (hC : ∀ g', tw_Coh σ g') (g : Bool) {a : Nat} (ha : a < 128) (x y : Int32) (g' : Bool) : tw_Coh (tw_pt (tw_drp (nI a) 0 g (tw_pt σ g 1 a x)) g 3 4 y) g' := by
  refine tw_Coh_pt ?_ rfl y
  by_cases eg : g' = g
  · subst eg
    intro v hv
    have n10 : ∀ c j, ¬ c = 1 → tw_pt σ g' 1 a x g' c j = σ g' c j := fun c j hc => tw_pt_n _ _ (fun z => hc z.2.1)
    have kp : ∀ c j, ¬ c = 10 → tw_drp (nI a) 0 g' (tw_pt σ g' 1 a x) g' c j = tw_pt σ g' 1 a x g' c j := fun c j hc => if_neg (fun z => hc z.2.1)
    have k10 : tw_drp (nI a) 0 g' (tw_pt σ g' 1 a x) g' 10 v = if ¬ σ g' 10 v = -1 ∧ (σ g' 12 v = nI a ∨ σ g' 13 v = nI a) then -1 else σ g' 10 v := by
      show (if g' = g' ∧ 10 = 10 ∧ 0 ≤ v ∧ v < 16 ∧ (¬ tw_pt σ g' 1 a x g' 10 v = -1 ∧ (tw_pt σ g' 1 a x g' 12 v = nI a ∨ tw_pt σ g' 1 a x g' 13 v = nI a)) then -1 else tw_pt σ g' 1 a x g' 10 v) = _
      rw [n10 10 v (by decide), n10 12 v (by decide), n10 13 v (by decide)]
      by_cases e : ¬ σ g' 10 v = -1 ∧ (σ g' 12 v = nI a ∨ σ g' 13 v = nI a)
      · rw [if_pos e, if_pos ⟨rfl, rfl, Nat.zero_le _, hv, e⟩]
      · rw [if_neg e, if_neg (fun z => e z.2.2.2.2)]
    by_cases e : ¬ σ g' 10 v = -1 ∧ (σ g' 12 v = nI a ∨ σ g' 13 v = nI a)
    · rw [if_pos e] at k10
      exact Or.inl k10
    · rw [if_neg e] at k10
      rw [k10, kp 5 6 (by decide), kp 11 v (by decide), kp 12 v (by decide), kp 13 v (by decide), n10 5 6 (by decide), n10 11 v (by decide), n10 12 v (by decide), n10 13 v (by decide)]
      rcases hC g' v hv with hh | hh
      · exact Or.inl hh
      · by_cases hno : σ g' 10 v = -1
        · exact Or.inl hno
        · refine Or.inr (tw_En0_set hv ha hh (fun z => e ⟨hno, Or.inl z⟩) (fun z => e ⟨hno, Or.inr z⟩) (fun i hi hia => ?_))
          rw [kp 1 i (by decide), tw_pt_n _ _ (fun z => hia z.2.2)]
  · have key : ∀ c j, tw_drp (nI a) 0 g (tw_pt σ g 1 a x) g' c j = σ g' c j := fun c j => by
      show (if g' = g ∧ c = 10 ∧ 0 ≤ j ∧ j < 16 ∧ _ then -1 else tw_pt σ g 1 a x g' c j) = _
      rw [if_neg (fun z => eg z.1), tw_pt_n _ _ (fun z => eg z.1)]
    exact tw_Coh_on (hC g') (key 5 6) (fun i _ => Or.inl (key 1 i)) (fun v _ => ⟨key 10 v, key 11 v, key 12 v, key 13 v⟩)
theorem tw_p_over_0 {d : tw_Dt} {σc σm : tw_S} (hR : tw_Rel d σc σm) (hC : ∀ g', tw_Coh σc g') {a : Nat} (ha : a < 128) (x : Int32) : ∃ τc τm, g_Gu_overwrite false (nI a) x σc = some (some (.inl (σc false 1 a)), τc) ∧ g_Mo_drop_0 (nI a) (tw_pt σm false 23 (0 + a) x) = some (none, τm) ∧ tw_Rel d τc τm ∧ ∀ g', tw_Coh τc g' := by
  have h0 : tw_Rel d (tw_pt (tw_pt σc false 1 a x) false 3 4 (σc false 3 4 + 0)) (tw_pt σm false 23 (0 + a) x) := by
    have e : tw_pt (tw_pt σc false 1 a x) false 3 4 (σc false 3 4 + 0) = tw_pt σc false 1 a x := by
      rw [Int32.add_zero]
      have e2 : σc false 3 4 = tw_pt σc false 1 a x false 3 4 := (tw_pt_n _ _ (fun z => absurd z.2.1 (by decide))).symm
      rw [e2, tw_pt_self]
    rw [e]
    exact tw_r_mem hR false ha x
  obtain ⟨cnt, τm, e1, e2, e3⟩ := tw_p_drop_0 (nI a) (σc false 3 4) 16 0 17 0 _ _ rfl (by decide) h0 (fun v hv => by
    rw [tw_pt_n _ _ (fun z => absurd z.2.1 (by decide))]
    exact tw_coh_pg (hC false) v hv)
  refine ⟨_, τm, ?_, ?_, e3, fun g' => tw_coh_over hC false ha x _ g'⟩
  · unfold g_Gu_overwrite g_Sh_dropThoseOf
    rw [if_neg (nI_in ha (by decide)), nI_clamp (by omega), show (0 : Int32) = nI 0 from rfl]
    rw [show (0 : Int32) = nI 0 from rfl] at e1
    rw [e1]
    rfl
  · unfold g_Mo_drop_0
    rw [show ((16 : Int32) * 0) = nI 0 from by decide]
    exact e2
theorem tw_p_over_1 {d : tw_Dt} {σc σm : tw_S} (hR : tw_Rel d σc σm) (hC : ∀ g', tw_Coh σc g') {a : Nat} (ha : a < 128) (x : Int32) : ∃ τc τm, g_Gu_overwrite true (nI a) x σc = some (some (.inl (σc true 1 a)), τc) ∧ g_Mo_drop_1 (nI a) (tw_pt σm false 23 (128 + a) x) = some (none, τm) ∧ tw_Rel d τc τm ∧ ∀ g', tw_Coh τc g' := by
  have h0 : tw_Rel d (tw_pt (tw_pt σc true 1 a x) true 3 4 (σc true 3 4 + 0)) (tw_pt σm false 23 (128 + a) x) := by
    have e : tw_pt (tw_pt σc true 1 a x) true 3 4 (σc true 3 4 + 0) = tw_pt σc true 1 a x := by
      rw [Int32.add_zero]
      have e2 : σc true 3 4 = tw_pt σc true 1 a x true 3 4 := (tw_pt_n _ _ (fun z => absurd z.2.1 (by decide))).symm
      rw [e2, tw_pt_self]
    rw [e]
    exact tw_r_mem hR true ha x
  obtain ⟨cnt, τm, e1, e2, e3⟩ := tw_p_drop_1 (nI a) (σc true 3 4) 16 0 17 0 _ _ rfl (by decide) h0 (fun v hv => by
    rw [tw_pt_n _ _ (fun z => absurd z.2.1 (by decide))]
    exact tw_coh_pg (hC true) v hv)
  refine ⟨_, τm, ?_, ?_, e3, fun g' => tw_coh_over hC true ha x _ g'⟩
  · unfold g_Gu_overwrite g_Sh_dropThoseOf
    rw [if_neg (nI_in ha (by decide)), nI_clamp (by omega), show (0 : Int32) = nI 0 from rfl]
    rw [show (0 : Int32) = nI 0 from rfl] at e1
    rw [e1]
    rfl
  · unfold g_Mo_drop_1
    rw [show ((16 : Int32) * 1) = nI 16 from by decide]
    exact e2
theorem tw_p_load_0 {d : tw_Dt} {σc σm : tw_S} (hR : tw_Rel d σc σm) (hC : ∀ g', tw_Coh σc g') {j : Nat} (hj : j < 8) (v b : Int32) : tw_OutP d (g_Gu_load false (nI j) v σc) (g_Mo_data_0_10 (nI j) v b σm) := by
  have hb0 : ∀ i : Nat, (128 : Int32) * 0 + nI i = nI (0 + i) := fun i => by
    rw [show (128 : Int32) * 0 = nI 0 from by decide, nI_add]
  unfold g_Gu_load g_Mo_data_0_10
  rcases tw_p_acc_0_1 hR hC v with ⟨a, τc, τm, ha, ec, em, hR2, hC2, -⟩ | ⟨cause, τc, τm, hcs, ec, em, hR2, hC2, -⟩
  · have w23 : τm false 23 (0 + a) = τc false 1 a := tw_Rel_1 hR2 false ha
    rw [ec, em, tw_bi_s, tw_bi_s, if_pos (nI_pos' (by omega)), if_pos (nI_pos' (by omega)), if_neg (nI_in ha (by decide)), hb0, if_neg (nI_in (by omega) (by decide)), nI_clamp (by omega), nI_clamp (by omega), w23, tw_c_set false hj, tw_m_set_0 hj, tw_bv_s, tw_bv_s]
    have hR3 := tw_r_set hR2 false hj (τc false 1 a)
    exact tw_o_ret hR3 (fun g' => tw_coh_set (hC2 g') false j _) false (by rw [← tw_Rel_pc hR3 false]; rfl)
  · rw [ec, em, tw_bi_s, tw_bi_s, if_neg (by decide : ¬ (0 : Int32) ≤ -1)]
    rcases hcs with rfl | rfl
    · rw [if_neg (by decide), show (-(-5 : Int32)) = 5 from by decide]
      exact tw_o_hand (tw_o_flt hR2 hC2 false 5 v)
    · rw [if_neg (by decide), show (-(-13 : Int32)) = 13 from by decide]
      exact tw_o_hand (tw_o_flt hR2 hC2 false 13 v)
theorem tw_p_store_0 {d : tw_Dt} {σc σm : tw_S} (hR : tw_Rel d σc σm) (hC : ∀ g', tw_Coh σc g') (j v b : Int32) : tw_OutP d (g_Gu_store false v b σc) (g_Mo_data_0_11 j v b σm) := by
  have hb0 : ∀ i : Nat, (128 : Int32) * 0 + nI i = nI (0 + i) := fun i => by
    rw [show (128 : Int32) * 0 = nI 0 from by decide, nI_add]
  unfold g_Gu_store g_Mo_data_0_11
  rcases tw_p_acc_0_2 hR hC v with ⟨a, τc, τm, ha, ec, em, hR2, hC2, -⟩ | ⟨cause, τc, τm, hcs, ec, em, hR2, hC2, -⟩
  · obtain ⟨r, hr, tc, tm⟩ := tw_p_traced_0 hR2 (hC2 false) (p := a / 16) (by omega)
    rw [ec, em, tw_bi_s, tw_bi_s, if_pos (nI_pos' (by omega)), if_pos (nI_pos' (by omega)), tw_sh4 (by omega), tw_div16 ha, tc, tm, tw_bi_s, tw_bi_s, hb0, if_neg (nI_in (by omega) (by decide)), nI_clamp (by omega)]
    rcases hr with rfl | rfl
    · rw [if_pos rfl, if_pos rfl]
      obtain ⟨uc, um, oc, om, hR3, hC3⟩ := tw_p_over_0 hR2 hC2 ha b
      rw [oc, om, tw_bi_s, tw_bv_s]
      exact tw_o_ret hR3 hC3 false (by rw [← tw_Rel_pc hR3 false]; rfl)
    · rw [if_neg (by decide), if_neg (by decide)]
      have hR4 := tw_r_cnt hR2 false (j := 3) (by decide) (τc false 3 3 + 1)
      obtain ⟨uc, um, oc, om, hR3, hC3⟩ := tw_p_over_0 hR4 (fun g' => tw_Coh_pt (hC2 g') rfl _) ha b
      have em3 : tw_pt (tw_pt τm false 23 (0 + a) b) false 31 3 (τm false 31 3 + 1) = tw_pt (tw_pt τm false 31 (9 * tw_b false + 3) (τc false 3 3 + 1)) false 23 (0 + a) b := by
        rw [← tw_Rel_3 hR2 false (j := 3) (by decide)]
        exact tw_pt_comm _ _ _ (fun z => absurd z.2.1 (by decide))
      rw [em3, oc, om, tw_bi_s, tw_bv_s]
      exact tw_o_ret hR3 hC3 false (by rw [← tw_Rel_pc hR3 false]; rfl)
  · rw [ec, em, tw_bi_s, tw_bi_s, if_neg (by decide : ¬ (0 : Int32) ≤ -1)]
    rcases hcs with rfl | rfl
    · rw [if_neg (by decide), show (-(-7 : Int32)) = 7 from by decide]
      exact tw_o_hand (tw_o_flt hR2 hC2 false 7 v)
    · rw [if_neg (by decide), show (-(-15 : Int32)) = 15 from by decide]
      exact tw_o_hand (tw_o_flt hR2 hC2 false 15 v)
theorem tw_p_load_1 {d : tw_Dt} {σc σm : tw_S} (hR : tw_Rel d σc σm) (hC : ∀ g', tw_Coh σc g') {j : Nat} (hj : j < 8) (v b : Int32) : tw_OutP d (g_Gu_load true (nI j) v σc) (g_Mo_data_1_10 (nI j) v b σm) := by
  have hb0 : ∀ i : Nat, (128 : Int32) * 1 + nI i = nI (128 + i) := fun i => by
    rw [show (128 : Int32) * 1 = nI 128 from by decide, nI_add]
  unfold g_Gu_load g_Mo_data_1_10
  rcases tw_p_acc_1_1 hR hC v with ⟨a, τc, τm, ha, ec, em, hR2, hC2, -⟩ | ⟨cause, τc, τm, hcs, ec, em, hR2, hC2, -⟩
  · have w23 : τm false 23 (128 + a) = τc true 1 a := tw_Rel_1 hR2 true ha
    rw [ec, em, tw_bi_s, tw_bi_s, if_pos (nI_pos' (by omega)), if_pos (nI_pos' (by omega)), if_neg (nI_in ha (by decide)), hb0, if_neg (nI_in (by omega) (by decide)), nI_clamp (by omega), nI_clamp (by omega), w23, tw_c_set true hj, tw_m_set_1 hj, tw_bv_s, tw_bv_s]
    have hR3 := tw_r_set hR2 true hj (τc true 1 a)
    exact tw_o_ret hR3 (fun g' => tw_coh_set (hC2 g') true j _) true (by rw [← tw_Rel_pc hR3 true]; rfl)
  · rw [ec, em, tw_bi_s, tw_bi_s, if_neg (by decide : ¬ (0 : Int32) ≤ -1)]
    rcases hcs with rfl | rfl
    · rw [if_neg (by decide), show (-(-5 : Int32)) = 5 from by decide]
      exact tw_o_hand (tw_o_flt hR2 hC2 true 5 v)
    · rw [if_neg (by decide), show (-(-13 : Int32)) = 13 from by decide]
      exact tw_o_hand (tw_o_flt hR2 hC2 true 13 v)
theorem tw_p_store_1 {d : tw_Dt} {σc σm : tw_S} (hR : tw_Rel d σc σm) (hC : ∀ g', tw_Coh σc g') (j v b : Int32) : tw_OutP d (g_Gu_store true v b σc) (g_Mo_data_1_11 j v b σm) := by
  have hb0 : ∀ i : Nat, (128 : Int32) * 1 + nI i = nI (128 + i) := fun i => by
    rw [show (128 : Int32) * 1 = nI 128 from by decide, nI_add]
  unfold g_Gu_store g_Mo_data_1_11
  rcases tw_p_acc_1_2 hR hC v with ⟨a, τc, τm, ha, ec, em, hR2, hC2, -⟩ | ⟨cause, τc, τm, hcs, ec, em, hR2, hC2, -⟩
  · obtain ⟨r, hr, tc, tm⟩ := tw_p_traced_1 hR2 (hC2 true) (p := a / 16) (by omega)
    rw [ec, em, tw_bi_s, tw_bi_s, if_pos (nI_pos' (by omega)), if_pos (nI_pos' (by omega)), tw_sh4 (by omega), tw_div16 ha, tc, tm, tw_bi_s, tw_bi_s, hb0, if_neg (nI_in (by omega) (by decide)), nI_clamp (by omega)]
    rcases hr with rfl | rfl
    · rw [if_pos rfl, if_pos rfl]
      obtain ⟨uc, um, oc, om, hR3, hC3⟩ := tw_p_over_1 hR2 hC2 ha b
      rw [oc, om, tw_bi_s, tw_bv_s]
      exact tw_o_ret hR3 hC3 true (by rw [← tw_Rel_pc hR3 true]; rfl)
    · rw [if_neg (by decide), if_neg (by decide)]
      have hR4 := tw_r_cnt hR2 true (j := 3) (by decide) (τc true 3 3 + 1)
      obtain ⟨uc, um, oc, om, hR3, hC3⟩ := tw_p_over_1 hR4 (fun g' => tw_Coh_pt (hC2 g') rfl _) ha b
      have em3 : tw_pt (tw_pt τm false 23 (128 + a) b) false 31 12 (τm false 31 12 + 1) = tw_pt (tw_pt τm false 31 (9 * tw_b true + 3) (τc true 3 3 + 1)) false 23 (128 + a) b := by
        rw [← tw_Rel_3 hR2 true (j := 3) (by decide)]
        exact tw_pt_comm _ _ _ (fun z => absurd z.2.1 (by decide))
      rw [em3, oc, om, tw_bi_s, tw_bv_s]
      exact tw_o_ret hR3 hC3 true (by rw [← tw_Rel_pc hR3 true]; rfl)
  · rw [ec, em, tw_bi_s, tw_bi_s, if_neg (by decide : ¬ (0 : Int32) ≤ -1)]
    rcases hcs with rfl | rfl
    · rw [if_neg (by decide), show (-(-7 : Int32)) = 7 from by decide]
      exact tw_o_hand (tw_o_flt hR2 hC2 true 7 v)
    · rw [if_neg (by decide), show (-(-15 : Int32)) = 15 from by decide]
      exact tw_o_hand (tw_o_flt hR2 hC2 true 15 v)
