/-! Accesses on both sides. -/
theorem tw_bi_s (x : Int32) (σ : tw_S) (k : Int32 → tw_S → Option tw_R) : tw_bi (some (some (.inl x), σ)) k = k x σ := rfl
theorem tw_bv_s (σ : tw_S) (k : tw_S → Option tw_R) : tw_bv (some (none, σ)) k = k σ := rfl
theorem tw_br_s (o : Nat) (σ : tw_S) (k : Nat → tw_S → Option tw_R) : tw_br (some (some (.inr (false, o)), σ)) k = k o σ := rfl
theorem tw_hand_s (x : Int32) (σ : tw_S) : tw_hand (some (some (.inl x), σ)) = some (some (.inl x), σ) := rfl
/-- what an access leaves alone -/
def tw_fr (σ τ : tw_S) : Prop := ∀ g c j, (c = 5 ∨ c = 6 ∨ c = 7 ∨ c = 0) → τ g c j = σ g c j
theorem tw_fr_rf (σ : tw_S) : tw_fr σ σ := fun _ _ _ _ => rfl
theorem tw_fr_14 {σ τ : tw_S} (h : ∀ g c j, ¬ c = 14 → τ g c j = σ g c j) : tw_fr σ τ := fun g c j hc => h g c j (by omega)
theorem tw_fr_flc {σ τ : tw_S} (h : tw_fr σ τ) (g : Bool) (v a pg f : Nat) (sec w : Int32) : tw_fr σ (tw_flc g v a pg f sec w τ) := fun g' c j hc => by
  unfold tw_flc
  rw [tw_pt_n _ _ (fun z => by omega), tw_pt_n _ _ (fun z => by omega), tw_pt_n _ _ (fun z => by omega), tw_pt_n _ _ (fun z => by omega), tw_pt_n _ _ (fun z => by omega), tw_pt_n _ _ (fun z => by omega)]
  exact h g' c j hc
def tw_AccP (d : tw_Dt) (g : Bool) (v ou pf : Int32) (σc : tw_S) (rc rm : Option tw_R) : Prop :=
  (∃ (a : Nat) (τc τm : tw_S), a < 128 ∧ rc = some (some (.inl (nI a)), τc) ∧ rm = some (some (.inl (nI a)), τm) ∧ tw_Rel d τc τm ∧ (∀ g', tw_Coh τc g') ∧ tw_fr σc τc) ∨
  (∃ (cause : Int32) (τc τm : tw_S), (cause = ou ∨ cause = pf) ∧ rc = some (some (.inl (-cause)), τc) ∧ rm = some (some (.inl (-1)), tw_flt g cause v τm) ∧ tw_Rel d τc τm ∧ (∀ g', tw_Coh τc g') ∧ tw_fr σc τc)
theorem tw_128 (v : Int32) : 128 ≤ v ↔ 127 < v := by
  rw [Int32.le_iff_toInt_le, Int32.lt_iff_toInt_lt]
  have a : (128 : Int32).toInt = 128 := by decide
  have b : (127 : Int32).toInt = 127 := by decide
  omega
theorem tw_256 (v : Int32) : v < 256 ↔ v ≤ 255 := by
  rw [Int32.le_iff_toInt_le, Int32.lt_iff_toInt_lt]
  have a : (256 : Int32).toInt = 256 := by decide
  have b : (255 : Int32).toInt = 255 := by decide
  omega
theorem tw_coh_pg {σ : tw_S} {g : Bool} (h : tw_Coh σ g) (v : Nat) (hv : v < 16) : σ g 10 v = -1 ∨ 0 ≤ σ g 10 v := by
  rcases h v hv with e | ⟨t, k, pg, a, h1, h2, h3, h4, h5, h6, h7, -⟩
  · exact Or.inl e
  · rw [h7]; exact Or.inr (nI_pos' (by omega))
theorem tw_Rel_pg {d : tw_Dt} {σc σm : tw_S} (h : tw_Rel d σc σm) (g : Bool) {v : Nat} (hv : v < 16) : σm false 32 (16 * tw_b g + v) = σc g 10 v := (h.1 g 10 v _ (tw_m10 g hv)).symm
/-- what a walk finds lies in bounds, and the second word is the leaf's place unless the leaf is the first -/
theorem tw_F_rng {t v a pg : Nat} {M : Nat → Int32} {sec : Int32} (hv : v < 16) (h : tw_F t M v = .inr (a, pg, sec)) : a < 128 ∧ pg < 32 ∧ (if nI a = nI (16 * t + v / 4) then -1 else nI a) = sec := by
  unfold tw_F at h
  by_cases h8 : 8 ≤ t
  · rw [if_pos h8] at h; cases h
  · rw [if_neg h8] at h
    obtain ⟨k, hk, ek, ekc⟩ := tw_num_nI (M (16 * t + v / 4))
    by_cases hb : ¬ tw_brk (M (16 * t + v / 4)) = 0
    · rw [if_pos hb] at h; cases h
    · rw [if_neg hb] at h
      by_cases hl : M (16 * t + v / 4) &&& 10 = 0
      · rw [if_pos hl, ekc] at h
        by_cases hk8 : 8 ≤ k
        · rw [if_pos hk8] at h; cases h
        · rw [if_neg hk8] at h
          by_cases hb2 : ¬ tw_brk (M (16 * k + v % 4)) = 0
          · rw [if_pos hb2] at h; cases h
          · rw [if_neg hb2] at h
            by_cases hl2 : M (16 * k + v % 4) &&& 10 = 0
            · rw [if_pos hl2] at h; cases h
            · rw [if_neg hl2] at h
              obtain ⟨k2, hk2, ek2, ekc2⟩ := tw_num_nI (M (16 * k + v % 4))
              cases h
              refine ⟨by omega, by omega, if_neg (fun z => ?_)⟩
              have z2 : 16 * k + v % 4 = 16 * t + v / 4 := (nI_eq (by omega) (by omega)).mp z
              rw [z2] at hl2
              exact hl2 hl
      · rw [if_neg hl, ekc] at h
        by_cases h4 : k % 4 = 0
        · rw [if_pos h4] at h
          cases h
          exact ⟨by omega, by omega, if_pos rfl⟩
        · rw [if_neg h4] at h; cases h
theorem tw_m_acc_0_0 {d : tw_Dt} {σc σm : tw_S} (hR : tw_Rel d σc σm) (hC : ∀ g', tw_Coh σc g') {n : Nat} (hn : n < 256) (ht : ¬ σc false 5 6 &&& 128 = 0) : ∃ fl : Int32, g_Mo_access_0_0 (nI n) σm = tw_hand (g_Mo_walk_0_0 (nI n) (tw_pt σm false 22 19 fl)) ∧ (fl = 0 ↔ ¬ tw_thr 8 0 σc false (n / 16)) := by
  have e6 : σm false 25 6 = σc false 5 6 := tw_Rel_5 hR false (j := 6) (by decide)
  have e0 : σm false 25 0 = σc false 5 0 := tw_Rel_5 hR false (j := 0) (by decide)
  have e7 : σm false 27 0 = σc false 0 7 := (hR.1 false 0 7 _ (tw_mus false)).symm
  have hv : n / 16 < 16 := by omega
  obtain ⟨-, -, hbits, -⟩ := hR.2.1 false
  obtain ⟨b1, b2, -⟩ := hbits (n / 16) hv
  have b1 : σm false 33 (0 + n / 16) = σc false 11 (n / 16) &&& 30 := b1
  have b2 : σm false 34 (0 + n / 16) = (if σc false 11 (n / 16) &&& 64 = 0 then 0 else 1) := b2
  have ep : σm false 32 (0 + n / 16) = σc false 10 (n / 16) := tw_Rel_pg hR false hv
  have hvp : (16 : Int32) * 0 + nI n >>> ((4 : Int32) &&& 31) = nI (0 + n / 16) := by
    rw [tw_sh4 hn, show (16 : Int32) * 0 = nI 0 from by decide, nI_add]
  unfold g_Mo_access_0_0 tw_thr
  rw [e6, if_neg ht, if_neg (nI_pos (by omega)), if_pos ((tw_256 (nI n)).mp (nI_lt (b := 256) hn (by decide))), hvp, if_neg (nI_in (by omega) (by decide)), nI_clamp (by omega), ep]
  by_cases h1 : σc false 10 (n / 16) = -1
  · rw [if_pos ((tw_pg_lt (tw_coh_pg (hC false) _ hv)).mpr h1)]
    exact ⟨0, rfl, fun _ z => z.1 h1, fun _ => rfl⟩
  · rw [if_neg (fun z => h1 ((tw_pg_lt (tw_coh_pg (hC false) _ hv)).mp z)), tw_m_alw_0_0, b1, e7, e0, tw_alw_w (w := σc false 11 (n / 16) &&& 30) (w' := σc false 11 (n / 16)) (tw_and_and _ (by decide)) (by decide), tw_bi_s]
    by_cases h2 : tw_alw 8 0 (σc false 11 (n / 16)) (σc false 0 7) (σc false 5 0 &&& 8) = 0
    · rw [if_pos h2]
      exact ⟨0, rfl, fun _ z => z.2.1 h2, fun _ => rfl⟩
    · rw [if_neg h2]
      exact ⟨1, rfl, fun z => absurd z (by decide), fun z => absurd ⟨h1, h2, fun e => absurd e (by decide)⟩ z⟩
theorem tw_p_acc_0_0 {d : tw_Dt} {σc σm : tw_S} (hR : tw_Rel d σc σm) (hC : ∀ g', tw_Coh σc g') (v : Int32) : tw_AccP d false v 1 12 σc (g_Gu_reach_F false v σc) (g_Mo_access_0_0 v σm) := by
  have e6 : σm false 25 6 = σc false 5 6 := tw_Rel_5 hR false (j := 6) (by decide)
  by_cases ht : σc false 5 6 &&& 128 = 0
  · unfold g_Gu_reach_F g_Mo_access_0_0 g_Co_translates g_TH_isWord
    rw [e6, if_pos ht, if_pos ht, tw_bi_s, if_pos rfl]
    by_cases hv : v < 0
    · rw [if_pos hv, if_pos hv, tw_bi_s, if_pos rfl, tw_m_outside_0_0]
      exact Or.inr ⟨1, σc, σm, Or.inl rfl, rfl, rfl, hR, hC, tw_fr_rf _⟩
    · rw [if_neg hv, if_neg hv]
      by_cases h2 : 127 < v
      · rw [if_pos h2, if_pos ((tw_128 v).mpr h2), tw_bi_s, if_pos rfl, tw_m_outside_0_0]
        exact Or.inr ⟨1, σc, σm, Or.inl rfl, rfl, rfl, hR, hC, tw_fr_rf _⟩
      · rw [if_neg h2, if_neg (fun z => h2 ((tw_128 v).mp z)), tw_bi_s, if_neg (by decide)]
        obtain ⟨j, hj, rfl⟩ := nI_of2 (M := 127) (n := 127) (by decide) hv (Int32.not_lt.mp h2)
        exact Or.inl ⟨j, σc, σm, by omega, rfl, rfl, hR, hC, tw_fr_rf _⟩
  · have hcl : g_Co_translates false σc = some (some (.inl 1), σc) := if_neg ht
    by_cases hv : v < 0
    · unfold g_Gu_reach_F g_Mo_access_0_0
      rw [hcl, tw_bi_s, if_neg (by decide), if_pos hv, e6, if_neg ht, if_pos hv, tw_m_fault_0_0]
      exact Or.inr ⟨12, σc, σm, Or.inr rfl, rfl, rfl, hR, hC, tw_fr_rf _⟩
    · by_cases h2 : v ≤ 255
      · obtain ⟨n, hn0, rfl⟩ := nI_of2 (M := 255) (n := 255) (by decide) hv h2
        have hn : n < 256 := by omega
        have hvp : n / 16 < 16 := by omega
        obtain ⟨fl, em, hfl⟩ := tw_m_acc_0_0 hR hC hn ht
        obtain ⟨r, er, hr⟩ := tw_c_thr_F false hvp σc
        obtain ⟨t, ht16, eT⟩ := pk_andE (σc false 5 6) (m := 15) 4 (by decide)
        have hMm : ∀ i, i < 128 → tw_pt σm false 22 19 fl false 23 (0 + i) = σc false 1 i := fun i hi => by
          rw [tw_pt_n _ _ (fun z => absurd z.2.1 (by decide))]
          exact tw_Rel_1 hR false hi
        obtain ⟨τm, hτm, ew, hfm⟩ := tw_m_walk_0_0 ht16 hn (tw_pt σm false 22 19 fl) (M := σc false 1) (by rw [tw_pt_n _ _ (fun z => absurd z.2.1 (by decide)), e6]; exact eT) hMm
        have hRm : tw_Rel d σc τm := tw_Rel_onm hR (fun g' c j hc => by
          rw [hτm g' c j (fun z => hc ⟨z.1, by omega⟩), tw_pt_n _ _ (fun z => hc ⟨z.2.1, by omega⟩)])
        have h19 : τm false 22 19 = fl := by rw [hτm false 22 19 (by omega), tw_pt_s]
        have w23 : ∀ i, i < 128 → τm false 23 (0 + i) = σc false 1 i := fun i hi => tw_Rel_1 hRm false hi
        have w27 : τm false 27 0 = σc false 0 7 := (hRm.1 false 0 7 _ (tw_mus false)).symm
        have w25 : τm false 25 0 = σc false 5 0 := tw_Rel_5 hRm false (j := 0) (by decide)
        have eat : ∀ pg : Nat, pg < 16 → nI pg <<< ((4 : Int32) &&& 31) + (nI n &&& 15) = nI (16 * pg + n % 16) := fun pg hp => by
          rw [tw_sl4 (by omega), tw_an15 hn, nI_add]
          congr 1
          omega
        rw [em, ew]
        unfold g_Gu_reach_F
        rw [hcl, tw_bi_s, if_neg (by decide), if_neg hv, if_pos ((tw_256 _).mpr h2), tw_c_isOn, tw_bi_s, tw_sh4 hn, er, tw_bi_s]
        by_cases hthr : tw_thr 8 0 σc false (n / 16)
        · rw [if_neg (fun z => hr.mp z hthr), if_neg (nI_in hvp (by decide)), nI_clamp (by omega)]
          rcases hC false (n / 16) hvp with hno | hent
          · exact absurd hno hthr.1
          · obtain ⟨t', a, pg, q1, q2, q3, q4, q5, q6, q7, q8, q9⟩ := tw_En0_F hent
            have ett : t' = t := (nI_eq (by omega) (by omega)).mp (q2.symm.trans eT)
            subst ett
            obtain ⟨f17, f18⟩ := hfm a pg _ q3
            rw [q3]
            show tw_AccP d false (nI n) 1 12 σc _ (tw_hand (tw_hand (g_Mo_reach_0_0 (nI n) (nI pg) τm)))
            rw [tw_m_reach_0_0 hn q6 (by omega) f17 f18, w23 a q6, w27, w25, tw_alw_w q7 (by decide), if_neg hthr.2.1, if_neg (by omega), h19, if_neg (fun z => hfl.mp z hthr), q4, eat pg (by omega)]
            have efix : σc false 1 a ||| 32 = σc false 1 a := tw_fix32 q8
            rw [efix, ← w23 a q6, tw_pt_self]
            exact Or.inl ⟨16 * pg + n % 16, σc, τm, by omega, rfl, rfl, hRm, hC, tw_fr_rf _⟩
        · rw [if_pos (hr.mpr hthr), eT]
          obtain ⟨τc, hτc, es, hfc⟩ := tw_c_search_F false ht16 hn σc
          have hRc : tw_Rel d τc τm := tw_Rel_onc hRm hτc
          have hCc : ∀ g', tw_Coh τc g' := fun g' => tw_Coh_onc (hC g') hτc
          rw [es, tw_bi_s]
          cases hF : tw_F t (σc false 1) (n / 16) with
          | inl q =>
            rcases q with _ | q
            · show tw_AccP d false (nI n) 1 12 σc (if (12 : Int32) = 0 then _ else _) (tw_hand (tw_hand (g_Mo_fault_0_0 (nI n) τm)))
              rw [if_neg (by decide), tw_m_fault_0_0]
              exact Or.inr ⟨12, τc, τm, Or.inr rfl, rfl, rfl, hRc, hCc, tw_fr_14 hτc⟩
            · show tw_AccP d false (nI n) 1 12 σc (if (1 : Int32) = 0 then _ else _) (tw_hand (tw_hand (g_Mo_outside_0_0 (nI n) τm)))
              rw [if_neg (by decide), tw_m_outside_0_0]
              exact Or.inr ⟨1, τc, τm, Or.inl rfl, rfl, rfl, hRc, hCc, tw_fr_14 hτc⟩
          | inr q =>
            obtain ⟨a, pg, sec⟩ := q
            obtain ⟨c0, c1, c2, c3⟩ := hfc a pg sec hF
            obtain ⟨f17, f18⟩ := hfm a pg sec hF
            obtain ⟨ha, hpg, hsec⟩ := tw_F_rng hvp hF
            show tw_AccP d false (nI n) 1 12 σc (if (0 : Int32) = 0 then _ else _) (tw_hand (tw_hand (g_Mo_reach_0_0 (nI n) (nI pg) τm)))
            have k1 : τc false 1 a = σc false 1 a := hτc false 1 a (by decide)
            have k7 : τc false 0 7 = σc false 0 7 := hτc false 0 7 (by decide)
            have k5 : τc false 5 0 = σc false 5 0 := hτc false 5 0 (by decide)
            rw [if_pos rfl, tw_c_fill_F false hvp ha hpg c0 c1 c2 c3, tw_m_reach_0_0 hn ha hpg f17 f18, k1, k7, k5, w23 a ha, w27, w25]
            by_cases ha0 : tw_alw 8 0 (σc false 1 a) (σc false 0 7) (σc false 5 0 &&& 8) = 0
            · rw [if_pos ha0, if_pos ha0, tw_bi_s, if_neg (by decide)]
              exact Or.inr ⟨12, τc, τm, Or.inr rfl, rfl, rfl, hRc, hCc, tw_fr_14 hτc⟩
            · rw [if_neg ha0, if_neg ha0]
              by_cases hp8 : 8 ≤ pg
              · rw [if_pos hp8, if_pos hp8, tw_bi_s, if_neg (by decide)]
                exact Or.inr ⟨1, τc, τm, Or.inl rfl, rfl, rfl, hRc, hCc, tw_fr_14 hτc⟩
              · rw [if_neg hp8, if_neg hp8, h19, if_pos (hfl.mpr hthr), tw_bi_s, if_pos rfl, if_neg (nI_in hvp (by decide)), nI_clamp (by omega), hsec]
                have e10 : tw_flc false (n / 16) a pg (16 * t + n / 16 / 4) sec (σc false 1 a ||| 32) τc false 10 (n / 16) = nI pg := by simp [tw_flc, tw_pt_eq]
                rw [e10, eat pg (by omega)]
                refine Or.inl ⟨16 * pg + n % 16, _, _, by omega, rfl, rfl, tw_r_fill hRc false hvp ha sec _, ?_, tw_fr_flc (tw_fr_14 hτc) _ _ _ _ _ _ _⟩
                rw [← k1]
                exact tw_coh_fill hCc (Or.inl rfl) (by rw [hτc false 5 6 (by decide)]; exact eT) hvp (by rw [tw_F_on (M := σc false 1) hvp (fun i _ => hτc false 1 i (by decide))]; exact hF) (by omega)
      · unfold g_Gu_reach_F g_Mo_access_0_0
        rw [hcl, tw_bi_s, if_neg (by decide), if_neg hv, if_neg (fun z => h2 ((tw_256 v).mp z)), e6, if_neg ht, if_neg hv, if_neg h2, tw_m_fault_0_0]
        exact Or.inr ⟨12, σc, σm, Or.inr rfl, rfl, rfl, hR, hC, tw_fr_rf _⟩
theorem tw_m_acc_0_1 {d : tw_Dt} {σc σm : tw_S} (hR : tw_Rel d σc σm) (hC : ∀ g', tw_Coh σc g') {n : Nat} (hn : n < 256) (ht : ¬ σc false 5 6 &&& 128 = 0) : ∃ fl : Int32, g_Mo_access_0_1 (nI n) σm = tw_hand (g_Mo_walk_0_1 (nI n) (tw_pt σm false 22 19 fl)) ∧ (fl = 0 ↔ ¬ tw_thr 2 1 σc false (n / 16)) := by
  have e6 : σm false 25 6 = σc false 5 6 := tw_Rel_5 hR false (j := 6) (by decide)
  have e0 : σm false 25 0 = σc false 5 0 := tw_Rel_5 hR false (j := 0) (by decide)
  have e7 : σm false 27 0 = σc false 0 7 := (hR.1 false 0 7 _ (tw_mus false)).symm
  have hv : n / 16 < 16 := by omega
  obtain ⟨-, -, hbits, -⟩ := hR.2.1 false
  obtain ⟨b1, b2, -⟩ := hbits (n / 16) hv
  have b1 : σm false 33 (0 + n / 16) = σc false 11 (n / 16) &&& 30 := b1
  have b2 : σm false 34 (0 + n / 16) = (if σc false 11 (n / 16) &&& 64 = 0 then 0 else 1) := b2
  have ep : σm false 32 (0 + n / 16) = σc false 10 (n / 16) := tw_Rel_pg hR false hv
  have hvp : (16 : Int32) * 0 + nI n >>> ((4 : Int32) &&& 31) = nI (0 + n / 16) := by
    rw [tw_sh4 hn, show (16 : Int32) * 0 = nI 0 from by decide, nI_add]
  unfold g_Mo_access_0_1 tw_thr
  rw [e6, if_neg ht, if_neg (nI_pos (by omega)), if_pos ((tw_256 (nI n)).mp (nI_lt (b := 256) hn (by decide))), hvp, if_neg (nI_in (by omega) (by decide)), nI_clamp (by omega), ep]
  by_cases h1 : σc false 10 (n / 16) = -1
  · rw [if_pos ((tw_pg_lt (tw_coh_pg (hC false) _ hv)).mpr h1)]
    exact ⟨0, rfl, fun _ z => z.1 h1, fun _ => rfl⟩
  · rw [if_neg (fun z => h1 ((tw_pg_lt (tw_coh_pg (hC false) _ hv)).mp z)), tw_m_alw_0_1, b1, e7, e0, tw_alw_w (w := σc false 11 (n / 16) &&& 30) (w' := σc false 11 (n / 16)) (tw_and_and _ (by decide)) (by decide), tw_bi_s]
    by_cases h2 : tw_alw 2 1 (σc false 11 (n / 16)) (σc false 0 7) (σc false 5 0 &&& 8) = 0
    · rw [if_pos h2]
      exact ⟨0, rfl, fun _ z => z.2.1 h2, fun _ => rfl⟩
    · rw [if_neg h2]
      exact ⟨1, rfl, fun z => absurd z (by decide), fun z => absurd ⟨h1, h2, fun e => absurd e (by decide)⟩ z⟩
theorem tw_p_acc_0_1 {d : tw_Dt} {σc σm : tw_S} (hR : tw_Rel d σc σm) (hC : ∀ g', tw_Coh σc g') (v : Int32) : tw_AccP d false v 5 13 σc (g_Gu_reach_L false v σc) (g_Mo_access_0_1 v σm) := by
  have e6 : σm false 25 6 = σc false 5 6 := tw_Rel_5 hR false (j := 6) (by decide)
  by_cases ht : σc false 5 6 &&& 128 = 0
  · unfold g_Gu_reach_L g_Mo_access_0_1 g_Co_translates g_TH_isWord
    rw [e6, if_pos ht, if_pos ht, tw_bi_s, if_pos rfl]
    by_cases hv : v < 0
    · rw [if_pos hv, if_pos hv, tw_bi_s, if_pos rfl, tw_m_outside_0_1]
      exact Or.inr ⟨5, σc, σm, Or.inl rfl, rfl, rfl, hR, hC, tw_fr_rf _⟩
    · rw [if_neg hv, if_neg hv]
      by_cases h2 : 127 < v
      · rw [if_pos h2, if_pos ((tw_128 v).mpr h2), tw_bi_s, if_pos rfl, tw_m_outside_0_1]
        exact Or.inr ⟨5, σc, σm, Or.inl rfl, rfl, rfl, hR, hC, tw_fr_rf _⟩
      · rw [if_neg h2, if_neg (fun z => h2 ((tw_128 v).mp z)), tw_bi_s, if_neg (by decide)]
        obtain ⟨j, hj, rfl⟩ := nI_of2 (M := 127) (n := 127) (by decide) hv (Int32.not_lt.mp h2)
        exact Or.inl ⟨j, σc, σm, by omega, rfl, rfl, hR, hC, tw_fr_rf _⟩
  · have hcl : g_Co_translates false σc = some (some (.inl 1), σc) := if_neg ht
    by_cases hv : v < 0
    · unfold g_Gu_reach_L g_Mo_access_0_1
      rw [hcl, tw_bi_s, if_neg (by decide), if_pos hv, e6, if_neg ht, if_pos hv, tw_m_fault_0_1]
      exact Or.inr ⟨13, σc, σm, Or.inr rfl, rfl, rfl, hR, hC, tw_fr_rf _⟩
    · by_cases h2 : v ≤ 255
      · obtain ⟨n, hn0, rfl⟩ := nI_of2 (M := 255) (n := 255) (by decide) hv h2
        have hn : n < 256 := by omega
        have hvp : n / 16 < 16 := by omega
        obtain ⟨fl, em, hfl⟩ := tw_m_acc_0_1 hR hC hn ht
        obtain ⟨r, er, hr⟩ := tw_c_thr_L false hvp σc
        obtain ⟨t, ht16, eT⟩ := pk_andE (σc false 5 6) (m := 15) 4 (by decide)
        have hMm : ∀ i, i < 128 → tw_pt σm false 22 19 fl false 23 (0 + i) = σc false 1 i := fun i hi => by
          rw [tw_pt_n _ _ (fun z => absurd z.2.1 (by decide))]
          exact tw_Rel_1 hR false hi
        obtain ⟨τm, hτm, ew, hfm⟩ := tw_m_walk_0_1 ht16 hn (tw_pt σm false 22 19 fl) (M := σc false 1) (by rw [tw_pt_n _ _ (fun z => absurd z.2.1 (by decide)), e6]; exact eT) hMm
        have hRm : tw_Rel d σc τm := tw_Rel_onm hR (fun g' c j hc => by
          rw [hτm g' c j (fun z => hc ⟨z.1, by omega⟩), tw_pt_n _ _ (fun z => hc ⟨z.2.1, by omega⟩)])
        have h19 : τm false 22 19 = fl := by rw [hτm false 22 19 (by omega), tw_pt_s]
        have w23 : ∀ i, i < 128 → τm false 23 (0 + i) = σc false 1 i := fun i hi => tw_Rel_1 hRm false hi
        have w27 : τm false 27 0 = σc false 0 7 := (hRm.1 false 0 7 _ (tw_mus false)).symm
        have w25 : τm false 25 0 = σc false 5 0 := tw_Rel_5 hRm false (j := 0) (by decide)
        have eat : ∀ pg : Nat, pg < 16 → nI pg <<< ((4 : Int32) &&& 31) + (nI n &&& 15) = nI (16 * pg + n % 16) := fun pg hp => by
          rw [tw_sl4 (by omega), tw_an15 hn, nI_add]
          congr 1
          omega
        rw [em, ew]
        unfold g_Gu_reach_L
        rw [hcl, tw_bi_s, if_neg (by decide), if_neg hv, if_pos ((tw_256 _).mpr h2), tw_c_isOn, tw_bi_s, tw_sh4 hn, er, tw_bi_s]
        by_cases hthr : tw_thr 2 1 σc false (n / 16)
        · rw [if_neg (fun z => hr.mp z hthr), if_neg (nI_in hvp (by decide)), nI_clamp (by omega)]
          rcases hC false (n / 16) hvp with hno | hent
          · exact absurd hno hthr.1
          · obtain ⟨t', a, pg, q1, q2, q3, q4, q5, q6, q7, q8, q9⟩ := tw_En0_F hent
            have ett : t' = t := (nI_eq (by omega) (by omega)).mp (q2.symm.trans eT)
            subst ett
            obtain ⟨f17, f18⟩ := hfm a pg _ q3
            rw [q3]
            show tw_AccP d false (nI n) 5 13 σc _ (tw_hand (tw_hand (g_Mo_reach_0_1 (nI n) (nI pg) τm)))
            rw [tw_m_reach_0_1 hn q6 (by omega) f17 f18, w23 a q6, w27, w25, tw_alw_w q7 (by decide), if_neg hthr.2.1, if_neg (by omega), h19, if_neg (fun z => hfl.mp z hthr), q4, eat pg (by omega)]
            have efix : σc false 1 a ||| 32 = σc false 1 a := tw_fix32 q8
            rw [efix, ← w23 a q6, tw_pt_self]
            exact Or.inl ⟨16 * pg + n % 16, σc, τm, by omega, rfl, rfl, hRm, hC, tw_fr_rf _⟩
        · rw [if_pos (hr.mpr hthr), eT]
          obtain ⟨τc, hτc, es, hfc⟩ := tw_c_search_L false ht16 hn σc
          have hRc : tw_Rel d τc τm := tw_Rel_onc hRm hτc
          have hCc : ∀ g', tw_Coh τc g' := fun g' => tw_Coh_onc (hC g') hτc
          rw [es, tw_bi_s]
          cases hF : tw_F t (σc false 1) (n / 16) with
          | inl q =>
            rcases q with _ | q
            · show tw_AccP d false (nI n) 5 13 σc (if (13 : Int32) = 0 then _ else _) (tw_hand (tw_hand (g_Mo_fault_0_1 (nI n) τm)))
              rw [if_neg (by decide), tw_m_fault_0_1]
              exact Or.inr ⟨13, τc, τm, Or.inr rfl, rfl, rfl, hRc, hCc, tw_fr_14 hτc⟩
            · show tw_AccP d false (nI n) 5 13 σc (if (5 : Int32) = 0 then _ else _) (tw_hand (tw_hand (g_Mo_outside_0_1 (nI n) τm)))
              rw [if_neg (by decide), tw_m_outside_0_1]
              exact Or.inr ⟨5, τc, τm, Or.inl rfl, rfl, rfl, hRc, hCc, tw_fr_14 hτc⟩
          | inr q =>
            obtain ⟨a, pg, sec⟩ := q
            obtain ⟨c0, c1, c2, c3⟩ := hfc a pg sec hF
            obtain ⟨f17, f18⟩ := hfm a pg sec hF
            obtain ⟨ha, hpg, hsec⟩ := tw_F_rng hvp hF
            show tw_AccP d false (nI n) 5 13 σc (if (0 : Int32) = 0 then _ else _) (tw_hand (tw_hand (g_Mo_reach_0_1 (nI n) (nI pg) τm)))
            have k1 : τc false 1 a = σc false 1 a := hτc false 1 a (by decide)
            have k7 : τc false 0 7 = σc false 0 7 := hτc false 0 7 (by decide)
            have k5 : τc false 5 0 = σc false 5 0 := hτc false 5 0 (by decide)
            rw [if_pos rfl, tw_c_fill_L false hvp ha hpg c0 c1 c2 c3, tw_m_reach_0_1 hn ha hpg f17 f18, k1, k7, k5, w23 a ha, w27, w25]
            by_cases ha0 : tw_alw 2 1 (σc false 1 a) (σc false 0 7) (σc false 5 0 &&& 8) = 0
            · rw [if_pos ha0, if_pos ha0, tw_bi_s, if_neg (by decide)]
              exact Or.inr ⟨13, τc, τm, Or.inr rfl, rfl, rfl, hRc, hCc, tw_fr_14 hτc⟩
            · rw [if_neg ha0, if_neg ha0]
              by_cases hp8 : 8 ≤ pg
              · rw [if_pos hp8, if_pos hp8, tw_bi_s, if_neg (by decide)]
                exact Or.inr ⟨5, τc, τm, Or.inl rfl, rfl, rfl, hRc, hCc, tw_fr_14 hτc⟩
              · rw [if_neg hp8, if_neg hp8, h19, if_pos (hfl.mpr hthr), tw_bi_s, if_pos rfl, if_neg (nI_in hvp (by decide)), nI_clamp (by omega), hsec]
                have e10 : tw_flc false (n / 16) a pg (16 * t + n / 16 / 4) sec (σc false 1 a ||| 32) τc false 10 (n / 16) = nI pg := by simp [tw_flc, tw_pt_eq]
                rw [e10, eat pg (by omega)]
                refine Or.inl ⟨16 * pg + n % 16, _, _, by omega, rfl, rfl, tw_r_fill hRc false hvp ha sec _, ?_, tw_fr_flc (tw_fr_14 hτc) _ _ _ _ _ _ _⟩
                rw [← k1]
                exact tw_coh_fill hCc (Or.inl rfl) (by rw [hτc false 5 6 (by decide)]; exact eT) hvp (by rw [tw_F_on (M := σc false 1) hvp (fun i _ => hτc false 1 i (by decide))]; exact hF) (by omega)
      · unfold g_Gu_reach_L g_Mo_access_0_1
        rw [hcl, tw_bi_s, if_neg (by decide), if_neg hv, if_neg (fun z => h2 ((tw_256 v).mp z)), e6, if_neg ht, if_neg hv, if_neg h2, tw_m_fault_0_1]
        exact Or.inr ⟨13, σc, σm, Or.inr rfl, rfl, rfl, hR, hC, tw_fr_rf _⟩
theorem tw_m_acc_0_2 {d : tw_Dt} {σc σm : tw_S} (hR : tw_Rel d σc σm) (hC : ∀ g', tw_Coh σc g') {n : Nat} (hn : n < 256) (ht : ¬ σc false 5 6 &&& 128 = 0) : ∃ fl : Int32, g_Mo_access_0_2 (nI n) σm = tw_hand (g_Mo_walk_0_2 (nI n) (tw_pt σm false 22 19 fl)) ∧ (fl = 0 ↔ ¬ tw_thr 4 2 σc false (n / 16)) := by
  have e6 : σm false 25 6 = σc false 5 6 := tw_Rel_5 hR false (j := 6) (by decide)
  have e0 : σm false 25 0 = σc false 5 0 := tw_Rel_5 hR false (j := 0) (by decide)
  have e7 : σm false 27 0 = σc false 0 7 := (hR.1 false 0 7 _ (tw_mus false)).symm
  have hv : n / 16 < 16 := by omega
  obtain ⟨-, -, hbits, -⟩ := hR.2.1 false
  obtain ⟨b1, b2, -⟩ := hbits (n / 16) hv
  have b1 : σm false 33 (0 + n / 16) = σc false 11 (n / 16) &&& 30 := b1
  have b2 : σm false 34 (0 + n / 16) = (if σc false 11 (n / 16) &&& 64 = 0 then 0 else 1) := b2
  have ep : σm false 32 (0 + n / 16) = σc false 10 (n / 16) := tw_Rel_pg hR false hv
  have hvp : (16 : Int32) * 0 + nI n >>> ((4 : Int32) &&& 31) = nI (0 + n / 16) := by
    rw [tw_sh4 hn, show (16 : Int32) * 0 = nI 0 from by decide, nI_add]
  unfold g_Mo_access_0_2 tw_thr
  rw [e6, if_neg ht, if_neg (nI_pos (by omega)), if_pos ((tw_256 (nI n)).mp (nI_lt (b := 256) hn (by decide))), hvp, if_neg (nI_in (by omega) (by decide)), nI_clamp (by omega), ep]
  by_cases h1 : σc false 10 (n / 16) = -1
  · rw [if_pos ((tw_pg_lt (tw_coh_pg (hC false) _ hv)).mpr h1)]
    exact ⟨0, rfl, fun _ z => z.1 h1, fun _ => rfl⟩
  · rw [if_neg (fun z => h1 ((tw_pg_lt (tw_coh_pg (hC false) _ hv)).mp z)), tw_m_alw_0_2, b1, e7, e0, tw_alw_w (w := σc false 11 (n / 16) &&& 30) (w' := σc false 11 (n / 16)) (tw_and_and _ (by decide)) (by decide), tw_bi_s]
    by_cases h2 : tw_alw 4 2 (σc false 11 (n / 16)) (σc false 0 7) (σc false 5 0 &&& 8) = 0
    · rw [if_pos h2]
      exact ⟨0, rfl, fun _ z => z.2.1 h2, fun _ => rfl⟩
    · rw [if_neg h2]
      by_cases h3 : σc false 11 (n / 16) &&& 64 = 0
      · have e34 : σm false 34 (0 + n / 16) = 0 := by rw [b2, if_pos h3]
        rw [e34, if_pos rfl]
        exact ⟨0, rfl, fun _ z => z.2.2 rfl h3, fun _ => rfl⟩
      · have e34 : σm false 34 (0 + n / 16) = 1 := by rw [b2, if_neg h3]
        rw [e34, if_neg (by decide)]
        exact ⟨1, rfl, fun z => absurd z (by decide), fun z => absurd ⟨h1, h2, fun _ => h3⟩ z⟩
theorem tw_p_acc_0_2 {d : tw_Dt} {σc σm : tw_S} (hR : tw_Rel d σc σm) (hC : ∀ g', tw_Coh σc g') (v : Int32) : tw_AccP d false v 7 15 σc (g_Gu_reach_S false v σc) (g_Mo_access_0_2 v σm) := by
  have e6 : σm false 25 6 = σc false 5 6 := tw_Rel_5 hR false (j := 6) (by decide)
  by_cases ht : σc false 5 6 &&& 128 = 0
  · unfold g_Gu_reach_S g_Mo_access_0_2 g_Co_translates g_TH_isWord
    rw [e6, if_pos ht, if_pos ht, tw_bi_s, if_pos rfl]
    by_cases hv : v < 0
    · rw [if_pos hv, if_pos hv, tw_bi_s, if_pos rfl, tw_m_outside_0_2]
      exact Or.inr ⟨7, σc, σm, Or.inl rfl, rfl, rfl, hR, hC, tw_fr_rf _⟩
    · rw [if_neg hv, if_neg hv]
      by_cases h2 : 127 < v
      · rw [if_pos h2, if_pos ((tw_128 v).mpr h2), tw_bi_s, if_pos rfl, tw_m_outside_0_2]
        exact Or.inr ⟨7, σc, σm, Or.inl rfl, rfl, rfl, hR, hC, tw_fr_rf _⟩
      · rw [if_neg h2, if_neg (fun z => h2 ((tw_128 v).mp z)), tw_bi_s, if_neg (by decide)]
        obtain ⟨j, hj, rfl⟩ := nI_of2 (M := 127) (n := 127) (by decide) hv (Int32.not_lt.mp h2)
        exact Or.inl ⟨j, σc, σm, by omega, rfl, rfl, hR, hC, tw_fr_rf _⟩
  · have hcl : g_Co_translates false σc = some (some (.inl 1), σc) := if_neg ht
    by_cases hv : v < 0
    · unfold g_Gu_reach_S g_Mo_access_0_2
      rw [hcl, tw_bi_s, if_neg (by decide), if_pos hv, e6, if_neg ht, if_pos hv, tw_m_fault_0_2]
      exact Or.inr ⟨15, σc, σm, Or.inr rfl, rfl, rfl, hR, hC, tw_fr_rf _⟩
    · by_cases h2 : v ≤ 255
      · obtain ⟨n, hn0, rfl⟩ := nI_of2 (M := 255) (n := 255) (by decide) hv h2
        have hn : n < 256 := by omega
        have hvp : n / 16 < 16 := by omega
        obtain ⟨fl, em, hfl⟩ := tw_m_acc_0_2 hR hC hn ht
        obtain ⟨r, er, hr⟩ := tw_c_thr_S false hvp σc
        obtain ⟨t, ht16, eT⟩ := pk_andE (σc false 5 6) (m := 15) 4 (by decide)
        have hMm : ∀ i, i < 128 → tw_pt σm false 22 19 fl false 23 (0 + i) = σc false 1 i := fun i hi => by
          rw [tw_pt_n _ _ (fun z => absurd z.2.1 (by decide))]
          exact tw_Rel_1 hR false hi
        obtain ⟨τm, hτm, ew, hfm⟩ := tw_m_walk_0_2 ht16 hn (tw_pt σm false 22 19 fl) (M := σc false 1) (by rw [tw_pt_n _ _ (fun z => absurd z.2.1 (by decide)), e6]; exact eT) hMm
        have hRm : tw_Rel d σc τm := tw_Rel_onm hR (fun g' c j hc => by
          rw [hτm g' c j (fun z => hc ⟨z.1, by omega⟩), tw_pt_n _ _ (fun z => hc ⟨z.2.1, by omega⟩)])
        have h19 : τm false 22 19 = fl := by rw [hτm false 22 19 (by omega), tw_pt_s]
        have w23 : ∀ i, i < 128 → τm false 23 (0 + i) = σc false 1 i := fun i hi => tw_Rel_1 hRm false hi
        have w27 : τm false 27 0 = σc false 0 7 := (hRm.1 false 0 7 _ (tw_mus false)).symm
        have w25 : τm false 25 0 = σc false 5 0 := tw_Rel_5 hRm false (j := 0) (by decide)
        have eat : ∀ pg : Nat, pg < 16 → nI pg <<< ((4 : Int32) &&& 31) + (nI n &&& 15) = nI (16 * pg + n % 16) := fun pg hp => by
          rw [tw_sl4 (by omega), tw_an15 hn, nI_add]
          congr 1
          omega
        rw [em, ew]
        unfold g_Gu_reach_S
        rw [hcl, tw_bi_s, if_neg (by decide), if_neg hv, if_pos ((tw_256 _).mpr h2), tw_c_isOn, tw_bi_s, tw_sh4 hn, er, tw_bi_s]
        by_cases hthr : tw_thr 4 2 σc false (n / 16)
        · rw [if_neg (fun z => hr.mp z hthr), if_neg (nI_in hvp (by decide)), nI_clamp (by omega)]
          rcases hC false (n / 16) hvp with hno | hent
          · exact absurd hno hthr.1
          · obtain ⟨t', a, pg, q1, q2, q3, q4, q5, q6, q7, q8, q9⟩ := tw_En0_F hent
            have ett : t' = t := (nI_eq (by omega) (by omega)).mp (q2.symm.trans eT)
            subst ett
            obtain ⟨f17, f18⟩ := hfm a pg _ q3
            rw [q3]
            show tw_AccP d false (nI n) 7 15 σc _ (tw_hand (tw_hand (g_Mo_reach_0_2 (nI n) (nI pg) τm)))
            rw [tw_m_reach_0_2 hn q6 (by omega) f17 f18, w23 a q6, w27, w25, tw_alw_w q7 (by decide), if_neg hthr.2.1, if_neg (by omega), h19, if_neg (fun z => hfl.mp z hthr), q4, eat pg (by omega)]
            have efix : σc false 1 a ||| 96 = σc false 1 a := tw_fix96 q8 (q9 (hthr.2.2 rfl))
            rw [efix, ← w23 a q6, tw_pt_self]
            exact Or.inl ⟨16 * pg + n % 16, σc, τm, by omega, rfl, rfl, hRm, hC, tw_fr_rf _⟩
        · rw [if_pos (hr.mpr hthr), eT]
          obtain ⟨τc, hτc, es, hfc⟩ := tw_c_search_S false ht16 hn σc
          have hRc : tw_Rel d τc τm := tw_Rel_onc hRm hτc
          have hCc : ∀ g', tw_Coh τc g' := fun g' => tw_Coh_onc (hC g') hτc
          rw [es, tw_bi_s]
          cases hF : tw_F t (σc false 1) (n / 16) with
          | inl q =>
            rcases q with _ | q
            · show tw_AccP d false (nI n) 7 15 σc (if (15 : Int32) = 0 then _ else _) (tw_hand (tw_hand (g_Mo_fault_0_2 (nI n) τm)))
              rw [if_neg (by decide), tw_m_fault_0_2]
              exact Or.inr ⟨15, τc, τm, Or.inr rfl, rfl, rfl, hRc, hCc, tw_fr_14 hτc⟩
            · show tw_AccP d false (nI n) 7 15 σc (if (7 : Int32) = 0 then _ else _) (tw_hand (tw_hand (g_Mo_outside_0_2 (nI n) τm)))
              rw [if_neg (by decide), tw_m_outside_0_2]
              exact Or.inr ⟨7, τc, τm, Or.inl rfl, rfl, rfl, hRc, hCc, tw_fr_14 hτc⟩
          | inr q =>
            obtain ⟨a, pg, sec⟩ := q
            obtain ⟨c0, c1, c2, c3⟩ := hfc a pg sec hF
            obtain ⟨f17, f18⟩ := hfm a pg sec hF
            obtain ⟨ha, hpg, hsec⟩ := tw_F_rng hvp hF
            show tw_AccP d false (nI n) 7 15 σc (if (0 : Int32) = 0 then _ else _) (tw_hand (tw_hand (g_Mo_reach_0_2 (nI n) (nI pg) τm)))
            have k1 : τc false 1 a = σc false 1 a := hτc false 1 a (by decide)
            have k7 : τc false 0 7 = σc false 0 7 := hτc false 0 7 (by decide)
            have k5 : τc false 5 0 = σc false 5 0 := hτc false 5 0 (by decide)
            rw [if_pos rfl, tw_c_fill_S false hvp ha hpg c0 c1 c2 c3, tw_m_reach_0_2 hn ha hpg f17 f18, k1, k7, k5, w23 a ha, w27, w25]
            by_cases ha0 : tw_alw 4 2 (σc false 1 a) (σc false 0 7) (σc false 5 0 &&& 8) = 0
            · rw [if_pos ha0, if_pos ha0, tw_bi_s, if_neg (by decide)]
              exact Or.inr ⟨15, τc, τm, Or.inr rfl, rfl, rfl, hRc, hCc, tw_fr_14 hτc⟩
            · rw [if_neg ha0, if_neg ha0]
              by_cases hp8 : 8 ≤ pg
              · rw [if_pos hp8, if_pos hp8, tw_bi_s, if_neg (by decide)]
                exact Or.inr ⟨7, τc, τm, Or.inl rfl, rfl, rfl, hRc, hCc, tw_fr_14 hτc⟩
              · rw [if_neg hp8, if_neg hp8, h19, if_pos (hfl.mpr hthr), tw_bi_s, if_pos rfl, if_neg (nI_in hvp (by decide)), nI_clamp (by omega), hsec]
                have e10 : tw_flc false (n / 16) a pg (16 * t + n / 16 / 4) sec (σc false 1 a ||| 96) τc false 10 (n / 16) = nI pg := by simp [tw_flc, tw_pt_eq]
                rw [e10, eat pg (by omega)]
                refine Or.inl ⟨16 * pg + n % 16, _, _, by omega, rfl, rfl, tw_r_fill hRc false hvp ha sec _, ?_, tw_fr_flc (tw_fr_14 hτc) _ _ _ _ _ _ _⟩
                rw [← k1]
                exact tw_coh_fill hCc (Or.inr rfl) (by rw [hτc false 5 6 (by decide)]; exact eT) hvp (by rw [tw_F_on (M := σc false 1) hvp (fun i _ => hτc false 1 i (by decide))]; exact hF) (by omega)
      · unfold g_Gu_reach_S g_Mo_access_0_2
        rw [hcl, tw_bi_s, if_neg (by decide), if_neg hv, if_neg (fun z => h2 ((tw_256 v).mp z)), e6, if_neg ht, if_neg hv, if_neg h2, tw_m_fault_0_2]
        exact Or.inr ⟨15, σc, σm, Or.inr rfl, rfl, rfl, hR, hC, tw_fr_rf _⟩
theorem tw_m_acc_1_0 {d : tw_Dt} {σc σm : tw_S} (hR : tw_Rel d σc σm) (hC : ∀ g', tw_Coh σc g') {n : Nat} (hn : n < 256) (ht : ¬ σc true 5 6 &&& 128 = 0) : ∃ fl : Int32, g_Mo_access_1_0 (nI n) σm = tw_hand (g_Mo_walk_1_0 (nI n) (tw_pt σm false 22 19 fl)) ∧ (fl = 0 ↔ ¬ tw_thr 8 0 σc true (n / 16)) := by
  have e6 : σm false 25 18 = σc true 5 6 := tw_Rel_5 hR true (j := 6) (by decide)
  have e0 : σm false 25 12 = σc true 5 0 := tw_Rel_5 hR true (j := 0) (by decide)
  have e7 : σm false 27 1 = σc true 0 7 := (hR.1 true 0 7 _ (tw_mus true)).symm
  have hv : n / 16 < 16 := by omega
  obtain ⟨-, -, hbits, -⟩ := hR.2.1 true
  obtain ⟨b1, b2, -⟩ := hbits (n / 16) hv
  have b1 : σm false 33 (16 + n / 16) = σc true 11 (n / 16) &&& 30 := b1
  have b2 : σm false 34 (16 + n / 16) = (if σc true 11 (n / 16) &&& 64 = 0 then 0 else 1) := b2
  have ep : σm false 32 (16 + n / 16) = σc true 10 (n / 16) := tw_Rel_pg hR true hv
  have hvp : (16 : Int32) * 1 + nI n >>> ((4 : Int32) &&& 31) = nI (16 + n / 16) := by
    rw [tw_sh4 hn, show (16 : Int32) * 1 = nI 16 from by decide, nI_add]
  unfold g_Mo_access_1_0 tw_thr
  rw [e6, if_neg ht, if_neg (nI_pos (by omega)), if_pos ((tw_256 (nI n)).mp (nI_lt (b := 256) hn (by decide))), hvp, if_neg (nI_in (by omega) (by decide)), nI_clamp (by omega), ep]
  by_cases h1 : σc true 10 (n / 16) = -1
  · rw [if_pos ((tw_pg_lt (tw_coh_pg (hC true) _ hv)).mpr h1)]
    exact ⟨0, rfl, fun _ z => z.1 h1, fun _ => rfl⟩
  · rw [if_neg (fun z => h1 ((tw_pg_lt (tw_coh_pg (hC true) _ hv)).mp z)), tw_m_alw_1_0, b1, e7, e0, tw_alw_w (w := σc true 11 (n / 16) &&& 30) (w' := σc true 11 (n / 16)) (tw_and_and _ (by decide)) (by decide), tw_bi_s]
    by_cases h2 : tw_alw 8 0 (σc true 11 (n / 16)) (σc true 0 7) (σc true 5 0 &&& 8) = 0
    · rw [if_pos h2]
      exact ⟨0, rfl, fun _ z => z.2.1 h2, fun _ => rfl⟩
    · rw [if_neg h2]
      exact ⟨1, rfl, fun z => absurd z (by decide), fun z => absurd ⟨h1, h2, fun e => absurd e (by decide)⟩ z⟩
theorem tw_p_acc_1_0 {d : tw_Dt} {σc σm : tw_S} (hR : tw_Rel d σc σm) (hC : ∀ g', tw_Coh σc g') (v : Int32) : tw_AccP d true v 1 12 σc (g_Gu_reach_F true v σc) (g_Mo_access_1_0 v σm) := by
  have e6 : σm false 25 18 = σc true 5 6 := tw_Rel_5 hR true (j := 6) (by decide)
  by_cases ht : σc true 5 6 &&& 128 = 0
  · unfold g_Gu_reach_F g_Mo_access_1_0 g_Co_translates g_TH_isWord
    rw [e6, if_pos ht, if_pos ht, tw_bi_s, if_pos rfl]
    by_cases hv : v < 0
    · rw [if_pos hv, if_pos hv, tw_bi_s, if_pos rfl, tw_m_outside_1_0]
      exact Or.inr ⟨1, σc, σm, Or.inl rfl, rfl, rfl, hR, hC, tw_fr_rf _⟩
    · rw [if_neg hv, if_neg hv]
      by_cases h2 : 127 < v
      · rw [if_pos h2, if_pos ((tw_128 v).mpr h2), tw_bi_s, if_pos rfl, tw_m_outside_1_0]
        exact Or.inr ⟨1, σc, σm, Or.inl rfl, rfl, rfl, hR, hC, tw_fr_rf _⟩
      · rw [if_neg h2, if_neg (fun z => h2 ((tw_128 v).mp z)), tw_bi_s, if_neg (by decide)]
        obtain ⟨j, hj, rfl⟩ := nI_of2 (M := 127) (n := 127) (by decide) hv (Int32.not_lt.mp h2)
        exact Or.inl ⟨j, σc, σm, by omega, rfl, rfl, hR, hC, tw_fr_rf _⟩
  · have hcl : g_Co_translates true σc = some (some (.inl 1), σc) := if_neg ht
    by_cases hv : v < 0
    · unfold g_Gu_reach_F g_Mo_access_1_0
      rw [hcl, tw_bi_s, if_neg (by decide), if_pos hv, e6, if_neg ht, if_pos hv, tw_m_fault_1_0]
      exact Or.inr ⟨12, σc, σm, Or.inr rfl, rfl, rfl, hR, hC, tw_fr_rf _⟩
    · by_cases h2 : v ≤ 255
      · obtain ⟨n, hn0, rfl⟩ := nI_of2 (M := 255) (n := 255) (by decide) hv h2
        have hn : n < 256 := by omega
        have hvp : n / 16 < 16 := by omega
        obtain ⟨fl, em, hfl⟩ := tw_m_acc_1_0 hR hC hn ht
        obtain ⟨r, er, hr⟩ := tw_c_thr_F true hvp σc
        obtain ⟨t, ht16, eT⟩ := pk_andE (σc true 5 6) (m := 15) 4 (by decide)
        have hMm : ∀ i, i < 128 → tw_pt σm false 22 19 fl false 23 (128 + i) = σc true 1 i := fun i hi => by
          rw [tw_pt_n _ _ (fun z => absurd z.2.1 (by decide))]
          exact tw_Rel_1 hR true hi
        obtain ⟨τm, hτm, ew, hfm⟩ := tw_m_walk_1_0 ht16 hn (tw_pt σm false 22 19 fl) (M := σc true 1) (by rw [tw_pt_n _ _ (fun z => absurd z.2.1 (by decide)), e6]; exact eT) hMm
        have hRm : tw_Rel d σc τm := tw_Rel_onm hR (fun g' c j hc => by
          rw [hτm g' c j (fun z => hc ⟨z.1, by omega⟩), tw_pt_n _ _ (fun z => hc ⟨z.2.1, by omega⟩)])
        have h19 : τm false 22 19 = fl := by rw [hτm false 22 19 (by omega), tw_pt_s]
        have w23 : ∀ i, i < 128 → τm false 23 (128 + i) = σc true 1 i := fun i hi => tw_Rel_1 hRm true hi
        have w27 : τm false 27 1 = σc true 0 7 := (hRm.1 true 0 7 _ (tw_mus true)).symm
        have w25 : τm false 25 12 = σc true 5 0 := tw_Rel_5 hRm true (j := 0) (by decide)
        have eat : ∀ pg : Nat, pg < 16 → nI pg <<< ((4 : Int32) &&& 31) + (nI n &&& 15) = nI (16 * pg + n % 16) := fun pg hp => by
          rw [tw_sl4 (by omega), tw_an15 hn, nI_add]
          congr 1
          omega
        rw [em, ew]
        unfold g_Gu_reach_F
        rw [hcl, tw_bi_s, if_neg (by decide), if_neg hv, if_pos ((tw_256 _).mpr h2), tw_c_isOn, tw_bi_s, tw_sh4 hn, er, tw_bi_s]
        by_cases hthr : tw_thr 8 0 σc true (n / 16)
        · rw [if_neg (fun z => hr.mp z hthr), if_neg (nI_in hvp (by decide)), nI_clamp (by omega)]
          rcases hC true (n / 16) hvp with hno | hent
          · exact absurd hno hthr.1
          · obtain ⟨t', a, pg, q1, q2, q3, q4, q5, q6, q7, q8, q9⟩ := tw_En0_F hent
            have ett : t' = t := (nI_eq (by omega) (by omega)).mp (q2.symm.trans eT)
            subst ett
            obtain ⟨f17, f18⟩ := hfm a pg _ q3
            rw [q3]
            show tw_AccP d true (nI n) 1 12 σc _ (tw_hand (tw_hand (g_Mo_reach_1_0 (nI n) (nI pg) τm)))
            rw [tw_m_reach_1_0 hn q6 (by omega) f17 f18, w23 a q6, w27, w25, tw_alw_w q7 (by decide), if_neg hthr.2.1, if_neg (by omega), h19, if_neg (fun z => hfl.mp z hthr), q4, eat pg (by omega)]
            have efix : σc true 1 a ||| 32 = σc true 1 a := tw_fix32 q8
            rw [efix, ← w23 a q6, tw_pt_self]
            exact Or.inl ⟨16 * pg + n % 16, σc, τm, by omega, rfl, rfl, hRm, hC, tw_fr_rf _⟩
        · rw [if_pos (hr.mpr hthr), eT]
          obtain ⟨τc, hτc, es, hfc⟩ := tw_c_search_F true ht16 hn σc
          have hRc : tw_Rel d τc τm := tw_Rel_onc hRm hτc
          have hCc : ∀ g', tw_Coh τc g' := fun g' => tw_Coh_onc (hC g') hτc
          rw [es, tw_bi_s]
          cases hF : tw_F t (σc true 1) (n / 16) with
          | inl q =>
            rcases q with _ | q
            · show tw_AccP d true (nI n) 1 12 σc (if (12 : Int32) = 0 then _ else _) (tw_hand (tw_hand (g_Mo_fault_1_0 (nI n) τm)))
              rw [if_neg (by decide), tw_m_fault_1_0]
              exact Or.inr ⟨12, τc, τm, Or.inr rfl, rfl, rfl, hRc, hCc, tw_fr_14 hτc⟩
            · show tw_AccP d true (nI n) 1 12 σc (if (1 : Int32) = 0 then _ else _) (tw_hand (tw_hand (g_Mo_outside_1_0 (nI n) τm)))
              rw [if_neg (by decide), tw_m_outside_1_0]
              exact Or.inr ⟨1, τc, τm, Or.inl rfl, rfl, rfl, hRc, hCc, tw_fr_14 hτc⟩
          | inr q =>
            obtain ⟨a, pg, sec⟩ := q
            obtain ⟨c0, c1, c2, c3⟩ := hfc a pg sec hF
            obtain ⟨f17, f18⟩ := hfm a pg sec hF
            obtain ⟨ha, hpg, hsec⟩ := tw_F_rng hvp hF
            show tw_AccP d true (nI n) 1 12 σc (if (0 : Int32) = 0 then _ else _) (tw_hand (tw_hand (g_Mo_reach_1_0 (nI n) (nI pg) τm)))
            have k1 : τc true 1 a = σc true 1 a := hτc true 1 a (by decide)
            have k7 : τc true 0 7 = σc true 0 7 := hτc true 0 7 (by decide)
            have k5 : τc true 5 0 = σc true 5 0 := hτc true 5 0 (by decide)
            rw [if_pos rfl, tw_c_fill_F true hvp ha hpg c0 c1 c2 c3, tw_m_reach_1_0 hn ha hpg f17 f18, k1, k7, k5, w23 a ha, w27, w25]
            by_cases ha0 : tw_alw 8 0 (σc true 1 a) (σc true 0 7) (σc true 5 0 &&& 8) = 0
            · rw [if_pos ha0, if_pos ha0, tw_bi_s, if_neg (by decide)]
              exact Or.inr ⟨12, τc, τm, Or.inr rfl, rfl, rfl, hRc, hCc, tw_fr_14 hτc⟩
            · rw [if_neg ha0, if_neg ha0]
              by_cases hp8 : 8 ≤ pg
              · rw [if_pos hp8, if_pos hp8, tw_bi_s, if_neg (by decide)]
                exact Or.inr ⟨1, τc, τm, Or.inl rfl, rfl, rfl, hRc, hCc, tw_fr_14 hτc⟩
              · rw [if_neg hp8, if_neg hp8, h19, if_pos (hfl.mpr hthr), tw_bi_s, if_pos rfl, if_neg (nI_in hvp (by decide)), nI_clamp (by omega), hsec]
                have e10 : tw_flc true (n / 16) a pg (16 * t + n / 16 / 4) sec (σc true 1 a ||| 32) τc true 10 (n / 16) = nI pg := by simp [tw_flc, tw_pt_eq]
                rw [e10, eat pg (by omega)]
                refine Or.inl ⟨16 * pg + n % 16, _, _, by omega, rfl, rfl, tw_r_fill hRc true hvp ha sec _, ?_, tw_fr_flc (tw_fr_14 hτc) _ _ _ _ _ _ _⟩
                rw [← k1]
                exact tw_coh_fill hCc (Or.inl rfl) (by rw [hτc true 5 6 (by decide)]; exact eT) hvp (by rw [tw_F_on (M := σc true 1) hvp (fun i _ => hτc true 1 i (by decide))]; exact hF) (by omega)
      · unfold g_Gu_reach_F g_Mo_access_1_0
        rw [hcl, tw_bi_s, if_neg (by decide), if_neg hv, if_neg (fun z => h2 ((tw_256 v).mp z)), e6, if_neg ht, if_neg hv, if_neg h2, tw_m_fault_1_0]
        exact Or.inr ⟨12, σc, σm, Or.inr rfl, rfl, rfl, hR, hC, tw_fr_rf _⟩
theorem tw_m_acc_1_1 {d : tw_Dt} {σc σm : tw_S} (hR : tw_Rel d σc σm) (hC : ∀ g', tw_Coh σc g') {n : Nat} (hn : n < 256) (ht : ¬ σc true 5 6 &&& 128 = 0) : ∃ fl : Int32, g_Mo_access_1_1 (nI n) σm = tw_hand (g_Mo_walk_1_1 (nI n) (tw_pt σm false 22 19 fl)) ∧ (fl = 0 ↔ ¬ tw_thr 2 1 σc true (n / 16)) := by
  have e6 : σm false 25 18 = σc true 5 6 := tw_Rel_5 hR true (j := 6) (by decide)
  have e0 : σm false 25 12 = σc true 5 0 := tw_Rel_5 hR true (j := 0) (by decide)
  have e7 : σm false 27 1 = σc true 0 7 := (hR.1 true 0 7 _ (tw_mus true)).symm
  have hv : n / 16 < 16 := by omega
  obtain ⟨-, -, hbits, -⟩ := hR.2.1 true
  obtain ⟨b1, b2, -⟩ := hbits (n / 16) hv
  have b1 : σm false 33 (16 + n / 16) = σc true 11 (n / 16) &&& 30 := b1
  have b2 : σm false 34 (16 + n / 16) = (if σc true 11 (n / 16) &&& 64 = 0 then 0 else 1) := b2
  have ep : σm false 32 (16 + n / 16) = σc true 10 (n / 16) := tw_Rel_pg hR true hv
  have hvp : (16 : Int32) * 1 + nI n >>> ((4 : Int32) &&& 31) = nI (16 + n / 16) := by
    rw [tw_sh4 hn, show (16 : Int32) * 1 = nI 16 from by decide, nI_add]
  unfold g_Mo_access_1_1 tw_thr
  rw [e6, if_neg ht, if_neg (nI_pos (by omega)), if_pos ((tw_256 (nI n)).mp (nI_lt (b := 256) hn (by decide))), hvp, if_neg (nI_in (by omega) (by decide)), nI_clamp (by omega), ep]
  by_cases h1 : σc true 10 (n / 16) = -1
  · rw [if_pos ((tw_pg_lt (tw_coh_pg (hC true) _ hv)).mpr h1)]
    exact ⟨0, rfl, fun _ z => z.1 h1, fun _ => rfl⟩
  · rw [if_neg (fun z => h1 ((tw_pg_lt (tw_coh_pg (hC true) _ hv)).mp z)), tw_m_alw_1_1, b1, e7, e0, tw_alw_w (w := σc true 11 (n / 16) &&& 30) (w' := σc true 11 (n / 16)) (tw_and_and _ (by decide)) (by decide), tw_bi_s]
    by_cases h2 : tw_alw 2 1 (σc true 11 (n / 16)) (σc true 0 7) (σc true 5 0 &&& 8) = 0
    · rw [if_pos h2]
      exact ⟨0, rfl, fun _ z => z.2.1 h2, fun _ => rfl⟩
    · rw [if_neg h2]
      exact ⟨1, rfl, fun z => absurd z (by decide), fun z => absurd ⟨h1, h2, fun e => absurd e (by decide)⟩ z⟩
theorem tw_p_acc_1_1 {d : tw_Dt} {σc σm : tw_S} (hR : tw_Rel d σc σm) (hC : ∀ g', tw_Coh σc g') (v : Int32) : tw_AccP d true v 5 13 σc (g_Gu_reach_L true v σc) (g_Mo_access_1_1 v σm) := by
  have e6 : σm false 25 18 = σc true 5 6 := tw_Rel_5 hR true (j := 6) (by decide)
  by_cases ht : σc true 5 6 &&& 128 = 0
  · unfold g_Gu_reach_L g_Mo_access_1_1 g_Co_translates g_TH_isWord
    rw [e6, if_pos ht, if_pos ht, tw_bi_s, if_pos rfl]
    by_cases hv : v < 0
    · rw [if_pos hv, if_pos hv, tw_bi_s, if_pos rfl, tw_m_outside_1_1]
      exact Or.inr ⟨5, σc, σm, Or.inl rfl, rfl, rfl, hR, hC, tw_fr_rf _⟩
    · rw [if_neg hv, if_neg hv]
      by_cases h2 : 127 < v
      · rw [if_pos h2, if_pos ((tw_128 v).mpr h2), tw_bi_s, if_pos rfl, tw_m_outside_1_1]
        exact Or.inr ⟨5, σc, σm, Or.inl rfl, rfl, rfl, hR, hC, tw_fr_rf _⟩
      · rw [if_neg h2, if_neg (fun z => h2 ((tw_128 v).mp z)), tw_bi_s, if_neg (by decide)]
        obtain ⟨j, hj, rfl⟩ := nI_of2 (M := 127) (n := 127) (by decide) hv (Int32.not_lt.mp h2)
        exact Or.inl ⟨j, σc, σm, by omega, rfl, rfl, hR, hC, tw_fr_rf _⟩
  · have hcl : g_Co_translates true σc = some (some (.inl 1), σc) := if_neg ht
    by_cases hv : v < 0
    · unfold g_Gu_reach_L g_Mo_access_1_1
      rw [hcl, tw_bi_s, if_neg (by decide), if_pos hv, e6, if_neg ht, if_pos hv, tw_m_fault_1_1]
      exact Or.inr ⟨13, σc, σm, Or.inr rfl, rfl, rfl, hR, hC, tw_fr_rf _⟩
    · by_cases h2 : v ≤ 255
      · obtain ⟨n, hn0, rfl⟩ := nI_of2 (M := 255) (n := 255) (by decide) hv h2
        have hn : n < 256 := by omega
        have hvp : n / 16 < 16 := by omega
        obtain ⟨fl, em, hfl⟩ := tw_m_acc_1_1 hR hC hn ht
        obtain ⟨r, er, hr⟩ := tw_c_thr_L true hvp σc
        obtain ⟨t, ht16, eT⟩ := pk_andE (σc true 5 6) (m := 15) 4 (by decide)
        have hMm : ∀ i, i < 128 → tw_pt σm false 22 19 fl false 23 (128 + i) = σc true 1 i := fun i hi => by
          rw [tw_pt_n _ _ (fun z => absurd z.2.1 (by decide))]
          exact tw_Rel_1 hR true hi
        obtain ⟨τm, hτm, ew, hfm⟩ := tw_m_walk_1_1 ht16 hn (tw_pt σm false 22 19 fl) (M := σc true 1) (by rw [tw_pt_n _ _ (fun z => absurd z.2.1 (by decide)), e6]; exact eT) hMm
        have hRm : tw_Rel d σc τm := tw_Rel_onm hR (fun g' c j hc => by
          rw [hτm g' c j (fun z => hc ⟨z.1, by omega⟩), tw_pt_n _ _ (fun z => hc ⟨z.2.1, by omega⟩)])
        have h19 : τm false 22 19 = fl := by rw [hτm false 22 19 (by omega), tw_pt_s]
        have w23 : ∀ i, i < 128 → τm false 23 (128 + i) = σc true 1 i := fun i hi => tw_Rel_1 hRm true hi
        have w27 : τm false 27 1 = σc true 0 7 := (hRm.1 true 0 7 _ (tw_mus true)).symm
        have w25 : τm false 25 12 = σc true 5 0 := tw_Rel_5 hRm true (j := 0) (by decide)
        have eat : ∀ pg : Nat, pg < 16 → nI pg <<< ((4 : Int32) &&& 31) + (nI n &&& 15) = nI (16 * pg + n % 16) := fun pg hp => by
          rw [tw_sl4 (by omega), tw_an15 hn, nI_add]
          congr 1
          omega
        rw [em, ew]
        unfold g_Gu_reach_L
        rw [hcl, tw_bi_s, if_neg (by decide), if_neg hv, if_pos ((tw_256 _).mpr h2), tw_c_isOn, tw_bi_s, tw_sh4 hn, er, tw_bi_s]
        by_cases hthr : tw_thr 2 1 σc true (n / 16)
        · rw [if_neg (fun z => hr.mp z hthr), if_neg (nI_in hvp (by decide)), nI_clamp (by omega)]
          rcases hC true (n / 16) hvp with hno | hent
          · exact absurd hno hthr.1
          · obtain ⟨t', a, pg, q1, q2, q3, q4, q5, q6, q7, q8, q9⟩ := tw_En0_F hent
            have ett : t' = t := (nI_eq (by omega) (by omega)).mp (q2.symm.trans eT)
            subst ett
            obtain ⟨f17, f18⟩ := hfm a pg _ q3
            rw [q3]
            show tw_AccP d true (nI n) 5 13 σc _ (tw_hand (tw_hand (g_Mo_reach_1_1 (nI n) (nI pg) τm)))
            rw [tw_m_reach_1_1 hn q6 (by omega) f17 f18, w23 a q6, w27, w25, tw_alw_w q7 (by decide), if_neg hthr.2.1, if_neg (by omega), h19, if_neg (fun z => hfl.mp z hthr), q4, eat pg (by omega)]
            have efix : σc true 1 a ||| 32 = σc true 1 a := tw_fix32 q8
            rw [efix, ← w23 a q6, tw_pt_self]
            exact Or.inl ⟨16 * pg + n % 16, σc, τm, by omega, rfl, rfl, hRm, hC, tw_fr_rf _⟩
        · rw [if_pos (hr.mpr hthr), eT]
          obtain ⟨τc, hτc, es, hfc⟩ := tw_c_search_L true ht16 hn σc
          have hRc : tw_Rel d τc τm := tw_Rel_onc hRm hτc
          have hCc : ∀ g', tw_Coh τc g' := fun g' => tw_Coh_onc (hC g') hτc
          rw [es, tw_bi_s]
          cases hF : tw_F t (σc true 1) (n / 16) with
          | inl q =>
            rcases q with _ | q
            · show tw_AccP d true (nI n) 5 13 σc (if (13 : Int32) = 0 then _ else _) (tw_hand (tw_hand (g_Mo_fault_1_1 (nI n) τm)))
              rw [if_neg (by decide), tw_m_fault_1_1]
              exact Or.inr ⟨13, τc, τm, Or.inr rfl, rfl, rfl, hRc, hCc, tw_fr_14 hτc⟩
            · show tw_AccP d true (nI n) 5 13 σc (if (5 : Int32) = 0 then _ else _) (tw_hand (tw_hand (g_Mo_outside_1_1 (nI n) τm)))
              rw [if_neg (by decide), tw_m_outside_1_1]
              exact Or.inr ⟨5, τc, τm, Or.inl rfl, rfl, rfl, hRc, hCc, tw_fr_14 hτc⟩
          | inr q =>
            obtain ⟨a, pg, sec⟩ := q
            obtain ⟨c0, c1, c2, c3⟩ := hfc a pg sec hF
            obtain ⟨f17, f18⟩ := hfm a pg sec hF
            obtain ⟨ha, hpg, hsec⟩ := tw_F_rng hvp hF
            show tw_AccP d true (nI n) 5 13 σc (if (0 : Int32) = 0 then _ else _) (tw_hand (tw_hand (g_Mo_reach_1_1 (nI n) (nI pg) τm)))
            have k1 : τc true 1 a = σc true 1 a := hτc true 1 a (by decide)
            have k7 : τc true 0 7 = σc true 0 7 := hτc true 0 7 (by decide)
            have k5 : τc true 5 0 = σc true 5 0 := hτc true 5 0 (by decide)
            rw [if_pos rfl, tw_c_fill_L true hvp ha hpg c0 c1 c2 c3, tw_m_reach_1_1 hn ha hpg f17 f18, k1, k7, k5, w23 a ha, w27, w25]
            by_cases ha0 : tw_alw 2 1 (σc true 1 a) (σc true 0 7) (σc true 5 0 &&& 8) = 0
            · rw [if_pos ha0, if_pos ha0, tw_bi_s, if_neg (by decide)]
              exact Or.inr ⟨13, τc, τm, Or.inr rfl, rfl, rfl, hRc, hCc, tw_fr_14 hτc⟩
            · rw [if_neg ha0, if_neg ha0]
              by_cases hp8 : 8 ≤ pg
              · rw [if_pos hp8, if_pos hp8, tw_bi_s, if_neg (by decide)]
                exact Or.inr ⟨5, τc, τm, Or.inl rfl, rfl, rfl, hRc, hCc, tw_fr_14 hτc⟩
              · rw [if_neg hp8, if_neg hp8, h19, if_pos (hfl.mpr hthr), tw_bi_s, if_pos rfl, if_neg (nI_in hvp (by decide)), nI_clamp (by omega), hsec]
                have e10 : tw_flc true (n / 16) a pg (16 * t + n / 16 / 4) sec (σc true 1 a ||| 32) τc true 10 (n / 16) = nI pg := by simp [tw_flc, tw_pt_eq]
                rw [e10, eat pg (by omega)]
                refine Or.inl ⟨16 * pg + n % 16, _, _, by omega, rfl, rfl, tw_r_fill hRc true hvp ha sec _, ?_, tw_fr_flc (tw_fr_14 hτc) _ _ _ _ _ _ _⟩
                rw [← k1]
                exact tw_coh_fill hCc (Or.inl rfl) (by rw [hτc true 5 6 (by decide)]; exact eT) hvp (by rw [tw_F_on (M := σc true 1) hvp (fun i _ => hτc true 1 i (by decide))]; exact hF) (by omega)
      · unfold g_Gu_reach_L g_Mo_access_1_1
        rw [hcl, tw_bi_s, if_neg (by decide), if_neg hv, if_neg (fun z => h2 ((tw_256 v).mp z)), e6, if_neg ht, if_neg hv, if_neg h2, tw_m_fault_1_1]
        exact Or.inr ⟨13, σc, σm, Or.inr rfl, rfl, rfl, hR, hC, tw_fr_rf _⟩
theorem tw_m_acc_1_2 {d : tw_Dt} {σc σm : tw_S} (hR : tw_Rel d σc σm) (hC : ∀ g', tw_Coh σc g') {n : Nat} (hn : n < 256) (ht : ¬ σc true 5 6 &&& 128 = 0) : ∃ fl : Int32, g_Mo_access_1_2 (nI n) σm = tw_hand (g_Mo_walk_1_2 (nI n) (tw_pt σm false 22 19 fl)) ∧ (fl = 0 ↔ ¬ tw_thr 4 2 σc true (n / 16)) := by
  have e6 : σm false 25 18 = σc true 5 6 := tw_Rel_5 hR true (j := 6) (by decide)
  have e0 : σm false 25 12 = σc true 5 0 := tw_Rel_5 hR true (j := 0) (by decide)
  have e7 : σm false 27 1 = σc true 0 7 := (hR.1 true 0 7 _ (tw_mus true)).symm
  have hv : n / 16 < 16 := by omega
  obtain ⟨-, -, hbits, -⟩ := hR.2.1 true
  obtain ⟨b1, b2, -⟩ := hbits (n / 16) hv
  have b1 : σm false 33 (16 + n / 16) = σc true 11 (n / 16) &&& 30 := b1
  have b2 : σm false 34 (16 + n / 16) = (if σc true 11 (n / 16) &&& 64 = 0 then 0 else 1) := b2
  have ep : σm false 32 (16 + n / 16) = σc true 10 (n / 16) := tw_Rel_pg hR true hv
  have hvp : (16 : Int32) * 1 + nI n >>> ((4 : Int32) &&& 31) = nI (16 + n / 16) := by
    rw [tw_sh4 hn, show (16 : Int32) * 1 = nI 16 from by decide, nI_add]
  unfold g_Mo_access_1_2 tw_thr
  rw [e6, if_neg ht, if_neg (nI_pos (by omega)), if_pos ((tw_256 (nI n)).mp (nI_lt (b := 256) hn (by decide))), hvp, if_neg (nI_in (by omega) (by decide)), nI_clamp (by omega), ep]
  by_cases h1 : σc true 10 (n / 16) = -1
  · rw [if_pos ((tw_pg_lt (tw_coh_pg (hC true) _ hv)).mpr h1)]
    exact ⟨0, rfl, fun _ z => z.1 h1, fun _ => rfl⟩
  · rw [if_neg (fun z => h1 ((tw_pg_lt (tw_coh_pg (hC true) _ hv)).mp z)), tw_m_alw_1_2, b1, e7, e0, tw_alw_w (w := σc true 11 (n / 16) &&& 30) (w' := σc true 11 (n / 16)) (tw_and_and _ (by decide)) (by decide), tw_bi_s]
    by_cases h2 : tw_alw 4 2 (σc true 11 (n / 16)) (σc true 0 7) (σc true 5 0 &&& 8) = 0
    · rw [if_pos h2]
      exact ⟨0, rfl, fun _ z => z.2.1 h2, fun _ => rfl⟩
    · rw [if_neg h2]
      by_cases h3 : σc true 11 (n / 16) &&& 64 = 0
      · have e34 : σm false 34 (16 + n / 16) = 0 := by rw [b2, if_pos h3]
        rw [e34, if_pos rfl]
        exact ⟨0, rfl, fun _ z => z.2.2 rfl h3, fun _ => rfl⟩
      · have e34 : σm false 34 (16 + n / 16) = 1 := by rw [b2, if_neg h3]
        rw [e34, if_neg (by decide)]
        exact ⟨1, rfl, fun z => absurd z (by decide), fun z => absurd ⟨h1, h2, fun _ => h3⟩ z⟩
theorem tw_p_acc_1_2 {d : tw_Dt} {σc σm : tw_S} (hR : tw_Rel d σc σm) (hC : ∀ g', tw_Coh σc g') (v : Int32) : tw_AccP d true v 7 15 σc (g_Gu_reach_S true v σc) (g_Mo_access_1_2 v σm) := by
  have e6 : σm false 25 18 = σc true 5 6 := tw_Rel_5 hR true (j := 6) (by decide)
  by_cases ht : σc true 5 6 &&& 128 = 0
  · unfold g_Gu_reach_S g_Mo_access_1_2 g_Co_translates g_TH_isWord
    rw [e6, if_pos ht, if_pos ht, tw_bi_s, if_pos rfl]
    by_cases hv : v < 0
    · rw [if_pos hv, if_pos hv, tw_bi_s, if_pos rfl, tw_m_outside_1_2]
      exact Or.inr ⟨7, σc, σm, Or.inl rfl, rfl, rfl, hR, hC, tw_fr_rf _⟩
    · rw [if_neg hv, if_neg hv]
      by_cases h2 : 127 < v
      · rw [if_pos h2, if_pos ((tw_128 v).mpr h2), tw_bi_s, if_pos rfl, tw_m_outside_1_2]
        exact Or.inr ⟨7, σc, σm, Or.inl rfl, rfl, rfl, hR, hC, tw_fr_rf _⟩
      · rw [if_neg h2, if_neg (fun z => h2 ((tw_128 v).mp z)), tw_bi_s, if_neg (by decide)]
        obtain ⟨j, hj, rfl⟩ := nI_of2 (M := 127) (n := 127) (by decide) hv (Int32.not_lt.mp h2)
        exact Or.inl ⟨j, σc, σm, by omega, rfl, rfl, hR, hC, tw_fr_rf _⟩
  · have hcl : g_Co_translates true σc = some (some (.inl 1), σc) := if_neg ht
    by_cases hv : v < 0
    · unfold g_Gu_reach_S g_Mo_access_1_2
      rw [hcl, tw_bi_s, if_neg (by decide), if_pos hv, e6, if_neg ht, if_pos hv, tw_m_fault_1_2]
      exact Or.inr ⟨15, σc, σm, Or.inr rfl, rfl, rfl, hR, hC, tw_fr_rf _⟩
    · by_cases h2 : v ≤ 255
      · obtain ⟨n, hn0, rfl⟩ := nI_of2 (M := 255) (n := 255) (by decide) hv h2
        have hn : n < 256 := by omega
        have hvp : n / 16 < 16 := by omega
        obtain ⟨fl, em, hfl⟩ := tw_m_acc_1_2 hR hC hn ht
        obtain ⟨r, er, hr⟩ := tw_c_thr_S true hvp σc
        obtain ⟨t, ht16, eT⟩ := pk_andE (σc true 5 6) (m := 15) 4 (by decide)
        have hMm : ∀ i, i < 128 → tw_pt σm false 22 19 fl false 23 (128 + i) = σc true 1 i := fun i hi => by
          rw [tw_pt_n _ _ (fun z => absurd z.2.1 (by decide))]
          exact tw_Rel_1 hR true hi
        obtain ⟨τm, hτm, ew, hfm⟩ := tw_m_walk_1_2 ht16 hn (tw_pt σm false 22 19 fl) (M := σc true 1) (by rw [tw_pt_n _ _ (fun z => absurd z.2.1 (by decide)), e6]; exact eT) hMm
        have hRm : tw_Rel d σc τm := tw_Rel_onm hR (fun g' c j hc => by
          rw [hτm g' c j (fun z => hc ⟨z.1, by omega⟩), tw_pt_n _ _ (fun z => hc ⟨z.2.1, by omega⟩)])
        have h19 : τm false 22 19 = fl := by rw [hτm false 22 19 (by omega), tw_pt_s]
        have w23 : ∀ i, i < 128 → τm false 23 (128 + i) = σc true 1 i := fun i hi => tw_Rel_1 hRm true hi
        have w27 : τm false 27 1 = σc true 0 7 := (hRm.1 true 0 7 _ (tw_mus true)).symm
        have w25 : τm false 25 12 = σc true 5 0 := tw_Rel_5 hRm true (j := 0) (by decide)
        have eat : ∀ pg : Nat, pg < 16 → nI pg <<< ((4 : Int32) &&& 31) + (nI n &&& 15) = nI (16 * pg + n % 16) := fun pg hp => by
          rw [tw_sl4 (by omega), tw_an15 hn, nI_add]
          congr 1
          omega
        rw [em, ew]
        unfold g_Gu_reach_S
        rw [hcl, tw_bi_s, if_neg (by decide), if_neg hv, if_pos ((tw_256 _).mpr h2), tw_c_isOn, tw_bi_s, tw_sh4 hn, er, tw_bi_s]
        by_cases hthr : tw_thr 4 2 σc true (n / 16)
        · rw [if_neg (fun z => hr.mp z hthr), if_neg (nI_in hvp (by decide)), nI_clamp (by omega)]
          rcases hC true (n / 16) hvp with hno | hent
          · exact absurd hno hthr.1
          · obtain ⟨t', a, pg, q1, q2, q3, q4, q5, q6, q7, q8, q9⟩ := tw_En0_F hent
            have ett : t' = t := (nI_eq (by omega) (by omega)).mp (q2.symm.trans eT)
            subst ett
            obtain ⟨f17, f18⟩ := hfm a pg _ q3
            rw [q3]
            show tw_AccP d true (nI n) 7 15 σc _ (tw_hand (tw_hand (g_Mo_reach_1_2 (nI n) (nI pg) τm)))
            rw [tw_m_reach_1_2 hn q6 (by omega) f17 f18, w23 a q6, w27, w25, tw_alw_w q7 (by decide), if_neg hthr.2.1, if_neg (by omega), h19, if_neg (fun z => hfl.mp z hthr), q4, eat pg (by omega)]
            have efix : σc true 1 a ||| 96 = σc true 1 a := tw_fix96 q8 (q9 (hthr.2.2 rfl))
            rw [efix, ← w23 a q6, tw_pt_self]
            exact Or.inl ⟨16 * pg + n % 16, σc, τm, by omega, rfl, rfl, hRm, hC, tw_fr_rf _⟩
        · rw [if_pos (hr.mpr hthr), eT]
          obtain ⟨τc, hτc, es, hfc⟩ := tw_c_search_S true ht16 hn σc
          have hRc : tw_Rel d τc τm := tw_Rel_onc hRm hτc
          have hCc : ∀ g', tw_Coh τc g' := fun g' => tw_Coh_onc (hC g') hτc
          rw [es, tw_bi_s]
          cases hF : tw_F t (σc true 1) (n / 16) with
          | inl q =>
            rcases q with _ | q
            · show tw_AccP d true (nI n) 7 15 σc (if (15 : Int32) = 0 then _ else _) (tw_hand (tw_hand (g_Mo_fault_1_2 (nI n) τm)))
              rw [if_neg (by decide), tw_m_fault_1_2]
              exact Or.inr ⟨15, τc, τm, Or.inr rfl, rfl, rfl, hRc, hCc, tw_fr_14 hτc⟩
            · show tw_AccP d true (nI n) 7 15 σc (if (7 : Int32) = 0 then _ else _) (tw_hand (tw_hand (g_Mo_outside_1_2 (nI n) τm)))
              rw [if_neg (by decide), tw_m_outside_1_2]
              exact Or.inr ⟨7, τc, τm, Or.inl rfl, rfl, rfl, hRc, hCc, tw_fr_14 hτc⟩
          | inr q =>
            obtain ⟨a, pg, sec⟩ := q
            obtain ⟨c0, c1, c2, c3⟩ := hfc a pg sec hF
            obtain ⟨f17, f18⟩ := hfm a pg sec hF
            obtain ⟨ha, hpg, hsec⟩ := tw_F_rng hvp hF
            show tw_AccP d true (nI n) 7 15 σc (if (0 : Int32) = 0 then _ else _) (tw_hand (tw_hand (g_Mo_reach_1_2 (nI n) (nI pg) τm)))
            have k1 : τc true 1 a = σc true 1 a := hτc true 1 a (by decide)
            have k7 : τc true 0 7 = σc true 0 7 := hτc true 0 7 (by decide)
            have k5 : τc true 5 0 = σc true 5 0 := hτc true 5 0 (by decide)
            rw [if_pos rfl, tw_c_fill_S true hvp ha hpg c0 c1 c2 c3, tw_m_reach_1_2 hn ha hpg f17 f18, k1, k7, k5, w23 a ha, w27, w25]
            by_cases ha0 : tw_alw 4 2 (σc true 1 a) (σc true 0 7) (σc true 5 0 &&& 8) = 0
            · rw [if_pos ha0, if_pos ha0, tw_bi_s, if_neg (by decide)]
              exact Or.inr ⟨15, τc, τm, Or.inr rfl, rfl, rfl, hRc, hCc, tw_fr_14 hτc⟩
            · rw [if_neg ha0, if_neg ha0]
              by_cases hp8 : 8 ≤ pg
              · rw [if_pos hp8, if_pos hp8, tw_bi_s, if_neg (by decide)]
                exact Or.inr ⟨7, τc, τm, Or.inl rfl, rfl, rfl, hRc, hCc, tw_fr_14 hτc⟩
              · rw [if_neg hp8, if_neg hp8, h19, if_pos (hfl.mpr hthr), tw_bi_s, if_pos rfl, if_neg (nI_in hvp (by decide)), nI_clamp (by omega), hsec]
                have e10 : tw_flc true (n / 16) a pg (16 * t + n / 16 / 4) sec (σc true 1 a ||| 96) τc true 10 (n / 16) = nI pg := by simp [tw_flc, tw_pt_eq]
                rw [e10, eat pg (by omega)]
                refine Or.inl ⟨16 * pg + n % 16, _, _, by omega, rfl, rfl, tw_r_fill hRc true hvp ha sec _, ?_, tw_fr_flc (tw_fr_14 hτc) _ _ _ _ _ _ _⟩
                rw [← k1]
                exact tw_coh_fill hCc (Or.inr rfl) (by rw [hτc true 5 6 (by decide)]; exact eT) hvp (by rw [tw_F_on (M := σc true 1) hvp (fun i _ => hτc true 1 i (by decide))]; exact hF) (by omega)
      · unfold g_Gu_reach_S g_Mo_access_1_2
        rw [hcl, tw_bi_s, if_neg (by decide), if_neg hv, if_neg (fun z => h2 ((tw_256 v).mp z)), e6, if_neg ht, if_neg hv, if_neg h2, tw_m_fault_1_2]
        exact Or.inr ⟨15, σc, σm, Or.inr rfl, rfl, rfl, hR, hC, tw_fr_rf _⟩
