/-! Point updates, and the relation between the class's guests (in one state) and the reference's rows (in another). -/
theorem tw_pt_eq (σ : tw_S) (g : Bool) (c j : Nat) (x : Int32) (g' : Bool) (c' j' : Nat) : tw_pt σ g c j x g' c' j' = if g' = g ∧ c' = c ∧ j' = j then x else σ g' c' j' := by
  show (if c' = c ∧ j' = j ∧ g' = g then x else σ g' c' j') = _
  by_cases h : g' = g ∧ c' = c ∧ j' = j
  · rw [if_pos h, if_pos ⟨h.2.1, h.2.2, h.1⟩]
  · rw [if_neg h, if_neg (fun z => h ⟨z.2.2, z.1, z.2.1⟩)]
theorem tw_pt_s (σ : tw_S) (g : Bool) (c j : Nat) (x : Int32) : tw_pt σ g c j x g c j = x := by rw [tw_pt_eq, if_pos ⟨rfl, rfl, rfl⟩]
theorem tw_pt_n (σ : tw_S) {g : Bool} {c j : Nat} (x : Int32) {g' : Bool} {c' j' : Nat} (h : ¬ (g' = g ∧ c' = c ∧ j' = j)) : tw_pt σ g c j x g' c' j' = σ g' c' j' := by rw [tw_pt_eq, if_neg h]
theorem tw_ext {σ τ : tw_S} (h : ∀ g c j, σ g c j = τ g c j) : σ = τ := funext fun g => funext fun c => funext fun j => h g c j
theorem tw_pt_self (σ : tw_S) (g : Bool) (c j : Nat) : tw_pt σ g c j (σ g c j) = σ := tw_ext fun g' c' j' => by
  rw [tw_pt_eq]
  by_cases h : g' = g ∧ c' = c ∧ j' = j
  · rw [if_pos h, h.1, h.2.1, h.2.2]
  · rw [if_neg h]
theorem tw_pt_comm (σ : tw_S) {g : Bool} {c j : Nat} (x : Int32) {g2 : Bool} {c2 j2 : Nat} (y : Int32) (h : ¬ (g2 = g ∧ c2 = c ∧ j2 = j)) : tw_pt (tw_pt σ g c j x) g2 c2 j2 y = tw_pt (tw_pt σ g2 c2 j2 y) g c j x := tw_ext fun g' c' j' => by
  rw [tw_pt_eq, tw_pt_eq, tw_pt_eq, tw_pt_eq]
  by_cases h1 : g' = g2 ∧ c' = c2 ∧ j' = j2
  · rw [if_pos h1, if_pos h1, if_neg (fun z => h ⟨h1.1.symm.trans z.1, h1.2.1.symm.trans z.2.1, h1.2.2.symm.trans z.2.2⟩)]
  · rw [if_neg h1, if_neg h1]
def tw_b (g : Bool) : Nat := if g = true then 1 else 0
def tw_gI (g : Bool) : Int32 := nI (tw_b g)
theorem tw_b_lt (g : Bool) : tw_b g < 2 := by cases g <;> decide
theorem tw_b_inj {g g' : Bool} (h : tw_b g = tw_b g') : g = g' := by
  revert h
  cases g <;> cases g' <;> decide
/-- where the reference keeps what the class keeps at component c, index j: component, stride, length, base -/
def tw_U (c j : Nat) : Nat × Nat × Nat × Nat := match c with
  | 0 => if j = 6 then (26, 1, 1, 6) else if j = 7 then (27, 1, 1, 7) else (0, 0, 0, 0)
  | 1 => (23, 128, 128, 0)
  | 2 => (24, 8, 8, 0)
  | 3 => (31, 9, 8, 0)
  | 5 => (25, 12, 12, 0)
  | 6 => if j = 2 then (28, 1, 1, 2) else (0, 0, 0, 0)
  | 10 => (32, 16, 16, 0)
  | 12 => (35, 16, 16, 0)
  | 13 => (36, 16, 16, 0)
  | _ => (0, 0, 0, 0)
def tw_back (k : Nat) : Nat × Nat × Nat × Nat := match k with
  | 26 => (0, 1, 1, 6)
  | 27 => (0, 1, 1, 7)
  | 23 => (1, 128, 128, 0)
  | 24 => (2, 8, 8, 0)
  | 31 => (3, 9, 8, 0)
  | 25 => (5, 12, 12, 0)
  | 28 => (6, 1, 1, 2)
  | 32 => (10, 16, 16, 0)
  | 35 => (12, 16, 16, 0)
  | 36 => (13, 16, 16, 0)
  | _ => (0, 0, 0, 0)
theorem tw_U_back (c j : Nat) (h : (tw_U c j).2.2.1 ≠ 0) : tw_back (tw_U c j).1 = (c, (tw_U c j).2) ∧ (tw_U c j).2.2.1 ≤ (tw_U c j).2.1 := by
  unfold tw_U at h ⊢
  split
  · by_cases h6 : j = 6
    · subst h6; exact ⟨rfl, by decide⟩
    · by_cases h7 : j = 7
      · subst h7; exact ⟨rfl, by decide⟩
      · simp [h6, h7] at h
  · exact ⟨rfl, by decide⟩
  · exact ⟨rfl, by decide⟩
  · exact ⟨rfl, by decide⟩
  · exact ⟨rfl, by decide⟩
  · by_cases h2 : j = 2
    · subst h2; exact ⟨rfl, by decide⟩
    · simp [h2] at h
  · exact ⟨rfl, by decide⟩
  · exact ⟨rfl, by decide⟩
  · exact ⟨rfl, by decide⟩
  · split at h <;> simp_all
def tw_m (g : Bool) (c j : Nat) : Option (Nat × Nat) := if (tw_U c j).2.2.2 ≤ j ∧ j < (tw_U c j).2.2.2 + (tw_U c j).2.2.1 then some ((tw_U c j).1, (tw_U c j).2.1 * tw_b g + (j - (tw_U c j).2.2.2)) else none
theorem tw_m_spec {g : Bool} {c j : Nat} {q : Nat × Nat} (h : tw_m g c j = some q) : tw_back q.1 = (c, (tw_U c j).2) ∧ (tw_back q.1).2.2.1 ≤ (tw_back q.1).2.1 ∧ (tw_back q.1).2.2.2 ≤ j ∧ j < (tw_back q.1).2.2.2 + (tw_back q.1).2.2.1 ∧ q.2 = (tw_back q.1).2.1 * tw_b g + (j - (tw_back q.1).2.2.2) := by
  unfold tw_m at h
  by_cases hc : (tw_U c j).2.2.2 ≤ j ∧ j < (tw_U c j).2.2.2 + (tw_U c j).2.2.1
  · rw [if_pos hc] at h
    cases h
    obtain ⟨h1, h2⟩ := tw_U_back c j (by omega)
    dsimp only
    rw [h1]
    exact ⟨rfl, h2, hc.1, hc.2, rfl⟩
  · rw [if_neg hc] at h
    cases h
theorem tw_slot {s n b b' i i' : Nat} (hb : b < 2) (hb' : b' < 2) (hn : n ≤ s) (hi : i < n) (hi' : i' < n) (h : s * b + i = s * b' + i') : b = b' ∧ i = i' := by
  have c1 : b = 0 ∨ b = 1 := by omega
  have c2 : b' = 0 ∨ b' = 1 := by omega
  rcases c1 with rfl | rfl <;> rcases c2 with rfl | rfl <;> simp at h <;> omega
theorem tw_m_inj {g g' : Bool} {c c' j j' : Nat} {q : Nat × Nat} (h : tw_m g c j = some q) (h' : tw_m g' c' j' = some q) : g' = g ∧ c' = c ∧ j' = j := by
  obtain ⟨a1, a2, a3, a4, a5⟩ := tw_m_spec h
  obtain ⟨b1, b2, b3, b4, b5⟩ := tw_m_spec h'
  have hc : c' = c := by
    have := a1.symm.trans b1
    exact (congrArg Prod.fst this).symm
  have hs := tw_slot (tw_b_lt g) (tw_b_lt g') a2 (i := j - (tw_back q.1).2.2.2) (i' := j' - (tw_back q.1).2.2.2) (by omega) (by omega) (a5.symm.trans b5)
  exact ⟨tw_b_inj hs.1.symm, hc, by omega⟩
/-- what is the same on both sides -/
def tw_R1 (σc σm : tw_S) : Prop := ∀ g c j q, tw_m g c j = some q → σc g c j = σm false q.1 q.2
theorem tw_R1_pt {σc σm : tw_S} (h : tw_R1 σc σm) {g : Bool} {c j k i : Nat} (hm : tw_m g c j = some (k, i)) (x : Int32) : tw_R1 (tw_pt σc g c j x) (tw_pt σm false k i x) := by
  intro g' c' j' q hq
  by_cases hs : g' = g ∧ c' = c ∧ j' = j
  · rw [tw_pt_eq, if_pos hs]
    obtain ⟨rfl, rfl, rfl⟩ := hs
    rw [hm] at hq
    cases hq
    rw [tw_pt_s]
  · rw [tw_pt_n _ _ hs, tw_pt_n _ _ (fun z => hs (tw_m_inj hm (by rw [hq, ← z.2.1, ← z.2.2])))]
    exact h g' c' j' q hq
theorem tw_R1_c {σc σm : tw_S} (h : tw_R1 σc σm) {g : Bool} {c j : Nat} (hm : tw_m g c j = none) (x : Int32) : tw_R1 (tw_pt σc g c j x) σm := by
  intro g' c' j' q hq
  rw [tw_pt_n _ _ (fun z => by rw [z.1, z.2.1, z.2.2, hm] at hq; cases hq)]
  exact h g' c' j' q hq
theorem tw_R1_m {σc σm : tw_S} (h : tw_R1 σc σm) {k i : Nat} (hm : ∀ g c j, tw_m g c j ≠ some (k, i)) (x : Int32) : tw_R1 σc (tw_pt σm false k i x) := by
  intro g' c' j' q hq
  rw [tw_pt_n _ _ (fun z => hm g' c' j' (by rw [hq, ← z.2.1, ← z.2.2]))]
  exact h g' c' j' q hq
theorem tw_m_no {k i : Nat} (hk : (tw_back k).2.2.1 = 0) (g : Bool) (c j : Nat) : tw_m g c j ≠ some (k, i) := fun z => by
  obtain ⟨a1, a2, a3, a4, a5⟩ := tw_m_spec z
  have a3 : (tw_back k).2.2.2 ≤ j := a3
  have a4 : j < (tw_back k).2.2.2 + (tw_back k).2.2.1 := a4
  omega
theorem tw_m_no8 {b : Nat} (hb : b < 2) (g : Bool) (c j : Nat) : tw_m g c j ≠ some (31, 9 * b + 8) := fun z => by
  obtain ⟨a1, a2, a3, a4, a5⟩ := tw_m_spec z
  have hg := tw_b_lt g
  have a4 : j < 0 + 8 := a4
  have a5 : 9 * b + 8 = 9 * tw_b g + (j - 0) := a5
  omega
theorem tw_m1 (g : Bool) {j : Nat} (h : j < 128) : tw_m g 1 j = some (23, 128 * tw_b g + j) := if_pos ⟨Nat.zero_le _, by show j < 0 + 128; omega⟩
theorem tw_m2 (g : Bool) {j : Nat} (h : j < 8) : tw_m g 2 j = some (24, 8 * tw_b g + j) := if_pos ⟨Nat.zero_le _, by show j < 0 + 8; omega⟩
theorem tw_m3 (g : Bool) {j : Nat} (h : j < 8) : tw_m g 3 j = some (31, 9 * tw_b g + j) := if_pos ⟨Nat.zero_le _, by show j < 0 + 8; omega⟩
theorem tw_m5 (g : Bool) {j : Nat} (h : j < 12) : tw_m g 5 j = some (25, 12 * tw_b g + j) := if_pos ⟨Nat.zero_le _, by show j < 0 + 12; omega⟩
theorem tw_m10 (g : Bool) {j : Nat} (h : j < 16) : tw_m g 10 j = some (32, 16 * tw_b g + j) := if_pos ⟨Nat.zero_le _, by show j < 0 + 16; omega⟩
theorem tw_m12 (g : Bool) {j : Nat} (h : j < 16) : tw_m g 12 j = some (35, 16 * tw_b g + j) := if_pos ⟨Nat.zero_le _, by show j < 0 + 16; omega⟩
theorem tw_m13 (g : Bool) {j : Nat} (h : j < 16) : tw_m g 13 j = some (36, 16 * tw_b g + j) := if_pos ⟨Nat.zero_le _, by show j < 0 + 16; omega⟩
theorem tw_mpc (g : Bool) : tw_m g 0 6 = some (26, tw_b g) := by cases g <;> rfl
theorem tw_mus (g : Bool) : tw_m g 0 7 = some (27, tw_b g) := by cases g <;> rfl
theorem tw_msz (g : Bool) : tw_m g 6 2 = some (28, tw_b g) := by cases g <;> rfl
/-- the rest of the relation, of guest g: the mode is a boolean; the inputs that wait; the entries' bits; the steps, d apart -/
def tw_R2 (g : Bool) (d : Int32) (σc σm : tw_S) : Prop :=
  (σc g 0 7 = 0 ∨ σc g 0 7 = 1) ∧
  (∃ n, n ≤ 6 ∧ σc g 6 2 = nI n ∧ ∀ j, j < n → σc g 7 j = σm false 29 (6 * tw_b g + j) ∧ σc g 8 j = σm false 30 (6 * tw_b g + j)) ∧
  (∀ v, v < 16 → σm false 33 (16 * tw_b g + v) = σc g 11 v &&& 30 ∧ σm false 34 (16 * tw_b g + v) = (if σc g 11 v &&& 64 = 0 then 0 else 1) ∧ σc g 11 v &&& 94 = σc g 11 v) ∧
  σc g 3 8 = σm false 31 (9 * tw_b g + 8) + d
/-- the places that R2 reads -/
def tw_P2 (c j : Nat) : Bool := (Nat.beq c 0 && Nat.beq j 7) || (Nat.beq c 6 && Nat.beq j 2) || Nat.beq c 7 || Nat.beq c 8 || Nat.beq c 11 || (Nat.beq c 3 && Nat.beq j 8)
def tw_M2 (c j : Nat) : Bool := Nat.beq c 29 || Nat.beq c 30 || Nat.beq c 33 || Nat.beq c 34 || (Nat.beq c 31 && (Nat.beq j 8 || Nat.beq j 17))
theorem tw_P2_7 (j : Nat) : tw_P2 7 j = true := by simp [tw_P2]
theorem tw_P2_8 (j : Nat) : tw_P2 8 j = true := by simp [tw_P2]
theorem tw_P2_11 (j : Nat) : tw_P2 11 j = true := by simp [tw_P2]
theorem tw_M2_29 (j : Nat) : tw_M2 29 j = true := by simp [tw_M2]
theorem tw_M2_30 (j : Nat) : tw_M2 30 j = true := by simp [tw_M2]
theorem tw_M2_33 (j : Nat) : tw_M2 33 j = true := by simp [tw_M2]
theorem tw_M2_34 (j : Nat) : tw_M2 34 j = true := by simp [tw_M2]
theorem tw_M2_8 (g : Bool) : tw_M2 31 (9 * tw_b g + 8) = true := by cases g <;> rfl
theorem tw_R2_on {g : Bool} {d : Int32} {σc σm τc τm : tw_S} (h : tw_R2 g d σc σm) (hc : ∀ c j, tw_P2 c j = true → τc g c j = σc g c j) (hm : ∀ c j, tw_M2 c j = true → τm false c j = σm false c j) : tw_R2 g d τc τm := by
  obtain ⟨h1, ⟨n, hn, h2, h3⟩, h4, h5⟩ := h
  refine ⟨by rw [hc 0 7 rfl]; exact h1, ⟨n, hn, by rw [hc 6 2 rfl]; exact h2, fun j hj => ?_⟩, fun v hv => ?_, ?_⟩
  · rw [hc 7 j (tw_P2_7 j), hc 8 j (tw_P2_8 j), hm 29 _ (tw_M2_29 _), hm 30 _ (tw_M2_30 _)]
    exact h3 j hj
  · rw [hc 11 v (tw_P2_11 v), hm 33 _ (tw_M2_33 _), hm 34 _ (tw_M2_34 _)]
    exact h4 v hv
  · rw [hc 3 8 rfl, hm 31 _ (tw_M2_8 g)]
    exact h5
/-- the host's own fields -/
def tw_R3 (e : Int32 × Int32 × Int32) (σc σm : tw_S) : Prop := σc false 20 1 = e.1 ∧ σc false 20 2 = e.2.1 ∧ σc false 20 3 = e.2.2 ∧ σm false 22 0 = e.1 ∧ σm false 22 1 = e.2.1 ∧ σm false 22 2 = e.2.2
/-- by how much the class's counts of steps are ahead; quantum, turn, row -/
abbrev tw_Dt : Type := (Bool → Int32) × Int32 × Int32 × Int32
/-- the relation -/
def tw_Rel (d : tw_Dt) (σc σm : tw_S) : Prop := tw_R1 σc σm ∧ (∀ g, tw_R2 g (d.1 g) σc σm) ∧ tw_R3 d.2 σc σm
/-- one change on both sides -/
theorem tw_Rel_pt {d : tw_Dt} {σc σm : tw_S} (h : tw_Rel d σc σm) {g : Bool} {c j k i : Nat} (hm : tw_m g c j = some (k, i)) (hP : tw_P2 c j = false) (hM : tw_M2 k i = false) (hk : k ≠ 22) (hc : c ≠ 20) (x : Int32) : tw_Rel d (tw_pt σc g c j x) (tw_pt σm false k i x) := by
  refine ⟨tw_R1_pt h.1 hm x, fun g' => tw_R2_on (h.2.1 g') (fun c' j' hp => ?_) (fun c' j' hp => ?_), ?_⟩
  · exact tw_pt_n _ _ (fun z => by rw [z.2.1, z.2.2, hP] at hp; cases hp)
  · exact tw_pt_n _ _ (fun z => by rw [z.2.1, z.2.2, hM] at hp; cases hp)
  · unfold tw_R3
    rw [tw_pt_n _ _ (fun z => hc z.2.1.symm), tw_pt_n _ _ (fun z => hc z.2.1.symm), tw_pt_n _ _ (fun z => hc z.2.1.symm), tw_pt_n _ _ (fun z => hk z.2.1.symm), tw_pt_n _ _ (fun z => hk z.2.1.symm), tw_pt_n _ _ (fun z => hk z.2.1.symm)]
    exact h.2.2
/-- a change that only the class makes, where the relation doesn't look -/
theorem tw_Rel_c {d : tw_Dt} {σc σm : tw_S} (h : tw_Rel d σc σm) {g : Bool} {c j : Nat} (hm : tw_m g c j = none) (hP : tw_P2 c j = false) (hc : c ≠ 20) (x : Int32) : tw_Rel d (tw_pt σc g c j x) σm := by
  refine ⟨tw_R1_c h.1 hm x, fun g' => tw_R2_on (h.2.1 g') (fun c' j' hp => ?_) (fun _ _ _ => rfl), ?_⟩
  · exact tw_pt_n _ _ (fun z => by rw [z.2.1, z.2.2, hP] at hp; cases hp)
  · unfold tw_R3
    rw [tw_pt_n _ _ (fun z => hc z.2.1.symm), tw_pt_n _ _ (fun z => hc z.2.1.symm), tw_pt_n _ _ (fun z => hc z.2.1.symm)]
    exact h.2.2
/-- a change that only the reference makes: leafAt, tableAt, through -/
theorem tw_Rel_m {d : tw_Dt} {σc σm : tw_S} (h : tw_Rel d σc σm) {i : Nat} (hi : 3 ≤ i) (x : Int32) : tw_Rel d σc (tw_pt σm false 22 i x) := by
  refine ⟨tw_R1_m h.1 (tw_m_no rfl) x, fun g' => tw_R2_on (h.2.1 g') (fun _ _ _ => rfl) (fun c' j' hp => ?_), ?_⟩
  · exact tw_pt_n _ _ (fun z => by rw [z.2.1] at hp; exact absurd hp Bool.false_ne_true)
  · unfold tw_R3
    rw [tw_pt_n σm (g' := false) (c' := 22) (j' := 0) x (fun z => by have := z.2.2; omega), tw_pt_n σm (g' := false) (c' := 22) (j' := 1) x (fun z => by have := z.2.2; omega), tw_pt_n σm (g' := false) (c' := 22) (j' := 2) x (fun z => by have := z.2.2; omega)]
    exact h.2.2
