/-! A shadow entry is what a walk of the guest's tables would find. -/
/-- a word of the tables that isn't broken -/
def tw_Wd (w : Int32) : Prop := ¬ w &&& 1 = 0 ∧ ¬ w &&& 6 = 4
def tw_num (w : Int32) : Int32 := (w >>> ((8 : Int32) &&& 31)) &&& 15
/-- the entry of virtual page v (page P, bits B, words F and S) is what the tables at T say; a: the leaf's place -/
def tw_En0 (T : Int32) (M : Nat → Int32) (v : Nat) (P B F S : Int32) : Prop := ∃ t k pg a : Nat, t < 8 ∧ T &&& 15 = nI t ∧ F = nI (16 * t + v / 4) ∧ tw_Wd (M (16 * t + v / 4)) ∧ tw_num (M (16 * t + v / 4)) = nI k ∧ pg < 8 ∧ P = nI pg ∧ a < 128 ∧
  ((¬ M (16 * t + v / 4) &&& 10 = 0 ∧ k % 4 = 0 ∧ k < 16 ∧ pg = k + v % 4 ∧ S = -1 ∧ a = 16 * t + v / 4) ∨
   (M (16 * t + v / 4) &&& 10 = 0 ∧ k < 8 ∧ a = 16 * k + v % 4 ∧ S = nI a ∧ tw_Wd (M a) ∧ ¬ M a &&& 10 = 0 ∧ tw_num (M a) = nI pg)) ∧
  M a &&& 30 = B &&& 30 ∧ ¬ M a &&& 32 = 0 ∧ (¬ B &&& 64 = 0 → ¬ M a &&& 64 = 0)
def tw_Coh (σ : tw_S) (g : Bool) : Prop := ∀ v, v < 16 → σ g 10 v = -1 ∨ tw_En0 (σ g 5 6) (σ g 1) v (σ g 10 v) (σ g 11 v) (σ g 12 v) (σ g 13 v)
/-- a word that a walk has put A, or A and D, on in -/
def tw_orw (w w' : Int32) : Prop := w' = w ∨ w' = w ||| 32 ∨ w' = w ||| 96
theorem tw_orw_and {w w' : Int32} (h : tw_orw w w') {m : Int32} (h1 : 32 &&& m = 0) (h2 : 96 &&& m = 0) : w' &&& m = w &&& m := by
  rcases h with h | h | h
  · rw [h]
  · rw [h]; exact tw_or_and _ _ _ h1
  · rw [h]; exact tw_or_and _ _ _ h2
theorem tw_orw_ne {w w' : Int32} (h : tw_orw w w') {m : Int32} (hm : ¬ w &&& m = 0) : ¬ w' &&& m = 0 := by
  rcases h with h | h | h
  · rw [h]; exact hm
  · rw [h]; exact tw_or_ne _ hm
  · rw [h]; exact tw_or_ne _ hm
theorem tw_orw_num {w w' : Int32} (h : tw_orw w w') : tw_num w' = tw_num w := by
  unfold tw_num
  rcases h with h | h | h
  · rw [h]
  · rw [h]; exact tw_or_num _ tw_hi32
  · rw [h]; exact tw_or_num _ tw_hi96
theorem tw_orw_wd {w w' : Int32} (h : tw_orw w w') (hw : tw_Wd w) : tw_Wd w' := by
  unfold tw_Wd
  rw [tw_orw_and h (m := 1) (by decide) (by decide), tw_orw_and h (m := 6) (by decide) (by decide)]
  exact hw
theorem tw_En0_or {T : Int32} {M M' : Nat → Int32} {v : Nat} {P B F S : Int32} (hv : v < 16) (h : tw_En0 T M v P B F S) (hM : ∀ i, i < 128 → tw_orw (M i) (M' i)) : tw_En0 T M' v P B F S := by
  obtain ⟨t, k, pg, a, h1, h2, h3, h4, h5, h6, h7, h8, h9, h10, h11, h12⟩ := h
  have e1 := hM (16 * t + v / 4) (by omega)
  have e2 := hM a h8
  refine ⟨t, k, pg, a, h1, h2, h3, tw_orw_wd e1 h4, (tw_orw_num e1).trans h5, h6, h7, h8, ?_, ?_, tw_orw_ne e2 h11, fun z => tw_orw_ne e2 (h12 z)⟩
  · rcases h9 with ⟨a1, a2⟩ | ⟨a1, a2, a3, a4, a5, a6, a7⟩
    · exact Or.inl ⟨tw_orw_ne e1 a1, a2⟩
    · exact Or.inr ⟨by rw [tw_orw_and e1 (by decide) (by decide)]; exact a1, a2, a3, a4, tw_orw_wd e2 a5, tw_orw_ne e2 a6, (tw_orw_num e2).trans a7⟩
  · rw [tw_orw_and e2 (by decide) (by decide)]; exact h10
theorem tw_En0_set {T : Int32} {M M' : Nat → Int32} {v p : Nat} {P B F S : Int32} (hv : v < 16) (hp : p < 128) (h : tw_En0 T M v P B F S) (hF : ¬ F = nI p) (hS : ¬ S = nI p) (hM : ∀ i, i < 128 → ¬ i = p → M' i = M i) : tw_En0 T M' v P B F S := by
  obtain ⟨t, k, pg, a, h1, h2, h3, h4, h5, h6, h7, h8, h9, h10, h11, h12⟩ := h
  have e1 : M' (16 * t + v / 4) = M (16 * t + v / 4) := hM _ (by omega) (fun z => hF (by rw [h3, z]))
  have e2 : M' a = M a := by
    rcases h9 with ⟨a1, a2, a3, a4, a5, a6⟩ | ⟨a1, a2, a3, a4, a5, a6, a7⟩
    · rw [a6]; exact e1
    · exact hM a h8 (fun z => hS (by rw [a4, z]))
  refine ⟨t, k, pg, a, h1, h2, h3, by rw [e1]; exact h4, by rw [e1]; exact h5, h6, h7, h8, ?_, by rw [e2]; exact h10, by rw [e2]; exact h11, by rw [e2]; exact h12⟩
  rw [e1, e2]
  exact h9
/-- nothing that it speaks of has changed -/
theorem tw_Coh_on {σ τ : tw_S} {g : Bool} (h : tw_Coh σ g) (h5 : τ g 5 6 = σ g 5 6) (h1 : ∀ i, i < 128 → tw_orw (σ g 1 i) (τ g 1 i)) (hs : ∀ v, v < 16 → τ g 10 v = σ g 10 v ∧ τ g 11 v = σ g 11 v ∧ τ g 12 v = σ g 12 v ∧ τ g 13 v = σ g 13 v) : tw_Coh τ g := by
  intro v hv
  obtain ⟨a, b, c, d⟩ := hs v hv
  rw [h5, a, b, c, d]
  rcases h v hv with h | h
  · exact Or.inl h
  · exact Or.inr (tw_En0_or hv h h1)
/-- the places that it speaks of -/
def tw_PC (c j : Nat) : Bool := Nat.beq c 1 || (Nat.beq c 5 && Nat.beq j 6) || Nat.beq c 10 || Nat.beq c 11 || Nat.beq c 12 || Nat.beq c 13
theorem tw_Coh_pt {σ : tw_S} {g g' : Bool} (h : tw_Coh σ g) {c j : Nat} (hc : tw_PC c j = false) (x : Int32) : tw_Coh (tw_pt σ g' c j x) g := by
  have key : ∀ c' j', tw_PC c' j' = true → tw_pt σ g' c j x g c' j' = σ g c' j' := fun c' j' hp => tw_pt_n _ _ (fun z => by rw [z.2.1, z.2.2, hc] at hp; cases hp)
  have p1 : ∀ j, tw_PC 1 j = true := fun j => by simp [tw_PC]
  have p10 : ∀ j, tw_PC 10 j = true := fun j => by simp [tw_PC]
  have p11 : ∀ j, tw_PC 11 j = true := fun j => by simp [tw_PC]
  have p12 : ∀ j, tw_PC 12 j = true := fun j => by simp [tw_PC]
  have p13 : ∀ j, tw_PC 13 j = true := fun j => by simp [tw_PC]
  exact tw_Coh_on h (key 5 6 rfl) (fun i _ => Or.inl (key 1 i (p1 i))) (fun v _ => ⟨key 10 v (p10 v), key 11 v (p11 v), key 12 v (p12 v), key 13 v (p13 v)⟩)
/-- the other guest's -/
theorem tw_Coh_ot {σ : tw_S} {g g' : Bool} (h : tw_Coh σ g) (hg : ¬ g = g') (c j : Nat) (x : Int32) : tw_Coh (tw_pt σ g' c j x) g := by
  have key : ∀ c' j', tw_pt σ g' c j x g c' j' = σ g c' j' := fun c' j' => tw_pt_n _ _ (fun z => hg z.1)
  exact tw_Coh_on h (key 5 6) (fun i _ => Or.inl (key 1 i)) (fun v _ => ⟨key 10 v, key 11 v, key 12 v, key 13 v⟩)
