/-! What a function says of a method where it says something: tw_le. Calls in such a function: tw_bi (an int comes back), tw_bv (nothing), tw_br (a constant of Outcome). -/
def tw_le (a b : Option tw_R) : Prop := ∀ ρ, a = some ρ → b = some ρ
def tw_bi (a : Option tw_R) (k : Int32 → tw_S → Option tw_R) : Option tw_R := match a with
  | some (some (.inl x), σ) => k x σ
  | _ => none
def tw_bv (a : Option tw_R) (k : tw_S → Option tw_R) : Option tw_R := match a with
  | some (none, σ) => k σ
  | _ => none
def tw_br (a : Option tw_R) (k : Nat → tw_S → Option tw_R) : Option tw_R := match a with
  | some (some (.inr (false, o)), σ) => k o σ
  | _ => none
def tw_bo (a : Option tw_R) (k0 k1 k2 : tw_S → Option tw_R) : Option tw_R := tw_br a (fun o σ => if o = 60 then k0 σ else if o = 61 then k1 σ else if o = 62 then k2 σ else none)
theorem tw_le_rf {a : Option tw_R} : tw_le a a := fun _ h => h
theorem tw_le_no {b : Option tw_R} : tw_le none b := fun _ h => tw_no h
theorem tw_le_it {c : Prop} [Decidable c] {a b a2 b2 : Option tw_R} (h1 : c → tw_le a a2) (h2 : ¬ c → tw_le b b2) : tw_le (if c then a else b) (if c then a2 else b2) := by
  by_cases hc : c
  · rw [if_pos hc, if_pos hc]; exact h1 hc
  · rw [if_neg hc, if_neg hc]; exact h2 hc
theorem tw_le_ps {c : Prop} [Decidable c] {a a2 b2 : Option tw_R} (hc : c) (h1 : tw_le a a2) : tw_le a (if c then a2 else b2) := by
  rw [if_pos hc]; exact h1
theorem tw_le_ng {c : Prop} [Decidable c] {a a2 b2 : Option tw_R} (hc : ¬ c) (h1 : tw_le a b2) : tw_le a (if c then a2 else b2) := by
  rw [if_neg hc]; exact h1
theorem tw_le_bi {a b : Option tw_R} {k : Int32 → tw_S → Option tw_R} {next : tw_K} {lv : tw_L} {rest : List tw_V} (h : tw_le a b) (hk : ∀ x σ, tw_le (k x σ) (next lv (.inl x :: rest) σ)) : tw_le (tw_bi a k) (tw_beh next lv rest b) := by
  intro ρ hr
  rcases a with _ | ⟨_ | ⟨x | q⟩, σ⟩
  · exact tw_no hr
  · exact tw_no hr
  · rw [h _ rfl]; exact hk x σ ρ hr
  · exact tw_no hr
theorem tw_le_bv {a b : Option tw_R} {k : tw_S → Option tw_R} {next : tw_K} {lv : tw_L} {rest : List tw_V} (h : tw_le a b) (hk : ∀ σ, tw_le (k σ) (next lv rest σ)) : tw_le (tw_bv a k) (tw_beh next lv rest b) := by
  intro ρ hr
  rcases a with _ | ⟨_ | ⟨x | q⟩, σ⟩
  · exact tw_no hr
  · rw [h _ rfl]; exact hk σ ρ hr
  · exact tw_no hr
  · exact tw_no hr
theorem tw_le_br {a b : Option tw_R} {k : Nat → tw_S → Option tw_R} {next : tw_K} {lv : tw_L} {rest : List tw_V} (h : tw_le a b) (hk : ∀ o σ, tw_le (k o σ) (next lv (.inr (false, o) :: rest) σ)) : tw_le (tw_br a k) (tw_beh next lv rest b) := by
  intro ρ hr
  rcases a with _ | ⟨_ | ⟨x | ⟨_ | _, o⟩⟩, σ⟩
  · exact tw_no hr
  · exact tw_no hr
  · exact tw_no hr
  · rw [h _ rfl]; exact hk o σ ρ hr
  · exact tw_no hr
theorem tw_le_bo {a b : Option tw_R} {k0 k1 k2 : tw_S → Option tw_R} {next : tw_K} {lv : tw_L} {rest : List tw_V} (h : tw_le a b) (h0 : ∀ σ, tw_le (k0 σ) (next lv (.inr (false, 60) :: rest) σ)) (h1 : ∀ σ, tw_le (k1 σ) (next lv (.inr (false, 61) :: rest) σ)) (h2 : ∀ σ, tw_le (k2 σ) (next lv (.inr (false, 62) :: rest) σ)) : tw_le (tw_bo a k0 k1 k2) (tw_beh next lv rest b) := by
  refine tw_le_br h (fun o σ => ?_)
  by_cases e0 : o = 60
  · rw [if_pos e0, e0]; exact h0 σ
  · rw [if_neg e0]
    by_cases e1 : o = 61
    · rw [if_pos e1, e1]; exact h1 σ
    · rw [if_neg e1]
      by_cases e2 : o = 62
      · rw [if_pos e2, e2]; exact h2 σ
      · rw [if_neg e2]; exact tw_le_no
theorem tw_le_cs {c : Prop} [Decidable c] {a a2 b : Option tw_R} (h1 : c → tw_le a b) (h2 : ¬ c → tw_le a2 b) : tw_le (if c then a else a2) b := by
  by_cases hc : c
  · rw [if_pos hc]; exact h1 hc
  · rw [if_neg hc]; exact h2 hc
theorem tw_le_ki {a b : Option tw_R} {x : Int32} {σ : tw_S} {next : tw_K} {lv : tw_L} {rest : List tw_V} (h : tw_le (some (some (.inl x), σ)) b) (hk : tw_le a (next lv (.inl x :: rest) σ)) : tw_le a (tw_beh next lv rest b) := by
  rw [h _ rfl]; exact hk
theorem tw_le_kv {a b : Option tw_R} {σ : tw_S} {next : tw_K} {lv : tw_L} {rest : List tw_V} (h : tw_le (some (none, σ)) b) (hk : tw_le a (next lv rest σ)) : tw_le a (tw_beh next lv rest b) := by
  rw [h _ rfl]; exact hk
theorem tw_le_kr {a b : Option tw_R} {o : Nat} {σ : tw_S} {next : tw_K} {lv : tw_L} {rest : List tw_V} (h : tw_le (some (some (.inr (false, o)), σ)) b) (hk : tw_le a (next lv (.inr (false, o) :: rest) σ)) : tw_le a (tw_beh next lv rest b) := by
  rw [h _ rfl]; exact hk
theorem tw_le_fl {a : Option tw_R} {n nL fuel : Nat} {pr : List (Nat × tw_Op)} {vs : List tw_V} {σ : tw_S} (hl : Nat.beq vs.length n = true) (h : tw_le a (tw_run pr fuel pr (tw_args nL vs) [] σ)) : tw_le a (tw_fl n nL fuel pr vs σ) := by
  rw [tw_fl_run hl]; exact h
