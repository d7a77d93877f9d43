/-! The first state, and the constants of the enums. -/
def tw_s0 (v : Int32) : tw_S := fun _ c => match c with
  | 5 => upd (fun _ => 0) 9 2147483647
  | 10 => tw_m1p (fun _ => 0)
  | 20 => fun j => match j with
    | 1 => tw_qu v
    | _ => 0
  | 22 => fun j => match j with
    | 0 => tw_qu v
    | _ => 0
  | 25 => upd (upd (fun _ => 0) 9 2147483647) 21 2147483647
  | 32 => tw_m1n 32 (fun _ => 0)
  | _ => fun _ => 0
theorem tw_R1_0 (v : Int32) : tw_R1 (tw_s0 v) (tw_s0 v) := by
  intro g c j q hq
  have hc : c ≤ 13 := by
    obtain ⟨a1, -, -, -, -⟩ := tw_m_spec hq
    have h1 := tw_back_c q.1
    rw [a1] at h1
    exact h1
  have no : ∀ c, (tw_U c j).2.2.1 = 0 → tw_m g c j = none := fun c h => if_neg (fun z => by rw [h] at z; omega)
  have cs : c = 0 ∨ c = 1 ∨ c = 2 ∨ c = 3 ∨ c = 4 ∨ c = 5 ∨ c = 6 ∨ c = 7 ∨ c = 8 ∨ c = 9 ∨ c = 10 ∨ c = 11 ∨ c = 12 ∨ c = 13 := by omega
  rcases cs with rfl | rfl | rfl | rfl | rfl | rfl | rfl | rfl | rfl | rfl | rfl | rfl | rfl | rfl
  · by_cases h6 : j = 6
    · subst h6; rw [tw_mpc] at hq; cases hq; rfl
    · by_cases h7 : j = 7
      · subst h7; rw [tw_mus] at hq; cases hq; rfl
      · rw [no 0 (by unfold tw_U; rw [if_neg h6, if_neg h7]; rfl)] at hq; cases hq
  · by_cases hj : j < 128
    · rw [tw_m1 g hj] at hq; cases hq; rfl
    · rw [show tw_m g 1 j = none from if_neg (fun z => hj (by have := z.2; exact Nat.lt_of_lt_of_le this (by show 0 + 128 ≤ 128; omega)))] at hq; cases hq
  · by_cases hj : j < 8
    · rw [tw_m2 g hj] at hq; cases hq; rfl
    · rw [show tw_m g 2 j = none from if_neg (fun z => hj (by have := z.2; exact Nat.lt_of_lt_of_le this (by show 0 + 8 ≤ 8; omega)))] at hq; cases hq
  · by_cases hj : j < 8
    · rw [tw_m3 g hj] at hq; cases hq; rfl
    · rw [show tw_m g 3 j = none from if_neg (fun z => hj (by have := z.2; exact Nat.lt_of_lt_of_le this (by show 0 + 8 ≤ 8; omega)))] at hq; cases hq
  · rw [no 4 rfl] at hq; cases hq
  · by_cases hj : j < 12
    · rw [tw_m5 g hj] at hq
      cases hq
      show upd (fun _ => 0) 9 2147483647 j = upd (upd (fun _ => 0) 9 2147483647) 21 2147483647 (12 * tw_b g + j)
      by_cases h9 : j = 9
      · subst h9
        rw [pk_us]
        cases g
        · rw [show 12 * tw_b false + 9 = 9 from rfl, pk_un (by decide), pk_us]
        · rw [show 12 * tw_b true + 9 = 21 from rfl, pk_us]
      · rw [pk_un h9]
        cases g
        · rw [show 12 * tw_b false + j = j from by show 12 * 0 + j = j; omega, pk_un (by omega), pk_un h9]
        · rw [show 12 * tw_b true + j = 12 + j from by show 12 * 1 + j = 12 + j; omega, pk_un (by omega), pk_un (by omega)]
    · rw [show tw_m g 5 j = none from if_neg (fun z => hj (by have := z.2; exact Nat.lt_of_lt_of_le this (by show 0 + 12 ≤ 12; omega)))] at hq; cases hq
  · by_cases h2 : j = 2
    · subst h2; rw [tw_msz] at hq; cases hq; rfl
    · rw [no 6 (by unfold tw_U; rw [if_neg h2]; rfl)] at hq; cases hq
  · rw [no 7 rfl] at hq; cases hq
  · rw [no 8 rfl] at hq; cases hq
  · rw [no 9 rfl] at hq; cases hq
  · by_cases hj : j < 16
    · rw [tw_m10 g hj] at hq
      cases hq
      have hb := tw_b_lt g
      show tw_m1n 16 (fun _ => 0) j = tw_m1n 32 (fun _ => 0) (16 * tw_b g + j)
      unfold tw_m1n
      rw [if_pos hj, if_pos (by omega)]
    · rw [show tw_m g 10 j = none from if_neg (fun z => hj (by have := z.2; exact Nat.lt_of_lt_of_le this (by show 0 + 16 ≤ 16; omega)))] at hq; cases hq
  · rw [no 11 rfl] at hq; cases hq
  · by_cases hj : j < 16
    · rw [tw_m12 g hj] at hq; cases hq; rfl
    · rw [show tw_m g 12 j = none from if_neg (fun z => hj (by have := z.2; exact Nat.lt_of_lt_of_le this (by show 0 + 16 ≤ 16; omega)))] at hq; cases hq
  · by_cases hj : j < 16
    · rw [tw_m13 g hj] at hq; cases hq; rfl
    · rw [show tw_m g 13 j = none from if_neg (fun z => hj (by have := z.2; exact Nat.lt_of_lt_of_le this (by show 0 + 16 ≤ 16; omega)))] at hq; cases hq
theorem tw_Inv_0 (v : Int32) : tw_Inv (tw_s0 v) (tw_s0 v) := by
  refine ⟨tw_qu v, 0, 0, ⟨tw_R1_0 v, fun g => ⟨Or.inl rfl, ⟨0, by omega, rfl, fun j hj => by omega⟩, fun u hu => ⟨by show (0 : Int32) = 0 &&& 30; decide, by show (0 : Int32) = if (0 : Int32) &&& 64 = 0 then 0 else 1; decide, by show (0 : Int32) &&& 94 = 0; decide⟩, by show (0 : Int32) = 0 + 0; decide⟩, ⟨rfl, rfl, rfl, rfl, rfl, rfl⟩⟩, Or.inl rfl, fun g u hu => Or.inl ?_⟩
  show tw_m1n 16 (fun _ => 0) u = -1
  exact if_pos hu
theorem tw_rng3 {p : Nat → Bool} (h : (List.range 3).all p = true) (i : Nat) (hi : i < 3) : p i = true := List.all_eq_true.mp h i (List.mem_range.mpr hi)
theorem tw_enA {args : Array Value} {s : State} {A : Nat → Prop} (hts : ∀ w ∈ lw_tbl, w.before args s = true) (hgv : (Jvm.Cond.and given_1 narrow_1).before args s = true) (hA : ∀ a : Nat, a < s.heap.size → ¬ A a) : ∃ ad : Nat → Nat, va_En "TwinHost$Access" "LTwinHost$Access;" ["FETCH", "LOAD", "STORE"] [("TwinHost$Access", "need", "I", [8, 2, 4]), ("TwinHost$Access", "outside", "I", [1, 5, 7]), ("TwinHost$Access", "pageFault", "I", [12, 13, 15])] ad A s s.heap := by
  have hs := flat_of_before _ hgv
  have k1 : ((List.range 3).all (fun i => lw_tbl.contains (Cond.laysStatic "TwinHost$Access" ((["FETCH", "LOAD", "STORE"] : List String).getD i "") "LTwinHost$Access;"))) = true := by decide +kernel
  refine va_Enof (fun i hi => hts _ (List.contains_iff_mem.mp (tw_rng3 k1 i hi))) (hts _ (List.contains_iff_mem.mp (by decide +kernel))) (fun i hi => ?_) (fun q hq i hi => ?_) (fun i j hi hj hij => ?_) hA
  · have hi : i < 3 := hi
    have : i = 0 ∨ i = 1 ∨ i = 2 := by omega
    rcases this with rfl | rfl | rfl <;> exact hs _ (by decide +kernel)
  · have hi : i < 3 := hi
    have hi3 : i = 0 ∨ i = 1 ∨ i = 2 := by omega
    simp only [List.mem_cons, List.not_mem_nil, or_false] at hq
    rcases hq with rfl | rfl | rfl <;> rcases hi3 with rfl | rfl | rfl <;> exact hs _ (by decide +kernel)
  · have hi : i < 3 := hi
    have hj : j < 3 := hj
    have hi3 : i = 0 ∨ i = 1 ∨ i = 2 := by omega
    have hj3 : j = 0 ∨ j = 1 ∨ j = 2 := by omega
    rcases hi3 with rfl | rfl | rfl <;> rcases hj3 with rfl | rfl | rfl <;> first | exact absurd rfl hij | exact Or.inl (hs _ (by decide +kernel)) | exact Or.inr (hs _ (by decide +kernel))
theorem tw_enO {args : Array Value} {s : State} {A : Nat → Prop} (hts : ∀ w ∈ lw_tbl, w.before args s = true) (hgv : (Jvm.Cond.and given_1 narrow_1).before args s = true) (hA : ∀ a : Nat, a < s.heap.size → ¬ A a) : ∃ ad : Nat → Nat, va_En "TwinHost$Outcome" "LTwinHost$Outcome;" ["RETIRED", "TRAPPED", "STALLED"] [] ad A s s.heap := by
  have hs := flat_of_before _ hgv
  have k1 : ((List.range 3).all (fun i => lw_tbl.contains (Cond.laysStatic "TwinHost$Outcome" ((["RETIRED", "TRAPPED", "STALLED"] : List String).getD i "") "LTwinHost$Outcome;"))) = true := by decide +kernel
  refine va_Enof (fun i hi => hts _ (List.contains_iff_mem.mp (tw_rng3 k1 i hi))) (hts _ (List.contains_iff_mem.mp (by decide +kernel))) (fun i hi => ?_) (fun q hq i hi => ?_) (fun i j hi hj hij => ?_) hA
  · have hi : i < 3 := hi
    have : i = 0 ∨ i = 1 ∨ i = 2 := by omega
    rcases this with rfl | rfl | rfl <;> exact hs _ (by decide +kernel)
  · have hi : i < 3 := hi
    have hi3 : i = 0 ∨ i = 1 ∨ i = 2 := by omega
    simp only [List.mem_cons, List.not_mem_nil, or_false] at hq
    try exact absurd hq (by simp)
    try exact hq.elim
  · have hi : i < 3 := hi
    have hj : j < 3 := hj
    have hi3 : i = 0 ∨ i = 1 ∨ i = 2 := by omega
    have hj3 : j = 0 ∨ j = 1 ∨ j = 2 := by omega
    rcases hi3 with rfl | rfl | rfl <;> rcases hj3 with rfl | rfl | rfl <;> first | exact absurd rfl hij | exact Or.inl (hs _ (by decide +kernel)) | exact Or.inr (hs _ (by decide +kernel))
