/-! A reading of the bytecode as functions, proved sound once over the kit's rows. A value is an int, or a cell of the world by its name (guest, component); the state is the ints of all cells. An instruction is an Op: how the method ends from here, given how it ends from the next instruction and from each other one; none: not said. -/
abbrev tw_V : Type := Int32 ⊕ (Bool × Nat)
abbrev tw_S : Type := Bool → Nat → Nat → Int32
/-- locals by their number; none: nothing is said of it -/
abbrev tw_L : Type := List (Option tw_V)
/-- how a method ends: its answer and the state -/
abbrev tw_R : Type := Option tw_V × tw_S
abbrev tw_K : Type := tw_L → List tw_V → tw_S → Option tw_R
abbrev tw_Op : Type := tw_K → (Nat → tw_K) → tw_K
abbrev tw_Fn : Type := List tw_V → tw_S → Option tw_R
/-- where things lie: the world's cells by place, the classes of its arrays, the constants of Access, of Outcome, the script -/
abbrev tw_E : Type := (Nat → Nat) × (Nat → ClassId) × (Nat → Nat) × (Nat → Nat) × Nat
def tw_ix (g : Bool) (c : Nat) : Nat := if c < 15 then (if g = true then 15 + c else c) else c + 10
def tw_adr (E : tw_E) (g : Bool) (c : Nat) : Nat := if c < 50 then E.1 (tw_ix g c) else if c < 60 then E.2.2.1 (c - 50) else if c < 70 then E.2.2.2.1 (c - 60) else E.2.2.2.2
def tw_c (E : tw_E) (v : tw_V) : Value := match v with
  | .inl x => .int x
  | .inr q => .ref (tw_adr E q.1 q.2)
theorem tw_cat (E : tw_E) (v : tw_V) : (tw_c E v).category = 1 := by
  rcases v with x | q <;> rfl
/-- objects: class and fields (none: an int; some c: the component c of the same guest); arrays: kind (0 int, 1 boolean, 2 the guests) and length -/
def tw_lay (c : Nat) : (Nat × List (Option Nat)) ⊕ (Nat × Nat) := match c with
  | 0 => .inl (1, [some 1, some 2, some 3, some 4, some 9, some 14, none, none])
  | 1 => .inr (0, 128)
  | 2 => .inr (0, 8)
  | 3 => .inr (0, 9)
  | 4 => .inl (2, [some 5, some 6])
  | 5 => .inr (0, 12)
  | 6 => .inl (3, [some 7, some 8, none])
  | 7 => .inr (0, 6)
  | 8 => .inr (0, 6)
  | 9 => .inl (4, [some 10, some 11, some 12, some 13])
  | 10 => .inr (0, 16)
  | 11 => .inr (0, 16)
  | 12 => .inr (0, 16)
  | 13 => .inr (0, 16)
  | 14 => .inl (5, [none, none, none, none])
  | 20 => .inl (0, [some 21, none, none, none])
  | 21 => .inr (2, 2)
  | 22 => .inl (6, [none, none, none, some 23, some 24, some 25, some 26, some 27, some 28, some 29, some 30, some 31, some 32, some 33, some 34, some 35, some 36, none, none, none])
  | 23 => .inr (0, 256)
  | 24 => .inr (0, 16)
  | 25 => .inr (0, 24)
  | 26 => .inr (0, 2)
  | 27 => .inr (1, 2)
  | 28 => .inr (0, 2)
  | 29 => .inr (0, 12)
  | 30 => .inr (0, 12)
  | 31 => .inr (0, 18)
  | 32 => .inr (0, 32)
  | 33 => .inr (0, 32)
  | 34 => .inr (1, 32)
  | 35 => .inr (0, 32)
  | 36 => .inr (0, 32)
  | _ => .inr (3, 0)
def tw_fv (E : tw_E) (g : Bool) (f : Nat → Int32) (j : Nat) (o : Option Nat) : Value := match o with
  | none => .int (f j)
  | some c2 => .ref (tw_adr E g c2)
/-- the fields' values, from the j-th on -/
def tw_fvs (E : tw_E) (g : Bool) (f : Nat → Int32) : Nat → List (Option Nat) → List Value
  | _, [] => []
  | j, o :: r => tw_fv E g f j o :: tw_fvs E g f (j + 1) r
theorem tw_fvs_len (E : tw_E) (g : Bool) (f : Nat → Int32) : ∀ (l : List (Option Nat)) (j : Nat), (tw_fvs E g f j l).length = l.length
  | [], _ => rfl
  | _ :: r, j => by show (tw_fvs E g f (j + 1) r).length + 1 = r.length + 1; rw [tw_fvs_len E g f r (j + 1)]
theorem tw_fvs_at (E : tw_E) (g : Bool) (f : Nat → Int32) : ∀ (l : List (Option Nat)) (j k : Nat) (o : Option Nat), l[k]? = some o → (tw_fvs E g f j l)[k]? = some (tw_fv E g f (j + k) o)
  | [], _, k, o, h => by simp at h
  | a :: r, j, 0, o, h => by
    have h' : a = o := by simpa using h
    subst h'
    rfl
  | a :: r, j, k + 1, o, h => by
    have h' : r[k]? = some o := by simpa using h
    have := tw_fvs_at E g f r (j + 1) k o h'
    show (tw_fvs E g f (j + 1) r)[k]? = _
    rw [this]
    congr 2
    omega
theorem tw_fvs_up (E : tw_E) (g : Bool) (f : Nat → Int32) (x : Int32) : ∀ (l : List (Option Nat)) (j k : Nat), l[k]? = some none → (tw_fvs E g f j l).set k (.int x) = tw_fvs E g (upd f (j + k) x) j l := by
  have aux : ∀ (l : List (Option Nat)) (j n : Nat), n < j → tw_fvs E g (upd f n x) j l = tw_fvs E g f j l := by
    intro l
    induction l with
    | nil => intro j n _; rfl
    | cons o r ih =>
      intro j n h
      show tw_fv E g (upd f n x) j o :: tw_fvs E g (upd f n x) (j + 1) r = tw_fv E g f j o :: tw_fvs E g f (j + 1) r
      rw [ih (j + 1) n (by omega)]
      congr 1
      cases o with
      | none => show Value.int (upd f n x j) = .int (f j); rw [show upd f n x j = f j from pk_un (by omega)]
      | some c2 => rfl
  intro l
  induction l with
  | nil => intro j k h; simp at h
  | cons o r ih =>
    intro j k h
    cases k with
    | zero =>
      have h' : o = none := by simpa using h
      subst h'
      show Value.int x :: tw_fvs E g f (j + 1) r = Value.int (upd f (j + 0) x j) :: tw_fvs E g (upd f (j + 0) x) (j + 1) r
      rw [aux r (j + 1) (j + 0) (by omega), show upd f (j + 0) x j = x from pk_us]
    | succ k =>
      have h' : r[k]? = some none := by simpa using h
      have := ih (j + 1) k h'
      show tw_fv E g f j o :: (tw_fvs E g f (j + 1) r).set k (.int x) = tw_fv E g (upd f (j + (k + 1)) x) j o :: tw_fvs E g (upd f (j + (k + 1)) x) (j + 1) r
      rw [this, show j + 1 + k = j + (k + 1) by omega]
      congr 1
      cases o with
      | none => show Value.int (f j) = .int (upd f (j + (k + 1)) x j); rw [show upd f (j + (k + 1)) x j = f j from pk_un (by omega)]
      | some c2 => rfl
def tw_cell (E : tw_E) (g : Bool) (c : Nat) (f : Nat → Int32) : va_E := match tw_lay c with
  | .inl o => .inr (o.1, tw_fvs E g f 0 o.2)
  | .inr (2, n) => .inl (E.2.1 (tw_ix g c), n, .inr (.inr (.inr (.inr (fun j => some (tw_adr E (j == 1) 0))))))
  | .inr (_, n) => .inl (E.2.1 (tw_ix g c), n, .inl f)
def tw_nm : List (Bool × Nat) := (List.range 15).map (fun c => (false, c)) ++ ((List.range 15).map (fun c => (true, c)) ++ (List.range 17).map (fun c => (false, 20 + c)))
def tw_ws (E : tw_E) (σ : tw_S) : va_W := tw_nm.map (fun q => (tw_adr E q.1 q.2, tw_cell E q.1 q.2 (σ q.1 q.2)))
def tw_tyOf (c : Nat) : FieldType := if c = 27 then .boolean else if c = 34 then .boolean else if c = 21 then .object "TwinHost$Guest" else .int
def tw_tys (E : tw_E) : List (ClassId × FieldType) := tw_nm.map (fun q => (E.2.1 (tw_ix q.1 q.2), tw_tyOf q.2))
/-- is (g, c) a cell of the world? -/
def tw_okb (g : Bool) (c : Nat) : Bool := Nat.blt c 15 || (Nat.ble 20 c && (Nat.blt c 37 && !g))
theorem tw_ok_all : ((List.range 60).all (fun c => [false, true].all (fun g => !tw_okb g c || tw_nm[tw_ix g c]? == some (g, c)))) = true := by decide +kernel
theorem tw_okb_lt {g : Bool} {c : Nat} (h : tw_okb g c = true) : c < 37 := by
  simp [tw_okb] at h
  rcases h with h | ⟨-, h, -⟩
  · omega
  · exact h
theorem tw_ok {g : Bool} {c : Nat} (h : tw_okb g c = true) : tw_nm[tw_ix g c]? = some (g, c) := by
  have h1 := List.all_eq_true.mp tw_ok_all c (List.mem_range.mpr (Nat.lt_trans (tw_okb_lt h) (by decide)))
  have h2 := List.all_eq_true.mp h1 g (by cases g <;> simp)
  rw [h] at h2
  simpa using h2
theorem tw_nm_ix : ((List.range 47).all (fun i => match tw_nm[i]? with | some q => (tw_ix q.1 q.2 == i && Nat.blt q.2 50) | none => false)) = true := by decide +kernel
theorem tw_nm_len : tw_nm.length = 47 := by decide +kernel
theorem tw_nm_at {i : Nat} {q : Bool × Nat} (h : tw_nm[i]? = some q) : i < 47 ∧ tw_ix q.1 q.2 = i ∧ q.2 < 50 := by
  have hi : i < 47 := by rw [← tw_nm_len]; exact (List.getElem?_eq_some_iff.mp h).1
  have h1 := List.all_eq_true.mp tw_nm_ix i (List.mem_range.mpr hi)
  rw [h] at h1
  simp only [Bool.and_eq_true, beq_iff_eq] at h1
  exact ⟨hi, h1.1, Nat.blt_eq.mp h1.2⟩
theorem tw_ws_at (E : tw_E) (σ : tw_S) {g : Bool} {c : Nat} (h : tw_okb g c = true) : (tw_ws E σ)[tw_ix g c]? = some (tw_adr E g c, tw_cell E g c (σ g c)) := by
  unfold tw_ws
  rw [List.getElem?_map, tw_ok h]
  rfl
theorem tw_tys_at (E : tw_E) {g : Bool} {c : Nat} (h : tw_okb g c = true) : (tw_tys E)[tw_ix g c]? = some (E.2.1 (tw_ix g c), tw_tyOf c) := by
  unfold tw_tys
  rw [List.getElem?_map, tw_ok h]
  rfl
def tw_up (σ : tw_S) (g : Bool) (c : Nat) (f : Nat → Int32) : tw_S := fun g' c' => if g' = g ∧ c' = c then f else σ g' c'
theorem tw_ws_set (E : tw_E) (σ : tw_S) {g : Bool} {c : Nat} (f : Nat → Int32) (h : tw_okb g c = true) : (tw_ws E σ).set (tw_ix g c) (tw_adr E g c, tw_cell E g c f) = tw_ws E (tw_up σ g c f) := by
  apply List.ext_getElem?
  intro i
  by_cases hi : tw_ix g c = i
  · subst hi
    rw [tw_ws_at E (tw_up σ g c f) h, List.getElem?_set_self (List.getElem?_eq_some_iff.mp (tw_ws_at E σ h)).1]
    simp [tw_up]
  · rw [List.getElem?_set_ne hi]
    unfold tw_ws
    rw [List.getElem?_map, List.getElem?_map]
    cases hq : tw_nm[i]? with
    | none => rfl
    | some q =>
      have hn : ¬ (q.1 = g ∧ q.2 = c) := fun z => hi (by rw [← z.1, ← z.2]; exact (tw_nm_at hq).2.1)
      show some (tw_adr E q.1 q.2, tw_cell E q.1 q.2 (σ q.1 q.2)) = some (tw_adr E q.1 q.2, tw_cell E q.1 q.2 (tw_up σ g c f q.1 q.2))
      rw [show tw_up σ g c f q.1 q.2 = σ q.1 q.2 from if_neg hn]
/-- the cells that a method may change -/
def tw_A (E : tw_E) : Nat → Prop := fun q => ∃ k, k < 47 ∧ q = E.1 k
def tw_inj (E : tw_E) : Prop := ∀ i j, i < 47 → j < 47 → E.1 i = E.1 j → i = j
theorem tw_ws_adr {E : tw_E} {σ : tw_S} {i : Nat} {w : Nat × va_E} (h : (tw_ws E σ)[i]? = some w) : i < 47 ∧ w.1 = E.1 i := by
  unfold tw_ws at h
  rw [List.getElem?_map] at h
  cases hq : tw_nm[i]? with
  | none => rw [hq] at h; cases h
  | some q =>
    rw [hq] at h
    cases h
    obtain ⟨h1, h2, h3⟩ := tw_nm_at hq
    refine ⟨h1, ?_⟩
    show tw_adr E q.1 q.2 = _
    unfold tw_adr
    rw [if_pos h3, h2]
theorem tw_D {E : tw_E} (h : tw_inj E) (σ : tw_S) : va_D (tw_A E) (tw_ws E σ) := by
  refine ⟨fun i j u v hu hv e => ?_, fun k q hk => ⟨k, (tw_ws_adr hk).1, (tw_ws_adr hk).2⟩⟩
  have a := tw_ws_adr hu
  have b := tw_ws_adr hv
  exact h i j a.1 b.1 (by rw [← a.2, ← b.2]; exact e)
/-- the constants of the two enums -/
def tw_EN (E : tw_E) (U : State) (H : Heap) : Prop :=
  va_En "TwinHost$Access" "LTwinHost$Access;" ["FETCH", "LOAD", "STORE"] [("TwinHost$Access", "need", "I", [8, 2, 4]), ("TwinHost$Access", "outside", "I", [1, 5, 7]), ("TwinHost$Access", "pageFault", "I", [12, 13, 15])] E.2.2.1 (tw_A E) U H ∧
  va_En "TwinHost$Outcome" "LTwinHost$Outcome;" ["RETIRED", "TRAPPED", "STALLED"] [] E.2.2.2.1 (tw_A E) U H
theorem tw_EN.moved {E : tw_E} {u U : State} {H : Heap} (hvm : u.vm.Alike U.vm) (h : tw_EN E u H) : tw_EN E U H := ⟨va_En.moved hvm h.1, va_En.moved hvm h.2⟩
theorem tw_EN.kept {E : tw_E} {U : State} {H H1 : Heap} (h : tw_EN E U H) (hq : ∀ a : Nat, a < H.size → ¬ tw_A E a → H1[a]? = H[a]?) : tw_EN E U H1 := ⟨h.1.kept hq, h.2.kept hq⟩
-- locals
def tw_get : tw_L → Nat → Option tw_V
  | [], _ => none
  | v :: _, 0 => v
  | _ :: r, k + 1 => tw_get r k
def tw_set : tw_L → Nat → tw_V → tw_L
  | [], _, _ => []
  | _ :: r, 0, x => some x :: r
  | v :: r, k + 1, x => v :: tw_set r k x
def tw_lvf (E : tw_E) : Nat → tw_L → List (Nat × Value)
  | _, [] => []
  | k, none :: r => tw_lvf E (k + 1) r
  | k, some v :: r => (k, tw_c E v) :: tw_lvf E (k + 1) r
def tw_lv (E : tw_E) (lv : tw_L) : List (Nat × Value) := tw_lvf E 0 lv
theorem tw_get_mem (E : tw_E) : ∀ (lv : tw_L) (n i : Nat) (v : tw_V), tw_get lv i = some v → (n + i, tw_c E v) ∈ tw_lvf E n lv
  | [], _, _, _, h => by cases h
  | a :: r, n, 0, v, h => by
    have h1 : a = some v := h
    subst h1
    exact List.mem_cons_self
  | a :: r, n, k + 1, v, h => by
    have h1 := tw_get_mem E r (n + 1) k v h
    rw [show n + 1 + k = n + (k + 1) by omega] at h1
    cases a with
    | none => exact h1
    | some u => exact List.mem_cons_of_mem _ h1
theorem tw_lvf_ge (E : tw_E) : ∀ (lv : tw_L) (n : Nat) (q : Nat × Value), q ∈ tw_lvf E n lv → n ≤ q.1 ∧ q.2.category = 1
  | [], _, _, h => by cases h
  | none :: r, n, q, h => by
    have := tw_lvf_ge E r (n + 1) q h
    exact ⟨by omega, this.2⟩
  | some u :: r, n, q, h => by
    rcases List.mem_cons.mp h with h | h
    · subst h
      exact ⟨Nat.le_refl _, tw_cat E u⟩
    · have := tw_lvf_ge E r (n + 1) q h
      exact ⟨by omega, this.2⟩
theorem tw_set_mem (E : tw_E) (x : tw_V) : ∀ (lv : tw_L) (n k : Nat) (q : Nat × Value), q ∈ tw_lvf E n (tw_set lv k x) → q = (n + k, tw_c E x) ∨ (q ∈ tw_lvf E n lv ∧ ¬ q.1 = n + k)
  | [], _, _, _, h => by cases h
  | a :: r, n, 0, q, h => by
    have h0 : q ∈ (n, tw_c E x) :: tw_lvf E (n + 1) r := h
    rcases List.mem_cons.mp h0 with h1 | h1
    · exact Or.inl h1
    · have h2 := tw_lvf_ge E r (n + 1) q h1
      refine Or.inr ⟨?_, by omega⟩
      cases a with
      | none => exact h1
      | some u => exact List.mem_cons_of_mem _ h1
  | none :: r, n, k + 1, q, h => by
    rcases tw_set_mem E x r (n + 1) k q h with h | h
    · exact Or.inl (by rw [h]; congr 1; omega)
    · exact Or.inr ⟨h.1, by have := h.2; omega⟩
  | some u :: r, n, k + 1, q, h => by
    have h : q ∈ (n, tw_c E u) :: tw_lvf E (n + 1) (tw_set r k x) := h
    rcases List.mem_cons.mp h with h | h
    · subst h
      exact Or.inr ⟨List.mem_cons_self, by show ¬ n = n + (k + 1); omega⟩
    · rcases tw_set_mem E x r (n + 1) k q h with h | h
      · exact Or.inl (by rw [h]; congr 1; omega)
      · exact Or.inr ⟨List.mem_cons_of_mem _ h.1, by have := h.2; omega⟩
theorem tw_has {ls : Array Slot} {nL : Nat} {E : tw_E} {lv : tw_L} {k : Nat} {v : tw_V} (h : lv_has ls nL (tw_lv E lv)) (hg : tw_get lv k = some v) : ls[k]? = some (.val (tw_c E v)) := by
  have h1 := tw_get_mem E lv 0 k v hg
  rw [Nat.zero_add] at h1
  exact h.2.2 (k, tw_c E v) h1
/-- behind a store into local k -/
theorem tw_stored {ls : Array Slot} {nL : Nat} {E : tw_E} {lv : tw_L} {k : Nat} {v : tw_V} (h : lv_has ls nL ((k, tw_c E v) :: (tw_lv E lv).filter (fun q => !(q.1 == k) && !(q.1 + 1 == k && q.2.category == 2)))) : lv_has ls nL (tw_lv E (tw_set lv k v)) := by
  refine ⟨h.1, h.2.1, fun q hq => h.2.2 q ?_⟩
  rcases tw_set_mem E v lv 0 k q hq with hq | ⟨h1, h2⟩
  · rw [Nat.zero_add] at hq
    subst hq
    exact List.mem_cons_self
  · rw [Nat.zero_add] at h2
    refine List.mem_cons_of_mem _ (List.mem_filter.mpr ⟨h1, ?_⟩)
    simp [h2, (tw_lvf_ge E lv 0 q h1).2]
/-- behind a point that is set -/
def tw_pt (σ : tw_S) (g : Bool) (c j : Nat) (x : Int32) : tw_S := fun g' c' j' => if c' = c ∧ j' = j ∧ g' = g then x else σ g' c' j'
theorem tw_up_pt (σ : tw_S) (g : Bool) (c j : Nat) (x : Int32) : tw_up σ g c (upd (σ g c) j x) = tw_pt σ g c j x := by
  funext g' c' j'
  show (if g' = g ∧ c' = c then upd (σ g c) j x else σ g' c') j' = (if c' = c ∧ j' = j ∧ g' = g then x else σ g' c' j')
  by_cases h1 : g' = g ∧ c' = c
  · rw [if_pos h1]
    by_cases h2 : j' = j
    · rw [if_pos (⟨h1.2, h2, h1.1⟩ : c' = c ∧ j' = j ∧ g' = g)]
      exact if_pos h2
    · rw [if_neg (fun z : c' = c ∧ j' = j ∧ g' = g => h2 z.2.1), h1.1, h1.2]
      exact if_neg h2
  · rw [if_neg h1, if_neg (fun z : c' = c ∧ j' = j ∧ g' = g => h1 ⟨z.2.2, z.1⟩)]
/-- an index that is out of bounds -/
abbrev tw_out (i : Int32) (n : Nat) : Prop := i < 0 ∨ n ≤ i.toNatClampNeg
-- the instructions
def tw_ic (v : Int32) : tw_Op := fun next _ lv st σ => next lv (.inl v :: st) σ
def tw_il (k : Nat) : tw_Op := fun next _ lv st σ => match tw_get lv k with
  | some (.inl x) => next lv (.inl x :: st) σ
  | _ => none
def tw_al (k : Nat) : tw_Op := fun next _ lv st σ => match tw_get lv k with
  | some (.inr q) => next lv (.inr q :: st) σ
  | _ => none
def tw_is (k : Nat) : tw_Op := fun next _ lv st σ => match st with
  | .inl x :: st => next (tw_set lv k (.inl x)) st σ
  | _ => none
def tw_as (k : Nat) : tw_Op := fun next _ lv st σ => match st with
  | .inr q :: st => next (tw_set lv k (.inr q)) st σ
  | _ => none
def tw_inc (k : Nat) (n : Int32) : tw_Op := fun next _ lv st σ => match tw_get lv k with
  | some (.inl x) => next (tw_set lv k (.inl (x + n))) st σ
  | _ => none
def tw_bin (f : Int32 → Int32 → Int32) : tw_Op := fun next _ lv st σ => match st with
  | .inl y :: .inl x :: st => next lv (.inl (f x y) :: st) σ
  | _ => none
def tw_div : tw_Op := fun next _ lv st σ => match st with
  | .inl y :: .inl x :: st => if y = 0 then none else next lv (.inl (x / y) :: st) σ
  | _ => none
def tw_rem : tw_Op := fun next _ lv st σ => match st with
  | .inl y :: .inl x :: st => if y = 0 then none else next lv (.inl (x - x / y * y) :: st) σ
  | _ => none
def tw_neg : tw_Op := fun next _ lv st σ => match st with
  | .inl x :: st => next lv (.inl (-x) :: st) σ
  | _ => none
def tw_dup : tw_Op := fun next _ lv st σ => match st with
  | v :: st => next lv (v :: v :: st) σ
  | _ => none
def tw_pop : tw_Op := fun next _ lv st σ => match st with
  | _ :: st => next lv st σ
  | _ => none
def tw_dx1 : tw_Op := fun next _ lv st σ => match st with
  | a :: b :: st => next lv (a :: b :: a :: st) σ
  | _ => none
def tw_d2 : tw_Op := fun next _ lv st σ => match st with
  | a :: b :: st => next lv (a :: b :: a :: b :: st) σ
  | _ => none
def tw_jmp (t : Nat) : tw_Op := fun _ jump lv st σ => jump t lv st σ
def tw_ifeq (t : Nat) : tw_Op := fun next jump lv st σ => match st with
  | .inl x :: st => if x = 0 then jump t lv st σ else next lv st σ
  | _ => none
def tw_ifne (t : Nat) : tw_Op := fun next jump lv st σ => match st with
  | .inl x :: st => if x = 0 then next lv st σ else jump t lv st σ
  | _ => none
def tw_iflt (t : Nat) : tw_Op := fun next jump lv st σ => match st with
  | .inl x :: st => if x < 0 then jump t lv st σ else next lv st σ
  | _ => none
def tw_ifge (t : Nat) : tw_Op := fun next jump lv st σ => match st with
  | .inl x :: st => if 0 ≤ x then jump t lv st σ else next lv st σ
  | _ => none
def tw_ifgt (t : Nat) : tw_Op := fun next jump lv st σ => match st with
  | .inl x :: st => if 0 < x then jump t lv st σ else next lv st σ
  | _ => none
def tw_ifle (t : Nat) : tw_Op := fun next jump lv st σ => match st with
  | .inl x :: st => if x ≤ 0 then jump t lv st σ else next lv st σ
  | _ => none
def tw_ceq (t : Nat) : tw_Op := fun next jump lv st σ => match st with
  | .inl y :: .inl x :: st => if x = y then jump t lv st σ else next lv st σ
  | _ => none
def tw_cne (t : Nat) : tw_Op := fun next jump lv st σ => match st with
  | .inl y :: .inl x :: st => if x = y then next lv st σ else jump t lv st σ
  | _ => none
def tw_clt (t : Nat) : tw_Op := fun next jump lv st σ => match st with
  | .inl y :: .inl x :: st => if x < y then jump t lv st σ else next lv st σ
  | _ => none
def tw_cge (t : Nat) : tw_Op := fun next jump lv st σ => match st with
  | .inl y :: .inl x :: st => if y ≤ x then jump t lv st σ else next lv st σ
  | _ => none
def tw_cgt (t : Nat) : tw_Op := fun next jump lv st σ => match st with
  | .inl y :: .inl x :: st => if y < x then jump t lv st σ else next lv st σ
  | _ => none
def tw_cle (t : Nat) : tw_Op := fun next jump lv st σ => match st with
  | .inl y :: .inl x :: st => if x ≤ y then jump t lv st σ else next lv st σ
  | _ => none
/-- both are constants of one enum -/
def tw_enb (a b : Nat) : Bool := (Nat.ble 50 a && Nat.blt a 53 && (Nat.ble 50 b && Nat.blt b 53)) || (Nat.ble 60 a && Nat.blt a 63 && (Nat.ble 60 b && Nat.blt b 63))
def tw_aeq (t : Nat) : tw_Op := fun next jump lv st σ => match st with
  | .inr b :: .inr a :: st => match tw_enb a.2 b.2 with
    | true => match Nat.beq a.2 b.2 with
      | true => jump t lv st σ
      | false => next lv st σ
    | false => none
  | _ => none
def tw_ane (t : Nat) : tw_Op := fun next jump lv st σ => match st with
  | .inr b :: .inr a :: st => match tw_enb a.2 b.2 with
    | true => match Nat.beq a.2 b.2 with
      | true => next lv st σ
      | false => jump t lv st σ
    | false => none
  | _ => none
def tw_swr (jump : Nat → tw_K) (d : Nat) (x : Int32) (lv : tw_L) (st : List tw_V) (σ : tw_S) : List (Int32 × Nat) → Option tw_R
  | [] => jump d lv st σ
  | q :: r => if x = q.1 then jump q.2 lv st σ else tw_swr jump d x lv st σ r
def tw_sw (cs : List (Int32 × Nat)) (d : Nat) : tw_Op := fun _ jump lv st σ => match st with
  | .inl x :: st => tw_swr jump d x lv st σ cs
  | _ => none
def tw_gi (c j : Nat) : tw_Op := fun next _ lv st σ => match st with
  | .inr q :: st => match Nat.beq q.2 c && tw_okb q.1 c with
    | true => next lv (.inl (σ q.1 c j) :: st) σ
    | false => none
  | _ => none
def tw_gr (c c2 : Nat) : tw_Op := fun next _ lv st σ => match st with
  | .inr q :: st => match Nat.beq q.2 c && tw_okb q.1 c with
    | true => next lv (.inr (q.1, c2) :: st) σ
    | false => none
  | _ => none
def tw_pi (c j : Nat) : tw_Op := fun next _ lv st σ => match st with
  | .inl x :: .inr q :: st => match Nat.beq q.2 c && tw_okb q.1 c with
    | true => next lv st (tw_pt σ q.1 c j x)
    | false => none
  | _ => none
def tw_pz (c j : Nat) : tw_Op := fun next _ lv st σ => match st with
  | .inl x :: .inr q :: st => match Nat.beq q.2 c && tw_okb q.1 c with
    | true => if x = 0 ∨ x = 1 then next lv st (tw_pt σ q.1 c j x) else none
    | false => none
  | _ => none
def tw_ia : tw_Op := fun next _ lv st σ => match st with
  | .inl i :: .inr q :: st => match tw_lay q.2, tw_okb q.1 q.2 with
    | .inr (0, n), true => if tw_out i n then none else next lv (.inl (σ q.1 q.2 i.toNatClampNeg) :: st) σ
    | _, _ => none
  | _ => none
def tw_za : tw_Op := fun next _ lv st σ => match st with
  | .inl i :: .inr q :: st => match tw_lay q.2, tw_okb q.1 q.2 with
    | .inr (1, n), true => if tw_out i n then none else next lv (.inl (σ q.1 q.2 i.toNatClampNeg) :: st) σ
    | _, _ => none
  | _ => none
def tw_ga : tw_Op := fun next _ lv st σ => match st with
  | .inl i :: .inr q :: st => match Nat.beq q.2 21 && !q.1 with
    | true => if tw_out i 2 then none else next lv (.inr (i.toNatClampNeg == 1, 0) :: st) σ
    | false => none
  | _ => none
def tw_ias (a b : Nat) : tw_Op := fun next _ lv st σ => match st with
  | .inl x :: .inl i :: .inr q :: st => match tw_lay q.2, tw_okb q.1 q.2 && (Nat.ble a q.2 && Nat.blt q.2 b) with
    | .inr (0, n), true => if tw_out i n then none else next lv st (tw_pt σ q.1 q.2 i.toNatClampNeg x)
    | _, _ => none
  | _ => none
def tw_zas (a b : Nat) : tw_Op := fun next _ lv st σ => match st with
  | .inl x :: .inl i :: .inr q :: st => match tw_lay q.2, tw_okb q.1 q.2 && (Nat.ble a q.2 && Nat.blt q.2 b) with
    | .inr (1, n), true => if tw_out i n then none else if x = 0 ∨ x = 1 then next lv st (tw_pt σ q.1 q.2 i.toNatClampNeg x) else none
    | _, _ => none
  | _ => none
/-- a constant of an enum -/
def tw_en (c : Nat) : tw_Op := fun next _ lv st σ => next lv (.inr (false, c) :: st) σ
/-- the fields of Access: need, outside, pageFault -/
def tw_acc (j i : Nat) : Int32 := match j, i with
  | 0, 0 => 8 | 0, 1 => 2 | 0, 2 => 4
  | 1, 0 => 1 | 1, 1 => 5 | 1, 2 => 7
  | 2, 0 => 12 | 2, 1 => 13 | 2, 2 => 15
  | _, _ => 0
def tw_ge (j : Nat) : tw_Op := fun next _ lv st σ => match st with
  | .inr q :: st => match Nat.ble 50 q.2 && Nat.blt q.2 53 with
    | true => next lv (.inl (tw_acc j (q.2 - 50)) :: st) σ
    | false => none
  | _ => none
/-- the law's script: f and its length -/
def tw_sl (f : Nat → Int32) (n : Nat) : tw_Op := fun next _ lv st σ => match st with
  | .inl i :: .inr q :: st => match Nat.beq q.2 70 with
    | true => if tw_out i n then none else next lv (.inl (f i.toNatClampNeg) :: st) σ
    | false => none
  | _ => none
def tw_sn (n : Nat) : tw_Op := fun next _ lv st σ => match st with
  | .inr q :: st => match Nat.beq q.2 70 with
    | true => next lv (.inl (nI n) :: st) σ
    | false => none
  | _ => none
def tw_r0 : tw_Op := fun _ _ _ st σ => match st with
  | [] => some (none, σ)
  | _ => none
def tw_ri : tw_Op := fun _ _ _ st σ => match st with
  | [.inl v] => some (some (.inl v), σ)
  | _ => none
def tw_rz : tw_Op := fun _ _ _ st σ => match st with
  | [.inl v] => if v = 0 ∨ v = 1 then some (some (.inl v), σ) else none
  | _ => none
def tw_ra : tw_Op := fun _ _ _ st σ => match st with
  | [.inr q] => some (some (.inr q), σ)
  | _ => none
/-- behind a call -/
def tw_beh (next : tw_K) (lv : tw_L) (rest : List tw_V) : Option tw_R → Option tw_R
  | none => none
  | some ρ => next lv (ρ.1.toList ++ rest) ρ.2
/-- a call of a static method with n arguments -/
def tw_cs (n : Nat) (f : tw_Fn) : tw_Op := fun next _ lv st σ => match Nat.ble n st.length && Nat.ble (st.drop n).length 8 with
  | true => tw_beh next lv (st.drop n) (f (st.take n).reverse σ)
  | false => none
/-- a call of a method of component c with n arguments beside the receiver -/
def tw_cv (n c : Nat) (f : tw_Fn) : tw_Op := fun next _ lv st σ => match st.drop n with
  | .inr q :: rest => match Nat.ble rest.length 8 && (Nat.beq q.2 c && tw_okb q.1 c) with
    | true => tw_beh next lv rest (f (.inr q :: (st.take n).reverse) σ)
    | false => none
  | _ => none
-- a method
def tw_seek (t : Nat) : List (Nat × tw_Op) → List (Nat × tw_Op)
  | [] => []
  | q :: r => match Nat.beq q.1 t with
    | true => q :: r
    | false => tw_seek t r
def tw_run (full : List (Nat × tw_Op)) : Nat → List (Nat × tw_Op) → tw_K
  | 0, _ => fun _ _ _ => none
  | _ + 1, [] => fun _ _ _ => none
  | n + 1, q :: r => q.2 (tw_run full n r) (fun t => tw_run full n (tw_seek t full))
/-- the arguments as locals -/
def tw_args (nL : Nat) (vs : List tw_V) : tw_L := vs.map some ++ List.replicate (nL - vs.length) none
/-- a method of n arguments, with so many locals, with so much fuel -/
def tw_fn (n nL fuel : Nat) (pr : List (Nat × tw_Op)) : tw_Fn := fun vs σ => match Nat.beq vs.length n with
  | true => tw_run pr fuel pr (tw_args nL vs) [] σ
  | false => none
/-- a function that isn't opened by computing: a method that is called is known by its row alone -/
noncomputable def tw_lk (f : tw_Fn) : tw_Fn := Classical.choose (⟨f, rfl⟩ : ∃ h : tw_Fn, h = f)
theorem tw_lk_eq (f : tw_Fn) : tw_lk f = f := Classical.choose_spec (⟨f, rfl⟩ : ∃ h : tw_Fn, h = f)
noncomputable def tw_fl (n nL fuel : Nat) (pr : List (Nat × tw_Op)) : tw_Fn := tw_lk (tw_fn n nL fuel pr)
theorem tw_fl_get {n nL fuel : Nat} {pr : List (Nat × tw_Op)} {vs : List tw_V} {σ : tw_S} {ρ : tw_R} (h : tw_fl n nL fuel pr vs σ = some ρ) : tw_run pr fuel pr (tw_args nL vs) [] σ = some ρ := by
  unfold tw_fl at h
  rw [tw_lk_eq] at h
  unfold tw_fn at h
  cases hb : Nat.beq vs.length n with
  | true => rw [hb] at h; exact h
  | false => rw [hb] at h; cases h
theorem tw_fl_len {n nL fuel k : Nat} {pr : List (Nat × tw_Op)} (hk : n ≤ k) (vs : List tw_V) (σ : tw_S) (ρ : tw_R) (h : tw_fl n nL fuel pr vs σ = some ρ) : vs.length ≤ k := by
  unfold tw_fl at h
  rw [tw_lk_eq] at h
  unfold tw_fn at h
  cases hb : Nat.beq vs.length n with
  | true => rw [Nat.eq_of_beq_eq_true hb]; exact hk
  | false => rw [hb] at h; cases h
theorem tw_fl_run {n nL fuel : Nat} {pr : List (Nat × tw_Op)} {vs : List tw_V} {σ : tw_S} (hl : Nat.beq vs.length n = true) : tw_fl n nL fuel pr vs σ = tw_run pr fuel pr (tw_args nL vs) [] σ := by
  unfold tw_fl
  rw [tw_lk_eq]
  unfold tw_fn
  rw [hl]
theorem tw_no {α : Type} {x : α} {P : Prop} (h : (none : Option α) = some x) : P := by cases h
