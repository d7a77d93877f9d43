/-! What a method leaves alone: components with P. -/
def tw_KF (P : Nat → Bool) (k : tw_K) : Prop := ∀ lv st σ ρ, k lv st σ = some ρ → ∀ g c j, P c = true → ρ.2 g c j = σ g c j
def tw_OF (P : Nat → Bool) (o : tw_Op) : Prop := ∀ next jump, tw_KF P next → (∀ t, tw_KF P (jump t)) → tw_KF P (o next jump)
def tw_FF (P : Nat → Bool) (f : tw_Fn) : Prop := ∀ vs σ ρ, f vs σ = some ρ → ∀ g c j, P c = true → ρ.2 g c j = σ g c j
def tw_LF (P : Nat → Bool) : List (Nat × tw_Op) → Prop
  | [] => True
  | q :: r => tw_OF P q.2 ∧ tw_LF P r
theorem tw_LF_seek {P : Nat → Bool} {t : Nat} : ∀ {l : List (Nat × tw_Op)}, tw_LF P l → tw_LF P (tw_seek t l)
  | [], h => h
  | a :: r, h => by
    unfold tw_seek
    cases Nat.beq a.1 t with
    | true => exact h
    | false => exact tw_LF_seek (l := r) h.2
theorem tw_run_F {P : Nat → Bool} {full : List (Nat × tw_Op)} (hf : tw_LF P full) : ∀ (n : Nat) (l : List (Nat × tw_Op)), tw_LF P l → tw_KF P (tw_run full n l)
  | 0, _, _ => fun _ _ _ _ h => tw_no h
  | _ + 1, [], _ => fun _ _ _ _ h => tw_no h
  | n + 1, q :: r, hl => hl.1 _ _ (tw_run_F hf n r hl.2) (fun _ => tw_run_F hf n _ (tw_LF_seek hf))
theorem tw_fl_F {P : Nat → Bool} {n nL fuel : Nat} {pr : List (Nat × tw_Op)} (h : tw_LF P pr) : tw_FF P (tw_fl n nL fuel pr) := fun _ _ _ e => tw_run_F h fuel pr h _ _ _ _ (tw_fl_get e)
section TWF
variable {P : Nat → Bool}
theorem tf_ic (v : Int32) : tw_OF P (tw_ic v) := by
  intro next jump hn hj lv st σ ρ h
  unfold tw_ic at h
  repeat' split at h
  all_goals first | exact tw_no h | exact hn _ _ _ _ h | exact hj _ _ _ _ _ h
theorem tf_il (k : Nat) : tw_OF P (tw_il k) := by
  intro next jump hn hj lv st σ ρ h
  unfold tw_il at h
  repeat' split at h
  all_goals first | exact tw_no h | exact hn _ _ _ _ h | exact hj _ _ _ _ _ h
theorem tf_al (k : Nat) : tw_OF P (tw_al k) := by
  intro next jump hn hj lv st σ ρ h
  unfold tw_al at h
  repeat' split at h
  all_goals first | exact tw_no h | exact hn _ _ _ _ h | exact hj _ _ _ _ _ h
theorem tf_is (k : Nat) : tw_OF P (tw_is k) := by
  intro next jump hn hj lv st σ ρ h
  unfold tw_is at h
  repeat' split at h
  all_goals first | exact tw_no h | exact hn _ _ _ _ h | exact hj _ _ _ _ _ h
theorem tf_as (k : Nat) : tw_OF P (tw_as k) := by
  intro next jump hn hj lv st σ ρ h
  unfold tw_as at h
  repeat' split at h
  all_goals first | exact tw_no h | exact hn _ _ _ _ h | exact hj _ _ _ _ _ h
theorem tf_inc (k : Nat) (n : Int32) : tw_OF P (tw_inc k n) := by
  intro next jump hn hj lv st σ ρ h
  unfold tw_inc at h
  repeat' split at h
  all_goals first | exact tw_no h | exact hn _ _ _ _ h | exact hj _ _ _ _ _ h
theorem tf_bin (f : Int32 → Int32 → Int32) : tw_OF P (tw_bin f) := by
  intro next jump hn hj lv st σ ρ h
  unfold tw_bin at h
  repeat' split at h
  all_goals first | exact tw_no h | exact hn _ _ _ _ h | exact hj _ _ _ _ _ h
theorem tf_div : tw_OF P (tw_div) := by
  intro next jump hn hj lv st σ ρ h
  unfold tw_div at h
  repeat' split at h
  all_goals first | exact tw_no h | exact hn _ _ _ _ h | exact hj _ _ _ _ _ h
theorem tf_rem : tw_OF P (tw_rem) := by
  intro next jump hn hj lv st σ ρ h
  unfold tw_rem at h
  repeat' split at h
  all_goals first | exact tw_no h | exact hn _ _ _ _ h | exact hj _ _ _ _ _ h
theorem tf_neg : tw_OF P (tw_neg) := by
  intro next jump hn hj lv st σ ρ h
  unfold tw_neg at h
  repeat' split at h
  all_goals first | exact tw_no h | exact hn _ _ _ _ h | exact hj _ _ _ _ _ h
theorem tf_dup : tw_OF P (tw_dup) := by
  intro next jump hn hj lv st σ ρ h
  unfold tw_dup at h
  repeat' split at h
  all_goals first | exact tw_no h | exact hn _ _ _ _ h | exact hj _ _ _ _ _ h
theorem tf_pop : tw_OF P (tw_pop) := by
  intro next jump hn hj lv st σ ρ h
  unfold tw_pop at h
  repeat' split at h
  all_goals first | exact tw_no h | exact hn _ _ _ _ h | exact hj _ _ _ _ _ h
theorem tf_dx1 : tw_OF P (tw_dx1) := by
  intro next jump hn hj lv st σ ρ h
  unfold tw_dx1 at h
  repeat' split at h
  all_goals first | exact tw_no h | exact hn _ _ _ _ h | exact hj _ _ _ _ _ h
theorem tf_d2 : tw_OF P (tw_d2) := by
  intro next jump hn hj lv st σ ρ h
  unfold tw_d2 at h
  repeat' split at h
  all_goals first | exact tw_no h | exact hn _ _ _ _ h | exact hj _ _ _ _ _ h
theorem tf_ia : tw_OF P (tw_ia) := by
  intro next jump hn hj lv st σ ρ h
  unfold tw_ia at h
  repeat' split at h
  all_goals first | exact tw_no h | exact hn _ _ _ _ h | exact hj _ _ _ _ _ h
theorem tf_za : tw_OF P (tw_za) := by
  intro next jump hn hj lv st σ ρ h
  unfold tw_za at h
  repeat' split at h
  all_goals first | exact tw_no h | exact hn _ _ _ _ h | exact hj _ _ _ _ _ h
theorem tf_ga : tw_OF P (tw_ga) := by
  intro next jump hn hj lv st σ ρ h
  unfold tw_ga at h
  repeat' split at h
  all_goals first | exact tw_no h | exact hn _ _ _ _ h | exact hj _ _ _ _ _ h
theorem tf_jmp (t : Nat) : tw_OF P (tw_jmp t) := by
  intro next jump hn hj lv st σ ρ h
  unfold tw_jmp at h
  repeat' split at h
  all_goals first | exact tw_no h | exact hn _ _ _ _ h | exact hj _ _ _ _ _ h
theorem tf_ifeq (t : Nat) : tw_OF P (tw_ifeq t) := by
  intro next jump hn hj lv st σ ρ h
  unfold tw_ifeq at h
  repeat' split at h
  all_goals first | exact tw_no h | exact hn _ _ _ _ h | exact hj _ _ _ _ _ h
theorem tf_ceq (t : Nat) : tw_OF P (tw_ceq t) := by
  intro next jump hn hj lv st σ ρ h
  unfold tw_ceq at h
  repeat' split at h
  all_goals first | exact tw_no h | exact hn _ _ _ _ h | exact hj _ _ _ _ _ h
theorem tf_ifne (t : Nat) : tw_OF P (tw_ifne t) := by
  intro next jump hn hj lv st σ ρ h
  unfold tw_ifne at h
  repeat' split at h
  all_goals first | exact tw_no h | exact hn _ _ _ _ h | exact hj _ _ _ _ _ h
theorem tf_cne (t : Nat) : tw_OF P (tw_cne t) := by
  intro next jump hn hj lv st σ ρ h
  unfold tw_cne at h
  repeat' split at h
  all_goals first | exact tw_no h | exact hn _ _ _ _ h | exact hj _ _ _ _ _ h
theorem tf_iflt (t : Nat) : tw_OF P (tw_iflt t) := by
  intro next jump hn hj lv st σ ρ h
  unfold tw_iflt at h
  repeat' split at h
  all_goals first | exact tw_no h | exact hn _ _ _ _ h | exact hj _ _ _ _ _ h
theorem tf_clt (t : Nat) : tw_OF P (tw_clt t) := by
  intro next jump hn hj lv st σ ρ h
  unfold tw_clt at h
  repeat' split at h
  all_goals first | exact tw_no h | exact hn _ _ _ _ h | exact hj _ _ _ _ _ h
theorem tf_ifge (t : Nat) : tw_OF P (tw_ifge t) := by
  intro next jump hn hj lv st σ ρ h
  unfold tw_ifge at h
  repeat' split at h
  all_goals first | exact tw_no h | exact hn _ _ _ _ h | exact hj _ _ _ _ _ h
theorem tf_cge (t : Nat) : tw_OF P (tw_cge t) := by
  intro next jump hn hj lv st σ ρ h
  unfold tw_cge at h
  repeat' split at h
  all_goals first | exact tw_no h | exact hn _ _ _ _ h | exact hj _ _ _ _ _ h
theorem tf_ifgt (t : Nat) : tw_OF P (tw_ifgt t) := by
  intro next jump hn hj lv st σ ρ h
  unfold tw_ifgt at h
  repeat' split at h
  all_goals first | exact tw_no h | exact hn _ _ _ _ h | exact hj _ _ _ _ _ h
theorem tf_cgt (t : Nat) : tw_OF P (tw_cgt t) := by
  intro next jump hn hj lv st σ ρ h
  unfold tw_cgt at h
  repeat' split at h
  all_goals first | exact tw_no h | exact hn _ _ _ _ h | exact hj _ _ _ _ _ h
theorem tf_ifle (t : Nat) : tw_OF P (tw_ifle t) := by
  intro next jump hn hj lv st σ ρ h
  unfold tw_ifle at h
  repeat' split at h
  all_goals first | exact tw_no h | exact hn _ _ _ _ h | exact hj _ _ _ _ _ h
theorem tf_cle (t : Nat) : tw_OF P (tw_cle t) := by
  intro next jump hn hj lv st σ ρ h
  unfold tw_cle at h
  repeat' split at h
  all_goals first | exact tw_no h | exact hn _ _ _ _ h | exact hj _ _ _ _ _ h
theorem tf_aeq (t : Nat) : tw_OF P (tw_aeq t) := by
  intro next jump hn hj lv st σ ρ h
  unfold tw_aeq at h
  repeat' split at h
  all_goals first | exact tw_no h | exact hn _ _ _ _ h | exact hj _ _ _ _ _ h
theorem tf_ane (t : Nat) : tw_OF P (tw_ane t) := by
  intro next jump hn hj lv st σ ρ h
  unfold tw_ane at h
  repeat' split at h
  all_goals first | exact tw_no h | exact hn _ _ _ _ h | exact hj _ _ _ _ _ h
theorem tf_gi (c j : Nat) : tw_OF P (tw_gi c j) := by
  intro next jump hn hj lv st σ ρ h
  unfold tw_gi at h
  repeat' split at h
  all_goals first | exact tw_no h | exact hn _ _ _ _ h | exact hj _ _ _ _ _ h
theorem tf_gr (c j : Nat) : tw_OF P (tw_gr c j) := by
  intro next jump hn hj lv st σ ρ h
  unfold tw_gr at h
  repeat' split at h
  all_goals first | exact tw_no h | exact hn _ _ _ _ h | exact hj _ _ _ _ _ h
theorem tf_en (c : Nat) : tw_OF P (tw_en c) := by
  intro next jump hn hj lv st σ ρ h
  unfold tw_en at h
  repeat' split at h
  all_goals first | exact tw_no h | exact hn _ _ _ _ h | exact hj _ _ _ _ _ h
theorem tf_ge (j : Nat) : tw_OF P (tw_ge j) := by
  intro next jump hn hj lv st σ ρ h
  unfold tw_ge at h
  repeat' split at h
  all_goals first | exact tw_no h | exact hn _ _ _ _ h | exact hj _ _ _ _ _ h
theorem tf_sw (cs : List (Int32 × Nat)) (d : Nat) : tw_OF P (tw_sw cs d) := by
  intro next jump hn hj lv st σ ρ h
  unfold tw_sw at h
  split at h
  · rename_i x st2
    revert h
    induction cs with
    | nil => intro h; exact hj _ _ _ _ _ h
    | cons q r ih =>
      intro h
      unfold tw_swr at h
      split at h
      · exact hj _ _ _ _ _ h
      · exact ih h
  · exact tw_no h
theorem tf_r0 : tw_OF P tw_r0 := by
  intro next jump hn hj lv st σ ρ h
  unfold tw_r0 at h
  split at h
  · cases h; exact fun _ _ _ _ => rfl
  · exact tw_no h
theorem tf_ri : tw_OF P tw_ri := by
  intro next jump hn hj lv st σ ρ h
  unfold tw_ri at h
  split at h
  · cases h; exact fun _ _ _ _ => rfl
  · exact tw_no h
theorem tf_rz : tw_OF P tw_rz := by
  intro next jump hn hj lv st σ ρ h
  unfold tw_rz at h
  split at h
  · split at h
    · cases h; exact fun _ _ _ _ => rfl
    · exact tw_no h
  · exact tw_no h
theorem tf_ra : tw_OF P tw_ra := by
  intro next jump hn hj lv st σ ρ h
  unfold tw_ra at h
  split at h
  · cases h; exact fun _ _ _ _ => rfl
  · exact tw_no h
theorem tf_pt {σ : tw_S} {ρ : tw_R} {g0 : Bool} {c0 j0 : Nat} {x : Int32} (hP : P c0 = false) (h : ∀ g c j, P c = true → ρ.2 g c j = tw_pt σ g0 c0 j0 x g c j) : ∀ g c j, P c = true → ρ.2 g c j = σ g c j := fun g c j hp => by
  rw [h g c j hp]
  show (if c = c0 ∧ j = j0 ∧ g = g0 then x else σ g c j) = _
  rw [if_neg (fun z => by rw [z.1, hP] at hp; cases hp)]
theorem tf_pi {c j : Nat} (hP : P c = false) : tw_OF P (tw_pi c j) := by
  intro next jump hn hj lv st σ ρ h
  unfold tw_pi at h
  split at h
  · split at h
    · exact tf_pt hP (hn _ _ _ _ h)
    · exact tw_no h
  · exact tw_no h
theorem tf_pz {c j : Nat} (hP : P c = false) : tw_OF P (tw_pz c j) := by
  intro next jump hn hj lv st σ ρ h
  unfold tw_pz at h
  split at h
  · split at h
    · split at h
      · exact tf_pt hP (hn _ _ _ _ h)
      · exact tw_no h
    · exact tw_no h
  · exact tw_no h
theorem tf_ias {a b : Nat} (hP : ∀ k, a ≤ k → k < b → P k = false) : tw_OF P (tw_ias a b) := by
  intro next jump hn hj lv st σ ρ h
  unfold tw_ias at h
  split at h
  · split at h
    · rename_i hl ho
      rw [Bool.and_eq_true, Bool.and_eq_true] at ho
      split at h
      · exact tw_no h
      · exact tf_pt (hP _ (Nat.le_of_ble_eq_true ho.2.1) (Nat.blt_eq.mp ho.2.2)) (hn _ _ _ _ h)
    · exact tw_no h
  · exact tw_no h
theorem tf_zas {a b : Nat} (hP : ∀ k, a ≤ k → k < b → P k = false) : tw_OF P (tw_zas a b) := by
  intro next jump hn hj lv st σ ρ h
  unfold tw_zas at h
  split at h
  · split at h
    · rename_i hl ho
      rw [Bool.and_eq_true, Bool.and_eq_true] at ho
      split at h
      · exact tw_no h
      · split at h
        · exact tf_pt (hP _ (Nat.le_of_ble_eq_true ho.2.1) (Nat.blt_eq.mp ho.2.2)) (hn _ _ _ _ h)
        · exact tw_no h
    · exact tw_no h
  · exact tw_no h
theorem tf_beh {f : tw_Fn} (hf : tw_FF P f) {next : tw_K} (hn : tw_KF P next) {lv : tw_L} {rest vs : List tw_V} {σ : tw_S} {ρ : tw_R} (h : tw_beh next lv rest (f vs σ) = some ρ) : ∀ g c j, P c = true → ρ.2 g c j = σ g c j := by
  cases e : f vs σ with
  | none => rw [e] at h; exact tw_no h
  | some ρ1 =>
    rw [e] at h
    intro g c j hp
    rw [hn _ _ _ _ h g c j hp, hf _ _ _ e g c j hp]
theorem tf_cs {n : Nat} {f : tw_Fn} (hf : tw_FF P f) : tw_OF P (tw_cs n f) := by
  intro next jump hn hj lv st σ ρ h
  unfold tw_cs at h
  split at h
  · exact tf_beh hf hn h
  · exact tw_no h
theorem tf_cv {n k : Nat} {f : tw_Fn} (hf : tw_FF P f) : tw_OF P (tw_cv n k f) := by
  intro next jump hn hj lv st σ ρ h
  unfold tw_cv at h
  split at h
  · split at h
    · exact tf_beh hf hn h
    · exact tw_no h
  · exact tw_no h
end TWF
/-- what the class leaves alone: the reference's components; and the other way round -/
def tw_Pm (c : Nat) : Bool := Nat.ble 22 c
def tw_Pc2 (c : Nat) : Bool := Nat.blt c 22
theorem tw_Pm_no : ∀ k, 0 ≤ k → k < 22 → tw_Pm k = false := fun k _ h => by
  cases e : tw_Pm k with
  | false => rfl
  | true => have : 22 ≤ k := Nat.le_of_ble_eq_true e; omega
theorem tw_Pc_no : ∀ k, 22 ≤ k → k < 37 → tw_Pc2 k = false := fun k h _ => by
  cases e : tw_Pc2 k with
  | false => rfl
  | true => have : k < 22 := Nat.blt_eq.mp e; omega
