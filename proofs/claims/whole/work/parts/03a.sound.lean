/-- the links to private methods of nest mates -/
def tw_NW (s : State) : Prop := ∀ q ∈ tw_Ne, va_Nw (.methodLinkNest q.1 q.2.1 q.2.2.1 q.2.2.2) s
/-- what a walk of a method's body rests on -/
def tw_Cx (p : Program) (s : State) (m : MethodId) (args : Array Value) (meth : Method) (c : Code) (cc : ByteArray) (nL : Nat) (ret : Option FieldType) (own : String) (E : tw_E) (D : va_G) : Prop :=
  p.tables.exec = Jvm.exec ∧ c.code = cc ∧ c.maxLocals = nL ∧ meth.sig.returnType = ret ∧ meth.locks = false ∧ s.vm.findClass own = some m.cls ∧ (∀ w ∈ tw_Tb, w.before args s = true) ∧ va_K D tw_cl (tw_tys E) s ∧ tw_EN E s s.heap ∧ tw_inj E ∧ tw_NW s
/-- from pc, with these locals, this stack, this state, the machine comes to Q -/
def tw_G (p : Program) (l : Launch) (e : Env) (R : Room) (s : State) (m : MethodId) (args : Array Value) (below : List Frame) (meth : Method) (c : Code) (ce sl : Nat) (Q : State → Prop) (nL : Nat) (E : tw_E) (D : va_G) (pc : Nat) (lv : tw_L) (st : List tw_V) (σ : tw_S) : Prop :=
  ∀ (H : Heap) (locs : List Loc) (ls : Array Slot), va_P D tw_cl (tw_ws E σ) H → va_S (tw_A E) s.heap H locs → lv_has ls nL (tw_lv E lv) → W p l e R s m args below meth c H locs ce sl Q (F0 m pc ls (st.map (tw_c E)))
/-- the instruction at pc is what the Op says -/
def tw_Sd (p : Program) (l : Launch) (e : Env) (R : Room) (s : State) (m : MethodId) (args : Array Value) (below : List Frame) (meth : Method) (c : Code) (ce sl : Nat) (Q : State → Prop) (nL : Nat) (E : tw_E) (D : va_G) (ρ : tw_R) (pc pn : Nat) (o : tw_Op) : Prop :=
  ∀ (next : tw_K) (jump : Nat → tw_K), (∀ lv st σ, next lv st σ = some ρ → tw_G p l e R s m args below meth c ce sl Q nL E D pn lv st σ) → (∀ t lv st σ, jump t lv st σ = some ρ → tw_G p l e R s m args below meth c ce sl Q nL E D t lv st σ) → ∀ lv st σ, o next jump lv st σ = some ρ → tw_G p l e R s m args below meth c ce sl Q nL E D pc lv st σ
def tw_hd (r : List (Nat × tw_Op)) : Nat := match r with
  | [] => 0
  | q :: _ => q.1
def tw_Ok (p : Program) (l : Launch) (e : Env) (R : Room) (s : State) (m : MethodId) (args : Array Value) (below : List Frame) (meth : Method) (c : Code) (ce sl : Nat) (Q : State → Prop) (nL : Nat) (E : tw_E) (D : va_G) (ρ : tw_R) : List (Nat × tw_Op) → Prop
  | [] => True
  | q :: r => tw_Sd p l e R s m args below meth c ce sl Q nL E D ρ q.1 (tw_hd r) q.2 ∧ tw_Ok p l e R s m args below meth c ce sl Q nL E D ρ r
section TWS
variable {p : Program} {l : Launch} {e : Env} {R : Room} {s : State} {m : MethodId} {args : Array Value} {below : List Frame} {meth : Method} {c : Code} {ce sl : Nat} {Q : State → Prop} {cc : ByteArray} {nL : Nat} {ret : Option FieldType} {own : String} {E : tw_E} {D : va_G} {ρ : tw_R} {pc : Nat}
theorem tw_Ok.seek {t : Nat} : ∀ {l0 : List (Nat × tw_Op)}, tw_Ok p l e R s m args below meth c ce sl Q nL E D ρ l0 → tw_Ok p l e R s m args below meth c ce sl Q nL E D ρ (tw_seek t l0) ∧ ∀ q r, tw_seek t l0 = q :: r → q.1 = t
  | [], h => ⟨h, fun q r e => by cases e⟩
  | a :: r0, h => by
    unfold tw_seek
    cases hb : Nat.beq a.1 t with
    | true => exact ⟨h, fun q r e => by cases e; exact Nat.eq_of_beq_eq_true hb⟩
    | false => exact tw_Ok.seek (l0 := r0) h.2
/-- a method ends: its walk comes to Q -/
theorem tw_sound {full : List (Nat × tw_Op)} (hf : tw_Ok p l e R s m args below meth c ce sl Q nL E D ρ full) : ∀ (n : Nat) (l0 : List (Nat × tw_Op)), tw_Ok p l e R s m args below meth c ce sl Q nL E D ρ l0 → ∀ (lv : tw_L) (st : List tw_V) (σ : tw_S), tw_run full n l0 lv st σ = some ρ → tw_G p l e R s m args below meth c ce sl Q nL E D (tw_hd l0) lv st σ
  | 0, _, _, _, _, _, h => tw_no h
  | _ + 1, [], _, _, _, _, h => tw_no h
  | n + 1, q :: r, ho, lv, st, σ, h => by
    refine ho.1 _ _ (fun lv st σ h2 => tw_sound hf n r ho.2 lv st σ h2) (fun t lv st σ h2 => ?_) lv st σ h
    have h3 := tw_Ok.seek (t := t) hf
    have h4 := tw_sound hf n _ h3.1 lv st σ h2
    cases hs : tw_seek t full with
    | nil =>
      rw [hs] at h2
      cases n with
      | zero => exact tw_no h2
      | succ n => exact tw_no h2
    | cons a r1 =>
      rw [hs] at h4
      have h5 : a.1 = t := h3.2 a r1 hs
      rw [← h5]
      exact h4
theorem tw_pos {α : Type} {c : Prop} [Decidable c] {a b x : α} (h : (if c then a else b) = x) (z : c) : a = x := by rw [if_pos z] at h; exact h
theorem tw_ng {α : Type} {c : Prop} [Decidable c] {a b x : α} (h : (if c then a else b) = x) (z : ¬ c) : b = x := by rw [if_neg z] at h; exact h
theorem ts_iconst (hC : tw_Cx p s m args meth c cc nL ret own E D) {n : Int} {v : Int32} (hd : decode cc pc = .ok (.iconst n, 1)) (hv : Int32.ofInt n = v) : tw_Sd p l e R s m args below meth c ce sl Q nL E D ρ pc (pc + 1) (tw_ic v) := by
  intro next jump hn hj lv st σ h H locs ls hP hS hL
  exact lv_iconst hC.1 hC.2.1 hd hv (hn _ _ _ h H locs ls hP hS hL)
theorem ts_bipush (hC : tw_Cx p s m args meth c cc nL ret own E D) {n : Int} {v : Int32} (hd : decode cc pc = .ok (.bipush n, 2)) (hv : (Int8.ofInt n).toInt32 = v) : tw_Sd p l e R s m args below meth c ce sl Q nL E D ρ pc (pc + 2) (tw_ic v) := by
  intro next jump hn hj lv st σ h H locs ls hP hS hL
  exact lv_bipush hC.1 hC.2.1 hd hv (hn _ _ _ h H locs ls hP hS hL)
theorem ts_sipush (hC : tw_Cx p s m args meth c cc nL ret own E D) {n : Int} {v : Int32} (hd : decode cc pc = .ok (.sipush n, 3)) (hv : (Int16.ofInt n).toInt32 = v) : tw_Sd p l e R s m args below meth c ce sl Q nL E D ρ pc (pc + 3) (tw_ic v) := by
  intro next jump hn hj lv st σ h H locs ls hP hS hL
  exact lv_sipush hC.1 hC.2.1 hd hv (hn _ _ _ h H locs ls hP hS hL)
theorem ts_ldc (hC : tw_Cx p s m args meth c cc nL ret own E D) {idx : Nat} {v : Int32} (hw : Cond.constant own idx v ∈ tw_Tb) (hd : decode cc pc = .ok (.ldc idx, 2)) : tw_Sd p l e R s m args below meth c ce sl Q nL E D ρ pc (pc + 2) (tw_ic v) := by
  intro next jump hn hj lv st σ h H locs ls hP hS hL
  exact lv_ldc hC.1 hC.2.1 hC.2.2.2.2.2.1 (hC.2.2.2.2.2.2.1 _ hw) hd (hn _ _ _ h H locs ls hP hS hL)
theorem ts_iload_n (hC : tw_Cx p s m args meth c cc nL ret own E D) {k : Fin 4} {i : Nat} (hd : decode cc pc = .ok (.iload_n k, 1)) (hi : (k : Nat) = i) : tw_Sd p l e R s m args below meth c ce sl Q nL E D ρ pc (pc + 1) (tw_il i) := by
  intro next jump hn hj lv st σ h H locs ls hP hS hL
  unfold tw_il at h
  cases hg : tw_get lv i with
  | none => rw [hg] at h; exact tw_no h
  | some v =>
    rw [hg] at h
    rcases v with x | q
    · exact lv_iload_n hC.1 hC.2.1 hd hi (tw_has hL hg) (hn _ _ _ h H locs ls hP hS hL)
    · exact tw_no h
theorem ts_iload (hC : tw_Cx p s m args meth c cc nL ret own E D) {i : Nat} (hd : decode cc pc = .ok (.iload i, 2)) : tw_Sd p l e R s m args below meth c ce sl Q nL E D ρ pc (pc + 2) (tw_il i) := by
  intro next jump hn hj lv st σ h H locs ls hP hS hL
  unfold tw_il at h
  cases hg : tw_get lv i with
  | none => rw [hg] at h; exact tw_no h
  | some v =>
    rw [hg] at h
    rcases v with x | q
    · exact lv_iload hC.1 hC.2.1 hd (tw_has hL hg) (hn _ _ _ h H locs ls hP hS hL)
    · exact tw_no h
theorem ts_aload_n (hC : tw_Cx p s m args meth c cc nL ret own E D) {k : Fin 4} {i : Nat} (hd : decode cc pc = .ok (.aload_n k, 1)) (hi : (k : Nat) = i) : tw_Sd p l e R s m args below meth c ce sl Q nL E D ρ pc (pc + 1) (tw_al i) := by
  intro next jump hn hj lv st σ h H locs ls hP hS hL
  unfold tw_al at h
  cases hg : tw_get lv i with
  | none => rw [hg] at h; exact tw_no h
  | some v =>
    rw [hg] at h
    rcases v with x | q
    · exact tw_no h
    · exact lv_aload_n hC.1 hC.2.1 hd hi (tw_has hL hg) (hn _ _ _ h H locs ls hP hS hL)
theorem ts_aload (hC : tw_Cx p s m args meth c cc nL ret own E D) {i : Nat} (hd : decode cc pc = .ok (.aload i, 2)) : tw_Sd p l e R s m args below meth c ce sl Q nL E D ρ pc (pc + 2) (tw_al i) := by
  intro next jump hn hj lv st σ h H locs ls hP hS hL
  unfold tw_al at h
  cases hg : tw_get lv i with
  | none => rw [hg] at h; exact tw_no h
  | some v =>
    rw [hg] at h
    rcases v with x | q
    · exact tw_no h
    · exact lv_aload hC.1 hC.2.1 hd (tw_has hL hg) (hn _ _ _ h H locs ls hP hS hL)
theorem ts_istore_n (hC : tw_Cx p s m args meth c cc nL ret own E D) {k : Fin 4} {i : Nat} (hd : decode cc pc = .ok (.istore_n k, 1)) (hi : (k : Nat) = i) (hn4 : i < nL) : tw_Sd p l e R s m args below meth c ce sl Q nL E D ρ pc (pc + 1) (tw_is i) := by
  intro next jump hn hj lv st σ h H locs ls hP hS hL
  rcases st with _ | ⟨x | q, st⟩
  · exact tw_no h
  · exact lv_istore_n hC.1 hC.2.1 hd hi hL hn4 rfl (fun ls1 h1 => hn _ _ _ h H locs ls1 hP hS (tw_stored h1))
  · exact tw_no h
theorem ts_istore (hC : tw_Cx p s m args meth c cc nL ret own E D) {i : Nat} (hd : decode cc pc = .ok (.istore i, 2)) (hn4 : i < nL) : tw_Sd p l e R s m args below meth c ce sl Q nL E D ρ pc (pc + 2) (tw_is i) := by
  intro next jump hn hj lv st σ h H locs ls hP hS hL
  rcases st with _ | ⟨x | q, st⟩
  · exact tw_no h
  · exact lv_istore hC.1 hC.2.1 hd hL hn4 rfl (fun ls1 h1 => hn _ _ _ h H locs ls1 hP hS (tw_stored h1))
  · exact tw_no h
theorem ts_astore_n (hC : tw_Cx p s m args meth c cc nL ret own E D) {k : Fin 4} {i : Nat} (hd : decode cc pc = .ok (.astore_n k, 1)) (hi : (k : Nat) = i) (hn4 : i < nL) : tw_Sd p l e R s m args below meth c ce sl Q nL E D ρ pc (pc + 1) (tw_as i) := by
  intro next jump hn hj lv st σ h H locs ls hP hS hL
  rcases st with _ | ⟨x | q, st⟩
  · exact tw_no h
  · exact tw_no h
  · exact lv_astore_n hC.1 hC.2.1 hd hi hL hn4 rfl (fun ls1 h1 => hn _ _ _ h H locs ls1 hP hS (tw_stored h1))
theorem ts_astore (hC : tw_Cx p s m args meth c cc nL ret own E D) {i : Nat} (hd : decode cc pc = .ok (.astore i, 2)) (hn4 : i < nL) : tw_Sd p l e R s m args below meth c ce sl Q nL E D ρ pc (pc + 2) (tw_as i) := by
  intro next jump hn hj lv st σ h H locs ls hP hS hL
  rcases st with _ | ⟨x | q, st⟩
  · exact tw_no h
  · exact tw_no h
  · exact lv_astore hC.1 hC.2.1 hd hL hn4 rfl (fun ls1 h1 => hn _ _ _ h H locs ls1 hP hS (tw_stored h1))
theorem ts_iinc (hC : tw_Cx p s m args meth c cc nL ret own E D) {i : Nat} {n : Int} {v : Int32} (hd : decode cc pc = .ok (.iinc i n, 3)) (hv : Int32.ofInt n = v) (hn4 : i < nL) : tw_Sd p l e R s m args below meth c ce sl Q nL E D ρ pc (pc + 3) (tw_inc i v) := by
  intro next jump hn hj lv st σ h H locs ls hP hS hL
  unfold tw_inc at h
  cases hg : tw_get lv i with
  | none => rw [hg] at h; exact tw_no h
  | some u =>
    rw [hg] at h
    rcases u with x | q
    · have hm := tw_get_mem E lv 0 i _ hg
      rw [Nat.zero_add] at hm
      obtain ⟨k, hk⟩ := List.mem_iff_getElem?.mp (hm : (i, tw_c E (.inl x)) ∈ tw_lv E lv)
      exact lv_iinc hC.1 hC.2.1 hd hL hk (v := x + v) (by rw [hv]) hn4 rfl (fun ls1 h1 => hn _ _ _ h H locs ls1 hP hS (tw_stored (v := .inl (x + v)) h1))
    · exact tw_no h
theorem ts_iadd (hC : tw_Cx p s m args meth c cc nL ret own E D) (hd : decode cc pc = .ok (.iadd, 1)) : tw_Sd p l e R s m args below meth c ce sl Q nL E D ρ pc (pc + 1) (tw_bin (· + ·)) := by
  intro next jump hn hj lv st σ h H locs ls hP hS hL
  rcases st with _ | ⟨y | q, _ | ⟨x | q2, st⟩⟩ <;> first | exact tw_no h | exact lv_iadd hC.1 hC.2.1 hd (hn _ _ _ h H locs ls hP hS hL)
theorem ts_isub (hC : tw_Cx p s m args meth c cc nL ret own E D) (hd : decode cc pc = .ok (.isub, 1)) : tw_Sd p l e R s m args below meth c ce sl Q nL E D ρ pc (pc + 1) (tw_bin (· - ·)) := by
  intro next jump hn hj lv st σ h H locs ls hP hS hL
  rcases st with _ | ⟨y | q, _ | ⟨x | q2, st⟩⟩ <;> first | exact tw_no h | exact lv_isub hC.1 hC.2.1 hd (hn _ _ _ h H locs ls hP hS hL)
theorem ts_imul (hC : tw_Cx p s m args meth c cc nL ret own E D) (hd : decode cc pc = .ok (.imul, 1)) : tw_Sd p l e R s m args below meth c ce sl Q nL E D ρ pc (pc + 1) (tw_bin (· * ·)) := by
  intro next jump hn hj lv st σ h H locs ls hP hS hL
  rcases st with _ | ⟨y | q, _ | ⟨x | q2, st⟩⟩ <;> first | exact tw_no h | exact lv_imul hC.1 hC.2.1 hd (hn _ _ _ h H locs ls hP hS hL)
theorem ts_iand (hC : tw_Cx p s m args meth c cc nL ret own E D) (hd : decode cc pc = .ok (.iand, 1)) : tw_Sd p l e R s m args below meth c ce sl Q nL E D ρ pc (pc + 1) (tw_bin (· &&& ·)) := by
  intro next jump hn hj lv st σ h H locs ls hP hS hL
  rcases st with _ | ⟨y | q, _ | ⟨x | q2, st⟩⟩ <;> first | exact tw_no h | exact lv_iand hC.1 hC.2.1 hd (hn _ _ _ h H locs ls hP hS hL)
theorem ts_ior (hC : tw_Cx p s m args meth c cc nL ret own E D) (hd : decode cc pc = .ok (.ior, 1)) : tw_Sd p l e R s m args below meth c ce sl Q nL E D ρ pc (pc + 1) (tw_bin (· ||| ·)) := by
  intro next jump hn hj lv st σ h H locs ls hP hS hL
  rcases st with _ | ⟨y | q, _ | ⟨x | q2, st⟩⟩ <;> first | exact tw_no h | exact lv_ior hC.1 hC.2.1 hd (hn _ _ _ h H locs ls hP hS hL)
theorem ts_ixor (hC : tw_Cx p s m args meth c cc nL ret own E D) (hd : decode cc pc = .ok (.ixor, 1)) : tw_Sd p l e R s m args below meth c ce sl Q nL E D ρ pc (pc + 1) (tw_bin (· ^^^ ·)) := by
  intro next jump hn hj lv st σ h H locs ls hP hS hL
  rcases st with _ | ⟨y | q, _ | ⟨x | q2, st⟩⟩ <;> first | exact tw_no h | exact lv_ixor hC.1 hC.2.1 hd (hn _ _ _ h H locs ls hP hS hL)
theorem ts_ishl (hC : tw_Cx p s m args meth c cc nL ret own E D) (hd : decode cc pc = .ok (.ishl, 1)) : tw_Sd p l e R s m args below meth c ce sl Q nL E D ρ pc (pc + 1) (tw_bin (fun x y => x <<< (y &&& 31))) := by
  intro next jump hn hj lv st σ h H locs ls hP hS hL
  rcases st with _ | ⟨y | q, _ | ⟨x | q2, st⟩⟩ <;> first | exact tw_no h | exact lv_ishl hC.1 hC.2.1 hd (hn _ _ _ h H locs ls hP hS hL)
theorem ts_ishr (hC : tw_Cx p s m args meth c cc nL ret own E D) (hd : decode cc pc = .ok (.ishr, 1)) : tw_Sd p l e R s m args below meth c ce sl Q nL E D ρ pc (pc + 1) (tw_bin (fun x y => x >>> (y &&& 31))) := by
  intro next jump hn hj lv st σ h H locs ls hP hS hL
  rcases st with _ | ⟨y | q, _ | ⟨x | q2, st⟩⟩ <;> first | exact tw_no h | exact lv_ishr hC.1 hC.2.1 hd (hn _ _ _ h H locs ls hP hS hL)
theorem ts_idiv (hC : tw_Cx p s m args meth c cc nL ret own E D) (hd : decode cc pc = .ok (.idiv, 1)) : tw_Sd p l e R s m args below meth c ce sl Q nL E D ρ pc (pc + 1) tw_div := by
  intro next jump hn hj lv st σ h H locs ls hP hS hL
  rcases st with _ | ⟨y | q, _ | ⟨x | q2, st⟩⟩ <;> first | exact tw_no h | skip
  have h1 : (if y = 0 then none else next lv (.inl (x / y) :: st) σ) = some ρ := h
  exact lv_idiv hC.1 hC.2.1 hd (fun z => tw_no (tw_pos h1 z)) (hn _ _ _ (tw_ng h1 (fun z => tw_no (tw_pos h1 z))) H locs ls hP hS hL)
theorem ts_irem (hC : tw_Cx p s m args meth c cc nL ret own E D) (hd : decode cc pc = .ok (.irem, 1)) : tw_Sd p l e R s m args below meth c ce sl Q nL E D ρ pc (pc + 1) tw_rem := by
  intro next jump hn hj lv st σ h H locs ls hP hS hL
  rcases st with _ | ⟨y | q, _ | ⟨x | q2, st⟩⟩ <;> first | exact tw_no h | skip
  have h1 : (if y = 0 then none else next lv (.inl (x - x / y * y) :: st) σ) = some ρ := h
  exact lv_irem hC.1 hC.2.1 hd (fun z => tw_no (tw_pos h1 z)) (hn _ _ _ (tw_ng h1 (fun z => tw_no (tw_pos h1 z))) H locs ls hP hS hL)
theorem ts_ineg (hC : tw_Cx p s m args meth c cc nL ret own E D) (hd : decode cc pc = .ok (.ineg, 1)) : tw_Sd p l e R s m args below meth c ce sl Q nL E D ρ pc (pc + 1) tw_neg := by
  intro next jump hn hj lv st σ h H locs ls hP hS hL
  rcases st with _ | ⟨x | q, st⟩ <;> first | exact tw_no h | exact lv_ineg hC.1 hC.2.1 hd (hn _ _ _ h H locs ls hP hS hL)
theorem ts_dup (hC : tw_Cx p s m args meth c cc nL ret own E D) (hd : decode cc pc = .ok (.dup, 1)) : tw_Sd p l e R s m args below meth c ce sl Q nL E D ρ pc (pc + 1) tw_dup := by
  intro next jump hn hj lv st σ h H locs ls hP hS hL
  rcases st with _ | ⟨x, st⟩
  · exact tw_no h
  · exact lv_dup hC.1 hC.2.1 hd (tw_cat E x) (hn _ _ _ h H locs ls hP hS hL)
theorem ts_pop (hC : tw_Cx p s m args meth c cc nL ret own E D) (hd : decode cc pc = .ok (.pop, 1)) : tw_Sd p l e R s m args below meth c ce sl Q nL E D ρ pc (pc + 1) tw_pop := by
  intro next jump hn hj lv st σ h H locs ls hP hS hL
  rcases st with _ | ⟨x, st⟩
  · exact tw_no h
  · exact lv_pop hC.1 hC.2.1 hd (tw_cat E x) (hn _ _ _ h H locs ls hP hS hL)
theorem ts_dup_x1 (hC : tw_Cx p s m args meth c cc nL ret own E D) (hd : decode cc pc = .ok (.dup_x1, 1)) : tw_Sd p l e R s m args below meth c ce sl Q nL E D ρ pc (pc + 1) tw_dx1 := by
  intro next jump hn hj lv st σ h H locs ls hP hS hL
  rcases st with _ | ⟨x, _ | ⟨y, st⟩⟩
  · exact tw_no h
  · exact tw_no h
  · exact lv_dup_x1 hC.1 hC.2.1 hd (tw_cat E x) (tw_cat E y) (hn _ _ _ h H locs ls hP hS hL)
theorem ts_dup2 (hC : tw_Cx p s m args meth c cc nL ret own E D) (hd : decode cc pc = .ok (.dup2, 1)) : tw_Sd p l e R s m args below meth c ce sl Q nL E D ρ pc (pc + 1) tw_d2 := by
  intro next jump hn hj lv st σ h H locs ls hP hS hL
  rcases st with _ | ⟨x, _ | ⟨y, st⟩⟩
  · exact tw_no h
  · exact tw_no h
  · exact lv_dup2_11 hC.1 hC.2.1 hd (tw_cat E x) (tw_cat E y) (hn _ _ _ h H locs ls hP hS hL)
theorem ts_goto (hC : tw_Cx p s m args meth c cc nL ret own E D) {off : Int} {tgt : Nat} (hd : decode cc pc = .ok (.goto off, 3)) (ht : (pc : Int) + off = (tgt : Int)) {pn : Nat} : tw_Sd p l e R s m args below meth c ce sl Q nL E D ρ pc pn (tw_jmp tgt) := by
  intro next jump hn hj lv st σ h H locs ls hP hS hL
  exact lv_goto hC.1 hC.2.1 hd ht (hj _ _ _ _ h H locs ls hP hS hL)
theorem ts_ifeq (hC : tw_Cx p s m args meth c cc nL ret own E D) {off : Int} {tgt : Nat} (hd : decode cc pc = .ok (.ifCond .eq off, 3)) (ht : (pc : Int) + off = (tgt : Int)) : tw_Sd p l e R s m args below meth c ce sl Q nL E D ρ pc (pc + 3) (tw_ifeq tgt) := by
  intro next jump hn hj lv st σ h H locs ls hP hS hL
  rcases st with _ | ⟨x | q, st⟩ <;> first | exact tw_no h | skip
  have h1 : (if x = 0 then jump tgt lv st σ else next lv st σ) = some ρ := h
  exact lv_if_eq hC.1 hC.2.1 hd ht (fun z => hj _ _ _ _ (tw_pos h1 z) H locs ls hP hS hL) (fun z => hn _ _ _ (tw_ng h1 z) H locs ls hP hS hL)
theorem ts_ceq (hC : tw_Cx p s m args meth c cc nL ret own E D) {off : Int} {tgt : Nat} (hd : decode cc pc = .ok (.if_icmp .eq off, 3)) (ht : (pc : Int) + off = (tgt : Int)) : tw_Sd p l e R s m args below meth c ce sl Q nL E D ρ pc (pc + 3) (tw_ceq tgt) := by
  intro next jump hn hj lv st σ h H locs ls hP hS hL
  rcases st with _ | ⟨y | q, _ | ⟨x | q2, st⟩⟩ <;> first | exact tw_no h | skip
  have h1 : (if x = y then jump tgt lv st σ else next lv st σ) = some ρ := h
  exact lv_icmp_eq hC.1 hC.2.1 hd ht (fun z => hj _ _ _ _ (tw_pos h1 z) H locs ls hP hS hL) (fun z => hn _ _ _ (tw_ng h1 z) H locs ls hP hS hL)
theorem ts_ifne (hC : tw_Cx p s m args meth c cc nL ret own E D) {off : Int} {tgt : Nat} (hd : decode cc pc = .ok (.ifCond .ne off, 3)) (ht : (pc : Int) + off = (tgt : Int)) : tw_Sd p l e R s m args below meth c ce sl Q nL E D ρ pc (pc + 3) (tw_ifne tgt) := by
  intro next jump hn hj lv st σ h H locs ls hP hS hL
  rcases st with _ | ⟨x | q, st⟩ <;> first | exact tw_no h | skip
  have h1 : (if x = 0 then next lv st σ else jump tgt lv st σ) = some ρ := h
  exact lv_if_ne hC.1 hC.2.1 hd ht (fun z => hj _ _ _ _ (tw_ng h1 z) H locs ls hP hS hL) (fun z => hn _ _ _ (tw_pos h1 z) H locs ls hP hS hL)
theorem ts_cne (hC : tw_Cx p s m args meth c cc nL ret own E D) {off : Int} {tgt : Nat} (hd : decode cc pc = .ok (.if_icmp .ne off, 3)) (ht : (pc : Int) + off = (tgt : Int)) : tw_Sd p l e R s m args below meth c ce sl Q nL E D ρ pc (pc + 3) (tw_cne tgt) := by
  intro next jump hn hj lv st σ h H locs ls hP hS hL
  rcases st with _ | ⟨y | q, _ | ⟨x | q2, st⟩⟩ <;> first | exact tw_no h | skip
  have h1 : (if x = y then next lv st σ else jump tgt lv st σ) = some ρ := h
  exact lv_icmp_ne hC.1 hC.2.1 hd ht (fun z => hj _ _ _ _ (tw_ng h1 z) H locs ls hP hS hL) (fun z => hn _ _ _ (tw_pos h1 z) H locs ls hP hS hL)
theorem ts_iflt (hC : tw_Cx p s m args meth c cc nL ret own E D) {off : Int} {tgt : Nat} (hd : decode cc pc = .ok (.ifCond .lt off, 3)) (ht : (pc : Int) + off = (tgt : Int)) : tw_Sd p l e R s m args below meth c ce sl Q nL E D ρ pc (pc + 3) (tw_iflt tgt) := by
  intro next jump hn hj lv st σ h H locs ls hP hS hL
  rcases st with _ | ⟨x | q, st⟩ <;> first | exact tw_no h | skip
  have h1 : (if x < 0 then jump tgt lv st σ else next lv st σ) = some ρ := h
  exact lv_if_lt hC.1 hC.2.1 hd ht (fun z => hj _ _ _ _ (tw_pos h1 z) H locs ls hP hS hL) (fun z => hn _ _ _ (tw_ng h1 z) H locs ls hP hS hL)
theorem ts_clt (hC : tw_Cx p s m args meth c cc nL ret own E D) {off : Int} {tgt : Nat} (hd : decode cc pc = .ok (.if_icmp .lt off, 3)) (ht : (pc : Int) + off = (tgt : Int)) : tw_Sd p l e R s m args below meth c ce sl Q nL E D ρ pc (pc + 3) (tw_clt tgt) := by
  intro next jump hn hj lv st σ h H locs ls hP hS hL
  rcases st with _ | ⟨y | q, _ | ⟨x | q2, st⟩⟩ <;> first | exact tw_no h | skip
  have h1 : (if x < y then jump tgt lv st σ else next lv st σ) = some ρ := h
  exact lv_icmp_lt hC.1 hC.2.1 hd ht (fun z => hj _ _ _ _ (tw_pos h1 z) H locs ls hP hS hL) (fun z => hn _ _ _ (tw_ng h1 z) H locs ls hP hS hL)
theorem ts_ifge (hC : tw_Cx p s m args meth c cc nL ret own E D) {off : Int} {tgt : Nat} (hd : decode cc pc = .ok (.ifCond .ge off, 3)) (ht : (pc : Int) + off = (tgt : Int)) : tw_Sd p l e R s m args below meth c ce sl Q nL E D ρ pc (pc + 3) (tw_ifge tgt) := by
  intro next jump hn hj lv st σ h H locs ls hP hS hL
  rcases st with _ | ⟨x | q, st⟩ <;> first | exact tw_no h | skip
  have h1 : (if 0 ≤ x then jump tgt lv st σ else next lv st σ) = some ρ := h
  exact lv_if_ge hC.1 hC.2.1 hd ht (fun z => hj _ _ _ _ (tw_pos h1 z) H locs ls hP hS hL) (fun z => hn _ _ _ (tw_ng h1 z) H locs ls hP hS hL)
theorem ts_cge (hC : tw_Cx p s m args meth c cc nL ret own E D) {off : Int} {tgt : Nat} (hd : decode cc pc = .ok (.if_icmp .ge off, 3)) (ht : (pc : Int) + off = (tgt : Int)) : tw_Sd p l e R s m args below meth c ce sl Q nL E D ρ pc (pc + 3) (tw_cge tgt) := by
  intro next jump hn hj lv st σ h H locs ls hP hS hL
  rcases st with _ | ⟨y | q, _ | ⟨x | q2, st⟩⟩ <;> first | exact tw_no h | skip
  have h1 : (if y ≤ x then jump tgt lv st σ else next lv st σ) = some ρ := h
  exact lv_icmp_ge hC.1 hC.2.1 hd ht (fun z => hj _ _ _ _ (tw_pos h1 z) H locs ls hP hS hL) (fun z => hn _ _ _ (tw_ng h1 z) H locs ls hP hS hL)
theorem ts_ifgt (hC : tw_Cx p s m args meth c cc nL ret own E D) {off : Int} {tgt : Nat} (hd : decode cc pc = .ok (.ifCond .gt off, 3)) (ht : (pc : Int) + off = (tgt : Int)) : tw_Sd p l e R s m args below meth c ce sl Q nL E D ρ pc (pc + 3) (tw_ifgt tgt) := by
  intro next jump hn hj lv st σ h H locs ls hP hS hL
  rcases st with _ | ⟨x | q, st⟩ <;> first | exact tw_no h | skip
  have h1 : (if 0 < x then jump tgt lv st σ else next lv st σ) = some ρ := h
  exact lv_if_gt hC.1 hC.2.1 hd ht (fun z => hj _ _ _ _ (tw_pos h1 z) H locs ls hP hS hL) (fun z => hn _ _ _ (tw_ng h1 z) H locs ls hP hS hL)
theorem ts_cgt (hC : tw_Cx p s m args meth c cc nL ret own E D) {off : Int} {tgt : Nat} (hd : decode cc pc = .ok (.if_icmp .gt off, 3)) (ht : (pc : Int) + off = (tgt : Int)) : tw_Sd p l e R s m args below meth c ce sl Q nL E D ρ pc (pc + 3) (tw_cgt tgt) := by
  intro next jump hn hj lv st σ h H locs ls hP hS hL
  rcases st with _ | ⟨y | q, _ | ⟨x | q2, st⟩⟩ <;> first | exact tw_no h | skip
  have h1 : (if y < x then jump tgt lv st σ else next lv st σ) = some ρ := h
  exact lv_icmp_gt hC.1 hC.2.1 hd ht (fun z => hj _ _ _ _ (tw_pos h1 z) H locs ls hP hS hL) (fun z => hn _ _ _ (tw_ng h1 z) H locs ls hP hS hL)
theorem ts_ifle (hC : tw_Cx p s m args meth c cc nL ret own E D) {off : Int} {tgt : Nat} (hd : decode cc pc = .ok (.ifCond .le off, 3)) (ht : (pc : Int) + off = (tgt : Int)) : tw_Sd p l e R s m args below meth c ce sl Q nL E D ρ pc (pc + 3) (tw_ifle tgt) := by
  intro next jump hn hj lv st σ h H locs ls hP hS hL
  rcases st with _ | ⟨x | q, st⟩ <;> first | exact tw_no h | skip
  have h1 : (if x ≤ 0 then jump tgt lv st σ else next lv st σ) = some ρ := h
  exact lv_if_le hC.1 hC.2.1 hd ht (fun z => hj _ _ _ _ (tw_pos h1 z) H locs ls hP hS hL) (fun z => hn _ _ _ (tw_ng h1 z) H locs ls hP hS hL)
theorem ts_cle (hC : tw_Cx p s m args meth c cc nL ret own E D) {off : Int} {tgt : Nat} (hd : decode cc pc = .ok (.if_icmp .le off, 3)) (ht : (pc : Int) + off = (tgt : Int)) : tw_Sd p l e R s m args below meth c ce sl Q nL E D ρ pc (pc + 3) (tw_cle tgt) := by
  intro next jump hn hj lv st σ h H locs ls hP hS hL
  rcases st with _ | ⟨y | q, _ | ⟨x | q2, st⟩⟩ <;> first | exact tw_no h | skip
  have h1 : (if x ≤ y then jump tgt lv st σ else next lv st σ) = some ρ := h
  exact lv_icmp_le hC.1 hC.2.1 hd ht (fun z => hj _ _ _ _ (tw_pos h1 z) H locs ls hP hS hL) (fun z => hn _ _ _ (tw_ng h1 z) H locs ls hP hS hL)
theorem tw_en_adr (hE : tw_EN E s s.heap) {g1 g2 : Bool} {a b : Nat} (h : tw_enb a b = true) : tw_adr E g1 a = tw_adr E g2 b ↔ a = b := by
  simp only [tw_enb, Bool.or_eq_true, Bool.and_eq_true, Nat.ble_eq, Nat.blt_eq] at h
  constructor
  · intro e
    rcases h with ⟨⟨a1, a2⟩, b1, b2⟩ | ⟨⟨a1, a2⟩, b1, b2⟩
    · unfold tw_adr at e
      rw [if_neg (by omega), if_pos (by omega), if_neg (by omega), if_pos (by omega)] at e
      have := hE.1.2 (a - 50) (b - 50) (by show a - 50 < 3; omega) (by show b - 50 < 3; omega) e
      omega
    · unfold tw_adr at e
      rw [if_neg (by omega), if_neg (by omega), if_pos (by omega), if_neg (by omega), if_neg (by omega), if_pos (by omega)] at e
      have := hE.2.2 (a - 60) (b - 60) (by show a - 60 < 3; omega) (by show b - 60 < 3; omega) e
      omega
  · intro e
    subst e
    unfold tw_adr
    rw [if_neg (by omega), if_neg (c := a < 50) (by omega)]
theorem ts_aeq (hC : tw_Cx p s m args meth c cc nL ret own E D) {off : Int} {tgt : Nat} (hd : decode cc pc = .ok (.if_acmp .eq off, 3)) (ht : (pc : Int) + off = (tgt : Int)) : tw_Sd p l e R s m args below meth c ce sl Q nL E D ρ pc (pc + 3) (tw_aeq tgt) := by
  intro next jump hn hj lv st σ h H locs ls hP hS hL
  rcases st with _ | ⟨y | q, _ | ⟨x | q2, st⟩⟩
  · exact tw_no h
  · exact tw_no h
  · exact tw_no h
  · exact tw_no h
  · exact tw_no h
  · exact tw_no h
  · unfold tw_aeq at h
    dsimp only at h
    cases hen : tw_enb q2.2 q.2 with
    | false => rw [hen] at h; exact tw_no h
    | true =>
      rw [hen] at h
      dsimp only at h
      have adr := tw_en_adr (g1 := q2.1) (g2 := q.1) hC.2.2.2.2.2.2.2.2.1 hen
      cases hb : Nat.beq q2.2 q.2 with
      | true => rw [hb] at h; exact lv_acmp_eq (rx := some (tw_adr E q2.1 q2.2)) (ry := some (tw_adr E q.1 q.2)) hC.1 hC.2.1 hd ht (fun _ => hj _ _ _ _ h H locs ls hP hS hL) (fun z => absurd (congrArg some (adr.mpr (Nat.eq_of_beq_eq_true hb))) z)
      | false => rw [hb] at h; exact lv_acmp_eq (rx := some (tw_adr E q2.1 q2.2)) (ry := some (tw_adr E q.1 q.2)) hC.1 hC.2.1 hd ht (fun z => absurd (adr.mp (Option.some.inj z)) (Nat.ne_of_beq_eq_false hb)) (fun _ => hn _ _ _ h H locs ls hP hS hL)
theorem ts_ane (hC : tw_Cx p s m args meth c cc nL ret own E D) {off : Int} {tgt : Nat} (hd : decode cc pc = .ok (.if_acmp .ne off, 3)) (ht : (pc : Int) + off = (tgt : Int)) : tw_Sd p l e R s m args below meth c ce sl Q nL E D ρ pc (pc + 3) (tw_ane tgt) := by
  intro next jump hn hj lv st σ h H locs ls hP hS hL
  rcases st with _ | ⟨y | q, _ | ⟨x | q2, st⟩⟩
  · exact tw_no h
  · exact tw_no h
  · exact tw_no h
  · exact tw_no h
  · exact tw_no h
  · exact tw_no h
  · unfold tw_ane at h
    dsimp only at h
    cases hen : tw_enb q2.2 q.2 with
    | false => rw [hen] at h; exact tw_no h
    | true =>
      rw [hen] at h
      dsimp only at h
      have adr := tw_en_adr (g1 := q2.1) (g2 := q.1) hC.2.2.2.2.2.2.2.2.1 hen
      cases hb : Nat.beq q2.2 q.2 with
      | true => rw [hb] at h; exact lv_acmp_ne (rx := some (tw_adr E q2.1 q2.2)) (ry := some (tw_adr E q.1 q.2)) hC.1 hC.2.1 hd ht (fun z => absurd (congrArg some (adr.mpr (Nat.eq_of_beq_eq_true hb))) z) (fun _ => hn _ _ _ h H locs ls hP hS hL)
      | false => rw [hb] at h; exact lv_acmp_ne (rx := some (tw_adr E q2.1 q2.2)) (ry := some (tw_adr E q.1 q.2)) hC.1 hC.2.1 hd ht (fun _ => hj _ _ _ _ h H locs ls hP hS hL) (fun z => absurd (adr.mp (Option.some.inj z)) (Nat.ne_of_beq_eq_false hb))
end TWS
