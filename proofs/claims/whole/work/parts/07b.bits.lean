def bt (x : Int32) (i : Nat) : Bool := x.toBitVec.getLsbD i
theorem b_ext {x y : Int32} (h : ∀ i, i < 32 → bt x i = bt y i) : x = y := Int32.toBitVec_inj.mp (BitVec.eq_of_getLsbD_eq (fun i hi => h i hi))
theorem b_or (x y : Int32) (i : Nat) : bt (x ||| y) i = (bt x i || bt y i) := by unfold bt; rw [Int32.toBitVec_or, BitVec.getLsbD_or]
theorem b_and (x y : Int32) (i : Nat) : bt (x &&& y) i = (bt x i && bt y i) := by unfold bt; rw [Int32.toBitVec_and, BitVec.getLsbD_and]
theorem b_0 (i : Nat) : bt 0 i = false := BitVec.getLsbD_zero
theorem s_l : ∀ n, n < 32 → ((nI n &&& 31).toBitVec.smod 32).toNat = n := by decide +kernel
theorem b_sshr (n : Nat) (hn : n < 32) (x : Int32) {i : Nat} (hi : i < 32) : bt (x >>> (nI n &&& 31)) i = if n + i < 32 then bt x (n + i) else bt x 31 := by
  unfold bt
  rw [Int32.toBitVec_shiftRight]
  show (x.toBitVec.sshiftRight ((nI n &&& 31).toBitVec.smod 32).toNat).getLsbD i = _
  rw [s_l n hn, BitVec.getLsbD_sshiftRight, BitVec.msb_eq_getLsbD_last]
  simp [hi]
theorem b_sshr8 (x : Int32) {i : Nat} (hi : i < 32) : bt (x >>> ((8 : Int32) &&& 31)) i = if 8 + i < 32 then bt x (8 + i) else bt x 31 := b_sshr 8 (by omega) x hi
/-! Words of the tables, by their bits. -/
theorem tw_or_and (w a m : Int32) (h : a &&& m = 0) : (w ||| a) &&& m = w &&& m := by
  apply Int32.toBitVec_inj.mp
  have h2 : a.toBitVec &&& m.toBitVec = 0#32 := by rw [← Int32.toBitVec_and, h]; rfl
  rw [Int32.toBitVec_and, Int32.toBitVec_or, BitVec.and_or_distrib_right, h2, BitVec.or_zero, ← Int32.toBitVec_and]
theorem tw_or_0 {w a m : Int32} (h : (w ||| a) &&& m = 0) : w &&& m = 0 ∧ a &&& m = 0 := by
  have h2 : (w.toBitVec ||| a.toBitVec) &&& m.toBitVec = 0#32 := by rw [← Int32.toBitVec_or, ← Int32.toBitVec_and, h]; rfl
  rw [BitVec.and_or_distrib_right, BitVec.or_eq_zero_iff] at h2
  exact ⟨Int32.toBitVec_inj.mp (by rw [Int32.toBitVec_and, h2.1]; rfl), Int32.toBitVec_inj.mp (by rw [Int32.toBitVec_and, h2.2]; rfl)⟩
theorem tw_or_ne {w m : Int32} (a : Int32) (h : ¬ w &&& m = 0) : ¬ (w ||| a) &&& m = 0 := fun z => h (tw_or_0 z).1
theorem tw_or_on (w : Int32) {a m : Int32} (h : ¬ a &&& m = 0) : ¬ (w ||| a) &&& m = 0 := fun z => h (tw_or_0 z).2
theorem tw_and_and (w : Int32) {m k : Int32} (h : m &&& k = k) : (w &&& m) &&& k = w &&& k := by rw [Int32.and_assoc, h]
theorem tw_or_num (w : Int32) {a : Int32} (ha : ∀ i, i < 32 → 8 ≤ i → bt a i = false) : ((w ||| a) >>> ((8 : Int32) &&& 31)) &&& 15 = (w >>> ((8 : Int32) &&& 31)) &&& 15 := by
  apply b_ext
  intro i hi
  rw [b_and, b_and, b_sshr8 (w ||| a) hi, b_sshr8 w hi]
  by_cases h8 : 8 + i < 32
  · rw [if_pos h8, if_pos h8, b_or, ha (8 + i) h8 (by omega), Bool.or_false]
  · rw [if_neg h8, if_neg h8, b_or, ha 31 (by omega) (by omega), Bool.or_false]
theorem tw_bit0 {w m : Int32} {k : Nat} (hk : k < 32) (hm : ∀ i, i < 32 → bt m i = decide (i = k)) : w &&& m = 0 ↔ bt w k = false := by
  constructor
  · intro h
    have h1 := b_and w m k
    rw [h, b_0, hm k hk, decide_eq_true rfl, Bool.and_true] at h1
    exact h1.symm
  · intro h
    apply b_ext
    intro i hi
    rw [b_and, b_0, hm i hi]
    by_cases hik : i = k
    · rw [hik, h, Bool.false_and]
    · rw [decide_eq_false hik, Bool.and_false]
theorem tw_or_fix {w m : Int32} {k : Nat} (hk : k < 32) (hm : ∀ i, i < 32 → bt m i = decide (i = k)) (h : ¬ w &&& m = 0) : w ||| m = w := by
  have h1 : bt w k = true := by
    cases hb : bt w k with
    | true => rfl
    | false => exact absurd ((tw_bit0 hk hm).mpr hb) h
  apply b_ext
  intro i hi
  rw [b_or, hm i hi]
  by_cases hik : i = k
  · rw [hik, h1, Bool.true_or]
  · rw [decide_eq_false hik, Bool.or_false]
theorem tw_bt32 : ∀ i, i < 32 → bt 32 i = decide (i = 5) := by decide +kernel
theorem tw_bt64 : ∀ i, i < 32 → bt 64 i = decide (i = 6) := by decide +kernel
theorem tw_fix32 {w : Int32} (h : ¬ w &&& 32 = 0) : w ||| 32 = w := tw_or_fix (k := 5) (by omega) tw_bt32 h
theorem tw_fix96 {w : Int32} (h : ¬ w &&& 32 = 0) (h2 : ¬ w &&& 64 = 0) : w ||| 96 = w := by
  have e : (96 : Int32) = 32 ||| 64 := by decide
  have a : w ||| (32 ||| 64) = (w ||| 32) ||| 64 := by
    apply b_ext
    intro i hi
    rw [b_or, b_or, b_or, b_or, Bool.or_assoc]
  rw [e, a, tw_fix32 h, tw_or_fix (k := 6) (by omega) tw_bt64 h2]
theorem tw_hi32 : ∀ i, i < 32 → 8 ≤ i → bt 32 i = false := by decide +kernel
theorem tw_hi96 : ∀ i, i < 32 → 8 ≤ i → bt 96 i = false := by decide +kernel
