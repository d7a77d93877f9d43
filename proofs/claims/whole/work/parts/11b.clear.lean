/-! A loop that fills an array with -1. -/
section TWFL
variable {p : Program} {l : Launch} {e : Env} {R : Room} {s : State} {m : MethodId} {args : Array Value} {below : List Frame} {meth : Method} {c : Code} {cells slots : Nat} {Q : State → Prop} {D : va_G} {cl : List vw_C} {tys : List (ClassId × FieldType)} {A : Nat → Prop} {H0 : Heap}
theorem tw_fillm {cc : ByteArray} (hx : p.tables.exec = Jvm.exec) (hb : c.code = cc) {pc nL lc N h0 q pa ta : Nat} {kl : Fin 4} (hkl : (kl : Nat) = lc) (hlc : lc < nL) {lr : List (Nat × Value)} {cA : ClassId} {ws : (Nat → Int32) → va_W}
    (d0 : decode cc pc = .ok (.iload_n kl, 1)) (d1 : decode cc (pc + 1) = .ok (.bipush (N : Int), 2)) (d3 : decode cc (pc + 3) = .ok (.if_icmp .ge 16, 3)) (d6 : decode cc (pc + 6) = .ok (.aload_n 0, 1)) (d10 : decode cc (pc + 10) = .ok (.iload_n kl, 1)) (d11 : decode cc (pc + 11) = .ok (.iconst (-1), 1)) (d12 : decode cc (pc + 12) = .ok (.iastore, 1)) (d13 : decode cc (pc + 13) = .ok (.iinc lc 1, 3)) (d16 : decode cc (pc + 16) = .ok (.goto (-16), 3))
    (hN : N < 100) (hNv : (Int8.ofInt (N : Int)).toInt32 = nI N) (hK : va_K D cl tys s)
    (hget : ∀ (f : Nat → Int32) (H : Heap), va_P D cl (ws f) H → ∀ (locs : List Loc) (ls : Array Slot) (rest : List Value), W p l e R s m args below meth c H locs cells slots Q (F0 m (pc + 10) ls (.ref q :: rest)) → W p l e R s m args below meth c H locs cells slots Q (F0 m (pc + 7) ls (.ref h0 :: rest)))
    (hat : ∀ f, (ws f)[pa]? = some (q, .inl (cA, N, .inl f))) (hty : tys[ta]? = some (cA, .int)) (hset : ∀ f f', (ws f).set pa (q, .inl (cA, N, .inl f')) = ws f')
    (hflt : ∀ x : Int32, (((lc, Value.int x) :: (0, Value.ref h0) :: lr) : List (Nat × Value)).filter (fun q => !(q.1 == lc) && !(q.1 + 1 == lc && q.2.category == 2)) = (0, .ref h0) :: lr) :
    ∀ (k i : Nat) (f : Nat → Int32) (H : Heap) (locs : List Loc) (ls : Array Slot), i + k = N → va_P D cl (ws f) H → va_D A (ws f) → va_S A H0 H locs → lv_has ls nL ((lc, .int (nI i)) :: (0, .ref h0) :: lr) →
      (∀ (f' : Nat → Int32) (H' : Heap) (locs' : List Loc) (ls' : Array Slot), (∀ j, f' j = if i ≤ j ∧ j < N then -1 else f j) → va_P D cl (ws f') H' → va_D A (ws f') → va_S A H0 H' locs' → lv_has ls' nL ((lc, .int (nI N)) :: (0, .ref h0) :: lr) → W p l e R s m args below meth c H' locs' cells slots Q (F0 m (pc + 19) ls' [])) →
      W p l e R s m args below meth c H locs cells slots Q (F0 m pc ls [])
  | 0, i, f, H, locs, ls, hi, hP, hD, hS, hl, KK => by
    have e : i = N := by omega
    subst e
    refine lv_iload_n hx hb d0 hkl (lv_at hl 0 rfl) ?_
    refine lv_bipush (v := nI i) hx hb d1 hNv ?_
    refine lv_icmp_ge (tgt := pc + 19) hx hb d3 (by show ((pc + 1 + 2 : Nat) : Int) + 16 = ((pc + 19 : Nat) : Int); omega) (fun _ => KK f H locs ls (fun j => by rw [if_neg (by omega)]) hP hD hS hl) (fun z => absurd (nI_le (Nat.le_refl i) (by omega)) z)
  | k + 1, i, f, H, locs, ls, hi, hP, hD, hS, hl, KK => by
    refine lv_iload_n hx hb d0 hkl (lv_at hl 0 rfl) ?_
    refine lv_bipush (v := nI N) hx hb d1 hNv ?_
    refine lv_icmp_ge (tgt := pc + 19) hx hb d3 (by show ((pc + 1 + 2 : Nat) : Int) + 16 = ((pc + 19 : Nat) : Int); omega) (fun z => absurd z (nI_ge (by omega) (by omega))) (fun _ => ?_)
    refine lv_aload_n hx hb d6 rfl (lv_at hl 1 rfl) ?_
    refine hget f H hP locs ls [] ?_
    refine lv_iload_n hx hb d10 hkl (lv_at hl 0 rfl) ?_
    refine lv_iconst (v := -1) hx hb d11 (by decide) ?_
    refine va_iast hx hb hK hP hD hS pa ta (hat f) hty (nI_in (by omega) (by omega)) d12 (fun H1 locs1 hP1 hD1 hS1 => ?_)
    rw [hset, nI_clamp (by omega)] at hP1 hD1
    refine lv_iinc (v := nI (i + 1)) (k := 0) hx hb d13 hl rfl (by rw [← nI_1]; rfl) hlc (congrArg (List.cons _) (hflt _)) (fun ls1 h1 => ?_)
    refine lv_goto (tgt := pc) hx hb d16 (by show ((pc + 12 + 1 + 3 : Nat) : Int) + (-16) = (pc : Int); omega) ?_
    refine tw_fillm hx hb hkl hlc d0 d1 d3 d6 d10 d11 d12 d13 d16 hN hNv hK hget hat hty hset hflt k (i + 1) _ H1 locs1 ls1 (by omega) hP1 hD1 hS1 h1 (fun f' H' locs' ls' hf' => KK f' H' locs' ls' (fun j => ?_))
    rw [hf' j]
    by_cases h1 : i + 1 ≤ j ∧ j < N
    · rw [if_pos h1, if_pos ⟨by omega, h1.2⟩]
    · rw [if_neg h1]
      by_cases h2 : j = i
      · rw [h2, pk_us, if_pos ⟨Nat.le_refl _, by omega⟩]
      · rw [pk_un h2, if_neg (by omega)]
end TWFL
/-- so many entries of an array are -1 -/
def tw_m1n (N : Nat) (f : Nat → Int32) : Nat → Int32 := fun j => if j < N then -1 else f j
abbrev tw_m1p (f : Nat → Int32) : Nat → Int32 := tw_m1n 16 f
theorem tw_m1n_eq {N : Nat} {f f' : Nat → Int32} (h : ∀ j, f' j = if 0 ≤ j ∧ j < N then -1 else f j) : f' = tw_m1n N f := funext fun j => by
  rw [h j]
  unfold tw_m1n
  by_cases e : j < N
  · rw [if_pos e, if_pos ⟨Nat.zero_le _, e⟩]
  · rw [if_neg e, if_neg (fun z => e z.2)]
set_option maxHeartbeats 4000000 in
set_option maxRecDepth 100000 in
theorem c_Sh_clear (l : Launch) (D : va_G) (h0 q1 q2 q3 q4 : Nat) (cA : ClassId) (f0 : Nat → Int32) (sz : Nat) : Met l y_Sh_clear (.code y_Sh_clear b_Sh_clear 2 none :: tw_Tb) ({ frames := 0, cells := 0, slots := 0, locals := 0 }) (va_Pc [.ref h0] (fun U => U.heap.size = sz ∧ va_P D tw_cl [(h0, .inr (4, [.ref q1, .ref q2, .ref q3, .ref q4])), (q1, .inl (cA, 16, .inl f0))] U.heap ∧ va_K D tw_cl [(cA, .int)] U ∧ va_D (fun _ => True) [(h0, .inr (4, [.ref q1, .ref q2, .ref q3, .ref q4])), (q1, .inl (cA, 16, .inl f0))])) (va_Qv (fun _ : Int32 => True) (fun _ t => va_P D tw_cl [(h0, .inr (4, [.ref q1, .ref q2, .ref q3, .ref q4])), (q1, .inl (cA, 16, .inl (tw_m1p f0)))] t.heap ∧ va_K D tw_cl [(cA, .int)] t ∧ va_D (va_A [(h0, .inr (4, [.ref q1, .ref q2, .ref q3, .ref q4])), (q1, .inl (cA, 16, .inl f0))] sz) [(h0, .inr (4, [.ref q1, .ref q2, .ref q3, .ref q4])), (q1, .inl (cA, 16, .inl (tw_m1p f0)))]) (va_A [(h0, .inr (4, [.ref q1, .ref q2, .ref q3, .ref q4])), (q1, .inl (cA, 16, .inl f0))] sz)) 0 0 (va_A [(h0, .inr (4, [.ref q1, .ref q2, .ref q3, .ref q4])), (q1, .inl (cA, 16, .inl f0))] sz) := by
  refine Met.ofW (cc := b_Sh_clear) (maxL := 2) (ret := none) (by decide) rfl ?_
  intro p e s m args below meth c s₁ B hml hv
  obtain ⟨rfl, hsz, hP, hK, hD0⟩ := hv
  have hx := B.exec
  have hb := B.bytes
  have hr := B.returns
  have hts0 := atoms_spec (ws := .code y_Sh_clear b_Sh_clear 2 none :: tw_Tb) B.pre
  have hts : ∀ w ∈ tw_Tb, w.before _ s = true := fun w h => hts0 w (List.mem_cons_of_mem _ h)
  have hown : s.vm.findClass "TwinHost$Shadows" = some m.cls := findClass_of_methodNamed B.named
  have hlocks := B.notSynchronized
  subst hsz
  have hD := hD0.self (sz := s.heap.size)
  generalize hAe : va_A [(h0, .inr (4, [.ref q1, .ref q2, .ref q3, .ref q4])), (q1, .inl (cA, 16, .inl f0))] s.heap.size = A at hD ⊢
  have hS : va_S A s.heap s.heap [] := va_S.rf
  have hl := lv_entry ([.ref h0]) (n := 2) (Nat.le_of_ble_eq_true rfl)
  rw [lg_entry_eq]
  generalize (lg_sl ([.ref h0]) ++ List.replicate (2 - (lg_sl ([.ref h0])).length) Slot.unset).toArray = ls at hl ⊢
  have hl : lv_has ls 2 [(0, .ref h0)] := hl
  refine lv_iconst (v := 0) hx hb d_Sh_clear_0 (by decide) ?_
  refine lv_istore_n hx hb d_Sh_clear_1 rfl hl (by decide) rfl (fun ls1 h1 => ?_)
  have h1 : lv_has ls1 2 [(1, .int (nI 0)), (0, .ref h0)] := h1
  refine tw_fillm (lr := []) (ws := fun f => [(h0, .inr (4, [.ref q1, .ref q2, .ref q3, .ref q4])), (q1, .inl (cA, 16, .inl f))]) (tys := [(cA, .int)]) (pa := 1) (ta := 0) (q := q1) (cA := cA) (A := A) (H0 := s.heap) hx hb rfl (by decide) d_Sh_clear_2 d_Sh_clear_3 d_Sh_clear_5 d_Sh_clear_8 d_Sh_clear_12 d_Sh_clear_13 d_Sh_clear_14 d_Sh_clear_15 d_Sh_clear_18 (by decide) (by decide) hK (fun f H hPf locs ls rest kk => va_get (D := D) (ci := 4) (v := .ref q1) (C := R_Sh) (T := T_Sh) (N := 4) hx hb hts u_Sh hown hK hPf 0 rfl rfl 0 (by decide) (hts _ wd_94) (fun _ h9 => h9) rfl d_Sh_clear_9 kk) (fun f => rfl) rfl (fun f f' => rfl) (fun x => rfl) 16 0 f0 s.heap [] ls1 rfl hP hD hS h1 (fun f' H' locs' ls' hf' hP' hD' hS' hl' => ?_)
  have ef := tw_m1n_eq hf'
  subst ef
  exact W.vret hx hb hr (fun t ht hW => ⟨⟨0, rfl, trivial, by rw [ht]; exact hP', va_K.moved hW.alike hK, hD'⟩, hS'.F ht⟩) hS'.2.2 d_Sh_clear_21
