/-- where a switch goes -/
def tw_tg (d : Nat) (x : Int32) : List (Int32 × Nat) → Nat
  | [] => d
  | q :: r => if x = q.1 then q.2 else tw_tg d x r
theorem tw_swr_tg {jump : Nat → tw_K} {d : Nat} {x : Int32} {lv : tw_L} {st : List tw_V} {σ : tw_S} {ρ : tw_R} : ∀ (cs : List (Int32 × Nat)), tw_swr jump d x lv st σ cs = some ρ → jump (tw_tg d x cs) lv st σ = some ρ
  | [], h => h
  | q :: r, h => by
    unfold tw_swr at h
    unfold tw_tg
    by_cases hq : x = q.1
    · rw [if_pos hq] at h ⊢; exact h
    · rw [if_neg hq] at h ⊢; exact tw_swr_tg r h
theorem tw_tg_out {d : Nat} {x : Int32} {lo hi : Int} (hx : x.toInt < lo ∨ hi < x.toInt) : ∀ (cs : List (Int32 × Nat)), cs.all (fun q => decide (lo ≤ q.1.toInt ∧ q.1.toInt ≤ hi)) = true → tw_tg d x cs = d
  | [], _ => rfl
  | q :: r, h => by
    rw [List.all_cons, Bool.and_eq_true] at h
    have hq := of_decide_eq_true h.1
    unfold tw_tg
    rw [if_neg (fun z => by rw [z] at hx; omega)]
    exact tw_tg_out hx r h.2
section TWS2
variable {p : Program} {l : Launch} {e : Env} {R : Room} {s : State} {m : MethodId} {args : Array Value} {below : List Frame} {meth : Method} {c : Code} {ce sl : Nat} {Q : State → Prop} {cc : ByteArray} {nL : Nat} {ret : Option FieldType} {own : String} {E : tw_E} {D : va_G} {ρ : tw_R} {pc : Nat}
theorem ts_table (hC : tw_Cx p s m args meth c cc nL ret own E D) {dflt lo hi : Int} {offs : Array Int} {len d n : Nat} (cs : List (Int32 × Nat)) (hd : decode cc pc = .ok (.tableswitch dflt lo hi offs, len)) (hdf : (pc : Int) + dflt = (d : Int)) (hn0 : hi = lo + n) (hcs : cs.all (fun q => decide (lo ≤ q.1.toInt ∧ q.1.toInt ≤ hi)) = true)
    (hof : ((List.range (n + 1)).all (fun k => match offs[k]? with | some o => decide ((pc : Int) + o = (tw_tg d (Int32.ofInt (lo + k)) cs : Nat)) | none => false)) = true) {pn : Nat} : tw_Sd p l e R s m args below meth c ce sl Q nL E D ρ pc pn (tw_sw cs d) := by
  intro next jump hn hj lv st σ h H locs ls hP hS hL
  rcases st with _ | ⟨x | q, st⟩
  · exact tw_no h
  · have hg := hj _ _ _ _ (tw_swr_tg cs h) H locs ls hP hS hL
    by_cases ho : x.toInt < lo ∨ hi < x.toInt
    · rw [tw_tg_out ho cs hcs] at hg
      exact lv_tableOut hC.1 hC.2.1 hd ho hdf hg
    · have h1 : ¬ x.toInt < lo := fun z => ho (Or.inl z)
      have h2 : ¬ hi < x.toInt := fun z => ho (Or.inr z)
      have hk : (x.toInt - lo).toNat < n + 1 := by omega
      have h3 := List.all_eq_true.mp hof _ (List.mem_range.mpr hk)
      have hxx : Int32.ofInt (lo + ((x.toInt - lo).toNat : Nat)) = x := by
        rw [show lo + ((x.toInt - lo).toNat : Nat) = x.toInt by omega]
        exact Int32.ofInt_toInt x
      cases hoo : offs[(x.toInt - lo).toNat]? with
      | none => rw [hoo] at h3; cases h3
      | some o =>
        rw [hoo] at h3
        have h4 := of_decide_eq_true h3
        rw [hxx] at h4
        exact lv_tableIn hC.1 hC.2.1 hd h1 h2 hoo h4 hg
  · exact tw_no h
theorem tw_look {d : Nat} {dflt : Int} {x : Int32} (hdf : (pc : Int) + dflt = (d : Int)) : ∀ (ps : List (Int × Int)) (cs : List (Int32 × Nat)), ps.length = cs.length → ((ps.zip cs).all (fun q => decide (q.2.1.toInt = q.1.1 ∧ (pc : Int) + q.1.2 = (q.2.2 : Nat)))) = true → (pc : Int) + Op.lookupswitch.offset ps dflt x.toInt = (tw_tg d x cs : Nat)
  | [], [], _, _ => by
    unfold tw_tg
    rw [show Op.lookupswitch.offset [] dflt x.toInt = dflt from rfl]
    exact hdf
  | [], _ :: _, h, _ => by simp at h
  | _ :: _, [], h, _ => by simp at h
  | a :: ps, b :: cs, hl, h => by
    rw [List.zip_cons_cons, List.all_cons, Bool.and_eq_true] at h
    have h1 := of_decide_eq_true h.1
    obtain ⟨a1, a2⟩ := a
    obtain ⟨b1, b2⟩ := b
    dsimp only at h1
    unfold tw_tg
    by_cases hq : x = b1
    · rw [if_pos hq, Op.lookupswitch.offset_cons, if_pos (by rw [hq]; exact h1.1.symm)]
      exact h1.2
    · rw [if_neg hq, lv_osw hq h1.1]
      exact tw_look hdf ps cs (by simpa using hl) h.2
theorem ts_lookup (hC : tw_Cx p s m args meth c cc nL ret own E D) {dflt : Int} {ps : Array (Int × Int)} {len d : Nat} (cs : List (Int32 × Nat)) (hd : decode cc pc = .ok (.lookupswitch dflt ps, len)) (hp : (ps.toList.zip (ps.toList.drop 1)).all (fun (a, next) => a.1 < next.1) = true) (hdf : (pc : Int) + dflt = (d : Int)) (hln : ps.toList.length = cs.length) (hof : ((ps.toList.zip cs).all (fun q => decide (q.2.1.toInt = q.1.1 ∧ (pc : Int) + q.1.2 = (q.2.2 : Nat)))) = true) {pn : Nat} : tw_Sd p l e R s m args below meth c ce sl Q nL E D ρ pc pn (tw_sw cs d) := by
  intro next jump hn hj lv st σ h H locs ls hP hS hL
  rcases st with _ | ⟨x | q, st⟩
  · exact tw_no h
  · exact lv_lookup hC.1 hC.2.1 hd hp rfl (tw_look hdf ps.toList cs hln hof) (hj _ _ _ _ (tw_swr_tg cs h) H locs ls hP hS hL)
  · exact tw_no h
theorem tw_cell_o {g : Bool} {k ci : Nat} {fds : List (Option Nat)} (h : tw_lay k = .inl (ci, fds)) (f : Nat → Int32) : tw_cell E g k f = .inr (ci, tw_fvs E g f 0 fds) := by
  unfold tw_cell
  rw [h]
theorem tw_cell_i {g : Bool} {k n : Nat} (h : tw_lay k = .inr (0, n)) (f : Nat → Int32) : tw_cell E g k f = .inl (E.2.1 (tw_ix g k), n, .inl f) := by
  unfold tw_cell
  rw [h]
  rfl
theorem tw_cell_z {g : Bool} {k n : Nat} (h : tw_lay k = .inr (1, n)) (f : Nat → Int32) : tw_cell E g k f = .inl (E.2.1 (tw_ix g k), n, .inl f) := by
  unfold tw_cell
  rw [h]
  rfl
theorem tw_ty_i {k n : Nat} (h : tw_lay k = .inr (0, n)) : tw_tyOf k = .int := by
  unfold tw_tyOf
  rw [if_neg (fun z => by rw [z] at h; cases h), if_neg (fun z => by rw [z] at h; cases h), if_neg (fun z => by rw [z] at h; cases h)]
theorem tw_ty_z {k n : Nat} (h : tw_lay k = .inr (1, n)) (hk : k = 27 ∨ k = 34) : tw_tyOf k = .boolean := by
  rcases hk with rfl | rfl <;> rfl
theorem tw_lay_z {k n : Nat} (hk : k < 37) (h : tw_lay k = .inr (1, n)) : k = 27 ∨ k = 34 := by
  have key : ∀ k, k < 37 → (match tw_lay k with | .inr (1, _) => (k == 27 || k == 34) | _ => true) = true := by decide +kernel
  have h1 := key k hk
  rw [h] at h1
  simpa using h1
/-- a receiver's name -/
theorem tw_rc {g : Bool} {k k' : Nat} (h : (Nat.beq k' k && tw_okb g k) = true) : k' = k ∧ tw_okb g k = true := by
  rw [Bool.and_eq_true] at h
  exact ⟨Nat.eq_of_beq_eq_true h.1, h.2⟩
theorem ts_gi (hC : tw_Cx p s m args meth c cc nL ret own E D) {k j ci N idx : Nat} {C : String} {T : u_T} {fds : List (Option Nat)} (hlay : tw_lay k = .inl (ci, fds)) (hf : fds[j]? = some none) (hcl : tw_cl[ci]? = some (C, T, N)) (hjN : j < N) (hin : ∀ w ∈ u_ws C T N, w ∈ tw_Tb) (hlink : Cond.fieldLink own idx C (T j).2.1 (T j).2.2.1 ∈ tw_Tb) (hT : (T j).1 = C) (hd : decode cc pc = .ok (.getfield idx, 3)) : tw_Sd p l e R s m args below meth c ce sl Q nL E D ρ pc (pc + 3) (tw_gi k j) := by
  obtain ⟨hx, hb, hml, hr, hlk, hown, hts, hK, hE, hinj, hNW⟩ := hC
  intro next jump hn hj lv st σ h H locs ls hP hS hL
  rcases st with _ | ⟨x | q, st⟩
  · exact tw_no h
  · exact tw_no h
  · unfold tw_gi at h
    dsimp only at h
    cases hq : (Nat.beq q.2 k && tw_okb q.1 k) with
    | false => rw [hq] at h; exact tw_no h
    | true =>
      rw [hq] at h
      obtain ⟨g, k'⟩ := q
      have hq : (Nat.beq k' k && tw_okb g k) = true := hq
      obtain ⟨e0, ho⟩ := tw_rc hq
      subst e0
      have hat := tw_ws_at E σ ho
      rw [tw_cell_o hlay] at hat
      have hv := tw_fvs_at E g (σ g k') fds 0 j none hf
      rw [Nat.zero_add] at hv
      exact va_get hx hb hts hin hown hK hP (tw_ix g k') hat hcl j hjN (hts _ hlink) (fun z hz => by rw [hT] at hz; exact hz) hv hd (hn _ _ _ h H locs ls hP hS hL)
theorem ts_gr (hC : tw_Cx p s m args meth c cc nL ret own E D) {k j ci N idx : Nat} {C : String} {T : u_T} {fds : List (Option Nat)} (hlay : tw_lay k = .inl (ci, fds)) {c2 : Nat} (hf : fds[j]? = some (some c2)) (hcl : tw_cl[ci]? = some (C, T, N)) (hjN : j < N) (hin : ∀ w ∈ u_ws C T N, w ∈ tw_Tb) (hlink : Cond.fieldLink own idx C (T j).2.1 (T j).2.2.1 ∈ tw_Tb) (hT : (T j).1 = C) (hd : decode cc pc = .ok (.getfield idx, 3)) : tw_Sd p l e R s m args below meth c ce sl Q nL E D ρ pc (pc + 3) (tw_gr k c2) := by
  obtain ⟨hx, hb, hml, hr, hlk, hown, hts, hK, hE, hinj, hNW⟩ := hC
  intro next jump hn hj lv st σ h H locs ls hP hS hL
  rcases st with _ | ⟨x | q, st⟩
  · exact tw_no h
  · exact tw_no h
  · unfold tw_gr at h
    dsimp only at h
    cases hq : (Nat.beq q.2 k && tw_okb q.1 k) with
    | false => rw [hq] at h; exact tw_no h
    | true =>
      rw [hq] at h
      obtain ⟨g, k'⟩ := q
      have hq : (Nat.beq k' k && tw_okb g k) = true := hq
      obtain ⟨e0, ho⟩ := tw_rc hq
      subst e0
      have hat := tw_ws_at E σ ho
      rw [tw_cell_o hlay] at hat
      have hv := tw_fvs_at E g (σ g k') fds 0 j (some c2) hf
      exact va_get hx hb hts hin hown hK hP (tw_ix g k') hat hcl j hjN (hts _ hlink) (fun z hz => by rw [hT] at hz; exact hz) hv hd (hn _ _ _ h H locs ls hP hS hL)
theorem tw_01 {x : Int32} {a : Option tw_R} {ρ : tw_R} (h : (if x = 0 ∨ x = 1 then a else none) = some ρ) : x = 0 ∨ x = 1 := by
  by_cases hx : x = 0 ∨ x = 1
  · exact hx
  · rw [if_neg hx] at h; cases h
theorem tw_ib {i : Int32} {n : Nat} {a : Option tw_R} {ρ : tw_R} (h : (if tw_out i n then none else a) = some ρ) : vp_in i n ∧ a = some ρ := by
  by_cases hx : tw_out i n
  · rw [if_pos hx] at h; cases h
  · rw [if_neg hx] at h; exact ⟨hx, h⟩
theorem tw_nz {x : Int32} (h : x = 0 ∨ x = 1) : narrow .boolean (.int x) = .int x := by
  rcases h with rfl | rfl <;> rfl
theorem tw_fz {x : Int32} (h : x = 0 ∨ x = 1) : fits .boolean (.int x) = true := by
  rcases h with rfl | rfl <;> rfl
theorem tw_vz {x : Int32} (h : x = 0 ∨ x = 1) : vp_nar .boolean x = x := by
  rcases h with rfl | rfl <;> rfl
theorem ts_pi (hC : tw_Cx p s m args meth c cc nL ret own E D) {k j ci N idx : Nat} {C : String} {T : u_T} {fds : List (Option Nat)} (hlay : tw_lay k = .inl (ci, fds)) (hf : fds[j]? = some none) (hcl : tw_cl[ci]? = some (C, T, N)) (hjN : j < N) (hin : ∀ w ∈ u_ws C T N, w ∈ tw_Tb) (hlink : Cond.fieldLink own idx C (T j).2.1 (T j).2.2.1 ∈ tw_Tb) (hT : (T j).1 = C) {ty0 : Nat → FieldType} (hty : ∀ k, k < N → parseFieldDescriptor (T k).2.2.1 = some (ty0 k)) (hnm : ∀ a, a < N → ∀ b, b < N → a ≠ b → (T a).2.1 ≠ (T b).2.1) (hfin : (T j).2.2.2 = false) (hd2 : parseFieldDescriptor (T j).2.2.1 = some .int) (hd : decode cc pc = .ok (.putfield idx, 3)) : tw_Sd p l e R s m args below meth c ce sl Q nL E D ρ pc (pc + 3) (tw_pi k j) := by
  obtain ⟨hx, hb, hml, hr, hlk, hown, hts, hK, hE, hinj, hNW⟩ := hC
  intro next jump hn hj lv st σ h H locs ls hP hS hL
  rcases st with _ | ⟨y | q0, _ | ⟨x | q, st⟩⟩
  · exact tw_no h
  · exact tw_no h
  · exact tw_no h
  · unfold tw_pi at h
    dsimp only at h
    cases hq : (Nat.beq q.2 k && tw_okb q.1 k) with
    | false => rw [hq] at h; exact tw_no h
    | true =>
      rw [hq] at h
      obtain ⟨g, k'⟩ := q
      have hq : (Nat.beq k' k && tw_okb g k) = true := hq
      obtain ⟨e0, ho⟩ := tw_rc hq
      subst e0
      have hat := tw_ws_at E σ ho
      rw [tw_cell_o hlay] at hat
      have hup0 := tw_fvs_up E g (σ g k') y fds 0 j hf
      rw [Nat.zero_add] at hup0
      have hup : (tw_fvs E g (σ g k') 0 fds).set j (tw_c E (.inl y)) = tw_fvs E g (upd (σ g k') j y) 0 fds := hup0
      have hlen : j < (tw_fvs E g (σ g k') 0 fds).length := by rw [tw_fvs_len]; exact (List.getElem?_eq_some_iff.mp hf).1
      refine va_put hx hb hts hin ty0 hty hnm hown hK hP (tw_D hinj σ) hS (tw_ix g k') hat hcl j hjN (hts _ hlink) (fun z hz => by rw [hT] at hz; exact hz) hfin hd2 rfl rfl hlen hd (fun H1 locs1 hP1 hD1 hS1 => ?_)
      rw [hup, ← tw_cell_o hlay, tw_ws_set E σ _ ho, tw_up_pt] at hP1
      exact hn _ _ _ h H1 locs1 ls hP1 hS1 hL
  · exact tw_no h
  · exact tw_no h
  · exact tw_no h
theorem ts_pz (hC : tw_Cx p s m args meth c cc nL ret own E D) {k j ci N idx : Nat} {C : String} {T : u_T} {fds : List (Option Nat)} (hlay : tw_lay k = .inl (ci, fds)) (hf : fds[j]? = some none) (hcl : tw_cl[ci]? = some (C, T, N)) (hjN : j < N) (hin : ∀ w ∈ u_ws C T N, w ∈ tw_Tb) (hlink : Cond.fieldLink own idx C (T j).2.1 (T j).2.2.1 ∈ tw_Tb) (hT : (T j).1 = C) {ty0 : Nat → FieldType} (hty : ∀ k, k < N → parseFieldDescriptor (T k).2.2.1 = some (ty0 k)) (hnm : ∀ a, a < N → ∀ b, b < N → a ≠ b → (T a).2.1 ≠ (T b).2.1) (hfin : (T j).2.2.2 = false) (hd2 : parseFieldDescriptor (T j).2.2.1 = some .boolean) (hd : decode cc pc = .ok (.putfield idx, 3)) : tw_Sd p l e R s m args below meth c ce sl Q nL E D ρ pc (pc + 3) (tw_pz k j) := by
  obtain ⟨hx, hb, hml, hr, hlk, hown, hts, hK, hE, hinj, hNW⟩ := hC
  intro next jump hn hj lv st σ h H locs ls hP hS hL
  rcases st with _ | ⟨y | q0, _ | ⟨x | q, st⟩⟩
  · exact tw_no h
  · exact tw_no h
  · exact tw_no h
  · unfold tw_pz at h
    dsimp only at h
    cases hq : (Nat.beq q.2 k && tw_okb q.1 k) with
    | false => rw [hq] at h; exact tw_no h
    | true =>
      rw [hq] at h
      obtain ⟨g, k'⟩ := q
      have hq : (Nat.beq k' k && tw_okb g k) = true := hq
      obtain ⟨e0, ho⟩ := tw_rc hq
      subst e0
      have hat := tw_ws_at E σ ho
      rw [tw_cell_o hlay] at hat
      have hup0 := tw_fvs_up E g (σ g k') y fds 0 j hf
      rw [Nat.zero_add] at hup0
      have hup : (tw_fvs E g (σ g k') 0 fds).set j (tw_c E (.inl y)) = tw_fvs E g (upd (σ g k') j y) 0 fds := hup0
      have hlen : j < (tw_fvs E g (σ g k') 0 fds).length := by rw [tw_fvs_len]; exact (List.getElem?_eq_some_iff.mp hf).1
      refine va_put hx hb hts hin ty0 hty hnm hown hK hP (tw_D hinj σ) hS (tw_ix g k') hat hcl j hjN (hts _ hlink) (fun z hz => by rw [hT] at hz; exact hz) hfin hd2 (tw_nz (tw_01 h)) (tw_fz (tw_01 h)) hlen hd (fun H1 locs1 hP1 hD1 hS1 => ?_)
      rw [hup, ← tw_cell_o hlay, tw_ws_set E σ _ ho, tw_up_pt] at hP1
      exact hn _ _ _ (tw_pos h (tw_01 h)) H1 locs1 ls hP1 hS1 hL
  · exact tw_no h
  · exact tw_no h
  · exact tw_no h
theorem ts_iaload (hC : tw_Cx p s m args meth c cc nL ret own E D) (hd : decode cc pc = .ok (.iaload, 1)) : tw_Sd p l e R s m args below meth c ce sl Q nL E D ρ pc (pc + 1) tw_ia := by
  obtain ⟨hx, hb, hml, hr, hlk, hown, hts, hK, hE, hinj, hNW⟩ := hC
  intro next jump hn hj lv st σ h H locs ls hP hS hL
  rcases st with _ | ⟨i | q0, _ | ⟨x | q, st⟩⟩
  · exact tw_no h
  · exact tw_no h
  · exact tw_no h
  · unfold tw_ia at h
    dsimp only at h
    split at h
    · rename_i n hl ho
      have hat := tw_ws_at E σ ho
      rw [tw_cell_i hl] at hat
      have hty := tw_tys_at E ho
      rw [tw_ty_i hl] at hty
      exact va_iald hx hb hK hP (tw_ix q.1 q.2) (tw_ix q.1 q.2) hat hty (tw_ib h).1 hd (hn _ _ _ (tw_ib h).2 H locs ls hP hS hL)
    · exact tw_no h
  · exact tw_no h
  · exact tw_no h
  · exact tw_no h
theorem ts_baload (hC : tw_Cx p s m args meth c cc nL ret own E D) (hd : decode cc pc = .ok (.baload, 1)) : tw_Sd p l e R s m args below meth c ce sl Q nL E D ρ pc (pc + 1) tw_za := by
  obtain ⟨hx, hb, hml, hr, hlk, hown, hts, hK, hE, hinj, hNW⟩ := hC
  intro next jump hn hj lv st σ h H locs ls hP hS hL
  rcases st with _ | ⟨i | q0, _ | ⟨x | q, st⟩⟩
  · exact tw_no h
  · exact tw_no h
  · exact tw_no h
  · unfold tw_za at h
    dsimp only at h
    split at h
    · rename_i n hl ho
      have hat := tw_ws_at E σ ho
      rw [tw_cell_z hl] at hat
      have hty := tw_tys_at E ho
      rw [tw_ty_z hl (tw_lay_z (tw_okb_lt ho) hl)] at hty
      exact va_zald hx hb hK hP (tw_ix q.1 q.2) (tw_ix q.1 q.2) hat hty (tw_ib h).1 hd (hn _ _ _ (tw_ib h).2 H locs ls hP hS hL)
    · exact tw_no h
  · exact tw_no h
  · exact tw_no h
  · exact tw_no h
theorem ts_aaload (hC : tw_Cx p s m args meth c cc nL ret own E D) (hd : decode cc pc = .ok (.aaload, 1)) : tw_Sd p l e R s m args below meth c ce sl Q nL E D ρ pc (pc + 1) tw_ga := by
  obtain ⟨hx, hb, hml, hr, hlk, hown, hts, hK, hE, hinj, hNW⟩ := hC
  intro next jump hn hj lv st σ h H locs ls hP hS hL
  rcases st with _ | ⟨i | q0, _ | ⟨x | q, st⟩⟩
  · exact tw_no h
  · exact tw_no h
  · exact tw_no h
  · unfold tw_ga at h
    dsimp only at h
    cases hq : (Nat.beq q.2 21 && !q.1) with
    | false => rw [hq] at h; exact tw_no h
    | true =>
      rw [hq] at h
      rw [Bool.and_eq_true] at hq
      obtain ⟨g, k⟩ := q
      have hk : k = 21 := Nat.eq_of_beq_eq_true hq.1
      have hg : g = false := by simpa using hq.2
      subst hk
      subst hg
      have hat := tw_ws_at E σ (g := false) (c := 21) rfl
      have hty := tw_tys_at E (g := false) (c := 21) rfl
      exact va_aldq (C := "TwinHost$Guest") (f := fun j => some (tw_adr E (j == 1) 0)) hx hb hK hP (tw_ix false 21) (tw_ix false 21) hat hty (tw_ib h).1 hd (hn _ _ _ (tw_ib h).2 H locs ls hP hS hL)
  · exact tw_no h
  · exact tw_no h
  · exact tw_no h
theorem ts_iastore (hC : tw_Cx p s m args meth c cc nL ret own E D) {a b : Nat} (hd : decode cc pc = .ok (.iastore, 1)) : tw_Sd p l e R s m args below meth c ce sl Q nL E D ρ pc (pc + 1) (tw_ias a b) := by
  obtain ⟨hx, hb, hml, hr, hlk, hown, hts, hK, hE, hinj, hNW⟩ := hC
  intro next jump hn hj lv st σ h H locs ls hP hS hL
  rcases st with _ | ⟨x | q0, _ | ⟨i | q1, _ | ⟨z | q, st⟩⟩⟩ <;> first | exact tw_no h | skip
  unfold tw_ias at h
  dsimp only at h
  split at h
  · rename_i n hl ho0
    rw [Bool.and_eq_true] at ho0
    have ho := ho0.1
    have hat := tw_ws_at E σ ho
    rw [tw_cell_i hl] at hat
    have hty := tw_tys_at E ho
    rw [tw_ty_i hl] at hty
    refine va_iast hx hb hK hP (tw_D hinj σ) hS (tw_ix q.1 q.2) (tw_ix q.1 q.2) hat hty (tw_ib h).1 hd (fun H1 locs1 hP1 hD1 hS1 => ?_)
    rw [← tw_cell_i hl, tw_ws_set E σ _ ho, tw_up_pt] at hP1
    exact hn _ _ _ (tw_ib h).2 H1 locs1 ls hP1 hS1 hL
  · exact tw_no h
theorem ts_bastore (hC : tw_Cx p s m args meth c cc nL ret own E D) {a b : Nat} (hd : decode cc pc = .ok (.bastore, 1)) : tw_Sd p l e R s m args below meth c ce sl Q nL E D ρ pc (pc + 1) (tw_zas a b) := by
  obtain ⟨hx, hb, hml, hr, hlk, hown, hts, hK, hE, hinj, hNW⟩ := hC
  intro next jump hn hj lv st σ h H locs ls hP hS hL
  rcases st with _ | ⟨x | q0, _ | ⟨i | q1, _ | ⟨z | q, st⟩⟩⟩ <;> first | exact tw_no h | skip
  unfold tw_zas at h
  dsimp only at h
  split at h
  · rename_i n hl ho0
    rw [Bool.and_eq_true] at ho0
    have ho := ho0.1
    have hat := tw_ws_at E σ ho
    rw [tw_cell_z hl] at hat
    have hty := tw_tys_at E ho
    rw [tw_ty_z hl (tw_lay_z (tw_okb_lt ho) hl)] at hty
    refine va_zast hx hb hK hP (tw_D hinj σ) hS (tw_ix q.1 q.2) (tw_ix q.1 q.2) hat hty (tw_ib h).1 hd (fun H1 locs1 hP1 hD1 hS1 => ?_)
    rw [tw_vz (tw_01 (tw_ib h).2), ← tw_cell_z hl, tw_ws_set E σ _ ho, tw_up_pt] at hP1
    exact hn _ _ _ (tw_pos (tw_ib h).2 (tw_01 (tw_ib h).2)) H1 locs1 ls hP1 hS1 hL
  · exact tw_no h
theorem ts_getA (hC : tw_Cx p s m args meth c cc nL ret own E D) {i idx : Nat} {nm : String} (hi : i < 3) (hnm : (["FETCH", "LOAD", "STORE"] : List String).getD i "" = nm) (hlink : Cond.fieldLink own idx "TwinHost$Access" nm "LTwinHost$Access;" ∈ tw_Tb) (hd : decode cc pc = .ok (.getstatic idx, 3)) : tw_Sd p l e R s m args below meth c ce sl Q nL E D ρ pc (pc + 3) (tw_en (50 + i)) := by
  obtain ⟨hx, hb, hml, hr, hlk, hown, hts, hK, hE, hinj, hNW⟩ := hC
  intro next jump hn hj lv st σ h H locs ls hP hS hL
  have hz := (hE.1.1 i hi).1
  rw [hnm] at hz
  refine va_gets hx hb hz hS hown (hts _ hlink) (fun _ z => z) hd ?_
  have hk := hn _ _ _ h H locs ls hP hS hL
  have ha : tw_adr E false (50 + i) = E.2.2.1 i := by
    unfold tw_adr
    rw [if_neg (by omega), if_pos (by omega), show 50 + i - 50 = i by omega]
  have hk2 : W p l e R s m args below meth c H locs ce sl Q (F0 m (pc + 3) ls (.ref (tw_adr E false (50 + i)) :: st.map (tw_c E))) := hk
  rw [ha] at hk2
  exact hk2
theorem ts_getO (hC : tw_Cx p s m args meth c cc nL ret own E D) {i idx : Nat} {nm : String} (hi : i < 3) (hnm : (["RETIRED", "TRAPPED", "STALLED"] : List String).getD i "" = nm) (hlink : Cond.fieldLink own idx "TwinHost$Outcome" nm "LTwinHost$Outcome;" ∈ tw_Tb) (hd : decode cc pc = .ok (.getstatic idx, 3)) : tw_Sd p l e R s m args below meth c ce sl Q nL E D ρ pc (pc + 3) (tw_en (60 + i)) := by
  obtain ⟨hx, hb, hml, hr, hlk, hown, hts, hK, hE, hinj, hNW⟩ := hC
  intro next jump hn hj lv st σ h H locs ls hP hS hL
  have hz := (hE.2.1 i hi).1
  rw [hnm] at hz
  refine va_gets hx hb hz hS hown (hts _ hlink) (fun _ z => z) hd ?_
  have hk := hn _ _ _ h H locs ls hP hS hL
  have ha : tw_adr E false (60 + i) = E.2.2.2.1 i := by
    unfold tw_adr
    rw [if_neg (by omega), if_neg (by omega), if_pos (by omega), show 60 + i - 60 = i by omega]
  have hk2 : W p l e R s m args below meth c H locs ce sl Q (F0 m (pc + 3) ls (.ref (tw_adr E false (60 + i)) :: st.map (tw_c E))) := hk
  rw [ha] at hk2
  exact hk2
theorem tw_acc_all : ((List.range 3).all (fun i => ([8, 2, 4] : List Int32).getD i 0 == tw_acc 0 i && (([1, 5, 7] : List Int32).getD i 0 == tw_acc 1 i && ([12, 13, 15] : List Int32).getD i 0 == tw_acc 2 i))) = true := by decide +kernel
theorem ts_ge (hC : tw_Cx p s m args meth c cc nL ret own E D) {j idx : Nat} {q0 : String × String × String × List Int32} (hq0 : q0 ∈ ([("TwinHost$Access", "need", "I", [8, 2, 4]), ("TwinHost$Access", "outside", "I", [1, 5, 7]), ("TwinHost$Access", "pageFault", "I", [12, 13, 15])] : List (String × String × String × List Int32))) (hv : ∀ i, i < 3 → q0.2.2.2.getD i 0 = tw_acc j i) (hq1 : q0.1 = "TwinHost$Access") (hlink : Cond.fieldLink own idx "TwinHost$Access" q0.2.1 q0.2.2.1 ∈ tw_Tb) (hd : decode cc pc = .ok (.getfield idx, 3)) : tw_Sd p l e R s m args below meth c ce sl Q nL E D ρ pc (pc + 3) (tw_ge j) := by
  obtain ⟨hx, hb, hml, hr, hlk, hown, hts, hK, hE, hinj, hNW⟩ := hC
  intro next jump hn hj lv st σ h H locs ls hP hS hL
  rcases st with _ | ⟨x | q, st⟩
  · exact tw_no h
  · exact tw_no h
  · unfold tw_ge at h
    dsimp only at h
    cases hq : (Nat.ble 50 q.2 && Nat.blt q.2 53) with
    | false => rw [hq] at h; exact tw_no h
    | true =>
      rw [hq] at h
      rw [Bool.and_eq_true] at hq
      have h1 : 50 ≤ q.2 := Nat.le_of_ble_eq_true hq.1
      have h2 : q.2 < 53 := Nat.blt_eq.mp hq.2
      have ha : tw_adr E q.1 q.2 = E.2.2.1 (q.2 - 50) := by
        unfold tw_adr
        rw [if_neg (by omega), if_pos (by omega)]
      have hk := va_getE hx hb hE.1 (i := q.2 - 50) (by show q.2 - 50 < 3; omega) hS hown hq0 (hts _ hlink) (fun z hz => by rw [hq1] at hz; exact hz) hd (by rw [hv _ (by omega)]; exact hn _ _ _ h H locs ls hP hS hL)
      rw [← ha] at hk
      exact hk
end TWS2
/-- a method's start and end in these words -/
def tw_Pi (E : tw_E) (D : va_G) (σ : tw_S) (U : State) : Prop := va_P D tw_cl (tw_ws E σ) U.heap ∧ va_K D tw_cl (tw_tys E) U ∧ tw_EN E U U.heap ∧ tw_NW U
def tw_Pc (E : tw_E) (D : va_G) (vs : List tw_V) (σ : tw_S) : Array Value → State → Prop := va_Pc (vs.map (tw_c E)) (tw_Pi E D σ)
def tw_Qc (E : tw_E) (D : va_G) (ρ : tw_R) : Array Value → State → Outcome → State → Prop := fun _ st oc t => (oc = .returned (ρ.1.map (tw_c E)) ∧ va_P D tw_cl (tw_ws E ρ.2) t.heap) ∧ va_F (tw_A E) st t
theorem tw_blind (E : tw_E) (D : va_G) (vs : List tw_V) (σ : tw_S) : FrameBlind (tw_Pc E D vs σ) := fun a U g mk q => by
  obtain ⟨q0, qP, qK, qE, qN⟩ := q
  exact ⟨q0, qP, va_K.moved (u := U) (U := U.calling g mk a) (Vm.Alike.refl U.vm) qK, tw_EN.moved (u := U) (U := U.calling g mk a) (Vm.Alike.refl U.vm) qE, fun z hz => va_Nw.same rfl (rfl : U.vm = (U.calling g mk a).vm) (qN z hz)⟩
def tw_rmd (d : Nat) : Room := { frames := d, cells := 0, slots := 0, locals := 40 * d }
/-- method y does what f says, with d frames below it at most -/
def tw_Con (y : MethodName) (cc : ByteArray) (maxL : Nat) (ret : Option FieldType) (d : Nat) (f : tw_Fn) : Prop := ∀ (l : Launch) (E : tw_E) (D : va_G), tw_inj E → ∀ (vs : List tw_V) (σ : tw_S) (ρ : tw_R), f vs σ = some ρ → Met l y (.code y cc maxL ret :: tw_Tb) (tw_rmd d) (tw_Pc E D vs σ) (tw_Qc E D ρ) 0 0 (tw_A E)
section TWS3
variable {p : Program} {l : Launch} {e : Env} {R : Room} {s : State} {m : MethodId} {args : Array Value} {below : List Frame} {meth : Method} {c : Code} {ce sl : Nat} {Q : State → Prop} {cc : ByteArray} {nL : Nat} {ret : Option FieldType} {own : String} {E : tw_E} {D : va_G} {ρ : tw_R} {pc : Nat}
theorem ts_vret (hC : tw_Cx p s m args meth c cc nL ret own E D) (hr0 : ret = none) (hd : decode cc pc = .ok (.return_, 1)) {pn : Nat} : tw_Sd p l e R s m args below meth c ce sl (MQ below (tw_Qc E D ρ) args s ce sl (tw_A E)) nL E D ρ pc pn tw_r0 := by
  obtain ⟨hx, hb, hml, hr, hlk, hown, hts, hK, hE, hinj, hNW⟩ := hC
  intro next jump hn hj lv st σ h H locs ls hP hS hL
  rcases st with _ | ⟨x, st⟩ <;> first | exact tw_no h | skip
  have h1 : some ((none : Option tw_V), σ) = some ρ := h
  obtain rfl := Option.some.inj h1
  exact W.vret hx hb (hr.trans hr0) (fun t ht hW => ⟨⟨rfl, by rw [ht]; exact hP⟩, hS.F ht⟩) hS.2.2 hd hlk
theorem ts_iret (hC : tw_Cx p s m args meth c cc nL ret own E D) (hr0 : ret = some .int) (hd : decode cc pc = .ok (.ireturn, 1)) {pn : Nat} : tw_Sd p l e R s m args below meth c ce sl (MQ below (tw_Qc E D ρ) args s ce sl (tw_A E)) nL E D ρ pc pn tw_ri := by
  obtain ⟨hx, hb, hml, hr, hlk, hown, hts, hK, hE, hinj, hNW⟩ := hC
  intro next jump hn hj lv st σ h H locs ls hP hS hL
  rcases st with _ | ⟨x | q, _ | ⟨y, st⟩⟩ <;> first | exact tw_no h | skip
  have h1 : some ((some (.inl x) : Option tw_V), σ) = some ρ := h
  obtain rfl := Option.some.inj h1
  exact W.iret hx hb (hr.trans hr0) (fun t ht hW => ⟨⟨rfl, by rw [ht]; exact hP⟩, hS.F ht⟩) hS.2.2 hd hlk
theorem ts_zret (hC : tw_Cx p s m args meth c cc nL ret own E D) (hr0 : ret = some .boolean) (hd : decode cc pc = .ok (.ireturn, 1)) {pn : Nat} : tw_Sd p l e R s m args below meth c ce sl (MQ below (tw_Qc E D ρ) args s ce sl (tw_A E)) nL E D ρ pc pn tw_rz := by
  obtain ⟨hx, hb, hml, hr, hlk, hown, hts, hK, hE, hinj, hNW⟩ := hC
  intro next jump hn hj lv st σ h H locs ls hP hS hL
  rcases st with _ | ⟨x | q, _ | ⟨y, st⟩⟩ <;> first | exact tw_no h | skip
  have h0 : (if x = 0 ∨ x = 1 then some (some (.inl x), σ) else none) = some ρ := h
  have hz := tw_01 h0
  have h1 := tw_pos h0 hz
  obtain rfl := Option.some.inj h1
  exact W.zret (ty := .boolean) hx hb (hr.trans hr0) (tw_nz hz) (fun t ht hW => ⟨⟨rfl, by rw [ht]; exact hP⟩, hS.F ht⟩) hS.2.2 hd hlk
theorem ts_aret (hC : tw_Cx p s m args meth c cc nL ret own E D) {n0 : String} (hr0 : ret = some (.object n0)) (hd : decode cc pc = .ok (.areturn, 1)) {pn : Nat} : tw_Sd p l e R s m args below meth c ce sl (MQ below (tw_Qc E D ρ) args s ce sl (tw_A E)) nL E D ρ pc pn tw_ra := by
  obtain ⟨hx, hb, hml, hr, hlk, hown, hts, hK, hE, hinj, hNW⟩ := hC
  intro next jump hn hj lv st σ h H locs ls hP hS hL
  rcases st with _ | ⟨x | q, _ | ⟨y, st⟩⟩ <;> first | exact tw_no h | skip
  have h1 : some ((some (.inr q) : Option tw_V), σ) = some ρ := h
  obtain rfl := Option.some.inj h1
  exact W.aret hx hb (hr.trans hr0) (Or.inl ⟨n0, rfl⟩) (Or.inr ⟨_, rfl⟩) (fun t ht hW => ⟨⟨rfl, by rw [ht]; exact hP⟩, hS.F ht⟩) hS.2.2 hd hlk
/-- behind a call -/
theorem tw_after {H : Heap} {locs : List Loc} {ls : Array Slot} {st0 rest : List Value} {a : Array Value} {ρ1 : tw_R} (hr : va_Run p l e R s m args below meth c H locs ce sl 0 0 (F0 m pc ls st0) rest (tw_Qc E D ρ1 a) (tw_A E)) (hS : va_S (tw_A E) s.heap H locs)
    (kk : ∀ (H1 : Heap) (locs1 : List Loc), va_P D tw_cl (tw_ws E ρ1.2) H1 → va_S (tw_A E) s.heap H1 locs1 → W p l e R s m args below meth c H1 locs1 ce sl Q (F0 m (pc + 3) ls ((ρ1.1.map (tw_c E)).toList ++ rest))) : W p l e R s m args below meth c H locs ce sl Q (F0 m pc ls st0) := by
  intro T hT X
  obtain ⟨v, st₀, t, T', L, h0, X', hL, e1, e2, ⟨⟨hv, hb⟩, hz, hk⟩, st⟩ := hr T hT X
  cases hv
  rw [h0] at hz hk
  obtain ⟨t2, a1, b1⟩ := kk T'.heap (locs ++ L) (by rw [e1]; exact hb)
    ⟨Nat.le_trans hS.1 (by rw [e1]; exact hz), fun q h1 h2 => by rw [e1, hk q (Nat.lt_of_lt_of_le h1 hS.1) h2]; exact hS.2.1 q h1 h2, fun q hq => by
      rcases List.mem_append.mp hq with h | h
      · exact hS.2.2 q h
      · exact hL q h⟩ T' rfl X'
  exact ⟨t2, st t2 a1, b1⟩
theorem tw_good : ∀ {y : MethodName} {cc2 : ByteArray} {maxL : Nat} {ret2 : Option FieldType}, Cond.code y cc2 maxL ret2 ∈ tw_Tb → GoodIn tw_Tb (.code y cc2 maxL ret2 :: tw_Tb) := fun hc w hw => by
  rcases List.mem_cons.mp hw with h | h
  · subst h; exact ⟨hc, Or.inl rfl⟩
  · exact ⟨h, tw_Tb_good w h⟩
theorem tw_pre {H : Heap} {locs : List Loc} {σ : tw_S} {vs : List tw_V} (hC : tw_Cx p s m args meth c cc nL ret own E D) (hP : va_P D tw_cl (tw_ws E σ) H) (hS : va_S (tw_A E) s.heap H locs) : PreS s H (tw_Pc E D vs σ) (vs.map (tw_c E)) :=
  ⟨tw_blind E D vs σ, fun U hU hW => ⟨rfl, by rw [hU]; exact hP, va_K.moved hW.alike hC.2.2.2.2.2.2.2.1, by rw [hU]; exact tw_EN.moved hW.alike (hC.2.2.2.2.2.2.2.2.1.kept hS.2.1), fun z hz => va_Nw.warmM hW (hC.2.2.2.2.2.2.2.2.2.2 z hz)⟩⟩
theorem tw_sum (E : tw_E) (st : List tw_V) : ((st.map (tw_c E)).map fun v => v.category).sum = st.length := by
  induction st with
  | nil => rfl
  | cons a r ih => rw [List.map_cons, List.map_cons, List.sum_cons, ih, tw_cat, List.length_cons]; omega
theorem tw_omap (E : tw_E) (r : Option tw_V) (rest : List tw_V) : (r.map (tw_c E)).toList ++ rest.map (tw_c E) = (r.toList ++ rest).map (tw_c E) := by
  cases r <;> simp
theorem ts_calls (hC : tw_Cx p s m args meth c cc nL ret own E D) {y : MethodName} {cc2 : ByteArray} {maxL n d idx : Nat} {ret2 : Option FieldType} {f : tw_Fn} (hM : tw_Con y cc2 maxL ret2 d f) (hcode : Cond.code y cc2 maxL ret2 ∈ tw_Tb) (hini : Cond.initialized y.cls ∈ tw_Tb) (hdd : y.cls ≠ "java/lang/invoke/MethodHandle" ∧ y.cls ≠ "java/lang/invoke/VarHandle" ∧ (parseMethodDescriptor y.desc).map (fun d => d.parameters.length) = some n) (hR : (tw_rmd d).frames + 1 ≤ R.frames ∧ 8 + (maxL + 11) + (tw_rmd d).locals ≤ R.locals) (hrm : ce ≤ R.cells ∧ sl ≤ R.slots) (hlk : Cond.methodLink own idx y ∈ tw_Tb) (hst : Cond.static y ∈ tw_Tb) (hd : decode cc pc = .ok (.invokestatic idx, 3)) : tw_Sd p l e R s m args below meth c ce sl Q nL E D ρ pc (pc + 3) (tw_cs n f) := by
  intro next jump hn hj lv st σ h H locs ls hP hS hL
  unfold tw_cs at h
  cases hq : (Nat.ble n st.length && Nat.ble (st.drop n).length 8) with
  | false => rw [hq] at h; exact tw_no h
  | true =>
    rw [hq] at h
    rw [Bool.and_eq_true] at hq
    have hlen : n ≤ st.length := Nat.le_of_ble_eq_true hq.1
    have hl8 : (st.drop n).length ≤ 8 := Nat.le_of_ble_eq_true hq.2
    have hstk : st.map (tw_c E) = (((st.take n).reverse).map (tw_c E)).reverse ++ (st.drop n).map (tw_c E) := by
      rw [← List.map_reverse, List.reverse_reverse, ← List.map_append, List.take_append_drop]
    cases hf : f (st.take n).reverse σ with
    | none => rw [hf] at h; exact tw_no h
    | some ρ1 =>
      rw [hf] at h
      refine tw_after (ρ1 := ρ1) (rest := (st.drop n).map (tw_c E)) (va_runS (As := ((st.take n).reverse).map (tw_c E)) ⟨hC.1, hC.2.1, hC.2.2.1, hC.2.2.2.2.2.1, hC.2.2.2.2.2.2.1⟩ (hM l E D hC.2.2.2.2.2.2.2.2.2.1 _ σ _ hf) ⟨callB_of n hC.2.2.2.2.2.2.1 (tw_good hcode) rfl rfl rfl (hC.2.2.2.2.2.2.1 _ hini) (hC.2.2.2.2.2.2.1 _ hlk) hdd hR, hC.2.2.2.2.2.2.1 _ hst⟩ (tw_pre hC hP hS) rfl (by simp [hlen]) hL.1 hstk (lv_room (by rw [tw_sum]; exact hl8)) hd hrm) hS (fun H1 locs1 hP1 hS1 => ?_)
      rw [tw_omap]
      exact hn _ _ _ h H1 locs1 ls hP1 hS1 hL
theorem ts_callsN (hC : tw_Cx p s m args meth c cc nL ret own E D) {y : MethodName} {cc2 : ByteArray} {maxL n d idx : Nat} {ret2 : Option FieldType} {f : tw_Fn} (hM : tw_Con y cc2 maxL ret2 d f) (hcode : Cond.code y cc2 maxL ret2 ∈ tw_Tb) (hini : Cond.initialized y.cls ∈ tw_Tb) (hdd : y.cls ≠ "java/lang/invoke/MethodHandle" ∧ y.cls ≠ "java/lang/invoke/VarHandle" ∧ (parseMethodDescriptor y.desc).map (fun d => d.parameters.length) = some n) (hR : (tw_rmd d).frames + 1 ≤ R.frames ∧ 8 + (maxL + 11) + (tw_rmd d).locals ≤ R.locals) (hrm : ce ≤ R.cells ∧ sl ≤ R.slots) {host : String} (hlk : (own, idx, y, host) ∈ tw_Ne) (hst : Cond.static y ∈ tw_Tb) (hd : decode cc pc = .ok (.invokestatic idx, 3)) : tw_Sd p l e R s m args below meth c ce sl Q nL E D ρ pc (pc + 3) (tw_cs n f) := by
  intro next jump hn hj lv st σ h H locs ls hP hS hL
  unfold tw_cs at h
  cases hq : (Nat.ble n st.length && Nat.ble (st.drop n).length 8) with
  | false => rw [hq] at h; exact tw_no h
  | true =>
    rw [hq] at h
    rw [Bool.and_eq_true] at hq
    have hlen : n ≤ st.length := Nat.le_of_ble_eq_true hq.1
    have hl8 : (st.drop n).length ≤ 8 := Nat.le_of_ble_eq_true hq.2
    have hstk : st.map (tw_c E) = (((st.take n).reverse).map (tw_c E)).reverse ++ (st.drop n).map (tw_c E) := by
      rw [← List.map_reverse, List.reverse_reverse, ← List.map_append, List.take_append_drop]
    cases hf : f (st.take n).reverse σ with
    | none => rw [hf] at h; exact tw_no h
    | some ρ1 =>
      rw [hf] at h
      refine tw_after (ρ1 := ρ1) (rest := (st.drop n).map (tw_c E)) (va_runSN (host := host) (As := ((st.take n).reverse).map (tw_c E)) ⟨hC.1, hC.2.1, hC.2.2.1, hC.2.2.2.2.2.1, hC.2.2.2.2.2.2.1⟩ (hM l E D hC.2.2.2.2.2.2.2.2.2.1 _ σ _ hf) ⟨va_cnB n hC.2.2.2.2.2.2.1 (tw_good hcode) rfl rfl rfl (hC.2.2.2.2.2.2.2.2.2.2 _ hlk) (hC.2.2.2.2.2.2.1 _ hini) hdd hR, hC.2.2.2.2.2.2.1 _ hst, trivial⟩ (tw_pre hC hP hS) rfl (by simp [hlen]) hL.1 hstk (lv_room (by rw [tw_sum]; exact hl8)) hd hrm) hS (fun H1 locs1 hP1 hS1 => ?_)
      rw [tw_omap]
      exact hn _ _ _ h H1 locs1 ls hP1 hS1 hL
theorem ts_callv (hC : tw_Cx p s m args meth c cc nL ret own E D) {y : MethodName} {cc2 : ByteArray} {maxL n d idx : Nat} {ret2 : Option FieldType} {f : tw_Fn} (hM : tw_Con y cc2 maxL ret2 d f) (hcode : Cond.code y cc2 maxL ret2 ∈ tw_Tb) (hini : Cond.initialized y.cls ∈ tw_Tb) (hdd : y.cls ≠ "java/lang/invoke/MethodHandle" ∧ y.cls ≠ "java/lang/invoke/VarHandle" ∧ (parseMethodDescriptor y.desc).map (fun d => d.parameters.length) = some n) (hR : (tw_rmd d).frames + 1 ≤ R.frames ∧ 8 + (maxL + 11) + (tw_rmd d).locals ≤ R.locals) (hrm : ce ≤ R.cells ∧ sl ≤ R.slots) (hlk : Cond.methodLink own idx y ∈ tw_Tb) {k ci : Nat} {C : String} {T : u_T} {N : Nat} {fds : List (Option Nat)} (hlay : tw_lay k = .inl (ci, fds)) (hcl : tw_cl[ci]? = some (C, T, N)) (hinst : Cond.instanceMethod y ∈ tw_Tb) (hsel : Cond.selects C y y ∈ tw_Tb) (hd : decode cc pc = .ok (.invokevirtual idx, 3)) : tw_Sd p l e R s m args below meth c ce sl Q nL E D ρ pc (pc + 3) (tw_cv n k f) := by
  intro next jump hn hj lv st σ h H locs ls hP hS hL
  unfold tw_cv at h
  cases hdr : st.drop n with
  | nil => rw [hdr] at h; exact tw_no h
  | cons v rest =>
    rw [hdr] at h
    rcases v with x | q
    · exact tw_no h
    · dsimp only at h
      cases hq : (Nat.ble rest.length 8 && (Nat.beq q.2 k && tw_okb q.1 k)) with
      | false => rw [hq] at h; exact tw_no h
      | true =>
        rw [hq] at h
        rw [Bool.and_eq_true] at hq
        obtain ⟨g, k'⟩ := q
        have hq2 : (Nat.beq k' k && tw_okb g k) = true := hq.2
        obtain ⟨e0, ho⟩ := tw_rc hq2
        subst e0
        have hl8 : rest.length ≤ 8 := Nat.le_of_ble_eq_true hq.1
        have hlen : n ≤ st.length := by
          by_cases hz : n ≤ st.length
          · exact hz
          · rw [List.drop_eq_nil_of_le (by omega)] at hdr; cases hdr
        have hstk : st.map (tw_c E) = (((st.take n).reverse).map (tw_c E)).reverse ++ .ref (tw_adr E g k') :: rest.map (tw_c E) := by
          rw [← List.map_reverse, List.reverse_reverse]
          have h9 : st = st.take n ++ .inr (g, k') :: rest := by rw [← hdr, List.take_append_drop]
          conv => lhs; rw [h9]
          rw [List.map_append]
          rfl
        have hat := tw_ws_at E σ ho
        rw [tw_cell_o hlay] at hat
        have hpre := tw_pre (vs := .inr (g, k') :: (st.take n).reverse) hC hP hS
        cases hf : f (.inr (g, k') :: (st.take n).reverse) σ with
        | none => rw [hf] at h; exact tw_no h
        | some ρ1 =>
        rw [hf] at h
        refine tw_after (ρ1 := ρ1) (rest := rest.map (tw_c E)) (va_runV (C := C) (b := tw_adr E g k') (As := ((st.take n).reverse).map (tw_c E)) ⟨hC.1, hC.2.1, hC.2.2.1, hC.2.2.2.2.2.1, hC.2.2.2.2.2.2.1⟩ (hM l E D hC.2.2.2.2.2.2.2.2.2.1 _ σ _ hf) ⟨callB_of n hC.2.2.2.2.2.2.1 (tw_good hcode) rfl rfl rfl (hC.2.2.2.2.2.2.1 _ hini) (hC.2.2.2.2.2.2.1 _ hlk) hdd hR, hC.2.2.2.2.2.2.1 _ hinst, hC.2.2.2.2.2.2.1 _ hsel⟩ ⟨hpre.1, va_recv hC.2.2.2.2.2.2.2.1 hP hcl hat, hpre.2⟩ rfl (by simp [hlen]) hL.1 hstk (lv_room (by rw [tw_sum]; exact hl8)) hd hrm) hS (fun H1 locs1 hP1 hS1 => ?_)
        rw [tw_omap]
        exact hn _ _ _ h H1 locs1 ls hP1 hS1 hL
theorem ts_callvN (hC : tw_Cx p s m args meth c cc nL ret own E D) {y : MethodName} {cc2 : ByteArray} {maxL n d idx : Nat} {ret2 : Option FieldType} {f : tw_Fn} (hM : tw_Con y cc2 maxL ret2 d f) (hcode : Cond.code y cc2 maxL ret2 ∈ tw_Tb) (hini : Cond.initialized y.cls ∈ tw_Tb) (hdd : y.cls ≠ "java/lang/invoke/MethodHandle" ∧ y.cls ≠ "java/lang/invoke/VarHandle" ∧ (parseMethodDescriptor y.desc).map (fun d => d.parameters.length) = some n) (hR : (tw_rmd d).frames + 1 ≤ R.frames ∧ 8 + (maxL + 11) + (tw_rmd d).locals ≤ R.locals) (hrm : ce ≤ R.cells ∧ sl ≤ R.slots) {host : String} (hlk : (own, idx, y, host) ∈ tw_Ne) {k ci : Nat} {C : String} {T : u_T} {N : Nat} {fds : List (Option Nat)} (hlay : tw_lay k = .inl (ci, fds)) (hcl : tw_cl[ci]? = some (C, T, N)) (hinst : Cond.instanceMethod y ∈ tw_Tb) (hsel : Cond.selects C y y ∈ tw_Tb) (hd : decode cc pc = .ok (.invokevirtual idx, 3)) : tw_Sd p l e R s m args below meth c ce sl Q nL E D ρ pc (pc + 3) (tw_cv n k f) := by
  intro next jump hn hj lv st σ h H locs ls hP hS hL
  unfold tw_cv at h
  cases hdr : st.drop n with
  | nil => rw [hdr] at h; exact tw_no h
  | cons v rest =>
    rw [hdr] at h
    rcases v with x | q
    · exact tw_no h
    · dsimp only at h
      cases hq : (Nat.ble rest.length 8 && (Nat.beq q.2 k && tw_okb q.1 k)) with
      | false => rw [hq] at h; exact tw_no h
      | true =>
        rw [hq] at h
        rw [Bool.and_eq_true] at hq
        obtain ⟨g, k'⟩ := q
        have hq2 : (Nat.beq k' k && tw_okb g k) = true := hq.2
        obtain ⟨e0, ho⟩ := tw_rc hq2
        subst e0
        have hl8 : rest.length ≤ 8 := Nat.le_of_ble_eq_true hq.1
        have hlen : n ≤ st.length := by
          by_cases hz : n ≤ st.length
          · exact hz
          · rw [List.drop_eq_nil_of_le (by omega)] at hdr; cases hdr
        have hstk : st.map (tw_c E) = (((st.take n).reverse).map (tw_c E)).reverse ++ .ref (tw_adr E g k') :: rest.map (tw_c E) := by
          rw [← List.map_reverse, List.reverse_reverse]
          have h9 : st = st.take n ++ .inr (g, k') :: rest := by rw [← hdr, List.take_append_drop]
          conv => lhs; rw [h9]
          rw [List.map_append]
          rfl
        have hat := tw_ws_at E σ ho
        rw [tw_cell_o hlay] at hat
        have hpre := tw_pre (vs := .inr (g, k') :: (st.take n).reverse) hC hP hS
        cases hf : f (.inr (g, k') :: (st.take n).reverse) σ with
        | none => rw [hf] at h; exact tw_no h
        | some ρ1 =>
        rw [hf] at h
        refine tw_after (ρ1 := ρ1) (rest := rest.map (tw_c E)) (va_runVN (host := host) (C := C) (b := tw_adr E g k') (As := ((st.take n).reverse).map (tw_c E)) ⟨hC.1, hC.2.1, hC.2.2.1, hC.2.2.2.2.2.1, hC.2.2.2.2.2.2.1⟩ (hM l E D hC.2.2.2.2.2.2.2.2.2.1 _ σ _ hf) ⟨va_cnB n hC.2.2.2.2.2.2.1 (tw_good hcode) rfl rfl rfl (hC.2.2.2.2.2.2.2.2.2.2 _ hlk) (hC.2.2.2.2.2.2.1 _ hini) hdd hR, hC.2.2.2.2.2.2.1 _ hinst, hC.2.2.2.2.2.2.1 _ hsel⟩ ⟨hpre.1, va_recv hC.2.2.2.2.2.2.2.1 hP hcl hat, hpre.2⟩ rfl (by simp [hlen]) hL.1 hstk (lv_room (by rw [tw_sum]; exact hl8)) hd hrm) hS (fun H1 locs1 hP1 hS1 => ?_)
        rw [tw_omap]
        exact hn _ _ _ h H1 locs1 ls hP1 hS1 hL
end TWS3
theorem tw_lvnone (E : tw_E) : ∀ (n k : Nat), tw_lvf E k (List.replicate n none) = []
  | 0, _ => rfl
  | n + 1, k => tw_lvnone E n (k + 1)
theorem tw_lvargs (E : tw_E) (n : Nat) : ∀ (vs : List tw_V) (k : Nat), lv_args k (vs.map (tw_c E)) = tw_lvf E k (vs.map some ++ List.replicate n none)
  | [], k => (tw_lvnone E n k).symm
  | v :: r, k => by
    have h := tw_cat E v
    show (k, tw_c E v) :: lv_args (if (tw_c E v).category = 2 then k + 2 else k + 1) (r.map (tw_c E)) = (k, tw_c E v) :: tw_lvf E (k + 1) (r.map some ++ List.replicate n none)
    rw [h, if_neg (by decide), tw_lvargs E n r (k + 1)]
theorem tw_lgsl (E : tw_E) : ∀ (vs : List tw_V), (lg_sl (vs.map (tw_c E))).length = vs.length
  | [] => rfl
  | v :: r => by
    have ih := tw_lgsl E r
    have e : lg_sl ((v :: r).map (tw_c E)) = Slot.val (tw_c E v) :: lg_sl (r.map (tw_c E)) := by
      rcases v with x | q <;> rfl
    rw [e, List.length_cons, ih, List.length_cons]
/-- a method whose walk is good from its entry keeps its contract -/
theorem tw_met {y : MethodName} {cc : ByteArray} {maxL : Nat} {ret : Option FieldType} {d : Nat} {f : tw_Fn} (hy : plainName y.cls = true) (hlen : ∀ vs σ ρ, f vs σ = some ρ → vs.length ≤ maxL)
    (hw : ∀ (p : Program) (l : Launch) (e : Env) (s : State) (m : MethodId) (args : Array Value) (below : List Frame) (meth : Method) (c : Code) (E : tw_E) (D : va_G) (vs : List tw_V) (σ : tw_S) (ρ : tw_R), tw_Cx p s m args meth c cc maxL ret y.cls E D → f vs σ = some ρ → tw_G p l e (tw_rmd d) s m args below meth c 0 0 (MQ below (tw_Qc E D ρ) args s 0 0 (tw_A E)) maxL E D 0 (tw_args maxL vs) [] σ) : tw_Con y cc maxL ret d f := by
  intro l E D hinj vs σ ρ hsp
  refine Met.ofW (cc := cc) (maxL := maxL) (ret := ret) hy rfl ?_
  intro p e s m args below meth c s₁ B hml hv
  obtain ⟨rfl, hP, hK, hE, hNW⟩ := hv
  have hts := atoms_spec (ws := .code y cc maxL ret :: tw_Tb) B.pre
  have hC : tw_Cx p s m ((vs.map (tw_c E)).toArray) meth c cc maxL ret y.cls E D := ⟨B.exec, B.bytes, hml, B.returns, B.notSynchronized, findClass_of_methodNamed B.named, fun w h => hts w (List.mem_cons_of_mem _ h), hK, hE, hinj, hNW⟩
  have hl := lv_entry (vs.map (tw_c E)) (n := maxL) (by rw [tw_lgsl]; exact hlen vs σ ρ hsp)
  rw [lg_entry_eq]
  rw [tw_lvargs E (maxL - vs.length)] at hl
  exact hw p l e s m _ below meth c E D vs σ ρ hC hsp s.heap [] _ hP va_S.rf hl
