theorem wd_36 : Cond.instantiable R_TH 4 ∈ tw_Tb := tw_in 36 (by decide +kernel) (by decide +kernel)
theorem wd_450 : Cond.instantiable R_Mo 20 ∈ tw_Tb := tw_in 450 (by decide +kernel) (by decide +kernel)
theorem d_La_cell_0 : decode b_La_cell 0 = .ok (.iload_n 1, 1) := by decide +kernel
theorem d_La_cell_1 : decode b_La_cell 1 = .ok (.aload_n 0, 1) := by decide +kernel
theorem d_La_cell_2 : decode b_La_cell 2 = .ok (.arraylength, 1) := by decide +kernel
theorem d_La_cell_3 : decode b_La_cell 3 = .ok (.if_icmp .ge 9, 3) := by decide +kernel
theorem d_La_cell_6 : decode b_La_cell 6 = .ok (.aload_n 0, 1) := by decide +kernel
theorem d_La_cell_7 : decode b_La_cell 7 = .ok (.iload_n 1, 1) := by decide +kernel
theorem d_La_cell_8 : decode b_La_cell 8 = .ok (.iaload, 1) := by decide +kernel
theorem d_La_cell_9 : decode b_La_cell 9 = .ok (.goto 4, 3) := by decide +kernel
theorem d_La_cell_12 : decode b_La_cell 12 = .ok (.iconst 0, 1) := by decide +kernel
theorem d_La_cell_13 : decode b_La_cell 13 = .ok (.ireturn, 1) := by decide +kernel
set_option maxHeartbeats 4000000 in
set_option maxRecDepth 100000 in
theorem c_La_cell (l : Launch) (b L : Nat) (xs : Nat → Int32) (hL : L ≤ 2049) (sz : Nat) (hbs : b < sz) : Met l y_La_cell (.code y_La_cell b_La_cell 2 (some .int) :: tw_Tb) ({ frames := 0, cells := 0, slots := 0, locals := 0 }) (va_Pc [.ref b, .int 0] (fun U => U.heap.size = sz ∧ va_X b L xs U U.heap)) (va_Qi (fun (r : Int32) (_ : Int32) => r = if 0 < L then xs 0 else 0) (fun _ _ => True) (va_A [] sz)) 0 0 (va_A [] sz) := by
  refine Met.ofW (cc := b_La_cell) (maxL := 2) (ret := (some .int)) (by decide) rfl ?_
  intro p e s m args below meth c s₁ B hml hv
  obtain ⟨rfl, hsz, hX⟩ := hv
  have hx := B.exec
  have hb := B.bytes
  have hr := B.returns
  have hlocks := B.notSynchronized
  subst hsz
  have hbA : ¬ va_A [] s.heap.size b := fun z => by
    rcases z with ⟨k, e, h⟩ | h
    · simp at h
    · omega
  generalize va_A [] s.heap.size = A at hbA ⊢
  have hS : va_S A s.heap s.heap [] := va_S.rf
  have hl := lv_entry ([.ref b, .int 0]) (n := 2) (Nat.le_of_ble_eq_true rfl)
  rw [lg_entry_eq]
  generalize (lg_sl ([.ref b, .int 0]) ++ List.replicate (2 - (lg_sl ([.ref b, .int 0])).length) Slot.unset).toArray = ls at hl ⊢
  have hl : lv_has ls 2 [(0, .ref b), (1, .int 0)] := hl
  refine lv_iload_n hx hb d_La_cell_0 rfl (lv_at hl 1 rfl) ?_
  refine lv_aload_n hx hb d_La_cell_1 rfl (lv_at hl 0 rfl) ?_
  refine va_slen hx hb hX hbs hbA hS d_La_cell_2 ?_
  refine lv_icmp_ge (tgt := 12) hx hb d_La_cell_3 rfl (fun h => ?_) (fun h => ?_)
  · refine lv_iconst (v := 0) hx hb d_La_cell_12 (by decide) ?_
    refine W.iret (v := 0) hx hb hr (fun t ht hW => ⟨⟨0, 0, rfl, ?_, trivial⟩, hS.F ht⟩) hS.2.2 d_La_cell_13
    rw [if_neg (fun z => nI_nle z (by omega) h)]
  · refine lv_aload_n hx hb d_La_cell_6 rfl (lv_at hl 0 rfl) ?_
    refine lv_iload_n hx hb d_La_cell_7 rfl (lv_at hl 1 rfl) ?_
    have hLp : 0 < L := by
      by_cases z : L = 0
      · subst z; exact absurd (by decide) h
      · omega
    refine va_sld (i := 0) hx hb hX hbs hbA hS (show vp_in (nI 0) L from vp_in_nI hLp (by omega)) d_La_cell_8 ?_
    refine lv_goto (tgt := 13) hx hb d_La_cell_9 rfl ?_
    exact W.iret (v := xs 0) hx hb hr (fun t ht hW => ⟨⟨xs 0, 0, rfl, by rw [if_pos hLp], trivial⟩, hS.F ht⟩) hS.2.2 d_La_cell_13
theorem tw_arr2 (cA : ClassId) (f f' : Nat → Option Nat) (h0 : f 0 = f' 0) (h1 : f 1 = f' 1) : vp_cell cA (2, .inr (.inr (.inr (.inr f)))) = vp_cell cA (2, .inr (.inr (.inr (.inr f')))) := by
  show arrV cA 2 (fun j => va_rf (f j)) = arrV cA 2 (fun j => va_rf (f' j))
  unfold arrV
  have e : (fun j : Fin 2 => va_rf (f j.val)) = (fun j : Fin 2 => va_rf (f' j.val)) := funext fun j => by
    match j with
    | ⟨0, _⟩ => show va_rf (f 0) = va_rf (f' 0); rw [h0]
    | ⟨1, _⟩ => show va_rf (f 1) = va_rf (f' 1); rw [h1]
  rw [e]
theorem tw_P_fix {D : va_G} {cl : List vw_C} {ws : va_W} {H : Heap} {i q : Nat} {cA : ClassId} {f f' : Nat → Option Nat} (h : va_P D cl ws H) (hi : ws[i]? = some (q, .inl (cA, 2, .inr (.inr (.inr (.inr f)))))) (h0 : f 0 = f' 0) (h1 : f 1 = f' 1) : va_P D cl (ws.set i (q, .inl (cA, 2, .inr (.inr (.inr (.inr f')))))) H := by
  intro k z hz
  by_cases e : i = k
  · subst e
    rw [List.getElem?_set_self (List.getElem?_eq_some_iff.mp hi).1] at hz
    cases hz
    have h2 := h i _ hi
    have h2 : H[q]? = some (vp_cell cA (2, .inr (.inr (.inr (.inr f))))) := h2
    rw [tw_arr2 cA f f' h0 h1] at h2
    exact h2
  · rw [List.getElem?_set_ne e] at hz
    exact h k z hz
/-- the classes as the tables have them -/
theorem tw_known {s : State} {args : Array Value} (hts : ∀ w ∈ tw_Tb, w.before args s = true) : ∃ D : va_G, va_K D tw_cl [] s := by
  obtain ⟨c0, i0, k0⟩ := u_known (C := R_TH) (T := T_TH) (N := 4) hts u_TH (hts _ wd_36)
  obtain ⟨c1, i1, k1⟩ := u_known (C := R_Gu) (T := T_Gu) (N := 8) hts u_Gu (hts _ wd_45)
  obtain ⟨c2, i2, k2⟩ := u_known (C := R_Co) (T := T_Co) (N := 2) hts u_Co (hts _ wd_51)
  obtain ⟨c3, i3, k3⟩ := u_known (C := R_In) (T := T_In) (N := 3) hts u_In (hts _ wd_57)
  obtain ⟨c4, i4, k4⟩ := u_known (C := R_Sh) (T := T_Sh) (N := 4) hts u_Sh (hts _ wd_85)
  obtain ⟨c5, i5, k5⟩ := u_known (C := R_Wa) (T := T_Wa) (N := 4) hts u_Wa (hts _ wd_109)
  obtain ⟨c6, i6, k6⟩ := u_known (C := R_Mo) (T := T_Mo) (N := 20) hts u_Mo (hts _ wd_450)
  refine ⟨(fun c => match c with | 0 => c0 | 1 => c1 | 2 => c2 | 3 => c3 | 4 => c4 | 5 => c5 | _ => c6, fun c => match c with | 0 => i0 | 1 => i1 | 2 => i2 | 3 => i3 | 4 => i4 | 5 => i5 | _ => i6), fun c q hq => ?_, fun k q hk => by simp at hk⟩
  match c, hq with
  | 0, hq => cases hq; exact k0
  | 1, hq => cases hq; exact k1
  | 2, hq => cases hq; exact k2
  | 3, hq => cases hq; exact k3
  | 4, hq => cases hq; exact k4
  | 5, hq => cases hq; exact k5
  | 6, hq => cases hq; exact k6
  | c + 7, hq => simp [tw_cl] at hq
theorem tw_Ne_in : (tw_Ne.all (fun q => lw_tbl.contains (Cond.methodLinkNest q.1 q.2.1 q.2.2.1 q.2.2.2))) = true := by decide +kernel
theorem tw_AO_in : (lw_tbl.contains (Cond.arrayOver (.object "TwinHost$Guest"))) = true := by decide +kernel
theorem tw_Xt_of {s : State} {args : Array Value} (hts : ∀ w ∈ lw_tbl, w.before args s = true) : tw_Xt s := ⟨fun q hq => va_Nw.of rfl (hts _ (List.contains_iff_mem.mp (List.all_eq_true.mp tw_Ne_in q hq))), va_AO.of (hts _ (List.contains_iff_mem.mp tw_AO_in))⟩
