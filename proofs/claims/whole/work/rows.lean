section
-- ===== PART A: goes FIRST, ahead of the names: the tables' words, and 'selects' of the private methods out of them =====
/-- a private method of a class that the tables say can be made, by its rows of tables_1 -/
def lw_okq (q : MethodName × Nat) : Prop := (q.1.cls ≠ "java/lang/invoke/MethodHandle" ∧ q.1.cls ≠ "java/lang/invoke/VarHandle") ∧ Cond.instantiable q.1.cls q.2 ∈ tables_1 ∧ Cond.privateMethod q.1 ∈ tables_1 ∧ Cond.instanceMethod q.1 ∈ tables_1
theorem lw_p0 : lw_okq (⟨"TwinHost", "passTurnAfter", "(LTwinHost$Outcome;)V"⟩, 4) := ⟨⟨by decide +kernel, by decide +kernel⟩, List.mem_of_getElem? (i := 13) (by decide +kernel), List.mem_of_getElem? (i := 398) (by decide +kernel), List.mem_of_getElem? (i := 399) (by decide +kernel)⟩
theorem lw_p1 : lw_okq (⟨"TwinHostModel", "drop", "(II)V"⟩, 20) := ⟨⟨by decide +kernel, by decide +kernel⟩, List.mem_of_getElem? (i := 427) (by decide +kernel), List.mem_of_getElem? (i := 511) (by decide +kernel), List.mem_of_getElem? (i := 512) (by decide +kernel)⟩
theorem lw_p2 : lw_okq (⟨"TwinHostModel", "add", "(III)V"⟩, 20) := ⟨⟨by decide +kernel, by decide +kernel⟩, List.mem_of_getElem? (i := 427) (by decide +kernel), List.mem_of_getElem? (i := 515) (by decide +kernel), List.mem_of_getElem? (i := 516) (by decide +kernel)⟩
theorem lw_p3 : lw_okq (⟨"TwinHostModel", "put", "(III)V"⟩, 20) := ⟨⟨by decide +kernel, by decide +kernel⟩, List.mem_of_getElem? (i := 427) (by decide +kernel), List.mem_of_getElem? (i := 527) (by decide +kernel), List.mem_of_getElem? (i := 528) (by decide +kernel)⟩
theorem lw_p4 : lw_okq (⟨"TwinHostModel", "assign", "(III)V"⟩, 20) := ⟨⟨by decide +kernel, by decide +kernel⟩, List.mem_of_getElem? (i := 427) (by decide +kernel), List.mem_of_getElem? (i := 542) (by decide +kernel), List.mem_of_getElem? (i := 543) (by decide +kernel)⟩
theorem lw_p5 : lw_okq (⟨"TwinHostModel", "flush", "(I)V"⟩, 20) := ⟨⟨by decide +kernel, by decide +kernel⟩, List.mem_of_getElem? (i := 427) (by decide +kernel), List.mem_of_getElem? (i := 546) (by decide +kernel), List.mem_of_getElem? (i := 547) (by decide +kernel)⟩
theorem lw_p6 : lw_okq (⟨"TwinHostModel", "isThere", "(I)Z"⟩, 20) := ⟨⟨by decide +kernel, by decide +kernel⟩, List.mem_of_getElem? (i := 427) (by decide +kernel), List.mem_of_getElem? (i := 554) (by decide +kernel), List.mem_of_getElem? (i := 555) (by decide +kernel)⟩
theorem lw_p7 : lw_okq (⟨"TwinHostModel", "pending", "(I)I"⟩, 20) := ⟨⟨by decide +kernel, by decide +kernel⟩, List.mem_of_getElem? (i := 427) (by decide +kernel), List.mem_of_getElem? (i := 558) (by decide +kernel), List.mem_of_getElem? (i := 559) (by decide +kernel)⟩
theorem lw_p8 : lw_okq (⟨"TwinHostModel", "step", "(I)I"⟩, 20) := ⟨⟨by decide +kernel, by decide +kernel⟩, List.mem_of_getElem? (i := 427) (by decide +kernel), List.mem_of_getElem? (i := 582) (by decide +kernel), List.mem_of_getElem? (i := 583) (by decide +kernel)⟩
theorem lw_p9 : lw_okq (⟨"TwinHostModel", "trap", "(III)V"⟩, 20) := ⟨⟨by decide +kernel, by decide +kernel⟩, List.mem_of_getElem? (i := 427) (by decide +kernel), List.mem_of_getElem? (i := 587) (by decide +kernel), List.mem_of_getElem? (i := 588) (by decide +kernel)⟩
theorem lw_p10 : lw_okq (⟨"TwinHostModel", "access", "(III)I"⟩, 20) := ⟨⟨by decide +kernel, by decide +kernel⟩, List.mem_of_getElem? (i := 427) (by decide +kernel), List.mem_of_getElem? (i := 591) (by decide +kernel), List.mem_of_getElem? (i := 592) (by decide +kernel)⟩
theorem lw_p11 : lw_okq (⟨"TwinHostModel", "outside", "(III)I"⟩, 20) := ⟨⟨by decide +kernel, by decide +kernel⟩, List.mem_of_getElem? (i := 427) (by decide +kernel), List.mem_of_getElem? (i := 595) (by decide +kernel), List.mem_of_getElem? (i := 596) (by decide +kernel)⟩
theorem lw_p12 : lw_okq (⟨"TwinHostModel", "fault", "(III)I"⟩, 20) := ⟨⟨by decide +kernel, by decide +kernel⟩, List.mem_of_getElem? (i := 427) (by decide +kernel), List.mem_of_getElem? (i := 599) (by decide +kernel), List.mem_of_getElem? (i := 600) (by decide +kernel)⟩
theorem lw_p13 : lw_okq (⟨"TwinHostModel", "allowed", "(III)Z"⟩, 20) := ⟨⟨by decide +kernel, by decide +kernel⟩, List.mem_of_getElem? (i := 427) (by decide +kernel), List.mem_of_getElem? (i := 603) (by decide +kernel), List.mem_of_getElem? (i := 604) (by decide +kernel)⟩
theorem lw_p14 : lw_okq (⟨"TwinHostModel", "walk", "(III)I"⟩, 20) := ⟨⟨by decide +kernel, by decide +kernel⟩, List.mem_of_getElem? (i := 427) (by decide +kernel), List.mem_of_getElem? (i := 607) (by decide +kernel), List.mem_of_getElem? (i := 608) (by decide +kernel)⟩
theorem lw_p15 : lw_okq (⟨"TwinHostModel", "reach", "(IIII)I"⟩, 20) := ⟨⟨by decide +kernel, by decide +kernel⟩, List.mem_of_getElem? (i := 427) (by decide +kernel), List.mem_of_getElem? (i := 614) (by decide +kernel), List.mem_of_getElem? (i := 615) (by decide +kernel)⟩
def lw_privs_1 : List (MethodName × Nat) := [(⟨"TwinHost", "passTurnAfter", "(LTwinHost$Outcome;)V"⟩, 4), (⟨"TwinHostModel", "drop", "(II)V"⟩, 20), (⟨"TwinHostModel", "add", "(III)V"⟩, 20), (⟨"TwinHostModel", "put", "(III)V"⟩, 20), (⟨"TwinHostModel", "assign", "(III)V"⟩, 20), (⟨"TwinHostModel", "flush", "(I)V"⟩, 20), (⟨"TwinHostModel", "isThere", "(I)Z"⟩, 20), (⟨"TwinHostModel", "pending", "(I)I"⟩, 20), (⟨"TwinHostModel", "step", "(I)I"⟩, 20), (⟨"TwinHostModel", "trap", "(III)V"⟩, 20), (⟨"TwinHostModel", "access", "(III)I"⟩, 20), (⟨"TwinHostModel", "outside", "(III)I"⟩, 20), (⟨"TwinHostModel", "fault", "(III)I"⟩, 20), (⟨"TwinHostModel", "allowed", "(III)Z"⟩, 20), (⟨"TwinHostModel", "walk", "(III)I"⟩, 20), (⟨"TwinHostModel", "reach", "(IIII)I"⟩, 20)]
theorem lw_r1 : ∀ q ∈ lw_privs_1, lw_okq q := List.forall_mem_cons.mpr ⟨lw_p0, List.forall_mem_cons.mpr ⟨lw_p1, List.forall_mem_cons.mpr ⟨lw_p2, List.forall_mem_cons.mpr ⟨lw_p3, List.forall_mem_cons.mpr ⟨lw_p4, List.forall_mem_cons.mpr ⟨lw_p5, List.forall_mem_cons.mpr ⟨lw_p6, List.forall_mem_cons.mpr ⟨lw_p7, List.forall_mem_cons.mpr ⟨lw_p8, List.forall_mem_cons.mpr ⟨lw_p9, List.forall_mem_cons.mpr ⟨lw_p10, List.forall_mem_cons.mpr ⟨lw_p11, List.forall_mem_cons.mpr ⟨lw_p12, List.forall_mem_cons.mpr ⟨lw_p13, List.forall_mem_cons.mpr ⟨lw_p14, List.forall_mem_cons.mpr ⟨lw_p15, fun _ h => absurd h List.not_mem_nil⟩⟩⟩⟩⟩⟩⟩⟩⟩⟩⟩⟩⟩⟩⟩⟩
theorem lw_p16 : lw_okq (⟨"TwinHostModel", "fill", "(IIII)V"⟩, 20) := ⟨⟨by decide +kernel, by decide +kernel⟩, List.mem_of_getElem? (i := 427) (by decide +kernel), List.mem_of_getElem? (i := 618) (by decide +kernel), List.mem_of_getElem? (i := 619) (by decide +kernel)⟩
theorem lw_p17 : lw_okq (⟨"TwinHostModel", "special", "(IIII)I"⟩, 20) := ⟨⟨by decide +kernel, by decide +kernel⟩, List.mem_of_getElem? (i := 427) (by decide +kernel), List.mem_of_getElem? (i := 622) (by decide +kernel), List.mem_of_getElem? (i := 623) (by decide +kernel)⟩
theorem lw_p18 : lw_okq (⟨"TwinHostModel", "illegal", "(II)I"⟩, 20) := ⟨⟨by decide +kernel, by decide +kernel⟩, List.mem_of_getElem? (i := 427) (by decide +kernel), List.mem_of_getElem? (i := 626) (by decide +kernel), List.mem_of_getElem? (i := 627) (by decide +kernel)⟩
theorem lw_p19 : lw_okq (⟨"TwinHostModel", "controls", "(III)I"⟩, 20) := ⟨⟨by decide +kernel, by decide +kernel⟩, List.mem_of_getElem? (i := 427) (by decide +kernel), List.mem_of_getElem? (i := 630) (by decide +kernel), List.mem_of_getElem? (i := 631) (by decide +kernel)⟩
theorem lw_p20 : lw_okq (⟨"TwinHostModel", "takeInput", "(I)V"⟩, 20) := ⟨⟨by decide +kernel, by decide +kernel⟩, List.mem_of_getElem? (i := 427) (by decide +kernel), List.mem_of_getElem? (i := 635) (by decide +kernel), List.mem_of_getElem? (i := 636) (by decide +kernel)⟩
theorem lw_p21 : lw_okq (⟨"TwinHostModel", "retire", "(II)I"⟩, 20) := ⟨⟨by decide +kernel, by decide +kernel⟩, List.mem_of_getElem? (i := 427) (by decide +kernel), List.mem_of_getElem? (i := 639) (by decide +kernel), List.mem_of_getElem? (i := 640) (by decide +kernel)⟩
theorem lw_p22 : lw_okq (⟨"TwinHostModel", "data", "(IIIII)I"⟩, 20) := ⟨⟨by decide +kernel, by decide +kernel⟩, List.mem_of_getElem? (i := 427) (by decide +kernel), List.mem_of_getElem? (i := 646) (by decide +kernel), List.mem_of_getElem? (i := 647) (by decide +kernel)⟩
def lw_privs_2 : List (MethodName × Nat) := [(⟨"TwinHostModel", "fill", "(IIII)V"⟩, 20), (⟨"TwinHostModel", "special", "(IIII)I"⟩, 20), (⟨"TwinHostModel", "illegal", "(II)I"⟩, 20), (⟨"TwinHostModel", "controls", "(III)I"⟩, 20), (⟨"TwinHostModel", "takeInput", "(I)V"⟩, 20), (⟨"TwinHostModel", "retire", "(II)I"⟩, 20), (⟨"TwinHostModel", "data", "(IIIII)I"⟩, 20)]
theorem lw_r2 : ∀ q ∈ lw_privs_2, lw_okq q := List.forall_mem_cons.mpr ⟨lw_p16, List.forall_mem_cons.mpr ⟨lw_p17, List.forall_mem_cons.mpr ⟨lw_p18, List.forall_mem_cons.mpr ⟨lw_p19, List.forall_mem_cons.mpr ⟨lw_p20, List.forall_mem_cons.mpr ⟨lw_p21, List.forall_mem_cons.mpr ⟨lw_p22, fun _ h => absurd h List.not_mem_nil⟩⟩⟩⟩⟩⟩⟩
def lw_privs : List (MethodName × Nat) := lw_privs_1 ++ (lw_privs_2)
def lw_tbl : List Cond := k2_sels lw_privs ++ tables_1
theorem lw_privs_ok : ∀ q ∈ lw_privs, lw_okq q := by
  show ∀ q ∈ lw_privs_1 ++ (lw_privs_2), lw_okq q
  exact List.forall_mem_append.mpr ⟨lw_r1, lw_r2⟩
def R_TH : String := "TwinHost"
def T_TH : u_T := fun k => match k with
  | 0 => ("TwinHost", "guests", "[LTwinHost$Guest;", true)
  | 1 => ("TwinHost", "quantum", "I", true)
  | 2 => ("TwinHost", "holder", "I", false)
  | _ => ("TwinHost", "stepsInRow", "I", false)
def t_TH : Nat → FieldType := fun k => match k with
  | 0 => .array (.object "TwinHost$Guest")
  | 1 => .int
  | 2 => .int
  | _ => .int
theorem n_TH : ∀ a, a < 4 → ∀ b, b < 4 → a ≠ b → (T_TH a).2.1 ≠ (T_TH b).2.1 := by decide +kernel
theorem t_TH_ok : ∀ k, k < 4 → parseFieldDescriptor (T_TH k).2.2.1 = some (t_TH k) := by decide +kernel
def R_Gu : String := "TwinHost$Guest"
def T_Gu : u_T := fun k => match k with
  | 0 => ("TwinHost$Guest", "memory", "[I", true)
  | 1 => ("TwinHost$Guest", "registers", "[I", true)
  | 2 => ("TwinHost$Guest", "counts", "[I", true)
  | 3 => ("TwinHost$Guest", "controls", "LTwinHost$Controls;", true)
  | 4 => ("TwinHost$Guest", "shadows", "LTwinHost$Shadows;", true)
  | 5 => ("TwinHost$Guest", "walk", "LTwinHost$Walk;", true)
  | 6 => ("TwinHost$Guest", "pc", "I", false)
  | _ => ("TwinHost$Guest", "inUser", "Z", false)
def t_Gu : Nat → FieldType := fun k => match k with
  | 0 => .array .int
  | 1 => .array .int
  | 2 => .array .int
  | 3 => .object "TwinHost$Controls"
  | 4 => .object "TwinHost$Shadows"
  | 5 => .object "TwinHost$Walk"
  | 6 => .int
  | _ => .boolean
theorem n_Gu : ∀ a, a < 8 → ∀ b, b < 8 → a ≠ b → (T_Gu a).2.1 ≠ (T_Gu b).2.1 := by decide +kernel
theorem t_Gu_ok : ∀ k, k < 8 → parseFieldDescriptor (T_Gu k).2.2.1 = some (t_Gu k) := by decide +kernel
def R_Co : String := "TwinHost$Controls"
def T_Co : u_T := fun k => match k with
  | 0 => ("TwinHost$Controls", "values", "[I", true)
  | _ => ("TwinHost$Controls", "inputs", "LTwinHost$Inputs;", true)
def t_Co : Nat → FieldType := fun k => match k with
  | 0 => .array .int
  | _ => .object "TwinHost$Inputs"
theorem n_Co : ∀ a, a < 2 → ∀ b, b < 2 → a ≠ b → (T_Co a).2.1 ≠ (T_Co b).2.1 := by decide +kernel
theorem t_Co_ok : ∀ k, k < 2 → parseFieldDescriptor (T_Co k).2.2.1 = some (t_Co k) := by decide +kernel
def R_In : String := "TwinHost$Inputs"
def T_In : u_T := fun k => match k with
  | 0 => ("TwinHost$Inputs", "times", "[I", true)
  | 1 => ("TwinHost$Inputs", "values", "[I", true)
  | _ => ("TwinHost$Inputs", "size", "I", false)
def t_In : Nat → FieldType := fun k => match k with
  | 0 => .array .int
  | 1 => .array .int
  | _ => .int
theorem n_In : ∀ a, a < 3 → ∀ b, b < 3 → a ≠ b → (T_In a).2.1 ≠ (T_In b).2.1 := by decide +kernel
theorem t_In_ok : ∀ k, k < 3 → parseFieldDescriptor (T_In k).2.2.1 = some (t_In k) := by decide +kernel
def R_Sh : String := "TwinHost$Shadows"
def T_Sh : u_T := fun k => match k with
  | 0 => ("TwinHost$Shadows", "pages", "[I", true)
  | 1 => ("TwinHost$Shadows", "bits", "[I", true)
  | 2 => ("TwinHost$Shadows", "firsts", "[I", true)
  | _ => ("TwinHost$Shadows", "seconds", "[I", true)
def t_Sh : Nat → FieldType := fun k => match k with
  | 0 => .array .int
  | 1 => .array .int
  | 2 => .array .int
  | _ => .array .int
theorem n_Sh : ∀ a, a < 4 → ∀ b, b < 4 → a ≠ b → (T_Sh a).2.1 ≠ (T_Sh b).2.1 := by decide +kernel
theorem t_Sh_ok : ∀ k, k < 4 → parseFieldDescriptor (T_Sh k).2.2.1 = some (t_Sh k) := by decide +kernel
def R_Wa : String := "TwinHost$Walk"
def T_Wa : u_T := fun k => match k with
  | 0 => ("TwinHost$Walk", "first", "I", false)
  | 1 => ("TwinHost$Walk", "second", "I", false)
  | 2 => ("TwinHost$Walk", "leafAt", "I", false)
  | _ => ("TwinHost$Walk", "page", "I", false)
def t_Wa : Nat → FieldType := fun k => match k with
  | 0 => .int
  | 1 => .int
  | 2 => .int
  | _ => .int
theorem n_Wa : ∀ a, a < 4 → ∀ b, b < 4 → a ≠ b → (T_Wa a).2.1 ≠ (T_Wa b).2.1 := by decide +kernel
theorem t_Wa_ok : ∀ k, k < 4 → parseFieldDescriptor (T_Wa k).2.2.1 = some (t_Wa k) := by decide +kernel
def R_Mo : String := "TwinHostModel"
def T_Mo : u_T := fun k => match k with
  | 0 => ("TwinHostModel", "quantum", "I", false)
  | 1 => ("TwinHostModel", "turn", "I", false)
  | 2 => ("TwinHostModel", "row", "I", false)
  | 3 => ("TwinHostModel", "memory", "[I", false)
  | 4 => ("TwinHostModel", "x", "[I", false)
  | 5 => ("TwinHostModel", "control", "[I", false)
  | 6 => ("TwinHostModel", "pc", "[I", false)
  | 7 => ("TwinHostModel", "user", "[Z", false)
  | 8 => ("TwinHostModel", "waiting", "[I", false)
  | 9 => ("TwinHostModel", "inputTime", "[I", false)
  | 10 => ("TwinHostModel", "inputValue", "[I", false)
  | 11 => ("TwinHostModel", "counts", "[I", false)
  | 12 => ("TwinHostModel", "page", "[I", false)
  | 13 => ("TwinHostModel", "bits", "[I", false)
  | 14 => ("TwinHostModel", "dirty", "[Z", false)
  | 15 => ("TwinHostModel", "first", "[I", false)
  | 16 => ("TwinHostModel", "second", "[I", false)
  | 17 => ("TwinHostModel", "leafAt", "I", false)
  | 18 => ("TwinHostModel", "tableAt", "I", false)
  | _ => ("TwinHostModel", "through", "Z", false)
def t_Mo : Nat → FieldType := fun k => match k with
  | 0 => .int
  | 1 => .int
  | 2 => .int
  | 3 => .array .int
  | 4 => .array .int
  | 5 => .array .int
  | 6 => .array .int
  | 7 => .array .boolean
  | 8 => .array .int
  | 9 => .array .int
  | 10 => .array .int
  | 11 => .array .int
  | 12 => .array .int
  | 13 => .array .int
  | 14 => .array .boolean
  | 15 => .array .int
  | 16 => .array .int
  | 17 => .int
  | 18 => .int
  | _ => .boolean
theorem n_Mo : ∀ a, a < 20 → ∀ b, b < 20 → a ≠ b → (T_Mo a).2.1 ≠ (T_Mo b).2.1 := by decide +kernel
theorem t_Mo_ok : ∀ k, k < 20 → parseFieldDescriptor (T_Mo k).2.2.1 = some (t_Mo k) := by decide +kernel
abbrev tw_cl : List vw_C := [(R_TH, T_TH, 4), (R_Gu, T_Gu, 8), (R_Co, T_Co, 2), (R_In, T_In, 3), (R_Sh, T_Sh, 4), (R_Wa, T_Wa, 4), (R_Mo, T_Mo, 20)]
/-- the words of the tables that a callee may ask of its caller -/
def tw_Tb : List Cond := lw_tbl.filter goodWord
theorem tw_Tb_good : ∀ w ∈ tw_Tb, (w.onTables && w.keeps) = true ∨ ∃ ty, w = .arrayClass ty := fun _ h => good_of_word (List.mem_filter.mp h).2
theorem tw_in {w : Cond} (k : Nat) (h : lw_tbl[k]? = some w) (hg : goodWord w = true) : w ∈ tw_Tb := List.mem_filter.mpr ⟨List.mem_of_getElem? h, hg⟩
theorem u_TH : ∀ w ∈ u_ws R_TH T_TH 4, w ∈ tw_Tb := fun w h => List.mem_filter.mpr (by
  have key : ((u_ws R_TH T_TH 4).all (fun w => lw_tbl.contains w && goodWord w)) = true := by decide +kernel
  have h2 := List.all_eq_true.mp key w h
  rw [Bool.and_eq_true] at h2
  exact ⟨List.contains_iff_mem.mp h2.1, h2.2⟩)
theorem u_Gu : ∀ w ∈ u_ws R_Gu T_Gu 8, w ∈ tw_Tb := fun w h => List.mem_filter.mpr (by
  have key : ((u_ws R_Gu T_Gu 8).all (fun w => lw_tbl.contains w && goodWord w)) = true := by decide +kernel
  have h2 := List.all_eq_true.mp key w h
  rw [Bool.and_eq_true] at h2
  exact ⟨List.contains_iff_mem.mp h2.1, h2.2⟩)
theorem u_Co : ∀ w ∈ u_ws R_Co T_Co 2, w ∈ tw_Tb := fun w h => List.mem_filter.mpr (by
  have key : ((u_ws R_Co T_Co 2).all (fun w => lw_tbl.contains w && goodWord w)) = true := by decide +kernel
  have h2 := List.all_eq_true.mp key w h
  rw [Bool.and_eq_true] at h2
  exact ⟨List.contains_iff_mem.mp h2.1, h2.2⟩)
theorem u_In : ∀ w ∈ u_ws R_In T_In 3, w ∈ tw_Tb := fun w h => List.mem_filter.mpr (by
  have key : ((u_ws R_In T_In 3).all (fun w => lw_tbl.contains w && goodWord w)) = true := by decide +kernel
  have h2 := List.all_eq_true.mp key w h
  rw [Bool.and_eq_true] at h2
  exact ⟨List.contains_iff_mem.mp h2.1, h2.2⟩)
theorem u_Sh : ∀ w ∈ u_ws R_Sh T_Sh 4, w ∈ tw_Tb := fun w h => List.mem_filter.mpr (by
  have key : ((u_ws R_Sh T_Sh 4).all (fun w => lw_tbl.contains w && goodWord w)) = true := by decide +kernel
  have h2 := List.all_eq_true.mp key w h
  rw [Bool.and_eq_true] at h2
  exact ⟨List.contains_iff_mem.mp h2.1, h2.2⟩)
theorem u_Wa : ∀ w ∈ u_ws R_Wa T_Wa 4, w ∈ tw_Tb := fun w h => List.mem_filter.mpr (by
  have key : ((u_ws R_Wa T_Wa 4).all (fun w => lw_tbl.contains w && goodWord w)) = true := by decide +kernel
  have h2 := List.all_eq_true.mp key w h
  rw [Bool.and_eq_true] at h2
  exact ⟨List.contains_iff_mem.mp h2.1, h2.2⟩)
theorem u_Mo : ∀ w ∈ u_ws R_Mo T_Mo 20, w ∈ tw_Tb := fun w h => List.mem_filter.mpr (by
  have key : ((u_ws R_Mo T_Mo 20).all (fun w => lw_tbl.contains w && goodWord w)) = true := by decide +kernel
  have h2 := List.all_eq_true.mp key w h
  rw [Bool.and_eq_true] at h2
  exact ⟨List.contains_iff_mem.mp h2.1, h2.2⟩)
abbrev b_Co_exists : ByteArray := prog_3_method_2_code
def y_Co_exists : MethodName := ⟨"TwinHost$Controls", "exists", "(I)Z"⟩
abbrev b_Co_isOn : ByteArray := prog_3_method_10_code
def y_Co_isOn : MethodName := ⟨"TwinHost$Controls", "isOn", "(I)Z"⟩
abbrev b_Co_keptBits : ByteArray := prog_3_method_4_code
def y_Co_keptBits : MethodName := ⟨"TwinHost$Controls", "keptBits", "(I)I"⟩
abbrev b_Co_translates : ByteArray := prog_3_method_11_code
def y_Co_translates : MethodName := ⟨"TwinHost$Controls", "translates", "()Z"⟩
abbrev b_En_allows : ByteArray := prog_5_method_5_code
def y_En_allows : MethodName := ⟨"TwinHost$Entry", "allows", "(ILTwinHost$Access;ZZ)Z"⟩
abbrev b_En_isBroken : ByteArray := prog_5_method_2_code
def y_En_isBroken : MethodName := ⟨"TwinHost$Entry", "isBroken", "(I)Z"⟩
abbrev b_En_isLeaf : ByteArray := prog_5_method_3_code
def y_En_isLeaf : MethodName := ⟨"TwinHost$Entry", "isLeaf", "(I)Z"⟩
abbrev b_En_pageNumber : ByteArray := prog_5_method_4_code
def y_En_pageNumber : MethodName := ⟨"TwinHost$Entry", "pageNumber", "(I)I"⟩
abbrev b_Gu_changed : ByteArray := prog_6_method_10_code
def y_Gu_changed : MethodName := ⟨"TwinHost$Guest", "changed", "(III)I"⟩
abbrev b_Gu_compute : ByteArray := prog_6_method_4_code
def y_Gu_compute : MethodName := ⟨"TwinHost$Guest", "compute", "(IIII)I"⟩
abbrev b_Gu_retireAt : ByteArray := prog_6_method_11_code
def y_Gu_retireAt : MethodName := ⟨"TwinHost$Guest", "retireAt", "(I)LTwinHost$Outcome;"⟩
abbrev b_Gu_setRegister : ByteArray := prog_6_method_17_code
def y_Gu_setRegister : MethodName := ⟨"TwinHost$Guest", "setRegister", "(II)V"⟩
abbrev b_In_append : ByteArray := prog_7_method_2_code
def y_In_append : MethodName := ⟨"TwinHost$Inputs", "append", "(II)Z"⟩
abbrev b_In_init : ByteArray := prog_7_method_1_code
def y_In_init : MethodName := ⟨"TwinHost$Inputs", "<init>", "()V"⟩
abbrev b_In_isThere : ByteArray := prog_7_method_3_code
def y_In_isThere : MethodName := ⟨"TwinHost$Inputs", "isThere", "(I)Z"⟩
abbrev b_In_removeFirst : ByteArray := prog_7_method_4_code
def y_In_removeFirst : MethodName := ⟨"TwinHost$Inputs", "removeFirst", "()V"⟩
abbrev b_La_cell : ByteArray := method_2_code
def y_La_cell : MethodName := ⟨"TwinHostLaw", "cell", "([II)I"⟩
abbrev b_Mo_add : ByteArray := prog_12_method_3_code
def y_Mo_add : MethodName := ⟨"TwinHostModel", "add", "(III)V"⟩
abbrev b_Mo_allowed : ByteArray := prog_12_method_27_code
def y_Mo_allowed : MethodName := ⟨"TwinHostModel", "allowed", "(III)Z"⟩
abbrev b_Mo_broken : ByteArray := prog_12_method_29_code
def y_Mo_broken : MethodName := ⟨"TwinHostModel", "broken", "(I)Z"⟩
abbrev b_Mo_calculate : ByteArray := prog_12_method_33_code
def y_Mo_calculate : MethodName := ⟨"TwinHostModel", "calculate", "(IIII)I"⟩
abbrev b_Mo_guest : ByteArray := prog_12_method_2_code
def y_Mo_guest : MethodName := ⟨"TwinHostModel", "guest", "(I)Z"⟩
abbrev b_Mo_init : ByteArray := prog_12_method_1_code
def y_Mo_init : MethodName := ⟨"TwinHostModel", "<init>", "(I)V"⟩
abbrev b_Mo_isStored : ByteArray := prog_12_method_13_code
def y_Mo_isStored : MethodName := ⟨"TwinHostModel", "isStored", "(I)Z"⟩
abbrev b_Mo_isThere : ByteArray := prog_12_method_16_code
def y_Mo_isThere : MethodName := ⟨"TwinHostModel", "isThere", "(I)Z"⟩
abbrev b_Mo_put : ByteArray := prog_12_method_10_code
def y_Mo_put : MethodName := ⟨"TwinHostModel", "put", "(III)V"⟩
abbrev b_Mo_retire : ByteArray := prog_12_method_34_code
def y_Mo_retire : MethodName := ⟨"TwinHostModel", "retire", "(II)I"⟩
abbrev b_Mo_takeInput : ByteArray := prog_12_method_23_code
def y_Mo_takeInput : MethodName := ⟨"TwinHostModel", "takeInput", "(I)V"⟩
abbrev b_Mo_turn : ByteArray := prog_12_method_41_code
def y_Mo_turn : MethodName := ⟨"TwinHostModel", "turn", "()I"⟩
abbrev b_Sh_clear : ByteArray := prog_9_method_2_code
def y_Sh_clear : MethodName := ⟨"TwinHost$Shadows", "clear", "()V"⟩
abbrev b_Sh_describe : ByteArray := prog_9_method_7_code
def y_Sh_describe : MethodName := ⟨"TwinHost$Shadows", "describe", "(I)I"⟩
abbrev b_Sh_dropThoseOf : ByteArray := prog_9_method_6_code
def y_Sh_dropThoseOf : MethodName := ⟨"TwinHost$Shadows", "dropThoseOf", "(I)I"⟩
abbrev b_Sh_isIn : ByteArray := prog_9_method_8_code
def y_Sh_isIn : MethodName := ⟨"TwinHost$Shadows", "isIn", "(II)Z"⟩
abbrev b_Sh_put : ByteArray := prog_9_method_3_code
def y_Sh_put : MethodName := ⟨"TwinHost$Shadows", "put", "(IILTwinHost$Walk;)V"⟩
abbrev b_TH_isGuest : ByteArray := prog_1_method_18_code
def y_TH_isGuest : MethodName := ⟨"TwinHost", "isGuest", "(I)Z"⟩
abbrev b_TH_isRegister : ByteArray := prog_1_method_20_code
def y_TH_isRegister : MethodName := ⟨"TwinHost", "isRegister", "(I)Z"⟩
abbrev b_TH_isWord : ByteArray := prog_1_method_19_code
def y_TH_isWord : MethodName := ⟨"TwinHost", "isWord", "(I)Z"⟩
abbrev b_TH_passTurnAfter : ByteArray := prog_1_method_17_code
def y_TH_passTurnAfter : MethodName := ⟨"TwinHost", "passTurnAfter", "(LTwinHost$Outcome;)V"⟩
abbrev b_TH_turn : ByteArray := prog_1_method_13_code
def y_TH_turn : MethodName := ⟨"TwinHost", "turn", "()I"⟩
abbrev b_Wa_init : ByteArray := prog_10_method_1_code
def y_Wa_init : MethodName := ⟨"TwinHost$Walk", "<init>", "()V"⟩
abbrev b_Co_enterTrap : ByteArray := prog_3_method_12_code
def y_Co_enterTrap : MethodName := ⟨"TwinHost$Controls", "enterTrap", "(IIIZ)V"⟩
abbrev b_Co_init : ByteArray := prog_3_method_1_code
def y_Co_init : MethodName := ⟨"TwinHost$Controls", "<init>", "()V"⟩
abbrev b_Co_isStoredTo : ByteArray := prog_3_method_3_code
def y_Co_isStoredTo : MethodName := ⟨"TwinHost$Controls", "isStoredTo", "(I)Z"⟩
abbrev b_Co_leaveTrap : ByteArray := prog_3_method_13_code
def y_Co_leaveTrap : MethodName := ⟨"TwinHost$Controls", "leaveTrap", "()Z"⟩
abbrev b_Co_pendingBits : ByteArray := prog_3_method_8_code
def y_Co_pendingBits : MethodName := ⟨"TwinHost$Controls", "pendingBits", "()I"⟩
abbrev b_Co_put : ByteArray := prog_3_method_7_code
def y_Co_put : MethodName := ⟨"TwinHost$Controls", "put", "(II)V"⟩
abbrev b_Gu_fill : ByteArray := prog_6_method_15_code
def y_Gu_fill : MethodName := ⟨"TwinHost$Guest", "fill", "(ILTwinHost$Access;)I"⟩
abbrev b_Gu_flush : ByteArray := prog_6_method_19_code
def y_Gu_flush : MethodName := ⟨"TwinHost$Guest", "flush", "()V"⟩
abbrev b_Gu_link : ByteArray := prog_6_method_7_code
def y_Gu_link : MethodName := ⟨"TwinHost$Guest", "link", "(II)LTwinHost$Outcome;"⟩
abbrev b_Gu_overwrite : ByteArray := prog_6_method_16_code
def y_Gu_overwrite : MethodName := ⟨"TwinHost$Guest", "overwrite", "(II)I"⟩
abbrev b_Mo_count : ByteArray := prog_12_method_42_code
def y_Mo_count : MethodName := ⟨"TwinHostModel", "count", "(II)I"⟩
abbrev b_Mo_drop : ByteArray := prog_12_method_4_code
def y_Mo_drop : MethodName := ⟨"TwinHostModel", "drop", "(II)V"⟩
abbrev b_Mo_fill : ByteArray := prog_12_method_32_code
def y_Mo_fill : MethodName := ⟨"TwinHostModel", "fill", "(IIII)V"⟩
abbrev b_Mo_flush : ByteArray := prog_12_method_5_code
def y_Mo_flush : MethodName := ⟨"TwinHostModel", "flush", "(I)V"⟩
abbrev b_Mo_give : ByteArray := prog_12_method_11_code
def y_Mo_give : MethodName := ⟨"TwinHostModel", "give", "(III)Z"⟩
abbrev b_Mo_input : ByteArray := prog_12_method_22_code
def y_Mo_input : MethodName := ⟨"TwinHostModel", "input", "(III)Z"⟩
abbrev b_Mo_pc : ByteArray := prog_12_method_20_code
def y_Mo_pc : MethodName := ⟨"TwinHostModel", "pc", "(I)I"⟩
abbrev b_Mo_peek : ByteArray := prog_12_method_9_code
def y_Mo_peek : MethodName := ⟨"TwinHostModel", "peek", "(II)I"⟩
abbrev b_Mo_pending : ByteArray := prog_12_method_17_code
def y_Mo_pending : MethodName := ⟨"TwinHostModel", "pending", "(I)I"⟩
abbrev b_Mo_place : ByteArray := prog_12_method_19_code
def y_Mo_place : MethodName := ⟨"TwinHostModel", "place", "(IIZ)Z"⟩
abbrev b_Mo_register : ByteArray := prog_12_method_12_code
def y_Mo_register : MethodName := ⟨"TwinHostModel", "register", "(II)I"⟩
abbrev b_Mo_shadow : ByteArray := prog_12_method_6_code
def y_Mo_shadow : MethodName := ⟨"TwinHostModel", "shadow", "(II)I"⟩
abbrev b_Mo_traced : ByteArray := prog_12_method_7_code
def y_Mo_traced : MethodName := ⟨"TwinHostModel", "traced", "(II)Z"⟩
abbrev b_Mo_trap : ByteArray := prog_12_method_24_code
def y_Mo_trap : MethodName := ⟨"TwinHostModel", "trap", "(III)V"⟩
abbrev b_Mo_user : ByteArray := prog_12_method_21_code
def y_Mo_user : MethodName := ⟨"TwinHostModel", "user", "(I)Z"⟩
abbrev b_Sh_init : ByteArray := prog_9_method_1_code
def y_Sh_init : MethodName := ⟨"TwinHost$Shadows", "<init>", "()V"⟩
abbrev b_Sh_isTraced : ByteArray := prog_9_method_5_code
def y_Sh_isTraced : MethodName := ⟨"TwinHost$Shadows", "isTraced", "(I)Z"⟩
abbrev b_Sh_letsThrough : ByteArray := prog_9_method_4_code
def y_Sh_letsThrough : MethodName := ⟨"TwinHost$Shadows", "letsThrough", "(ILTwinHost$Access;ZZ)Z"⟩
abbrev b_TH_count : ByteArray := prog_1_method_16_code
def y_TH_count : MethodName := ⟨"TwinHost", "count", "(II)I"⟩
abbrev b_TH_give : ByteArray := prog_1_method_4_code
def y_TH_give : MethodName := ⟨"TwinHost", "give", "(III)Z"⟩
abbrev b_TH_input : ByteArray := prog_1_method_11_code
def y_TH_input : MethodName := ⟨"TwinHost", "input", "(III)Z"⟩
abbrev b_TH_pc : ByteArray := prog_1_method_9_code
def y_TH_pc : MethodName := ⟨"TwinHost", "pc", "(I)I"⟩
abbrev b_TH_peek : ByteArray := prog_1_method_3_code
def y_TH_peek : MethodName := ⟨"TwinHost", "peek", "(II)I"⟩
abbrev b_TH_place : ByteArray := prog_1_method_8_code
def y_TH_place : MethodName := ⟨"TwinHost", "place", "(IIZ)Z"⟩
abbrev b_TH_register : ByteArray := prog_1_method_5_code
def y_TH_register : MethodName := ⟨"TwinHost", "register", "(II)I"⟩
abbrev b_TH_shadow : ByteArray := prog_1_method_14_code
def y_TH_shadow : MethodName := ⟨"TwinHost", "shadow", "(II)I"⟩
abbrev b_TH_user : ByteArray := prog_1_method_10_code
def y_TH_user : MethodName := ⟨"TwinHost", "user", "(I)Z"⟩
abbrev b_Wa_search : ByteArray := prog_10_method_2_code
def y_Wa_search : MethodName := ⟨"TwinHost$Walk", "search", "([IIILTwinHost$Access;)I"⟩
abbrev b_Co_dueBits : ByteArray := prog_3_method_9_code
def y_Co_dueBits : MethodName := ⟨"TwinHost$Controls", "dueBits", "()I"⟩
abbrev b_Co_look : ByteArray := prog_3_method_5_code
def y_Co_look : MethodName := ⟨"TwinHost$Controls", "look", "(I)I"⟩
abbrev b_Gu_init : ByteArray := prog_6_method_1_code
def y_Gu_init : MethodName := ⟨"TwinHost$Guest", "<init>", "()V"⟩
abbrev b_Gu_reach : ByteArray := prog_6_method_14_code
def y_Gu_reach : MethodName := ⟨"TwinHost$Guest", "reach", "(ILTwinHost$Access;)I"⟩
abbrev b_Gu_storeControl : ByteArray := prog_6_method_18_code
def y_Gu_storeControl : MethodName := ⟨"TwinHost$Guest", "storeControl", "(II)V"⟩
abbrev b_Gu_trap : ByteArray := prog_6_method_13_code
def y_Gu_trap : MethodName := ⟨"TwinHost$Guest", "trap", "(II)LTwinHost$Outcome;"⟩
abbrev b_Mo_assign : ByteArray := prog_12_method_14_code
def y_Mo_assign : MethodName := ⟨"TwinHostModel", "assign", "(III)V"⟩
abbrev b_Mo_control : ByteArray := prog_12_method_18_code
def y_Mo_control : MethodName := ⟨"TwinHostModel", "control", "(II)I"⟩
abbrev b_Mo_fault : ByteArray := prog_12_method_26_code
def y_Mo_fault : MethodName := ⟨"TwinHostModel", "fault", "(III)I"⟩
abbrev b_Mo_illegal : ByteArray := prog_12_method_38_code
def y_Mo_illegal : MethodName := ⟨"TwinHostModel", "illegal", "(II)I"⟩
abbrev b_Mo_outside : ByteArray := prog_12_method_25_code
def y_Mo_outside : MethodName := ⟨"TwinHostModel", "outside", "(III)I"⟩
abbrev b_Mo_poke : ByteArray := prog_12_method_8_code
def y_Mo_poke : MethodName := ⟨"TwinHostModel", "poke", "(III)I"⟩
abbrev b_TH_poke : ByteArray := prog_1_method_2_code
def y_TH_poke : MethodName := ⟨"TwinHost", "poke", "(III)I"⟩
abbrev b_TH_traced : ByteArray := prog_1_method_15_code
def y_TH_traced : MethodName := ⟨"TwinHost", "traced", "(II)Z"⟩
abbrev b_Co_take : ByteArray := prog_3_method_6_code
def y_Co_take : MethodName := ⟨"TwinHost$Controls", "take", "(I)I"⟩
abbrev b_Gu_fault : ByteArray := prog_6_method_12_code
def y_Gu_fault : MethodName := ⟨"TwinHost$Guest", "fault", "(II)LTwinHost$Outcome;"⟩
abbrev b_Mo_command : ByteArray := prog_12_method_15_code
def y_Mo_command : MethodName := ⟨"TwinHostModel", "command", "(III)Z"⟩
abbrev b_Mo_controls : ByteArray := prog_12_method_39_code
def y_Mo_controls : MethodName := ⟨"TwinHostModel", "controls", "(III)I"⟩
abbrev b_Mo_reach : ByteArray := prog_12_method_31_code
def y_Mo_reach : MethodName := ⟨"TwinHostModel", "reach", "(IIII)I"⟩
abbrev b_TH_command : ByteArray := prog_1_method_6_code
def y_TH_command : MethodName := ⟨"TwinHost", "command", "(III)Z"⟩
abbrev b_TH_control : ByteArray := prog_1_method_7_code
def y_TH_control : MethodName := ⟨"TwinHost", "control", "(II)I"⟩
abbrev b_TH_init : ByteArray := prog_1_method_1_code
def y_TH_init : MethodName := ⟨"TwinHost", "<init>", "(I)V"⟩
abbrev b_Gu_changeControl : ByteArray := prog_6_method_9_code
def y_Gu_changeControl : MethodName := ⟨"TwinHost$Guest", "changeControl", "(I)LTwinHost$Outcome;"⟩
abbrev b_Gu_load : ByteArray := prog_6_method_5_code
def y_Gu_load : MethodName := ⟨"TwinHost$Guest", "load", "(II)LTwinHost$Outcome;"⟩
abbrev b_Gu_store : ByteArray := prog_6_method_6_code
def y_Gu_store : MethodName := ⟨"TwinHost$Guest", "store", "(II)LTwinHost$Outcome;"⟩
abbrev b_Mo_special : ByteArray := prog_12_method_37_code
def y_Mo_special : MethodName := ⟨"TwinHostModel", "special", "(IIII)I"⟩
abbrev b_Mo_walk : ByteArray := prog_12_method_30_code
def y_Mo_walk : MethodName := ⟨"TwinHostModel", "walk", "(III)I"⟩
abbrev b_Gu_doOrdinary : ByteArray := prog_6_method_3_code
def y_Gu_doOrdinary : MethodName := ⟨"TwinHost$Guest", "doOrdinary", "(I)LTwinHost$Outcome;"⟩
abbrev b_Gu_doSystem : ByteArray := prog_6_method_8_code
def y_Gu_doSystem : MethodName := ⟨"TwinHost$Guest", "doSystem", "(I)LTwinHost$Outcome;"⟩
abbrev b_Mo_access : ByteArray := prog_12_method_28_code
def y_Mo_access : MethodName := ⟨"TwinHostModel", "access", "(III)I"⟩
abbrev b_Gu_step : ByteArray := prog_6_method_2_code
def y_Gu_step : MethodName := ⟨"TwinHost$Guest", "step", "()LTwinHost$Outcome;"⟩
abbrev b_Mo_data : ByteArray := prog_12_method_36_code
def y_Mo_data : MethodName := ⟨"TwinHostModel", "data", "(IIIII)I"⟩
abbrev b_Mo_step : ByteArray := prog_12_method_35_code
def y_Mo_step : MethodName := ⟨"TwinHostModel", "step", "(I)I"⟩
abbrev b_TH_run : ByteArray := prog_1_method_12_code
def y_TH_run : MethodName := ⟨"TwinHost", "run", "(I)I"⟩
abbrev b_Mo_run : ByteArray := prog_12_method_40_code
def y_Mo_run : MethodName := ⟨"TwinHostModel", "run", "(I)I"⟩
def tw_Ne : List (String × Nat × MethodName × String) := [("TwinHost", 15, y_Gu_init, "TwinHost"), ("TwinHost$Controls", 15, y_In_init, "TwinHost"), ("TwinHost$Guest", 39, y_Wa_init, "TwinHost"), ("TwinHost$Guest", 168, y_TH_isWord, "TwinHost")]
theorem wd_0 : Cond.selects R_TH y_TH_passTurnAfter y_TH_passTurnAfter ∈ tw_Tb := tw_in 0 (by decide +kernel) (by decide +kernel)
theorem wd_1 : Cond.selects R_Mo y_Mo_drop y_Mo_drop ∈ tw_Tb := tw_in 1 (by decide +kernel) (by decide +kernel)
theorem wd_2 : Cond.selects R_Mo y_Mo_add y_Mo_add ∈ tw_Tb := tw_in 2 (by decide +kernel) (by decide +kernel)
theorem wd_3 : Cond.selects R_Mo y_Mo_put y_Mo_put ∈ tw_Tb := tw_in 3 (by decide +kernel) (by decide +kernel)
theorem wd_4 : Cond.selects R_Mo y_Mo_assign y_Mo_assign ∈ tw_Tb := tw_in 4 (by decide +kernel) (by decide +kernel)
theorem wd_5 : Cond.selects R_Mo y_Mo_flush y_Mo_flush ∈ tw_Tb := tw_in 5 (by decide +kernel) (by decide +kernel)
theorem wd_6 : Cond.selects R_Mo y_Mo_isThere y_Mo_isThere ∈ tw_Tb := tw_in 6 (by decide +kernel) (by decide +kernel)
theorem wd_7 : Cond.selects R_Mo y_Mo_pending y_Mo_pending ∈ tw_Tb := tw_in 7 (by decide +kernel) (by decide +kernel)
theorem wd_8 : Cond.selects R_Mo y_Mo_step y_Mo_step ∈ tw_Tb := tw_in 8 (by decide +kernel) (by decide +kernel)
theorem wd_9 : Cond.selects R_Mo y_Mo_trap y_Mo_trap ∈ tw_Tb := tw_in 9 (by decide +kernel) (by decide +kernel)
theorem wd_10 : Cond.selects R_Mo y_Mo_access y_Mo_access ∈ tw_Tb := tw_in 10 (by decide +kernel) (by decide +kernel)
theorem wd_11 : Cond.selects R_Mo y_Mo_outside y_Mo_outside ∈ tw_Tb := tw_in 11 (by decide +kernel) (by decide +kernel)
theorem wd_12 : Cond.selects R_Mo y_Mo_fault y_Mo_fault ∈ tw_Tb := tw_in 12 (by decide +kernel) (by decide +kernel)
theorem wd_13 : Cond.selects R_Mo y_Mo_allowed y_Mo_allowed ∈ tw_Tb := tw_in 13 (by decide +kernel) (by decide +kernel)
theorem wd_14 : Cond.selects R_Mo y_Mo_walk y_Mo_walk ∈ tw_Tb := tw_in 14 (by decide +kernel) (by decide +kernel)
theorem wd_15 : Cond.selects R_Mo y_Mo_reach y_Mo_reach ∈ tw_Tb := tw_in 15 (by decide +kernel) (by decide +kernel)
theorem wd_16 : Cond.selects R_Mo y_Mo_fill y_Mo_fill ∈ tw_Tb := tw_in 16 (by decide +kernel) (by decide +kernel)
theorem wd_17 : Cond.selects R_Mo y_Mo_special y_Mo_special ∈ tw_Tb := tw_in 17 (by decide +kernel) (by decide +kernel)
theorem wd_18 : Cond.selects R_Mo y_Mo_illegal y_Mo_illegal ∈ tw_Tb := tw_in 18 (by decide +kernel) (by decide +kernel)
theorem wd_19 : Cond.selects R_Mo y_Mo_controls y_Mo_controls ∈ tw_Tb := tw_in 19 (by decide +kernel) (by decide +kernel)
theorem wd_20 : Cond.selects R_Mo y_Mo_takeInput y_Mo_takeInput ∈ tw_Tb := tw_in 20 (by decide +kernel) (by decide +kernel)
theorem wd_21 : Cond.selects R_Mo y_Mo_retire y_Mo_retire ∈ tw_Tb := tw_in 21 (by decide +kernel) (by decide +kernel)
theorem wd_22 : Cond.selects R_Mo y_Mo_data y_Mo_data ∈ tw_Tb := tw_in 22 (by decide +kernel) (by decide +kernel)
theorem wd_24 : Cond.initialized "TwinHost" ∈ tw_Tb := tw_in 24 (by decide +kernel) (by decide +kernel)
theorem wd_25 : Cond.initialized "TwinHost$Guest" ∈ tw_Tb := tw_in 25 (by decide +kernel) (by decide +kernel)
theorem wd_26 : Cond.initialized "TwinHost$Controls" ∈ tw_Tb := tw_in 26 (by decide +kernel) (by decide +kernel)
theorem wd_27 : Cond.initialized "TwinHost$Inputs" ∈ tw_Tb := tw_in 27 (by decide +kernel) (by decide +kernel)
theorem wd_28 : Cond.initialized "TwinHost$Shadows" ∈ tw_Tb := tw_in 28 (by decide +kernel) (by decide +kernel)
theorem wd_29 : Cond.initialized "TwinHost$Walk" ∈ tw_Tb := tw_in 29 (by decide +kernel) (by decide +kernel)
theorem wd_30 : Cond.initialized "TwinHostModel" ∈ tw_Tb := tw_in 30 (by decide +kernel) (by decide +kernel)
theorem wd_34 : Cond.initialized "TwinHost$Entry" ∈ tw_Tb := tw_in 34 (by decide +kernel) (by decide +kernel)
theorem wd_62 : Cond.fieldLink "TwinHost$Inputs" 9 "TwinHost$Inputs" "times" "[I" ∈ tw_Tb := tw_in 62 (by decide +kernel) (by decide +kernel)
theorem wd_63 : Cond.fieldLink "TwinHost$Inputs" 13 "TwinHost$Inputs" "values" "[I" ∈ tw_Tb := tw_in 63 (by decide +kernel) (by decide +kernel)
theorem wd_64 : Cond.fieldLink "TwinHost$Controls" 32 "TwinHost$Inputs" "values" "[I" ∈ tw_Tb := tw_in 64 (by decide +kernel) (by decide +kernel)
theorem wd_65 : Cond.fieldLink "TwinHost$Inputs" 16 "TwinHost$Inputs" "size" "I" ∈ tw_Tb := tw_in 65 (by decide +kernel) (by decide +kernel)
theorem wd_75 : Cond.fieldLink "TwinHost$Controls" 9 "TwinHost$Controls" "values" "[I" ∈ tw_Tb := tw_in 75 (by decide +kernel) (by decide +kernel)
theorem wd_76 : Cond.fieldLink "TwinHost$Guest" 123 "TwinHost$Controls" "values" "[I" ∈ tw_Tb := tw_in 76 (by decide +kernel) (by decide +kernel)
theorem wd_77 : Cond.fieldLink "TwinHost$Controls" 16 "TwinHost$Controls" "inputs" "LTwinHost$Inputs;" ∈ tw_Tb := tw_in 77 (by decide +kernel) (by decide +kernel)
theorem wd_78 : Cond.fieldLink "TwinHost" 71 "TwinHost$Controls" "inputs" "LTwinHost$Inputs;" ∈ tw_Tb := tw_in 78 (by decide +kernel) (by decide +kernel)
theorem wd_91 : Cond.instanceMethod y_Sh_clear ∈ tw_Tb := tw_in 91 (by decide +kernel) (by decide +kernel)
theorem wd_92 : Cond.selects R_Sh y_Sh_clear y_Sh_clear ∈ tw_Tb := tw_in 92 (by decide +kernel) (by decide +kernel)
theorem wd_93 : Cond.code y_Sh_clear b_Sh_clear 2 none ∈ tw_Tb := tw_in 93 (by decide +kernel) (by decide +kernel)
theorem wd_94 : Cond.fieldLink "TwinHost$Shadows" 9 "TwinHost$Shadows" "pages" "[I" ∈ tw_Tb := tw_in 94 (by decide +kernel) (by decide +kernel)
theorem wd_95 : Cond.fieldLink "TwinHost$Guest" 188 "TwinHost$Shadows" "pages" "[I" ∈ tw_Tb := tw_in 95 (by decide +kernel) (by decide +kernel)
theorem wd_96 : Cond.fieldLink "TwinHost$Shadows" 15 "TwinHost$Shadows" "bits" "[I" ∈ tw_Tb := tw_in 96 (by decide +kernel) (by decide +kernel)
theorem wd_97 : Cond.fieldLink "TwinHost$Shadows" 18 "TwinHost$Shadows" "firsts" "[I" ∈ tw_Tb := tw_in 97 (by decide +kernel) (by decide +kernel)
theorem wd_98 : Cond.fieldLink "TwinHost$Shadows" 21 "TwinHost$Shadows" "seconds" "[I" ∈ tw_Tb := tw_in 98 (by decide +kernel) (by decide +kernel)
theorem wd_114 : Cond.fieldLink "TwinHost$Walk" 15 "TwinHost$Walk" "first" "I" ∈ tw_Tb := tw_in 114 (by decide +kernel) (by decide +kernel)
theorem wd_115 : Cond.fieldLink "TwinHost$Shadows" 35 "TwinHost$Walk" "first" "I" ∈ tw_Tb := tw_in 115 (by decide +kernel) (by decide +kernel)
theorem wd_116 : Cond.fieldLink "TwinHost$Walk" 22 "TwinHost$Walk" "second" "I" ∈ tw_Tb := tw_in 116 (by decide +kernel) (by decide +kernel)
theorem wd_117 : Cond.fieldLink "TwinHost$Shadows" 38 "TwinHost$Walk" "second" "I" ∈ tw_Tb := tw_in 117 (by decide +kernel) (by decide +kernel)
theorem wd_118 : Cond.fieldLink "TwinHost$Walk" 25 "TwinHost$Walk" "leafAt" "I" ∈ tw_Tb := tw_in 118 (by decide +kernel) (by decide +kernel)
theorem wd_119 : Cond.fieldLink "TwinHost$Guest" 191 "TwinHost$Walk" "leafAt" "I" ∈ tw_Tb := tw_in 119 (by decide +kernel) (by decide +kernel)
theorem wd_120 : Cond.fieldLink "TwinHost$Walk" 44 "TwinHost$Walk" "page" "I" ∈ tw_Tb := tw_in 120 (by decide +kernel) (by decide +kernel)
theorem wd_121 : Cond.fieldLink "TwinHost$Shadows" 27 "TwinHost$Walk" "page" "I" ∈ tw_Tb := tw_in 121 (by decide +kernel) (by decide +kernel)
theorem wd_122 : Cond.fieldLink "TwinHost$Guest" 199 "TwinHost$Walk" "page" "I" ∈ tw_Tb := tw_in 122 (by decide +kernel) (by decide +kernel)
theorem wd_132 : Cond.fieldLink "TwinHost$Guest" 9 "TwinHost$Guest" "memory" "[I" ∈ tw_Tb := tw_in 132 (by decide +kernel) (by decide +kernel)
theorem wd_133 : Cond.fieldLink "TwinHost" 31 "TwinHost$Guest" "memory" "[I" ∈ tw_Tb := tw_in 133 (by decide +kernel) (by decide +kernel)
theorem wd_134 : Cond.fieldLink "TwinHost$Guest" 15 "TwinHost$Guest" "registers" "[I" ∈ tw_Tb := tw_in 134 (by decide +kernel) (by decide +kernel)
theorem wd_135 : Cond.fieldLink "TwinHost" 42 "TwinHost$Guest" "registers" "[I" ∈ tw_Tb := tw_in 135 (by decide +kernel) (by decide +kernel)
theorem wd_136 : Cond.fieldLink "TwinHost$Guest" 20 "TwinHost$Guest" "counts" "[I" ∈ tw_Tb := tw_in 136 (by decide +kernel) (by decide +kernel)
theorem wd_137 : Cond.fieldLink "TwinHost" 112 "TwinHost$Guest" "counts" "[I" ∈ tw_Tb := tw_in 137 (by decide +kernel) (by decide +kernel)
theorem wd_138 : Cond.fieldLink "TwinHost$Guest" 26 "TwinHost$Guest" "controls" "LTwinHost$Controls;" ∈ tw_Tb := tw_in 138 (by decide +kernel) (by decide +kernel)
theorem wd_139 : Cond.fieldLink "TwinHost" 56 "TwinHost$Guest" "controls" "LTwinHost$Controls;" ∈ tw_Tb := tw_in 139 (by decide +kernel) (by decide +kernel)
theorem wd_140 : Cond.fieldLink "TwinHost$Guest" 33 "TwinHost$Guest" "shadows" "LTwinHost$Shadows;" ∈ tw_Tb := tw_in 140 (by decide +kernel) (by decide +kernel)
theorem wd_141 : Cond.fieldLink "TwinHost" 98 "TwinHost$Guest" "shadows" "LTwinHost$Shadows;" ∈ tw_Tb := tw_in 141 (by decide +kernel) (by decide +kernel)
theorem wd_142 : Cond.fieldLink "TwinHost$Guest" 40 "TwinHost$Guest" "walk" "LTwinHost$Walk;" ∈ tw_Tb := tw_in 142 (by decide +kernel) (by decide +kernel)
theorem wd_143 : Cond.fieldLink "TwinHost$Guest" 62 "TwinHost$Guest" "pc" "I" ∈ tw_Tb := tw_in 143 (by decide +kernel) (by decide +kernel)
theorem wd_144 : Cond.fieldLink "TwinHost" 64 "TwinHost$Guest" "pc" "I" ∈ tw_Tb := tw_in 144 (by decide +kernel) (by decide +kernel)
theorem wd_145 : Cond.fieldLink "TwinHost$Guest" 48 "TwinHost$Guest" "inUser" "Z" ∈ tw_Tb := tw_in 145 (by decide +kernel) (by decide +kernel)
theorem wd_146 : Cond.fieldLink "TwinHost" 67 "TwinHost$Guest" "inUser" "Z" ∈ tw_Tb := tw_in 146 (by decide +kernel) (by decide +kernel)
theorem wd_164 : Cond.fieldLink "TwinHost" 16 "TwinHost" "guests" "[LTwinHost$Guest;" ∈ tw_Tb := tw_in 164 (by decide +kernel) (by decide +kernel)
theorem wd_165 : Cond.fieldLink "TwinHost" 9 "TwinHost" "quantum" "I" ∈ tw_Tb := tw_in 165 (by decide +kernel) (by decide +kernel)
theorem wd_166 : Cond.fieldLink "TwinHost" 81 "TwinHost" "holder" "I" ∈ tw_Tb := tw_in 166 (by decide +kernel) (by decide +kernel)
theorem wd_167 : Cond.fieldLink "TwinHost" 115 "TwinHost" "stepsInRow" "I" ∈ tw_Tb := tw_in 167 (by decide +kernel) (by decide +kernel)
theorem wd_181 : Cond.methodLink "TwinHost" 20 y_TH_isGuest ∈ tw_Tb := tw_in 181 (by decide +kernel) (by decide +kernel)
theorem wd_182 : Cond.static y_TH_isGuest ∈ tw_Tb := tw_in 182 (by decide +kernel) (by decide +kernel)
theorem wd_183 : Cond.code y_TH_isGuest b_TH_isGuest 1 (some .boolean) ∈ tw_Tb := tw_in 183 (by decide +kernel) (by decide +kernel)
theorem wd_184 : Cond.methodLink "TwinHost" 24 y_TH_isWord ∈ tw_Tb := tw_in 184 (by decide +kernel) (by decide +kernel)
theorem wd_185 : Cond.static y_TH_isWord ∈ tw_Tb := tw_in 185 (by decide +kernel) (by decide +kernel)
theorem wd_186 : Cond.code y_TH_isWord b_TH_isWord 1 (some .boolean) ∈ tw_Tb := tw_in 186 (by decide +kernel) (by decide +kernel)
theorem wd_187 : Cond.methodLink "TwinHost" 27 y_Gu_overwrite ∈ tw_Tb := tw_in 187 (by decide +kernel) (by decide +kernel)
theorem wd_188 : Cond.instanceMethod y_Gu_overwrite ∈ tw_Tb := tw_in 188 (by decide +kernel) (by decide +kernel)
theorem wd_189 : Cond.selects R_Gu y_Gu_overwrite y_Gu_overwrite ∈ tw_Tb := tw_in 189 (by decide +kernel) (by decide +kernel)
theorem wd_190 : Cond.code y_Gu_overwrite b_Gu_overwrite 4 (some .int) ∈ tw_Tb := tw_in 190 (by decide +kernel) (by decide +kernel)
theorem wd_191 : Cond.methodLink "TwinHost$Guest" 206 y_Sh_dropThoseOf ∈ tw_Tb := tw_in 191 (by decide +kernel) (by decide +kernel)
theorem wd_192 : Cond.instanceMethod y_Sh_dropThoseOf ∈ tw_Tb := tw_in 192 (by decide +kernel) (by decide +kernel)
theorem wd_193 : Cond.selects R_Sh y_Sh_dropThoseOf y_Sh_dropThoseOf ∈ tw_Tb := tw_in 193 (by decide +kernel) (by decide +kernel)
theorem wd_194 : Cond.code y_Sh_dropThoseOf b_Sh_dropThoseOf 4 (some .int) ∈ tw_Tb := tw_in 194 (by decide +kernel) (by decide +kernel)
theorem wd_203 : Cond.methodLink "TwinHost" 35 y_TH_isRegister ∈ tw_Tb := tw_in 203 (by decide +kernel) (by decide +kernel)
theorem wd_204 : Cond.static y_TH_isRegister ∈ tw_Tb := tw_in 204 (by decide +kernel) (by decide +kernel)
theorem wd_205 : Cond.code y_TH_isRegister b_TH_isRegister 1 (some .boolean) ∈ tw_Tb := tw_in 205 (by decide +kernel) (by decide +kernel)
theorem wd_206 : Cond.methodLink "TwinHost" 38 y_Gu_setRegister ∈ tw_Tb := tw_in 206 (by decide +kernel) (by decide +kernel)
theorem wd_207 : Cond.instanceMethod y_Gu_setRegister ∈ tw_Tb := tw_in 207 (by decide +kernel) (by decide +kernel)
theorem wd_208 : Cond.selects R_Gu y_Gu_setRegister y_Gu_setRegister ∈ tw_Tb := tw_in 208 (by decide +kernel) (by decide +kernel)
theorem wd_209 : Cond.code y_Gu_setRegister b_Gu_setRegister 3 none ∈ tw_Tb := tw_in 209 (by decide +kernel) (by decide +kernel)
theorem wd_218 : Cond.methodLink "TwinHost" 45 y_Co_isStoredTo ∈ tw_Tb := tw_in 218 (by decide +kernel) (by decide +kernel)
theorem wd_219 : Cond.static y_Co_isStoredTo ∈ tw_Tb := tw_in 219 (by decide +kernel) (by decide +kernel)
theorem wd_220 : Cond.code y_Co_isStoredTo b_Co_isStoredTo 1 (some .boolean) ∈ tw_Tb := tw_in 220 (by decide +kernel) (by decide +kernel)
theorem wd_221 : Cond.methodLink "TwinHost$Controls" 21 y_Co_exists ∈ tw_Tb := tw_in 221 (by decide +kernel) (by decide +kernel)
theorem wd_222 : Cond.static y_Co_exists ∈ tw_Tb := tw_in 222 (by decide +kernel) (by decide +kernel)
theorem wd_223 : Cond.code y_Co_exists b_Co_exists 1 (some .boolean) ∈ tw_Tb := tw_in 223 (by decide +kernel) (by decide +kernel)
theorem wd_224 : Cond.methodLink "TwinHost" 50 y_Gu_storeControl ∈ tw_Tb := tw_in 224 (by decide +kernel) (by decide +kernel)
theorem wd_225 : Cond.instanceMethod y_Gu_storeControl ∈ tw_Tb := tw_in 225 (by decide +kernel) (by decide +kernel)
theorem wd_226 : Cond.selects R_Gu y_Gu_storeControl y_Gu_storeControl ∈ tw_Tb := tw_in 226 (by decide +kernel) (by decide +kernel)
theorem wd_227 : Cond.code y_Gu_storeControl b_Gu_storeControl 3 none ∈ tw_Tb := tw_in 227 (by decide +kernel) (by decide +kernel)
theorem wd_228 : Cond.methodLink "TwinHost$Guest" 209 y_Co_put ∈ tw_Tb := tw_in 228 (by decide +kernel) (by decide +kernel)
theorem wd_229 : Cond.instanceMethod y_Co_put ∈ tw_Tb := tw_in 229 (by decide +kernel) (by decide +kernel)
theorem wd_230 : Cond.selects R_Co y_Co_put y_Co_put ∈ tw_Tb := tw_in 230 (by decide +kernel) (by decide +kernel)
theorem wd_231 : Cond.code y_Co_put b_Co_put 3 none ∈ tw_Tb := tw_in 231 (by decide +kernel) (by decide +kernel)
theorem wd_232 : Cond.methodLink "TwinHost$Controls" 40 y_Co_keptBits ∈ tw_Tb := tw_in 232 (by decide +kernel) (by decide +kernel)
theorem wd_233 : Cond.static y_Co_keptBits ∈ tw_Tb := tw_in 233 (by decide +kernel) (by decide +kernel)
theorem wd_234 : Cond.code y_Co_keptBits b_Co_keptBits 1 (some .int) ∈ tw_Tb := tw_in 234 (by decide +kernel) (by decide +kernel)
theorem wd_235 : Cond.methodLink "TwinHost$Guest" 126 y_Gu_flush ∈ tw_Tb := tw_in 235 (by decide +kernel) (by decide +kernel)
theorem wd_236 : Cond.instanceMethod y_Gu_flush ∈ tw_Tb := tw_in 236 (by decide +kernel) (by decide +kernel)
theorem wd_237 : Cond.selects R_Gu y_Gu_flush y_Gu_flush ∈ tw_Tb := tw_in 237 (by decide +kernel) (by decide +kernel)
theorem wd_238 : Cond.code y_Gu_flush b_Gu_flush 1 none ∈ tw_Tb := tw_in 238 (by decide +kernel) (by decide +kernel)
theorem wd_239 : Cond.methodLink "TwinHost$Guest" 211 y_Sh_clear ∈ tw_Tb := tw_in 239 (by decide +kernel) (by decide +kernel)
theorem wd_244 : Cond.methodLink "TwinHost" 53 y_Co_exists ∈ tw_Tb := tw_in 244 (by decide +kernel) (by decide +kernel)
theorem wd_245 : Cond.methodLink "TwinHost" 60 y_Co_look ∈ tw_Tb := tw_in 245 (by decide +kernel) (by decide +kernel)
theorem wd_246 : Cond.instanceMethod y_Co_look ∈ tw_Tb := tw_in 246 (by decide +kernel) (by decide +kernel)
theorem wd_247 : Cond.selects R_Co y_Co_look y_Co_look ∈ tw_Tb := tw_in 247 (by decide +kernel) (by decide +kernel)
theorem wd_248 : Cond.code y_Co_look b_Co_look 2 (some .int) ∈ tw_Tb := tw_in 248 (by decide +kernel) (by decide +kernel)
theorem wd_249 : Cond.methodLink "TwinHost$Controls" 25 y_Co_pendingBits ∈ tw_Tb := tw_in 249 (by decide +kernel) (by decide +kernel)
theorem wd_250 : Cond.instanceMethod y_Co_pendingBits ∈ tw_Tb := tw_in 250 (by decide +kernel) (by decide +kernel)
theorem wd_251 : Cond.selects R_Co y_Co_pendingBits y_Co_pendingBits ∈ tw_Tb := tw_in 251 (by decide +kernel) (by decide +kernel)
theorem wd_252 : Cond.code y_Co_pendingBits b_Co_pendingBits 2 (some .int) ∈ tw_Tb := tw_in 252 (by decide +kernel) (by decide +kernel)
theorem wd_253 : Cond.methodLink "TwinHost$Controls" 29 y_In_isThere ∈ tw_Tb := tw_in 253 (by decide +kernel) (by decide +kernel)
theorem wd_254 : Cond.instanceMethod y_In_isThere ∈ tw_Tb := tw_in 254 (by decide +kernel) (by decide +kernel)
theorem wd_255 : Cond.selects R_In y_In_isThere y_In_isThere ∈ tw_Tb := tw_in 255 (by decide +kernel) (by decide +kernel)
theorem wd_256 : Cond.code y_In_isThere b_In_isThere 2 (some .boolean) ∈ tw_Tb := tw_in 256 (by decide +kernel) (by decide +kernel)
theorem wd_273 : Cond.methodLink "TwinHost" 75 y_In_append ∈ tw_Tb := tw_in 273 (by decide +kernel) (by decide +kernel)
theorem wd_274 : Cond.instanceMethod y_In_append ∈ tw_Tb := tw_in 274 (by decide +kernel) (by decide +kernel)
theorem wd_275 : Cond.selects R_In y_In_append y_In_append ∈ tw_Tb := tw_in 275 (by decide +kernel) (by decide +kernel)
theorem wd_276 : Cond.code y_In_append b_In_append 3 (some .boolean) ∈ tw_Tb := tw_in 276 (by decide +kernel) (by decide +kernel)
theorem wd_281 : Cond.methodLink "TwinHost" 84 y_Gu_step ∈ tw_Tb := tw_in 281 (by decide +kernel) (by decide +kernel)
theorem wd_282 : Cond.instanceMethod y_Gu_step ∈ tw_Tb := tw_in 282 (by decide +kernel) (by decide +kernel)
theorem wd_283 : Cond.selects R_Gu y_Gu_step y_Gu_step ∈ tw_Tb := tw_in 283 (by decide +kernel) (by decide +kernel)
theorem wd_284 : Cond.code y_Gu_step b_Gu_step 4 (some (.object "TwinHost$Outcome")) ∈ tw_Tb := tw_in 284 (by decide +kernel) (by decide +kernel)
theorem wd_285 : Cond.methodLink "TwinHost$Guest" 44 y_Co_dueBits ∈ tw_Tb := tw_in 285 (by decide +kernel) (by decide +kernel)
theorem wd_286 : Cond.instanceMethod y_Co_dueBits ∈ tw_Tb := tw_in 286 (by decide +kernel) (by decide +kernel)
theorem wd_287 : Cond.selects R_Co y_Co_dueBits y_Co_dueBits ∈ tw_Tb := tw_in 287 (by decide +kernel) (by decide +kernel)
theorem wd_288 : Cond.code y_Co_dueBits b_Co_dueBits 1 (some .int) ∈ tw_Tb := tw_in 288 (by decide +kernel) (by decide +kernel)
theorem wd_289 : Cond.methodLink "TwinHost$Guest" 52 y_Co_isOn ∈ tw_Tb := tw_in 289 (by decide +kernel) (by decide +kernel)
theorem wd_290 : Cond.instanceMethod y_Co_isOn ∈ tw_Tb := tw_in 290 (by decide +kernel) (by decide +kernel)
theorem wd_291 : Cond.selects R_Co y_Co_isOn y_Co_isOn ∈ tw_Tb := tw_in 291 (by decide +kernel) (by decide +kernel)
theorem wd_292 : Cond.code y_Co_isOn b_Co_isOn 2 (some .boolean) ∈ tw_Tb := tw_in 292 (by decide +kernel) (by decide +kernel)
theorem wd_293 : Cond.constant "TwinHost$Guest" 56 (-2147483639) ∈ tw_Tb := tw_in 293 (by decide +kernel) (by decide +kernel)
theorem wd_294 : Cond.constant "TwinHost$Guest" 57 (-2147483643) ∈ tw_Tb := tw_in 294 (by decide +kernel) (by decide +kernel)
theorem wd_295 : Cond.methodLink "TwinHost$Guest" 58 y_Gu_trap ∈ tw_Tb := tw_in 295 (by decide +kernel) (by decide +kernel)
theorem wd_296 : Cond.instanceMethod y_Gu_trap ∈ tw_Tb := tw_in 296 (by decide +kernel) (by decide +kernel)
theorem wd_297 : Cond.selects R_Gu y_Gu_trap y_Gu_trap ∈ tw_Tb := tw_in 297 (by decide +kernel) (by decide +kernel)
theorem wd_298 : Cond.code y_Gu_trap b_Gu_trap 3 (some (.object "TwinHost$Outcome")) ∈ tw_Tb := tw_in 298 (by decide +kernel) (by decide +kernel)
theorem wd_299 : Cond.methodLink "TwinHost$Guest" 158 y_Co_enterTrap ∈ tw_Tb := tw_in 299 (by decide +kernel) (by decide +kernel)
theorem wd_300 : Cond.instanceMethod y_Co_enterTrap ∈ tw_Tb := tw_in 300 (by decide +kernel) (by decide +kernel)
theorem wd_301 : Cond.selects R_Co y_Co_enterTrap y_Co_enterTrap ∈ tw_Tb := tw_in 301 (by decide +kernel) (by decide +kernel)
theorem wd_302 : Cond.code y_Co_enterTrap b_Co_enterTrap 6 none ∈ tw_Tb := tw_in 302 (by decide +kernel) (by decide +kernel)
theorem wd_303 : Cond.methodLink "TwinHost$Controls" 43 y_Co_isOn ∈ tw_Tb := tw_in 303 (by decide +kernel) (by decide +kernel)
theorem wd_304 : Cond.fieldLink "TwinHost$Guest" 162 "TwinHost$Outcome" "TRAPPED" "LTwinHost$Outcome;" ∈ tw_Tb := tw_in 304 (by decide +kernel) (by decide +kernel)
theorem wd_306 : Cond.fieldLink "TwinHost$Guest" 66 "TwinHost$Access" "FETCH" "LTwinHost$Access;" ∈ tw_Tb := tw_in 306 (by decide +kernel) (by decide +kernel)
theorem wd_308 : Cond.methodLink "TwinHost$Guest" 72 y_Gu_reach ∈ tw_Tb := tw_in 308 (by decide +kernel) (by decide +kernel)
theorem wd_309 : Cond.instanceMethod y_Gu_reach ∈ tw_Tb := tw_in 309 (by decide +kernel) (by decide +kernel)
theorem wd_310 : Cond.selects R_Gu y_Gu_reach y_Gu_reach ∈ tw_Tb := tw_in 310 (by decide +kernel) (by decide +kernel)
theorem wd_311 : Cond.code y_Gu_reach b_Gu_reach 6 (some .int) ∈ tw_Tb := tw_in 311 (by decide +kernel) (by decide +kernel)
theorem wd_312 : Cond.methodLink "TwinHost$Guest" 165 y_Co_translates ∈ tw_Tb := tw_in 312 (by decide +kernel) (by decide +kernel)
theorem wd_313 : Cond.instanceMethod y_Co_translates ∈ tw_Tb := tw_in 313 (by decide +kernel) (by decide +kernel)
theorem wd_314 : Cond.selects R_Co y_Co_translates y_Co_translates ∈ tw_Tb := tw_in 314 (by decide +kernel) (by decide +kernel)
theorem wd_315 : Cond.code y_Co_translates b_Co_translates 1 (some .boolean) ∈ tw_Tb := tw_in 315 (by decide +kernel) (by decide +kernel)
theorem wd_317 : Cond.methodLink "TwinHost$Guest" 177 y_Sh_letsThrough ∈ tw_Tb := tw_in 317 (by decide +kernel) (by decide +kernel)
theorem wd_318 : Cond.instanceMethod y_Sh_letsThrough ∈ tw_Tb := tw_in 318 (by decide +kernel) (by decide +kernel)
theorem wd_319 : Cond.selects R_Sh y_Sh_letsThrough y_Sh_letsThrough ∈ tw_Tb := tw_in 319 (by decide +kernel) (by decide +kernel)
theorem wd_320 : Cond.code y_Sh_letsThrough b_Sh_letsThrough 5 (some .boolean) ∈ tw_Tb := tw_in 320 (by decide +kernel) (by decide +kernel)
theorem wd_321 : Cond.methodLink "TwinHost$Shadows" 41 y_En_allows ∈ tw_Tb := tw_in 321 (by decide +kernel) (by decide +kernel)
theorem wd_322 : Cond.static y_En_allows ∈ tw_Tb := tw_in 322 (by decide +kernel) (by decide +kernel)
theorem wd_323 : Cond.code y_En_allows b_En_allows 5 (some .boolean) ∈ tw_Tb := tw_in 323 (by decide +kernel) (by decide +kernel)
theorem wd_324 : Cond.fieldLink "TwinHost$Entry" 15 "TwinHost$Access" "FETCH" "LTwinHost$Access;" ∈ tw_Tb := tw_in 324 (by decide +kernel) (by decide +kernel)
theorem wd_325 : Cond.fieldLink "TwinHost$Shadows" 45 "TwinHost$Access" "STORE" "LTwinHost$Access;" ∈ tw_Tb := tw_in 325 (by decide +kernel) (by decide +kernel)
theorem wd_327 : Cond.methodLink "TwinHost$Guest" 181 y_Wa_search ∈ tw_Tb := tw_in 327 (by decide +kernel) (by decide +kernel)
theorem wd_328 : Cond.instanceMethod y_Wa_search ∈ tw_Tb := tw_in 328 (by decide +kernel) (by decide +kernel)
theorem wd_329 : Cond.selects R_Wa y_Wa_search y_Wa_search ∈ tw_Tb := tw_in 329 (by decide +kernel) (by decide +kernel)
theorem wd_330 : Cond.code y_Wa_search b_Wa_search 9 (some .int) ∈ tw_Tb := tw_in 330 (by decide +kernel) (by decide +kernel)
theorem wd_331 : Cond.methodLink "TwinHost$Walk" 28 y_En_isBroken ∈ tw_Tb := tw_in 331 (by decide +kernel) (by decide +kernel)
theorem wd_332 : Cond.static y_En_isBroken ∈ tw_Tb := tw_in 332 (by decide +kernel) (by decide +kernel)
theorem wd_333 : Cond.code y_En_isBroken b_En_isBroken 1 (some .boolean) ∈ tw_Tb := tw_in 333 (by decide +kernel) (by decide +kernel)
theorem wd_334 : Cond.methodLink "TwinHost$Walk" 37 y_En_pageNumber ∈ tw_Tb := tw_in 334 (by decide +kernel) (by decide +kernel)
theorem wd_335 : Cond.static y_En_pageNumber ∈ tw_Tb := tw_in 335 (by decide +kernel) (by decide +kernel)
theorem wd_336 : Cond.code y_En_pageNumber b_En_pageNumber 1 (some .int) ∈ tw_Tb := tw_in 336 (by decide +kernel) (by decide +kernel)
theorem wd_337 : Cond.methodLink "TwinHost$Walk" 41 y_En_isLeaf ∈ tw_Tb := tw_in 337 (by decide +kernel) (by decide +kernel)
theorem wd_338 : Cond.static y_En_isLeaf ∈ tw_Tb := tw_in 338 (by decide +kernel) (by decide +kernel)
theorem wd_339 : Cond.code y_En_isLeaf b_En_isLeaf 1 (some .boolean) ∈ tw_Tb := tw_in 339 (by decide +kernel) (by decide +kernel)
theorem wd_340 : Cond.methodLink "TwinHost$Guest" 185 y_Gu_fill ∈ tw_Tb := tw_in 340 (by decide +kernel) (by decide +kernel)
theorem wd_341 : Cond.instanceMethod y_Gu_fill ∈ tw_Tb := tw_in 341 (by decide +kernel) (by decide +kernel)
theorem wd_342 : Cond.selects R_Gu y_Gu_fill y_Gu_fill ∈ tw_Tb := tw_in 342 (by decide +kernel) (by decide +kernel)
theorem wd_343 : Cond.code y_Gu_fill b_Gu_fill 4 (some .int) ∈ tw_Tb := tw_in 343 (by decide +kernel) (by decide +kernel)
theorem wd_344 : Cond.methodLink "TwinHost$Guest" 194 y_En_allows ∈ tw_Tb := tw_in 344 (by decide +kernel) (by decide +kernel)
theorem wd_345 : Cond.fieldLink "TwinHost$Guest" 109 "TwinHost$Access" "STORE" "LTwinHost$Access;" ∈ tw_Tb := tw_in 345 (by decide +kernel) (by decide +kernel)
theorem wd_346 : Cond.methodLink "TwinHost$Guest" 202 y_Sh_put ∈ tw_Tb := tw_in 346 (by decide +kernel) (by decide +kernel)
theorem wd_347 : Cond.instanceMethod y_Sh_put ∈ tw_Tb := tw_in 347 (by decide +kernel) (by decide +kernel)
theorem wd_348 : Cond.selects R_Sh y_Sh_put y_Sh_put ∈ tw_Tb := tw_in 348 (by decide +kernel) (by decide +kernel)
theorem wd_349 : Cond.code y_Sh_put b_Sh_put 4 none ∈ tw_Tb := tw_in 349 (by decide +kernel) (by decide +kernel)
theorem wd_350 : Cond.methodLink "TwinHost$Guest" 76 y_Gu_fault ∈ tw_Tb := tw_in 350 (by decide +kernel) (by decide +kernel)
theorem wd_351 : Cond.instanceMethod y_Gu_fault ∈ tw_Tb := tw_in 351 (by decide +kernel) (by decide +kernel)
theorem wd_352 : Cond.selects R_Gu y_Gu_fault y_Gu_fault ∈ tw_Tb := tw_in 352 (by decide +kernel) (by decide +kernel)
theorem wd_353 : Cond.code y_Gu_fault b_Gu_fault 3 (some (.object "TwinHost$Outcome")) ∈ tw_Tb := tw_in 353 (by decide +kernel) (by decide +kernel)
theorem wd_354 : Cond.methodLink "TwinHost$Guest" 79 y_Gu_doOrdinary ∈ tw_Tb := tw_in 354 (by decide +kernel) (by decide +kernel)
theorem wd_355 : Cond.instanceMethod y_Gu_doOrdinary ∈ tw_Tb := tw_in 355 (by decide +kernel) (by decide +kernel)
theorem wd_356 : Cond.selects R_Gu y_Gu_doOrdinary y_Gu_doOrdinary ∈ tw_Tb := tw_in 356 (by decide +kernel) (by decide +kernel)
theorem wd_357 : Cond.code y_Gu_doOrdinary b_Gu_doOrdinary 6 (some (.object "TwinHost$Outcome")) ∈ tw_Tb := tw_in 357 (by decide +kernel) (by decide +kernel)
theorem wd_358 : Cond.methodLink "TwinHost$Guest" 86 y_Gu_load ∈ tw_Tb := tw_in 358 (by decide +kernel) (by decide +kernel)
theorem wd_359 : Cond.instanceMethod y_Gu_load ∈ tw_Tb := tw_in 359 (by decide +kernel) (by decide +kernel)
theorem wd_360 : Cond.selects R_Gu y_Gu_load y_Gu_load ∈ tw_Tb := tw_in 360 (by decide +kernel) (by decide +kernel)
theorem wd_361 : Cond.code y_Gu_load b_Gu_load 4 (some (.object "TwinHost$Outcome")) ∈ tw_Tb := tw_in 361 (by decide +kernel) (by decide +kernel)
theorem wd_362 : Cond.fieldLink "TwinHost$Guest" 106 "TwinHost$Access" "LOAD" "LTwinHost$Access;" ∈ tw_Tb := tw_in 362 (by decide +kernel) (by decide +kernel)
theorem wd_364 : Cond.methodLink "TwinHost$Guest" 102 y_Gu_setRegister ∈ tw_Tb := tw_in 364 (by decide +kernel) (by decide +kernel)
theorem wd_365 : Cond.methodLink "TwinHost$Guest" 92 y_Gu_retireAt ∈ tw_Tb := tw_in 365 (by decide +kernel) (by decide +kernel)
theorem wd_366 : Cond.instanceMethod y_Gu_retireAt ∈ tw_Tb := tw_in 366 (by decide +kernel) (by decide +kernel)
theorem wd_367 : Cond.selects R_Gu y_Gu_retireAt y_Gu_retireAt ∈ tw_Tb := tw_in 367 (by decide +kernel) (by decide +kernel)
theorem wd_368 : Cond.code y_Gu_retireAt b_Gu_retireAt 2 (some (.object "TwinHost$Outcome")) ∈ tw_Tb := tw_in 368 (by decide +kernel) (by decide +kernel)
theorem wd_369 : Cond.fieldLink "TwinHost$Guest" 155 "TwinHost$Outcome" "RETIRED" "LTwinHost$Outcome;" ∈ tw_Tb := tw_in 369 (by decide +kernel) (by decide +kernel)
theorem wd_371 : Cond.methodLink "TwinHost$Guest" 89 y_Gu_store ∈ tw_Tb := tw_in 371 (by decide +kernel) (by decide +kernel)
theorem wd_372 : Cond.instanceMethod y_Gu_store ∈ tw_Tb := tw_in 372 (by decide +kernel) (by decide +kernel)
theorem wd_373 : Cond.selects R_Gu y_Gu_store y_Gu_store ∈ tw_Tb := tw_in 373 (by decide +kernel) (by decide +kernel)
theorem wd_374 : Cond.code y_Gu_store b_Gu_store 4 (some (.object "TwinHost$Outcome")) ∈ tw_Tb := tw_in 374 (by decide +kernel) (by decide +kernel)
theorem wd_375 : Cond.methodLink "TwinHost$Guest" 112 y_Sh_isTraced ∈ tw_Tb := tw_in 375 (by decide +kernel) (by decide +kernel)
theorem wd_376 : Cond.instanceMethod y_Sh_isTraced ∈ tw_Tb := tw_in 376 (by decide +kernel) (by decide +kernel)
theorem wd_377 : Cond.selects R_Sh y_Sh_isTraced y_Sh_isTraced ∈ tw_Tb := tw_in 377 (by decide +kernel) (by decide +kernel)
theorem wd_378 : Cond.code y_Sh_isTraced b_Sh_isTraced 3 (some .boolean) ∈ tw_Tb := tw_in 378 (by decide +kernel) (by decide +kernel)
theorem wd_379 : Cond.methodLink "TwinHost$Shadows" 51 y_Sh_isIn ∈ tw_Tb := tw_in 379 (by decide +kernel) (by decide +kernel)
theorem wd_380 : Cond.static y_Sh_isIn ∈ tw_Tb := tw_in 380 (by decide +kernel) (by decide +kernel)
theorem wd_381 : Cond.code y_Sh_isIn b_Sh_isIn 2 (some .boolean) ∈ tw_Tb := tw_in 381 (by decide +kernel) (by decide +kernel)
theorem wd_382 : Cond.methodLink "TwinHost$Guest" 115 y_Gu_overwrite ∈ tw_Tb := tw_in 382 (by decide +kernel) (by decide +kernel)
theorem wd_383 : Cond.methodLink "TwinHost$Guest" 95 y_Gu_link ∈ tw_Tb := tw_in 383 (by decide +kernel) (by decide +kernel)
theorem wd_384 : Cond.instanceMethod y_Gu_link ∈ tw_Tb := tw_in 384 (by decide +kernel) (by decide +kernel)
theorem wd_385 : Cond.selects R_Gu y_Gu_link y_Gu_link ∈ tw_Tb := tw_in 385 (by decide +kernel) (by decide +kernel)
theorem wd_386 : Cond.code y_Gu_link b_Gu_link 3 (some (.object "TwinHost$Outcome")) ∈ tw_Tb := tw_in 386 (by decide +kernel) (by decide +kernel)
theorem wd_387 : Cond.methodLink "TwinHost$Guest" 98 y_Gu_compute ∈ tw_Tb := tw_in 387 (by decide +kernel) (by decide +kernel)
theorem wd_388 : Cond.static y_Gu_compute ∈ tw_Tb := tw_in 388 (by decide +kernel) (by decide +kernel)
theorem wd_389 : Cond.code y_Gu_compute b_Gu_compute 4 (some .int) ∈ tw_Tb := tw_in 389 (by decide +kernel) (by decide +kernel)
theorem wd_390 : Cond.methodLink "TwinHost$Guest" 83 y_Gu_doSystem ∈ tw_Tb := tw_in 390 (by decide +kernel) (by decide +kernel)
theorem wd_391 : Cond.instanceMethod y_Gu_doSystem ∈ tw_Tb := tw_in 391 (by decide +kernel) (by decide +kernel)
theorem wd_392 : Cond.selects R_Gu y_Gu_doSystem y_Gu_doSystem ∈ tw_Tb := tw_in 392 (by decide +kernel) (by decide +kernel)
theorem wd_393 : Cond.code y_Gu_doSystem b_Gu_doSystem 3 (some (.object "TwinHost$Outcome")) ∈ tw_Tb := tw_in 393 (by decide +kernel) (by decide +kernel)
theorem wd_394 : Cond.methodLink "TwinHost$Guest" 119 y_Co_leaveTrap ∈ tw_Tb := tw_in 394 (by decide +kernel) (by decide +kernel)
theorem wd_395 : Cond.instanceMethod y_Co_leaveTrap ∈ tw_Tb := tw_in 395 (by decide +kernel) (by decide +kernel)
theorem wd_396 : Cond.selects R_Co y_Co_leaveTrap y_Co_leaveTrap ∈ tw_Tb := tw_in 396 (by decide +kernel) (by decide +kernel)
theorem wd_397 : Cond.code y_Co_leaveTrap b_Co_leaveTrap 3 (some .boolean) ∈ tw_Tb := tw_in 397 (by decide +kernel) (by decide +kernel)
theorem wd_398 : Cond.fieldLink "TwinHost$Guest" 129 "TwinHost$Outcome" "STALLED" "LTwinHost$Outcome;" ∈ tw_Tb := tw_in 398 (by decide +kernel) (by decide +kernel)
theorem wd_400 : Cond.methodLink "TwinHost$Guest" 135 y_Gu_changeControl ∈ tw_Tb := tw_in 400 (by decide +kernel) (by decide +kernel)
theorem wd_401 : Cond.instanceMethod y_Gu_changeControl ∈ tw_Tb := tw_in 401 (by decide +kernel) (by decide +kernel)
theorem wd_402 : Cond.selects R_Gu y_Gu_changeControl y_Gu_changeControl ∈ tw_Tb := tw_in 402 (by decide +kernel) (by decide +kernel)
theorem wd_403 : Cond.code y_Gu_changeControl b_Gu_changeControl 8 (some (.object "TwinHost$Outcome")) ∈ tw_Tb := tw_in 403 (by decide +kernel) (by decide +kernel)
theorem wd_404 : Cond.methodLink "TwinHost$Guest" 138 y_Co_exists ∈ tw_Tb := tw_in 404 (by decide +kernel) (by decide +kernel)
theorem wd_405 : Cond.methodLink "TwinHost$Guest" 141 y_Co_isStoredTo ∈ tw_Tb := tw_in 405 (by decide +kernel) (by decide +kernel)
theorem wd_406 : Cond.methodLink "TwinHost$Guest" 144 y_Co_take ∈ tw_Tb := tw_in 406 (by decide +kernel) (by decide +kernel)
theorem wd_407 : Cond.instanceMethod y_Co_take ∈ tw_Tb := tw_in 407 (by decide +kernel) (by decide +kernel)
theorem wd_408 : Cond.selects R_Co y_Co_take y_Co_take ∈ tw_Tb := tw_in 408 (by decide +kernel) (by decide +kernel)
theorem wd_409 : Cond.code y_Co_take b_Co_take 3 (some .int) ∈ tw_Tb := tw_in 409 (by decide +kernel) (by decide +kernel)
theorem wd_410 : Cond.methodLink "TwinHost$Controls" 33 y_Co_look ∈ tw_Tb := tw_in 410 (by decide +kernel) (by decide +kernel)
theorem wd_411 : Cond.methodLink "TwinHost$Controls" 37 y_In_removeFirst ∈ tw_Tb := tw_in 411 (by decide +kernel) (by decide +kernel)
theorem wd_412 : Cond.instanceMethod y_In_removeFirst ∈ tw_Tb := tw_in 412 (by decide +kernel) (by decide +kernel)
theorem wd_413 : Cond.selects R_In y_In_removeFirst y_In_removeFirst ∈ tw_Tb := tw_in 413 (by decide +kernel) (by decide +kernel)
theorem wd_414 : Cond.code y_In_removeFirst b_In_removeFirst 2 none ∈ tw_Tb := tw_in 414 (by decide +kernel) (by decide +kernel)
theorem wd_415 : Cond.methodLink "TwinHost$Guest" 148 y_Gu_changed ∈ tw_Tb := tw_in 415 (by decide +kernel) (by decide +kernel)
theorem wd_416 : Cond.static y_Gu_changed ∈ tw_Tb := tw_in 416 (by decide +kernel) (by decide +kernel)
theorem wd_417 : Cond.code y_Gu_changed b_Gu_changed 3 (some .int) ∈ tw_Tb := tw_in 417 (by decide +kernel) (by decide +kernel)
theorem wd_418 : Cond.methodLink "TwinHost$Guest" 152 y_Gu_storeControl ∈ tw_Tb := tw_in 418 (by decide +kernel) (by decide +kernel)
theorem wd_419 : Cond.fieldLink "TwinHost" 88 "TwinHost$Outcome" "RETIRED" "LTwinHost$Outcome;" ∈ tw_Tb := tw_in 419 (by decide +kernel) (by decide +kernel)
theorem wd_420 : Cond.methodLink "TwinHost" 94 y_TH_passTurnAfter ∈ tw_Tb := tw_in 420 (by decide +kernel) (by decide +kernel)
theorem wd_422 : Cond.instanceMethod y_TH_passTurnAfter ∈ tw_Tb := tw_in 422 (by decide +kernel) (by decide +kernel)
theorem wd_423 : Cond.code y_TH_passTurnAfter b_TH_passTurnAfter 2 none ∈ tw_Tb := tw_in 423 (by decide +kernel) (by decide +kernel)
theorem wd_424 : Cond.fieldLink "TwinHost" 118 "TwinHost$Outcome" "STALLED" "LTwinHost$Outcome;" ∈ tw_Tb := tw_in 424 (by decide +kernel) (by decide +kernel)
theorem wd_433 : Cond.methodLink "TwinHost" 102 y_Sh_describe ∈ tw_Tb := tw_in 433 (by decide +kernel) (by decide +kernel)
theorem wd_434 : Cond.instanceMethod y_Sh_describe ∈ tw_Tb := tw_in 434 (by decide +kernel) (by decide +kernel)
theorem wd_435 : Cond.selects R_Sh y_Sh_describe y_Sh_describe ∈ tw_Tb := tw_in 435 (by decide +kernel) (by decide +kernel)
theorem wd_436 : Cond.code y_Sh_describe b_Sh_describe 3 (some .int) ∈ tw_Tb := tw_in 436 (by decide +kernel) (by decide +kernel)
theorem wd_441 : Cond.methodLink "TwinHost" 107 y_Sh_isTraced ∈ tw_Tb := tw_in 441 (by decide +kernel) (by decide +kernel)
theorem wd_456 : Cond.fieldLink "TwinHostModel" 53 "TwinHostModel" "quantum" "I" ∈ tw_Tb := tw_in 456 (by decide +kernel) (by decide +kernel)
theorem wd_457 : Cond.fieldLink "TwinHostModel" 161 "TwinHostModel" "turn" "I" ∈ tw_Tb := tw_in 457 (by decide +kernel) (by decide +kernel)
theorem wd_458 : Cond.fieldLink "TwinHostModel" 167 "TwinHostModel" "row" "I" ∈ tw_Tb := tw_in 458 (by decide +kernel) (by decide +kernel)
theorem wd_459 : Cond.fieldLink "TwinHostModel" 7 "TwinHostModel" "memory" "[I" ∈ tw_Tb := tw_in 459 (by decide +kernel) (by decide +kernel)
theorem wd_460 : Cond.fieldLink "TwinHostModel" 13 "TwinHostModel" "x" "[I" ∈ tw_Tb := tw_in 460 (by decide +kernel) (by decide +kernel)
theorem wd_461 : Cond.fieldLink "TwinHostModel" 16 "TwinHostModel" "control" "[I" ∈ tw_Tb := tw_in 461 (by decide +kernel) (by decide +kernel)
theorem wd_462 : Cond.fieldLink "TwinHostModel" 19 "TwinHostModel" "pc" "[I" ∈ tw_Tb := tw_in 462 (by decide +kernel) (by decide +kernel)
theorem wd_463 : Cond.fieldLink "TwinHostModel" 22 "TwinHostModel" "user" "[Z" ∈ tw_Tb := tw_in 463 (by decide +kernel) (by decide +kernel)
theorem wd_464 : Cond.fieldLink "TwinHostModel" 26 "TwinHostModel" "waiting" "[I" ∈ tw_Tb := tw_in 464 (by decide +kernel) (by decide +kernel)
theorem wd_465 : Cond.fieldLink "TwinHostModel" 29 "TwinHostModel" "inputTime" "[I" ∈ tw_Tb := tw_in 465 (by decide +kernel) (by decide +kernel)
theorem wd_466 : Cond.fieldLink "TwinHostModel" 32 "TwinHostModel" "inputValue" "[I" ∈ tw_Tb := tw_in 466 (by decide +kernel) (by decide +kernel)
theorem wd_467 : Cond.fieldLink "TwinHostModel" 35 "TwinHostModel" "counts" "[I" ∈ tw_Tb := tw_in 467 (by decide +kernel) (by decide +kernel)
theorem wd_468 : Cond.fieldLink "TwinHostModel" 38 "TwinHostModel" "page" "[I" ∈ tw_Tb := tw_in 468 (by decide +kernel) (by decide +kernel)
theorem wd_469 : Cond.fieldLink "TwinHostModel" 41 "TwinHostModel" "bits" "[I" ∈ tw_Tb := tw_in 469 (by decide +kernel) (by decide +kernel)
theorem wd_470 : Cond.fieldLink "TwinHostModel" 44 "TwinHostModel" "dirty" "[Z" ∈ tw_Tb := tw_in 470 (by decide +kernel) (by decide +kernel)
theorem wd_471 : Cond.fieldLink "TwinHostModel" 47 "TwinHostModel" "first" "[I" ∈ tw_Tb := tw_in 471 (by decide +kernel) (by decide +kernel)
theorem wd_472 : Cond.fieldLink "TwinHostModel" 50 "TwinHostModel" "second" "[I" ∈ tw_Tb := tw_in 472 (by decide +kernel) (by decide +kernel)
theorem wd_473 : Cond.fieldLink "TwinHostModel" 114 "TwinHostModel" "leafAt" "I" ∈ tw_Tb := tw_in 473 (by decide +kernel) (by decide +kernel)
theorem wd_474 : Cond.fieldLink "TwinHostModel" 111 "TwinHostModel" "tableAt" "I" ∈ tw_Tb := tw_in 474 (by decide +kernel) (by decide +kernel)
theorem wd_475 : Cond.fieldLink "TwinHostModel" 104 "TwinHostModel" "through" "Z" ∈ tw_Tb := tw_in 475 (by decide +kernel) (by decide +kernel)
theorem wd_522 : Cond.methodLink "TwinHostModel" 62 y_Mo_guest ∈ tw_Tb := tw_in 522 (by decide +kernel) (by decide +kernel)
theorem wd_523 : Cond.static y_Mo_guest ∈ tw_Tb := tw_in 523 (by decide +kernel) (by decide +kernel)
theorem wd_524 : Cond.code y_Mo_guest b_Mo_guest 1 (some .boolean) ∈ tw_Tb := tw_in 524 (by decide +kernel) (by decide +kernel)
theorem wd_526 : Cond.instanceMethod y_Mo_traced ∈ tw_Tb := tw_in 526 (by decide +kernel) (by decide +kernel)
theorem wd_527 : Cond.selects R_Mo y_Mo_traced y_Mo_traced ∈ tw_Tb := tw_in 527 (by decide +kernel) (by decide +kernel)
theorem wd_528 : Cond.code y_Mo_traced b_Mo_traced 5 (some .boolean) ∈ tw_Tb := tw_in 528 (by decide +kernel) (by decide +kernel)
theorem wd_533 : Cond.methodLink "TwinHostModel" 66 y_Mo_drop ∈ tw_Tb := tw_in 533 (by decide +kernel) (by decide +kernel)
theorem wd_535 : Cond.instanceMethod y_Mo_drop ∈ tw_Tb := tw_in 535 (by decide +kernel) (by decide +kernel)
theorem wd_536 : Cond.code y_Mo_drop b_Mo_drop 4 none ∈ tw_Tb := tw_in 536 (by decide +kernel) (by decide +kernel)
theorem wd_537 : Cond.methodLink "TwinHostModel" 58 y_Mo_add ∈ tw_Tb := tw_in 537 (by decide +kernel) (by decide +kernel)
theorem wd_539 : Cond.instanceMethod y_Mo_add ∈ tw_Tb := tw_in 539 (by decide +kernel) (by decide +kernel)
theorem wd_540 : Cond.code y_Mo_add b_Mo_add 4 none ∈ tw_Tb := tw_in 540 (by decide +kernel) (by decide +kernel)
theorem wd_549 : Cond.methodLink "TwinHostModel" 70 y_Mo_put ∈ tw_Tb := tw_in 549 (by decide +kernel) (by decide +kernel)
theorem wd_551 : Cond.instanceMethod y_Mo_put ∈ tw_Tb := tw_in 551 (by decide +kernel) (by decide +kernel)
theorem wd_552 : Cond.code y_Mo_put b_Mo_put 4 none ∈ tw_Tb := tw_in 552 (by decide +kernel) (by decide +kernel)
theorem wd_561 : Cond.methodLink "TwinHostModel" 77 y_Mo_isStored ∈ tw_Tb := tw_in 561 (by decide +kernel) (by decide +kernel)
theorem wd_562 : Cond.static y_Mo_isStored ∈ tw_Tb := tw_in 562 (by decide +kernel) (by decide +kernel)
theorem wd_563 : Cond.code y_Mo_isStored b_Mo_isStored 1 (some .boolean) ∈ tw_Tb := tw_in 563 (by decide +kernel) (by decide +kernel)
theorem wd_564 : Cond.methodLink "TwinHostModel" 80 y_Mo_assign ∈ tw_Tb := tw_in 564 (by decide +kernel) (by decide +kernel)
theorem wd_566 : Cond.instanceMethod y_Mo_assign ∈ tw_Tb := tw_in 566 (by decide +kernel) (by decide +kernel)
theorem wd_567 : Cond.code y_Mo_assign b_Mo_assign 4 none ∈ tw_Tb := tw_in 567 (by decide +kernel) (by decide +kernel)
theorem wd_568 : Cond.methodLink "TwinHostModel" 73 y_Mo_flush ∈ tw_Tb := tw_in 568 (by decide +kernel) (by decide +kernel)
theorem wd_570 : Cond.instanceMethod y_Mo_flush ∈ tw_Tb := tw_in 570 (by decide +kernel) (by decide +kernel)
theorem wd_571 : Cond.code y_Mo_flush b_Mo_flush 3 none ∈ tw_Tb := tw_in 571 (by decide +kernel) (by decide +kernel)
theorem wd_573 : Cond.instanceMethod y_Mo_control ∈ tw_Tb := tw_in 573 (by decide +kernel) (by decide +kernel)
theorem wd_574 : Cond.selects R_Mo y_Mo_control y_Mo_control ∈ tw_Tb := tw_in 574 (by decide +kernel) (by decide +kernel)
theorem wd_575 : Cond.code y_Mo_control b_Mo_control 3 (some .int) ∈ tw_Tb := tw_in 575 (by decide +kernel) (by decide +kernel)
theorem wd_576 : Cond.methodLink "TwinHostModel" 83 y_Mo_isThere ∈ tw_Tb := tw_in 576 (by decide +kernel) (by decide +kernel)
theorem wd_578 : Cond.instanceMethod y_Mo_isThere ∈ tw_Tb := tw_in 578 (by decide +kernel) (by decide +kernel)
theorem wd_579 : Cond.code y_Mo_isThere b_Mo_isThere 2 (some .boolean) ∈ tw_Tb := tw_in 579 (by decide +kernel) (by decide +kernel)
theorem wd_580 : Cond.methodLink "TwinHostModel" 86 y_Mo_pending ∈ tw_Tb := tw_in 580 (by decide +kernel) (by decide +kernel)
theorem wd_582 : Cond.instanceMethod y_Mo_pending ∈ tw_Tb := tw_in 582 (by decide +kernel) (by decide +kernel)
theorem wd_583 : Cond.code y_Mo_pending b_Mo_pending 2 (some .int) ∈ tw_Tb := tw_in 583 (by decide +kernel) (by decide +kernel)
theorem wd_604 : Cond.methodLink "TwinHostModel" 164 y_Mo_step ∈ tw_Tb := tw_in 604 (by decide +kernel) (by decide +kernel)
theorem wd_606 : Cond.instanceMethod y_Mo_step ∈ tw_Tb := tw_in 606 (by decide +kernel) (by decide +kernel)
theorem wd_607 : Cond.code y_Mo_step b_Mo_step 12 (some .int) ∈ tw_Tb := tw_in 607 (by decide +kernel) (by decide +kernel)
theorem wd_608 : Cond.constant "TwinHostModel" 128 (-2147483648) ∈ tw_Tb := tw_in 608 (by decide +kernel) (by decide +kernel)
theorem wd_609 : Cond.methodLink "TwinHostModel" 90 y_Mo_trap ∈ tw_Tb := tw_in 609 (by decide +kernel) (by decide +kernel)
theorem wd_611 : Cond.instanceMethod y_Mo_trap ∈ tw_Tb := tw_in 611 (by decide +kernel) (by decide +kernel)
theorem wd_612 : Cond.code y_Mo_trap b_Mo_trap 6 none ∈ tw_Tb := tw_in 612 (by decide +kernel) (by decide +kernel)
theorem wd_613 : Cond.methodLink "TwinHostModel" 129 y_Mo_access ∈ tw_Tb := tw_in 613 (by decide +kernel) (by decide +kernel)
theorem wd_615 : Cond.instanceMethod y_Mo_access ∈ tw_Tb := tw_in 615 (by decide +kernel) (by decide +kernel)
theorem wd_616 : Cond.code y_Mo_access b_Mo_access 5 (some .int) ∈ tw_Tb := tw_in 616 (by decide +kernel) (by decide +kernel)
theorem wd_617 : Cond.methodLink "TwinHostModel" 93 y_Mo_outside ∈ tw_Tb := tw_in 617 (by decide +kernel) (by decide +kernel)
theorem wd_619 : Cond.instanceMethod y_Mo_outside ∈ tw_Tb := tw_in 619 (by decide +kernel) (by decide +kernel)
theorem wd_620 : Cond.code y_Mo_outside b_Mo_outside 4 (some .int) ∈ tw_Tb := tw_in 620 (by decide +kernel) (by decide +kernel)
theorem wd_621 : Cond.methodLink "TwinHostModel" 97 y_Mo_fault ∈ tw_Tb := tw_in 621 (by decide +kernel) (by decide +kernel)
theorem wd_623 : Cond.instanceMethod y_Mo_fault ∈ tw_Tb := tw_in 623 (by decide +kernel) (by decide +kernel)
theorem wd_624 : Cond.code y_Mo_fault b_Mo_fault 4 (some .int) ∈ tw_Tb := tw_in 624 (by decide +kernel) (by decide +kernel)
theorem wd_625 : Cond.methodLink "TwinHostModel" 100 y_Mo_allowed ∈ tw_Tb := tw_in 625 (by decide +kernel) (by decide +kernel)
theorem wd_627 : Cond.instanceMethod y_Mo_allowed ∈ tw_Tb := tw_in 627 (by decide +kernel) (by decide +kernel)
theorem wd_628 : Cond.code y_Mo_allowed b_Mo_allowed 7 (some .boolean) ∈ tw_Tb := tw_in 628 (by decide +kernel) (by decide +kernel)
theorem wd_629 : Cond.methodLink "TwinHostModel" 108 y_Mo_walk ∈ tw_Tb := tw_in 629 (by decide +kernel) (by decide +kernel)
theorem wd_631 : Cond.instanceMethod y_Mo_walk ∈ tw_Tb := tw_in 631 (by decide +kernel) (by decide +kernel)
theorem wd_632 : Cond.code y_Mo_walk b_Mo_walk 7 (some .int) ∈ tw_Tb := tw_in 632 (by decide +kernel) (by decide +kernel)
theorem wd_633 : Cond.methodLink "TwinHostModel" 117 y_Mo_broken ∈ tw_Tb := tw_in 633 (by decide +kernel) (by decide +kernel)
theorem wd_634 : Cond.static y_Mo_broken ∈ tw_Tb := tw_in 634 (by decide +kernel) (by decide +kernel)
theorem wd_635 : Cond.code y_Mo_broken b_Mo_broken 1 (some .boolean) ∈ tw_Tb := tw_in 635 (by decide +kernel) (by decide +kernel)
theorem wd_636 : Cond.methodLink "TwinHostModel" 120 y_Mo_reach ∈ tw_Tb := tw_in 636 (by decide +kernel) (by decide +kernel)
theorem wd_638 : Cond.instanceMethod y_Mo_reach ∈ tw_Tb := tw_in 638 (by decide +kernel) (by decide +kernel)
theorem wd_639 : Cond.code y_Mo_reach b_Mo_reach 6 (some .int) ∈ tw_Tb := tw_in 639 (by decide +kernel) (by decide +kernel)
theorem wd_640 : Cond.methodLink "TwinHostModel" 124 y_Mo_fill ∈ tw_Tb := tw_in 640 (by decide +kernel) (by decide +kernel)
theorem wd_642 : Cond.instanceMethod y_Mo_fill ∈ tw_Tb := tw_in 642 (by decide +kernel) (by decide +kernel)
theorem wd_643 : Cond.code y_Mo_fill b_Mo_fill 5 none ∈ tw_Tb := tw_in 643 (by decide +kernel) (by decide +kernel)
theorem wd_644 : Cond.methodLink "TwinHostModel" 132 y_Mo_special ∈ tw_Tb := tw_in 644 (by decide +kernel) (by decide +kernel)
theorem wd_646 : Cond.instanceMethod y_Mo_special ∈ tw_Tb := tw_in 646 (by decide +kernel) (by decide +kernel)
theorem wd_647 : Cond.code y_Mo_special b_Mo_special 6 (some .int) ∈ tw_Tb := tw_in 647 (by decide +kernel) (by decide +kernel)
theorem wd_648 : Cond.methodLink "TwinHostModel" 150 y_Mo_illegal ∈ tw_Tb := tw_in 648 (by decide +kernel) (by decide +kernel)
theorem wd_650 : Cond.instanceMethod y_Mo_illegal ∈ tw_Tb := tw_in 650 (by decide +kernel) (by decide +kernel)
theorem wd_651 : Cond.code y_Mo_illegal b_Mo_illegal 3 (some .int) ∈ tw_Tb := tw_in 651 (by decide +kernel) (by decide +kernel)
theorem wd_652 : Cond.methodLink "TwinHostModel" 153 y_Mo_controls ∈ tw_Tb := tw_in 652 (by decide +kernel) (by decide +kernel)
theorem wd_654 : Cond.instanceMethod y_Mo_controls ∈ tw_Tb := tw_in 654 (by decide +kernel) (by decide +kernel)
theorem wd_655 : Cond.code y_Mo_controls b_Mo_controls 9 (some .int) ∈ tw_Tb := tw_in 655 (by decide +kernel) (by decide +kernel)
theorem wd_656 : Cond.methodLink "TwinHostModel" 156 y_Mo_control ∈ tw_Tb := tw_in 656 (by decide +kernel) (by decide +kernel)
theorem wd_657 : Cond.methodLink "TwinHostModel" 158 y_Mo_takeInput ∈ tw_Tb := tw_in 657 (by decide +kernel) (by decide +kernel)
theorem wd_659 : Cond.instanceMethod y_Mo_takeInput ∈ tw_Tb := tw_in 659 (by decide +kernel) (by decide +kernel)
theorem wd_660 : Cond.code y_Mo_takeInput b_Mo_takeInput 3 none ∈ tw_Tb := tw_in 660 (by decide +kernel) (by decide +kernel)
theorem wd_661 : Cond.methodLink "TwinHostModel" 138 y_Mo_retire ∈ tw_Tb := tw_in 661 (by decide +kernel) (by decide +kernel)
theorem wd_663 : Cond.instanceMethod y_Mo_retire ∈ tw_Tb := tw_in 663 (by decide +kernel) (by decide +kernel)
theorem wd_664 : Cond.code y_Mo_retire b_Mo_retire 3 (some .int) ∈ tw_Tb := tw_in 664 (by decide +kernel) (by decide +kernel)
theorem wd_665 : Cond.methodLink "TwinHostModel" 135 y_Mo_calculate ∈ tw_Tb := tw_in 665 (by decide +kernel) (by decide +kernel)
theorem wd_666 : Cond.static y_Mo_calculate ∈ tw_Tb := tw_in 666 (by decide +kernel) (by decide +kernel)
theorem wd_667 : Cond.code y_Mo_calculate b_Mo_calculate 4 (some .int) ∈ tw_Tb := tw_in 667 (by decide +kernel) (by decide +kernel)
theorem wd_668 : Cond.methodLink "TwinHostModel" 142 y_Mo_data ∈ tw_Tb := tw_in 668 (by decide +kernel) (by decide +kernel)
theorem wd_670 : Cond.instanceMethod y_Mo_data ∈ tw_Tb := tw_in 670 (by decide +kernel) (by decide +kernel)
theorem wd_671 : Cond.code y_Mo_data b_Mo_data 8 (some .int) ∈ tw_Tb := tw_in 671 (by decide +kernel) (by decide +kernel)
theorem wd_672 : Cond.methodLink "TwinHostModel" 146 y_Mo_traced ∈ tw_Tb := tw_in 672 (by decide +kernel) (by decide +kernel)
theorem wd_681 : Cond.fieldLink "TwinHost$Guest" 171 "TwinHost$Access" "outside" "I" ∈ tw_Tb := tw_in 681 (by decide +kernel) (by decide +kernel)
theorem wd_682 : Cond.fieldLink "TwinHost$Guest" 174 "TwinHost$Access" "pageFault" "I" ∈ tw_Tb := tw_in 682 (by decide +kernel) (by decide +kernel)
theorem wd_683 : Cond.fieldLink "TwinHost$Entry" 9 "TwinHost$Access" "need" "I" ∈ tw_Tb := tw_in 683 (by decide +kernel) (by decide +kernel)
theorem wd_684 : Cond.fieldLink "TwinHost$Walk" 9 "TwinHost$Access" "outside" "I" ∈ tw_Tb := tw_in 684 (by decide +kernel) (by decide +kernel)
theorem wd_685 : Cond.fieldLink "TwinHost$Walk" 34 "TwinHost$Access" "pageFault" "I" ∈ tw_Tb := tw_in 685 (by decide +kernel) (by decide +kernel)
end
section
/-! A reading of the bytecode as functions, proved sound once over the kit's rows. A value is an int, or a cell of the world by its name (guest, component); the state is the ints of all cells. An instruction is an Op: how the method ends from here, given how it ends from the next instruction and from each other one; none: not said. -/
abbrev tw_V : Type := Int32 ⊕ (Bool × Nat)
abbrev tw_S : Type := Bool → Nat → Nat → Int32
/-- locals by their number; none: nothing is said of it -/
abbrev tw_L : Type := List (Option tw_V)
/-- how a method ends: its answer and the state -/
abbrev tw_R : Type := Option tw_V × tw_S
abbrev tw_K : Type := tw_L → List tw_V → tw_S → Option tw_R
abbrev tw_Op : Type := tw_K → (Nat → tw_K) → tw_K
abbrev tw_Fn : Type := List tw_V → tw_S → Option tw_R
/-- where things lie: the world's cells by place, the classes of its arrays, the constants of Access, of Outcome, the script -/
abbrev tw_E : Type := (Nat → Nat) × (Nat → ClassId) × (Nat → Nat) × (Nat → Nat) × Nat
def tw_ix (g : Bool) (c : Nat) : Nat := if c < 15 then (if g = true then 15 + c else c) else c + 10
def tw_adr (E : tw_E) (g : Bool) (c : Nat) : Nat := if c < 50 then E.1 (tw_ix g c) else if c < 60 then E.2.2.1 (c - 50) else if c < 70 then E.2.2.2.1 (c - 60) else E.2.2.2.2
def tw_c (E : tw_E) (v : tw_V) : Value := match v with
  | .inl x => .int x
  | .inr q => .ref (tw_adr E q.1 q.2)
theorem tw_cat (E : tw_E) (v : tw_V) : (tw_c E v).category = 1 := by
  rcases v with x | q <;> rfl
/-- objects: class and fields (none: an int; some c: the component c of the same guest); arrays: kind (0 int, 1 boolean, 2 the guests) and length -/
def tw_lay (c : Nat) : (Nat × List (Option Nat)) ⊕ (Nat × Nat) := match c with
  | 0 => .inl (1, [some 1, some 2, some 3, some 4, some 9, some 14, none, none])
  | 1 => .inr (0, 128)
  | 2 => .inr (0, 8)
  | 3 => .inr (0, 9)
  | 4 => .inl (2, [some 5, some 6])
  | 5 => .inr (0, 12)
  | 6 => .inl (3, [some 7, some 8, none])
  | 7 => .inr (0, 6)
  | 8 => .inr (0, 6)
  | 9 => .inl (4, [some 10, some 11, some 12, some 13])
  | 10 => .inr (0, 16)
  | 11 => .inr (0, 16)
  | 12 => .inr (0, 16)
  | 13 => .inr (0, 16)
  | 14 => .inl (5, [none, none, none, none])
  | 20 => .inl (0, [some 21, none, none, none])
  | 21 => .inr (2, 2)
  | 22 => .inl (6, [none, none, none, some 23, some 24, some 25, some 26, some 27, some 28, some 29, some 30, some 31, some 32, some 33, some 34, some 35, some 36, none, none, none])
  | 23 => .inr (0, 256)
  | 24 => .inr (0, 16)
  | 25 => .inr (0, 24)
  | 26 => .inr (0, 2)
  | 27 => .inr (1, 2)
  | 28 => .inr (0, 2)
  | 29 => .inr (0, 12)
  | 30 => .inr (0, 12)
  | 31 => .inr (0, 18)
  | 32 => .inr (0, 32)
  | 33 => .inr (0, 32)
  | 34 => .inr (1, 32)
  | 35 => .inr (0, 32)
  | 36 => .inr (0, 32)
  | _ => .inr (3, 0)
def tw_fv (E : tw_E) (g : Bool) (f : Nat → Int32) (j : Nat) (o : Option Nat) : Value := match o with
  | none => .int (f j)
  | some c2 => .ref (tw_adr E g c2)
/-- the fields' values, from the j-th on -/
def tw_fvs (E : tw_E) (g : Bool) (f : Nat → Int32) : Nat → List (Option Nat) → List Value
  | _, [] => []
  | j, o :: r => tw_fv E g f j o :: tw_fvs E g f (j + 1) r
theorem tw_fvs_len (E : tw_E) (g : Bool) (f : Nat → Int32) : ∀ (l : List (Option Nat)) (j : Nat), (tw_fvs E g f j l).length = l.length
  | [], _ => rfl
  | _ :: r, j => by show (tw_fvs E g f (j + 1) r).length + 1 = r.length + 1; rw [tw_fvs_len E g f r (j + 1)]
theorem tw_fvs_at (E : tw_E) (g : Bool) (f : Nat → Int32) : ∀ (l : List (Option Nat)) (j k : Nat) (o : Option Nat), l[k]? = some o → (tw_fvs E g f j l)[k]? = some (tw_fv E g f (j + k) o)
  | [], _, k, o, h => by simp at h
  | a :: r, j, 0, o, h => by
    have h' : a = o := by simpa using h
    subst h'
    rfl
  | a :: r, j, k + 1, o, h => by
    have h' : r[k]? = some o := by simpa using h
    have := tw_fvs_at E g f r (j + 1) k o h'
    show (tw_fvs E g f (j + 1) r)[k]? = _
    rw [this]
    congr 2
    omega
theorem tw_fvs_up (E : tw_E) (g : Bool) (f : Nat → Int32) (x : Int32) : ∀ (l : List (Option Nat)) (j k : Nat), l[k]? = some none → (tw_fvs E g f j l).set k (.int x) = tw_fvs E g (upd f (j + k) x) j l := by
  have aux : ∀ (l : List (Option Nat)) (j n : Nat), n < j → tw_fvs E g (upd f n x) j l = tw_fvs E g f j l := by
    intro l
    induction l with
    | nil => intro j n _; rfl
    | cons o r ih =>
      intro j n h
      show tw_fv E g (upd f n x) j o :: tw_fvs E g (upd f n x) (j + 1) r = tw_fv E g f j o :: tw_fvs E g f (j + 1) r
      rw [ih (j + 1) n (by omega)]
      congr 1
      cases o with
      | none => show Value.int (upd f n x j) = .int (f j); rw [show upd f n x j = f j from pk_un (by omega)]
      | some c2 => rfl
  intro l
  induction l with
  | nil => intro j k h; simp at h
  | cons o r ih =>
    intro j k h
    cases k with
    | zero =>
      have h' : o = none := by simpa using h
      subst h'
      show Value.int x :: tw_fvs E g f (j + 1) r = Value.int (upd f (j + 0) x j) :: tw_fvs E g (upd f (j + 0) x) (j + 1) r
      rw [aux r (j + 1) (j + 0) (by omega), show upd f (j + 0) x j = x from pk_us]
    | succ k =>
      have h' : r[k]? = some none := by simpa using h
      have := ih (j + 1) k h'
      show tw_fv E g f j o :: (tw_fvs E g f (j + 1) r).set k (.int x) = tw_fv E g (upd f (j + (k + 1)) x) j o :: tw_fvs E g (upd f (j + (k + 1)) x) (j + 1) r
      rw [this, show j + 1 + k = j + (k + 1) by omega]
      congr 1
      cases o with
      | none => show Value.int (f j) = .int (upd f (j + (k + 1)) x j); rw [show upd f (j + (k + 1)) x j = f j from pk_un (by omega)]
      | some c2 => rfl
def tw_cell (E : tw_E) (g : Bool) (c : Nat) (f : Nat → Int32) : va_E := match tw_lay c with
  | .inl o => .inr (o.1, tw_fvs E g f 0 o.2)
  | .inr (2, n) => .inl (E.2.1 (tw_ix g c), n, .inr (.inr (.inr (.inr (fun j => some (tw_adr E (j == 1) 0))))))
  | .inr (_, n) => .inl (E.2.1 (tw_ix g c), n, .inl f)
def tw_nm : List (Bool × Nat) := (List.range 15).map (fun c => (false, c)) ++ ((List.range 15).map (fun c => (true, c)) ++ (List.range 17).map (fun c => (false, 20 + c)))
def tw_ws (E : tw_E) (σ : tw_S) : va_W := tw_nm.map (fun q => (tw_adr E q.1 q.2, tw_cell E q.1 q.2 (σ q.1 q.2)))
def tw_tyOf (c : Nat) : FieldType := if c = 27 then .boolean else if c = 34 then .boolean else if c = 21 then .object "TwinHost$Guest" else .int
def tw_tys (E : tw_E) : List (ClassId × FieldType) := tw_nm.map (fun q => (E.2.1 (tw_ix q.1 q.2), tw_tyOf q.2))
/-- is (g, c) a cell of the world? -/
def tw_okb (g : Bool) (c : Nat) : Bool := Nat.blt c 15 || (Nat.ble 20 c && (Nat.blt c 37 && !g))
theorem tw_ok_all : ((List.range 60).all (fun c => [false, true].all (fun g => !tw_okb g c || tw_nm[tw_ix g c]? == some (g, c)))) = true := by decide +kernel
theorem tw_okb_lt {g : Bool} {c : Nat} (h : tw_okb g c = true) : c < 37 := by
  simp [tw_okb] at h
  rcases h with h | ⟨-, h, -⟩
  · omega
  · exact h
theorem tw_ok {g : Bool} {c : Nat} (h : tw_okb g c = true) : tw_nm[tw_ix g c]? = some (g, c) := by
  have h1 := List.all_eq_true.mp tw_ok_all c (List.mem_range.mpr (Nat.lt_trans (tw_okb_lt h) (by decide)))
  have h2 := List.all_eq_true.mp h1 g (by cases g <;> simp)
  rw [h] at h2
  simpa using h2
theorem tw_nm_ix : ((List.range 47).all (fun i => match tw_nm[i]? with | some q => (tw_ix q.1 q.2 == i && Nat.blt q.2 50) | none => false)) = true := by decide +kernel
theorem tw_nm_len : tw_nm.length = 47 := by decide +kernel
theorem tw_nm_at {i : Nat} {q : Bool × Nat} (h : tw_nm[i]? = some q) : i < 47 ∧ tw_ix q.1 q.2 = i ∧ q.2 < 50 := by
  have hi : i < 47 := by rw [← tw_nm_len]; exact (List.getElem?_eq_some_iff.mp h).1
  have h1 := List.all_eq_true.mp tw_nm_ix i (List.mem_range.mpr hi)
  rw [h] at h1
  simp only [Bool.and_eq_true, beq_iff_eq] at h1
  exact ⟨hi, h1.1, Nat.blt_eq.mp h1.2⟩
theorem tw_ws_at (E : tw_E) (σ : tw_S) {g : Bool} {c : Nat} (h : tw_okb g c = true) : (tw_ws E σ)[tw_ix g c]? = some (tw_adr E g c, tw_cell E g c (σ g c)) := by
  unfold tw_ws
  rw [List.getElem?_map, tw_ok h]
  rfl
theorem tw_tys_at (E : tw_E) {g : Bool} {c : Nat} (h : tw_okb g c = true) : (tw_tys E)[tw_ix g c]? = some (E.2.1 (tw_ix g c), tw_tyOf c) := by
  unfold tw_tys
  rw [List.getElem?_map, tw_ok h]
  rfl
def tw_up (σ : tw_S) (g : Bool) (c : Nat) (f : Nat → Int32) : tw_S := fun g' c' => if g' = g ∧ c' = c then f else σ g' c'
theorem tw_ws_set (E : tw_E) (σ : tw_S) {g : Bool} {c : Nat} (f : Nat → Int32) (h : tw_okb g c = true) : (tw_ws E σ).set (tw_ix g c) (tw_adr E g c, tw_cell E g c f) = tw_ws E (tw_up σ g c f) := by
  apply List.ext_getElem?
  intro i
  by_cases hi : tw_ix g c = i
  · subst hi
    rw [tw_ws_at E (tw_up σ g c f) h, List.getElem?_set_self (List.getElem?_eq_some_iff.mp (tw_ws_at E σ h)).1]
    simp [tw_up]
  · rw [List.getElem?_set_ne hi]
    unfold tw_ws
    rw [List.getElem?_map, List.getElem?_map]
    cases hq : tw_nm[i]? with
    | none => rfl
    | some q =>
      have hn : ¬ (q.1 = g ∧ q.2 = c) := fun z => hi (by rw [← z.1, ← z.2]; exact (tw_nm_at hq).2.1)
      show some (tw_adr E q.1 q.2, tw_cell E q.1 q.2 (σ q.1 q.2)) = some (tw_adr E q.1 q.2, tw_cell E q.1 q.2 (tw_up σ g c f q.1 q.2))
      rw [show tw_up σ g c f q.1 q.2 = σ q.1 q.2 from if_neg hn]
/-- the cells that a method may change -/
def tw_A (E : tw_E) : Nat → Prop := fun q => ∃ k, k < 47 ∧ q = E.1 k
def tw_inj (E : tw_E) : Prop := ∀ i j, i < 47 → j < 47 → E.1 i = E.1 j → i = j
theorem tw_ws_adr {E : tw_E} {σ : tw_S} {i : Nat} {w : Nat × va_E} (h : (tw_ws E σ)[i]? = some w) : i < 47 ∧ w.1 = E.1 i := by
  unfold tw_ws at h
  rw [List.getElem?_map] at h
  cases hq : tw_nm[i]? with
  | none => rw [hq] at h; cases h
  | some q =>
    rw [hq] at h
    cases h
    obtain ⟨h1, h2, h3⟩ := tw_nm_at hq
    refine ⟨h1, ?_⟩
    show tw_adr E q.1 q.2 = _
    unfold tw_adr
    rw [if_pos h3, h2]
theorem tw_D {E : tw_E} (h : tw_inj E) (σ : tw_S) : va_D (tw_A E) (tw_ws E σ) := by
  refine ⟨fun i j u v hu hv e => ?_, fun k q hk => ⟨k, (tw_ws_adr hk).1, (tw_ws_adr hk).2⟩⟩
  have a := tw_ws_adr hu
  have b := tw_ws_adr hv
  exact h i j a.1 b.1 (by rw [← a.2, ← b.2]; exact e)
/-- the constants of the two enums -/
def tw_EN (E : tw_E) (U : State) (H : Heap) : Prop :=
  va_En "TwinHost$Access" "LTwinHost$Access;" ["FETCH", "LOAD", "STORE"] [("TwinHost$Access", "need", "I", [8, 2, 4]), ("TwinHost$Access", "outside", "I", [1, 5, 7]), ("TwinHost$Access", "pageFault", "I", [12, 13, 15])] E.2.2.1 (tw_A E) U H ∧
  va_En "TwinHost$Outcome" "LTwinHost$Outcome;" ["RETIRED", "TRAPPED", "STALLED"] [] E.2.2.2.1 (tw_A E) U H
theorem tw_EN.moved {E : tw_E} {u U : State} {H : Heap} (hvm : u.vm.Alike U.vm) (h : tw_EN E u H) : tw_EN E U H := ⟨va_En.moved hvm h.1, va_En.moved hvm h.2⟩
theorem tw_EN.kept {E : tw_E} {U : State} {H H1 : Heap} (h : tw_EN E U H) (hq : ∀ a : Nat, a < H.size → ¬ tw_A E a → H1[a]? = H[a]?) : tw_EN E U H1 := ⟨h.1.kept hq, h.2.kept hq⟩
-- locals
def tw_get : tw_L → Nat → Option tw_V
  | [], _ => none
  | v :: _, 0 => v
  | _ :: r, k + 1 => tw_get r k
def tw_set : tw_L → Nat → tw_V → tw_L
  | [], _, _ => []
  | _ :: r, 0, x => some x :: r
  | v :: r, k + 1, x => v :: tw_set r k x
def tw_lvf (E : tw_E) : Nat → tw_L → List (Nat × Value)
  | _, [] => []
  | k, none :: r => tw_lvf E (k + 1) r
  | k, some v :: r => (k, tw_c E v) :: tw_lvf E (k + 1) r
def tw_lv (E : tw_E) (lv : tw_L) : List (Nat × Value) := tw_lvf E 0 lv
theorem tw_get_mem (E : tw_E) : ∀ (lv : tw_L) (n i : Nat) (v : tw_V), tw_get lv i = some v → (n + i, tw_c E v) ∈ tw_lvf E n lv
  | [], _, _, _, h => by cases h
  | a :: r, n, 0, v, h => by
    have h1 : a = some v := h
    subst h1
    exact List.mem_cons_self
  | a :: r, n, k + 1, v, h => by
    have h1 := tw_get_mem E r (n + 1) k v h
    rw [show n + 1 + k = n + (k + 1) by omega] at h1
    cases a with
    | none => exact h1
    | some u => exact List.mem_cons_of_mem _ h1
theorem tw_lvf_ge (E : tw_E) : ∀ (lv : tw_L) (n : Nat) (q : Nat × Value), q ∈ tw_lvf E n lv → n ≤ q.1 ∧ q.2.category = 1
  | [], _, _, h => by cases h
  | none :: r, n, q, h => by
    have := tw_lvf_ge E r (n + 1) q h
    exact ⟨by omega, this.2⟩
  | some u :: r, n, q, h => by
    rcases List.mem_cons.mp h with h | h
    · subst h
      exact ⟨Nat.le_refl _, tw_cat E u⟩
    · have := tw_lvf_ge E r (n + 1) q h
      exact ⟨by omega, this.2⟩
theorem tw_set_mem (E : tw_E) (x : tw_V) : ∀ (lv : tw_L) (n k : Nat) (q : Nat × Value), q ∈ tw_lvf E n (tw_set lv k x) → q = (n + k, tw_c E x) ∨ (q ∈ tw_lvf E n lv ∧ ¬ q.1 = n + k)
  | [], _, _, _, h => by cases h
  | a :: r, n, 0, q, h => by
    have h0 : q ∈ (n, tw_c E x) :: tw_lvf E (n + 1) r := h
    rcases List.mem_cons.mp h0 with h1 | h1
    · exact Or.inl h1
    · have h2 := tw_lvf_ge E r (n + 1) q h1
      refine Or.inr ⟨?_, by omega⟩
      cases a with
      | none => exact h1
      | some u => exact List.mem_cons_of_mem _ h1
  | none :: r, n, k + 1, q, h => by
    rcases tw_set_mem E x r (n + 1) k q h with h | h
    · exact Or.inl (by rw [h]; congr 1; omega)
    · exact Or.inr ⟨h.1, by have := h.2; omega⟩
  | some u :: r, n, k + 1, q, h => by
    have h : q ∈ (n, tw_c E u) :: tw_lvf E (n + 1) (tw_set r k x) := h
    rcases List.mem_cons.mp h with h | h
    · subst h
      exact Or.inr ⟨List.mem_cons_self, by show ¬ n = n + (k + 1); omega⟩
    · rcases tw_set_mem E x r (n + 1) k q h with h | h
      · exact Or.inl (by rw [h]; congr 1; omega)
      · exact Or.inr ⟨List.mem_cons_of_mem _ h.1, by have := h.2; omega⟩
theorem tw_has {ls : Array Slot} {nL : Nat} {E : tw_E} {lv : tw_L} {k : Nat} {v : tw_V} (h : lv_has ls nL (tw_lv E lv)) (hg : tw_get lv k = some v) : ls[k]? = some (.val (tw_c E v)) := by
  have h1 := tw_get_mem E lv 0 k v hg
  rw [Nat.zero_add] at h1
  exact h.2.2 (k, tw_c E v) h1
/-- behind a store into local k -/
theorem tw_stored {ls : Array Slot} {nL : Nat} {E : tw_E} {lv : tw_L} {k : Nat} {v : tw_V} (h : lv_has ls nL ((k, tw_c E v) :: (tw_lv E lv).filter (fun q => !(q.1 == k) && !(q.1 + 1 == k && q.2.category == 2)))) : lv_has ls nL (tw_lv E (tw_set lv k v)) := by
  refine ⟨h.1, h.2.1, fun q hq => h.2.2 q ?_⟩
  rcases tw_set_mem E v lv 0 k q hq with hq | ⟨h1, h2⟩
  · rw [Nat.zero_add] at hq
    subst hq
    exact List.mem_cons_self
  · rw [Nat.zero_add] at h2
    refine List.mem_cons_of_mem _ (List.mem_filter.mpr ⟨h1, ?_⟩)
    simp [h2, (tw_lvf_ge E lv 0 q h1).2]
/-- behind a point that is set -/
def tw_pt (σ : tw_S) (g : Bool) (c j : Nat) (x : Int32) : tw_S := fun g' c' j' => if c' = c ∧ j' = j ∧ g' = g then x else σ g' c' j'
theorem tw_up_pt (σ : tw_S) (g : Bool) (c j : Nat) (x : Int32) : tw_up σ g c (upd (σ g c) j x) = tw_pt σ g c j x := by
  funext g' c' j'
  show (if g' = g ∧ c' = c then upd (σ g c) j x else σ g' c') j' = (if c' = c ∧ j' = j ∧ g' = g then x else σ g' c' j')
  by_cases h1 : g' = g ∧ c' = c
  · rw [if_pos h1]
    by_cases h2 : j' = j
    · rw [if_pos (⟨h1.2, h2, h1.1⟩ : c' = c ∧ j' = j ∧ g' = g)]
      exact if_pos h2
    · rw [if_neg (fun z : c' = c ∧ j' = j ∧ g' = g => h2 z.2.1), h1.1, h1.2]
      exact if_neg h2
  · rw [if_neg h1, if_neg (fun z : c' = c ∧ j' = j ∧ g' = g => h1 ⟨z.2.2, z.1⟩)]
/-- an index that is out of bounds -/
abbrev tw_out (i : Int32) (n : Nat) : Prop := i < 0 ∨ n ≤ i.toNatClampNeg
-- the instructions
def tw_ic (v : Int32) : tw_Op := fun next _ lv st σ => next lv (.inl v :: st) σ
def tw_il (k : Nat) : tw_Op := fun next _ lv st σ => match tw_get lv k with
  | some (.inl x) => next lv (.inl x :: st) σ
  | _ => none
def tw_al (k : Nat) : tw_Op := fun next _ lv st σ => match tw_get lv k with
  | some (.inr q) => next lv (.inr q :: st) σ
  | _ => none
def tw_is (k : Nat) : tw_Op := fun next _ lv st σ => match st with
  | .inl x :: st => next (tw_set lv k (.inl x)) st σ
  | _ => none
def tw_as (k : Nat) : tw_Op := fun next _ lv st σ => match st with
  | .inr q :: st => next (tw_set lv k (.inr q)) st σ
  | _ => none
def tw_inc (k : Nat) (n : Int32) : tw_Op := fun next _ lv st σ => match tw_get lv k with
  | some (.inl x) => next (tw_set lv k (.inl (x + n))) st σ
  | _ => none
def tw_bin (f : Int32 → Int32 → Int32) : tw_Op := fun next _ lv st σ => match st with
  | .inl y :: .inl x :: st => next lv (.inl (f x y) :: st) σ
  | _ => none
def tw_div : tw_Op := fun next _ lv st σ => match st with
  | .inl y :: .inl x :: st => if y = 0 then none else next lv (.inl (x / y) :: st) σ
  | _ => none
def tw_rem : tw_Op := fun next _ lv st σ => match st with
  | .inl y :: .inl x :: st => if y = 0 then none else next lv (.inl (x - x / y * y) :: st) σ
  | _ => none
def tw_neg : tw_Op := fun next _ lv st σ => match st with
  | .inl x :: st => next lv (.inl (-x) :: st) σ
  | _ => none
def tw_dup : tw_Op := fun next _ lv st σ => match st with
  | v :: st => next lv (v :: v :: st) σ
  | _ => none
def tw_pop : tw_Op := fun next _ lv st σ => match st with
  | _ :: st => next lv st σ
  | _ => none
def tw_dx1 : tw_Op := fun next _ lv st σ => match st with
  | a :: b :: st => next lv (a :: b :: a :: st) σ
  | _ => none
def tw_d2 : tw_Op := fun next _ lv st σ => match st with
  | a :: b :: st => next lv (a :: b :: a :: b :: st) σ
  | _ => none
def tw_jmp (t : Nat) : tw_Op := fun _ jump lv st σ => jump t lv st σ
def tw_ifeq (t : Nat) : tw_Op := fun next jump lv st σ => match st with
  | .inl x :: st => if x = 0 then jump t lv st σ else next lv st σ
  | _ => none
def tw_ifne (t : Nat) : tw_Op := fun next jump lv st σ => match st with
  | .inl x :: st => if x = 0 then next lv st σ else jump t lv st σ
  | _ => none
def tw_iflt (t : Nat) : tw_Op := fun next jump lv st σ => match st with
  | .inl x :: st => if x < 0 then jump t lv st σ else next lv st σ
  | _ => none
def tw_ifge (t : Nat) : tw_Op := fun next jump lv st σ => match st with
  | .inl x :: st => if 0 ≤ x then jump t lv st σ else next lv st σ
  | _ => none
def tw_ifgt (t : Nat) : tw_Op := fun next jump lv st σ => match st with
  | .inl x :: st => if 0 < x then jump t lv st σ else next lv st σ
  | _ => none
def tw_ifle (t : Nat) : tw_Op := fun next jump lv st σ => match st with
  | .inl x :: st => if x ≤ 0 then jump t lv st σ else next lv st σ
  | _ => none
def tw_ceq (t : Nat) : tw_Op := fun next jump lv st σ => match st with
  | .inl y :: .inl x :: st => if x = y then jump t lv st σ else next lv st σ
  | _ => none
def tw_cne (t : Nat) : tw_Op := fun next jump lv st σ => match st with
  | .inl y :: .inl x :: st => if x = y then next lv st σ else jump t lv st σ
  | _ => none
def tw_clt (t : Nat) : tw_Op := fun next jump lv st σ => match st with
  | .inl y :: .inl x :: st => if x < y then jump t lv st σ else next lv st σ
  | _ => none
def tw_cge (t : Nat) : tw_Op := fun next jump lv st σ => match st with
  | .inl y :: .inl x :: st => if y ≤ x then jump t lv st σ else next lv st σ
  | _ => none
def tw_cgt (t : Nat) : tw_Op := fun next jump lv st σ => match st with
  | .inl y :: .inl x :: st => if y < x then jump t lv st σ else next lv st σ
  | _ => none
def tw_cle (t : Nat) : tw_Op := fun next jump lv st σ => match st with
  | .inl y :: .inl x :: st => if x ≤ y then jump t lv st σ else next lv st σ
  | _ => none
/-- both are constants of one enum -/
def tw_enb (a b : Nat) : Bool := (Nat.ble 50 a && Nat.blt a 53 && (Nat.ble 50 b && Nat.blt b 53)) || (Nat.ble 60 a && Nat.blt a 63 && (Nat.ble 60 b && Nat.blt b 63))
def tw_aeq (t : Nat) : tw_Op := fun next jump lv st σ => match st with
  | .inr b :: .inr a :: st => match tw_enb a.2 b.2 with
    | true => match Nat.beq a.2 b.2 with
      | true => jump t lv st σ
      | false => next lv st σ
    | false => none
  | _ => none
def tw_ane (t : Nat) : tw_Op := fun next jump lv st σ => match st with
  | .inr b :: .inr a :: st => match tw_enb a.2 b.2 with
    | true => match Nat.beq a.2 b.2 with
      | true => next lv st σ
      | false => jump t lv st σ
    | false => none
  | _ => none
def tw_swr (jump : Nat → tw_K) (d : Nat) (x : Int32) (lv : tw_L) (st : List tw_V) (σ : tw_S) : List (Int32 × Nat) → Option tw_R
  | [] => jump d lv st σ
  | q :: r => if x = q.1 then jump q.2 lv st σ else tw_swr jump d x lv st σ r
def tw_sw (cs : List (Int32 × Nat)) (d : Nat) : tw_Op := fun _ jump lv st σ => match st with
  | .inl x :: st => tw_swr jump d x lv st σ cs
  | _ => none
def tw_gi (c j : Nat) : tw_Op := fun next _ lv st σ => match st with
  | .inr q :: st => match Nat.beq q.2 c && tw_okb q.1 c with
    | true => next lv (.inl (σ q.1 c j) :: st) σ
    | false => none
  | _ => none
def tw_gr (c c2 : Nat) : tw_Op := fun next _ lv st σ => match st with
  | .inr q :: st => match Nat.beq q.2 c && tw_okb q.1 c with
    | true => next lv (.inr (q.1, c2) :: st) σ
    | false => none
  | _ => none
def tw_pi (c j : Nat) : tw_Op := fun next _ lv st σ => match st with
  | .inl x :: .inr q :: st => match Nat.beq q.2 c && tw_okb q.1 c with
    | true => next lv st (tw_pt σ q.1 c j x)
    | false => none
  | _ => none
def tw_pz (c j : Nat) : tw_Op := fun next _ lv st σ => match st with
  | .inl x :: .inr q :: st => match Nat.beq q.2 c && tw_okb q.1 c with
    | true => if x = 0 ∨ x = 1 then next lv st (tw_pt σ q.1 c j x) else none
    | false => none
  | _ => none
def tw_ia : tw_Op := fun next _ lv st σ => match st with
  | .inl i :: .inr q :: st => match tw_lay q.2, tw_okb q.1 q.2 with
    | .inr (0, n), true => if tw_out i n then none else next lv (.inl (σ q.1 q.2 i.toNatClampNeg) :: st) σ
    | _, _ => none
  | _ => none
def tw_za : tw_Op := fun next _ lv st σ => match st with
  | .inl i :: .inr q :: st => match tw_lay q.2, tw_okb q.1 q.2 with
    | .inr (1, n), true => if tw_out i n then none else next lv (.inl (σ q.1 q.2 i.toNatClampNeg) :: st) σ
    | _, _ => none
  | _ => none
def tw_ga : tw_Op := fun next _ lv st σ => match st with
  | .inl i :: .inr q :: st => match Nat.beq q.2 21 && !q.1 with
    | true => if tw_out i 2 then none else next lv (.inr (i.toNatClampNeg == 1, 0) :: st) σ
    | false => none
  | _ => none
def tw_ias (a b : Nat) : tw_Op := fun next _ lv st σ => match st with
  | .inl x :: .inl i :: .inr q :: st => match tw_lay q.2, tw_okb q.1 q.2 && (Nat.ble a q.2 && Nat.blt q.2 b) with
    | .inr (0, n), true => if tw_out i n then none else next lv st (tw_pt σ q.1 q.2 i.toNatClampNeg x)
    | _, _ => none
  | _ => none
def tw_zas (a b : Nat) : tw_Op := fun next _ lv st σ => match st with
  | .inl x :: .inl i :: .inr q :: st => match tw_lay q.2, tw_okb q.1 q.2 && (Nat.ble a q.2 && Nat.blt q.2 b) with
    | .inr (1, n), true => if tw_out i n then none else if x = 0 ∨ x = 1 then next lv st (tw_pt σ q.1 q.2 i.toNatClampNeg x) else none
    | _, _ => none
  | _ => none
/-- a constant of an enum -/
def tw_en (c : Nat) : tw_Op := fun next _ lv st σ => next lv (.inr (false, c) :: st) σ
/-- the fields of Access: need, outside, pageFault -/
def tw_acc (j i : Nat) : Int32 := match j, i with
  | 0, 0 => 8 | 0, 1 => 2 | 0, 2 => 4
  | 1, 0 => 1 | 1, 1 => 5 | 1, 2 => 7
  | 2, 0 => 12 | 2, 1 => 13 | 2, 2 => 15
  | _, _ => 0
def tw_ge (j : Nat) : tw_Op := fun next _ lv st σ => match st with
  | .inr q :: st => match Nat.ble 50 q.2 && Nat.blt q.2 53 with
    | true => next lv (.inl (tw_acc j (q.2 - 50)) :: st) σ
    | false => none
  | _ => none
/-- the law's script: f and its length -/
def tw_sl (f : Nat → Int32) (n : Nat) : tw_Op := fun next _ lv st σ => match st with
  | .inl i :: .inr q :: st => match Nat.beq q.2 70 with
    | true => if tw_out i n then none else next lv (.inl (f i.toNatClampNeg) :: st) σ
    | false => none
  | _ => none
def tw_sn (n : Nat) : tw_Op := fun next _ lv st σ => match st with
  | .inr q :: st => match Nat.beq q.2 70 with
    | true => next lv (.inl (nI n) :: st) σ
    | false => none
  | _ => none
def tw_r0 : tw_Op := fun _ _ _ st σ => match st with
  | [] => some (none, σ)
  | _ => none
def tw_ri : tw_Op := fun _ _ _ st σ => match st with
  | [.inl v] => some (some (.inl v), σ)
  | _ => none
def tw_rz : tw_Op := fun _ _ _ st σ => match st with
  | [.inl v] => if v = 0 ∨ v = 1 then some (some (.inl v), σ) else none
  | _ => none
def tw_ra : tw_Op := fun _ _ _ st σ => match st with
  | [.inr q] => some (some (.inr q), σ)
  | _ => none
/-- behind a call -/
def tw_beh (next : tw_K) (lv : tw_L) (rest : List tw_V) : Option tw_R → Option tw_R
  | none => none
  | some ρ => next lv (ρ.1.toList ++ rest) ρ.2
/-- a call of a static method with n arguments -/
def tw_cs (n : Nat) (f : tw_Fn) : tw_Op := fun next _ lv st σ => match Nat.ble n st.length && Nat.ble (st.drop n).length 8 with
  | true => tw_beh next lv (st.drop n) (f (st.take n).reverse σ)
  | false => none
/-- a call of a method of component c with n arguments beside the receiver -/
def tw_cv (n c : Nat) (f : tw_Fn) : tw_Op := fun next _ lv st σ => match st.drop n with
  | .inr q :: rest => match Nat.ble rest.length 8 && (Nat.beq q.2 c && tw_okb q.1 c) with
    | true => tw_beh next lv rest (f (.inr q :: (st.take n).reverse) σ)
    | false => none
  | _ => none
-- a method
def tw_seek (t : Nat) : List (Nat × tw_Op) → List (Nat × tw_Op)
  | [] => []
  | q :: r => match Nat.beq q.1 t with
    | true => q :: r
    | false => tw_seek t r
def tw_run (full : List (Nat × tw_Op)) : Nat → List (Nat × tw_Op) → tw_K
  | 0, _ => fun _ _ _ => none
  | _ + 1, [] => fun _ _ _ => none
  | n + 1, q :: r => q.2 (tw_run full n r) (fun t => tw_run full n (tw_seek t full))
/-- the arguments as locals -/
def tw_args (nL : Nat) (vs : List tw_V) : tw_L := vs.map some ++ List.replicate (nL - vs.length) none
/-- a method of n arguments, with so many locals, with so much fuel -/
def tw_fn (n nL fuel : Nat) (pr : List (Nat × tw_Op)) : tw_Fn := fun vs σ => match Nat.beq vs.length n with
  | true => tw_run pr fuel pr (tw_args nL vs) [] σ
  | false => none
theorem tw_fn_get {n nL fuel : Nat} {pr : List (Nat × tw_Op)} {vs : List tw_V} {σ : tw_S} {ρ : tw_R} (h : tw_fn n nL fuel pr vs σ = some ρ) : tw_run pr fuel pr (tw_args nL vs) [] σ = some ρ := by
  unfold tw_fn at h
  cases hb : Nat.beq vs.length n with
  | true => rw [hb] at h; exact h
  | false => rw [hb] at h; cases h
theorem tw_fn_len {n nL fuel k : Nat} {pr : List (Nat × tw_Op)} (hk : n ≤ k) (vs : List tw_V) (σ : tw_S) (ρ : tw_R) (h : tw_fn n nL fuel pr vs σ = some ρ) : vs.length ≤ k := by
  unfold tw_fn at h
  cases hb : Nat.beq vs.length n with
  | true => rw [Nat.eq_of_beq_eq_true hb]; exact hk
  | false => rw [hb] at h; cases h
theorem tw_no {α : Type} {x : α} {P : Prop} (h : (none : Option α) = some x) : P := by cases h
end
section
/-- the links to private methods of nest mates -/
def tw_NW (s : State) : Prop := ∀ q ∈ tw_Ne, va_Nw (.methodLinkNest q.1 q.2.1 q.2.2.1 q.2.2.2) s
/-- what a walk of a method's body rests on -/
def tw_Cx (p : Program) (s : State) (m : MethodId) (args : Array Value) (meth : Method) (c : Code) (cc : ByteArray) (nL : Nat) (ret : Option FieldType) (own : String) (E : tw_E) (D : va_G) : Prop :=
  p.tables.exec = Jvm.exec ∧ c.code = cc ∧ c.maxLocals = nL ∧ meth.sig.returnType = ret ∧ meth.locks = false ∧ s.vm.findClass own = some m.cls ∧ (∀ w ∈ tw_Tb, w.before args s = true) ∧ va_K D tw_cl (tw_tys E) s ∧ tw_EN E s s.heap ∧ tw_inj E ∧ tw_NW s
/-- from pc, with these locals, this stack, this state, the machine comes to Q -/
def tw_G (p : Program) (l : Launch) (e : Env) (R : Room) (s : State) (m : MethodId) (args : Array Value) (below : List Frame) (meth : Method) (c : Code) (ce sl : Nat) (Q : State → Prop) (nL : Nat) (E : tw_E) (D : va_G) (pc : Nat) (lv : tw_L) (st : List tw_V) (σ : tw_S) : Prop :=
  ∀ (H : Heap) (locs : List Loc) (ls : Array Slot), va_P D tw_cl (tw_ws E σ) H → va_S (tw_A E) s.heap H locs → lv_has ls nL (tw_lv E lv) → W p l e R s m args below meth c H locs ce sl Q (F0 m pc ls (st.map (tw_c E)))
/-- the instruction at pc is what the Op says -/
def tw_Sd (p : Program) (l : Launch) (e : Env) (R : Room) (s : State) (m : MethodId) (args : Array Value) (below : List Frame) (meth : Method) (c : Code) (ce sl : Nat) (Q : State → Prop) (nL : Nat) (E : tw_E) (D : va_G) (ρ : tw_R) (pc pn : Nat) (o : tw_Op) : Prop :=
  ∀ (next : tw_K) (jump : Nat → tw_K), (∀ lv st σ, next lv st σ = some ρ → tw_G p l e R s m args below meth c ce sl Q nL E D pn lv st σ) → (∀ t lv st σ, jump t lv st σ = some ρ → tw_G p l e R s m args below meth c ce sl Q nL E D t lv st σ) → ∀ lv st σ, o next jump lv st σ = some ρ → tw_G p l e R s m args below meth c ce sl Q nL E D pc lv st σ
def tw_hd (r : List (Nat × tw_Op)) : Nat := match r with
  | [] => 0
  | q :: _ => q.1
def tw_Ok (p : Program) (l : Launch) (e : Env) (R : Room) (s : State) (m : MethodId) (args : Array Value) (below : List Frame) (meth : Method) (c : Code) (ce sl : Nat) (Q : State → Prop) (nL : Nat) (E : tw_E) (D : va_G) (ρ : tw_R) : List (Nat × tw_Op) → Prop
  | [] => True
  | q :: r => tw_Sd p l e R s m args below meth c ce sl Q nL E D ρ q.1 (tw_hd r) q.2 ∧ tw_Ok p l e R s m args below meth c ce sl Q nL E D ρ r
section TWS
variable {p : Program} {l : Launch} {e : Env} {R : Room} {s : State} {m : MethodId} {args : Array Value} {below : List Frame} {meth : Method} {c : Code} {ce sl : Nat} {Q : State → Prop} {cc : ByteArray} {nL : Nat} {ret : Option FieldType} {own : String} {E : tw_E} {D : va_G} {ρ : tw_R} {pc : Nat}
theorem tw_Ok.seek {t : Nat} : ∀ {l0 : List (Nat × tw_Op)}, tw_Ok p l e R s m args below meth c ce sl Q nL E D ρ l0 → tw_Ok p l e R s m args below meth c ce sl Q nL E D ρ (tw_seek t l0) ∧ ∀ q r, tw_seek t l0 = q :: r → q.1 = t
  | [], h => ⟨h, fun q r e => by cases e⟩
  | a :: r0, h => by
    unfold tw_seek
    cases hb : Nat.beq a.1 t with
    | true => exact ⟨h, fun q r e => by cases e; exact Nat.eq_of_beq_eq_true hb⟩
    | false => exact tw_Ok.seek (l0 := r0) h.2
/-- a method ends: its walk comes to Q -/
theorem tw_sound {full : List (Nat × tw_Op)} (hf : tw_Ok p l e R s m args below meth c ce sl Q nL E D ρ full) : ∀ (n : Nat) (l0 : List (Nat × tw_Op)), tw_Ok p l e R s m args below meth c ce sl Q nL E D ρ l0 → ∀ (lv : tw_L) (st : List tw_V) (σ : tw_S), tw_run full n l0 lv st σ = some ρ → tw_G p l e R s m args below meth c ce sl Q nL E D (tw_hd l0) lv st σ
  | 0, _, _, _, _, _, h => tw_no h
  | _ + 1, [], _, _, _, _, h => tw_no h
  | n + 1, q :: r, ho, lv, st, σ, h => by
    refine ho.1 _ _ (fun lv st σ h2 => tw_sound hf n r ho.2 lv st σ h2) (fun t lv st σ h2 => ?_) lv st σ h
    have h3 := tw_Ok.seek (t := t) hf
    have h4 := tw_sound hf n _ h3.1 lv st σ h2
    cases hs : tw_seek t full with
    | nil =>
      rw [hs] at h2
      cases n with
      | zero => exact tw_no h2
      | succ n => exact tw_no h2
    | cons a r1 =>
      rw [hs] at h4
      have h5 : a.1 = t := h3.2 a r1 hs
      rw [← h5]
      exact h4
theorem tw_pos {α : Type} {c : Prop} [Decidable c] {a b x : α} (h : (if c then a else b) = x) (z : c) : a = x := by rw [if_pos z] at h; exact h
theorem tw_ng {α : Type} {c : Prop} [Decidable c] {a b x : α} (h : (if c then a else b) = x) (z : ¬ c) : b = x := by rw [if_neg z] at h; exact h
theorem ts_iconst (hC : tw_Cx p s m args meth c cc nL ret own E D) {n : Int} {v : Int32} (hd : decode cc pc = .ok (.iconst n, 1)) (hv : Int32.ofInt n = v) : tw_Sd p l e R s m args below meth c ce sl Q nL E D ρ pc (pc + 1) (tw_ic v) := by
  intro next jump hn hj lv st σ h H locs ls hP hS hL
  exact lv_iconst hC.1 hC.2.1 hd hv (hn _ _ _ h H locs ls hP hS hL)
theorem ts_bipush (hC : tw_Cx p s m args meth c cc nL ret own E D) {n : Int} {v : Int32} (hd : decode cc pc = .ok (.bipush n, 2)) (hv : (Int8.ofInt n).toInt32 = v) : tw_Sd p l e R s m args below meth c ce sl Q nL E D ρ pc (pc + 2) (tw_ic v) := by
  intro next jump hn hj lv st σ h H locs ls hP hS hL
  exact lv_bipush hC.1 hC.2.1 hd hv (hn _ _ _ h H locs ls hP hS hL)
theorem ts_sipush (hC : tw_Cx p s m args meth c cc nL ret own E D) {n : Int} {v : Int32} (hd : decode cc pc = .ok (.sipush n, 3)) (hv : (Int16.ofInt n).toInt32 = v) : tw_Sd p l e R s m args below meth c ce sl Q nL E D ρ pc (pc + 3) (tw_ic v) := by
  intro next jump hn hj lv st σ h H locs ls hP hS hL
  exact lv_sipush hC.1 hC.2.1 hd hv (hn _ _ _ h H locs ls hP hS hL)
theorem ts_ldc (hC : tw_Cx p s m args meth c cc nL ret own E D) {idx : Nat} {v : Int32} (hw : Cond.constant own idx v ∈ tw_Tb) (hd : decode cc pc = .ok (.ldc idx, 2)) : tw_Sd p l e R s m args below meth c ce sl Q nL E D ρ pc (pc + 2) (tw_ic v) := by
  intro next jump hn hj lv st σ h H locs ls hP hS hL
  exact lv_ldc hC.1 hC.2.1 hC.2.2.2.2.2.1 (hC.2.2.2.2.2.2.1 _ hw) hd (hn _ _ _ h H locs ls hP hS hL)
theorem ts_iload_n (hC : tw_Cx p s m args meth c cc nL ret own E D) {k : Fin 4} {i : Nat} (hd : decode cc pc = .ok (.iload_n k, 1)) (hi : (k : Nat) = i) : tw_Sd p l e R s m args below meth c ce sl Q nL E D ρ pc (pc + 1) (tw_il i) := by
  intro next jump hn hj lv st σ h H locs ls hP hS hL
  unfold tw_il at h
  cases hg : tw_get lv i with
  | none => rw [hg] at h; exact tw_no h
  | some v =>
    rw [hg] at h
    rcases v with x | q
    · exact lv_iload_n hC.1 hC.2.1 hd hi (tw_has hL hg) (hn _ _ _ h H locs ls hP hS hL)
    · exact tw_no h
theorem ts_iload (hC : tw_Cx p s m args meth c cc nL ret own E D) {i : Nat} (hd : decode cc pc = .ok (.iload i, 2)) : tw_Sd p l e R s m args below meth c ce sl Q nL E D ρ pc (pc + 2) (tw_il i) := by
  intro next jump hn hj lv st σ h H locs ls hP hS hL
  unfold tw_il at h
  cases hg : tw_get lv i with
  | none => rw [hg] at h; exact tw_no h
  | some v =>
    rw [hg] at h
    rcases v with x | q
    · exact lv_iload hC.1 hC.2.1 hd (tw_has hL hg) (hn _ _ _ h H locs ls hP hS hL)
    · exact tw_no h
theorem ts_aload_n (hC : tw_Cx p s m args meth c cc nL ret own E D) {k : Fin 4} {i : Nat} (hd : decode cc pc = .ok (.aload_n k, 1)) (hi : (k : Nat) = i) : tw_Sd p l e R s m args below meth c ce sl Q nL E D ρ pc (pc + 1) (tw_al i) := by
  intro next jump hn hj lv st σ h H locs ls hP hS hL
  unfold tw_al at h
  cases hg : tw_get lv i with
  | none => rw [hg] at h; exact tw_no h
  | some v =>
    rw [hg] at h
    rcases v with x | q
    · exact tw_no h
    · exact lv_aload_n hC.1 hC.2.1 hd hi (tw_has hL hg) (hn _ _ _ h H locs ls hP hS hL)
theorem ts_aload (hC : tw_Cx p s m args meth c cc nL ret own E D) {i : Nat} (hd : decode cc pc = .ok (.aload i, 2)) : tw_Sd p l e R s m args below meth c ce sl Q nL E D ρ pc (pc + 2) (tw_al i) := by
  intro next jump hn hj lv st σ h H locs ls hP hS hL
  unfold tw_al at h
  cases hg : tw_get lv i with
  | none => rw [hg] at h; exact tw_no h
  | some v =>
    rw [hg] at h
    rcases v with x | q
    · exact tw_no h
    · exact lv_aload hC.1 hC.2.1 hd (tw_has hL hg) (hn _ _ _ h H locs ls hP hS hL)
theorem ts_istore_n (hC : tw_Cx p s m args meth c cc nL ret own E D) {k : Fin 4} {i : Nat} (hd : decode cc pc = .ok (.istore_n k, 1)) (hi : (k : Nat) = i) (hn4 : i < nL) : tw_Sd p l e R s m args below meth c ce sl Q nL E D ρ pc (pc + 1) (tw_is i) := by
  intro next jump hn hj lv st σ h H locs ls hP hS hL
  rcases st with _ | ⟨x | q, st⟩
  · exact tw_no h
  · exact lv_istore_n hC.1 hC.2.1 hd hi hL hn4 rfl (fun ls1 h1 => hn _ _ _ h H locs ls1 hP hS (tw_stored h1))
  · exact tw_no h
theorem ts_istore (hC : tw_Cx p s m args meth c cc nL ret own E D) {i : Nat} (hd : decode cc pc = .ok (.istore i, 2)) (hn4 : i < nL) : tw_Sd p l e R s m args below meth c ce sl Q nL E D ρ pc (pc + 2) (tw_is i) := by
  intro next jump hn hj lv st σ h H locs ls hP hS hL
  rcases st with _ | ⟨x | q, st⟩
  · exact tw_no h
  · exact lv_istore hC.1 hC.2.1 hd hL hn4 rfl (fun ls1 h1 => hn _ _ _ h H locs ls1 hP hS (tw_stored h1))
  · exact tw_no h
theorem ts_astore_n (hC : tw_Cx p s m args meth c cc nL ret own E D) {k : Fin 4} {i : Nat} (hd : decode cc pc = .ok (.astore_n k, 1)) (hi : (k : Nat) = i) (hn4 : i < nL) : tw_Sd p l e R s m args below meth c ce sl Q nL E D ρ pc (pc + 1) (tw_as i) := by
  intro next jump hn hj lv st σ h H locs ls hP hS hL
  rcases st with _ | ⟨x | q, st⟩
  · exact tw_no h
  · exact tw_no h
  · exact lv_astore_n hC.1 hC.2.1 hd hi hL hn4 rfl (fun ls1 h1 => hn _ _ _ h H locs ls1 hP hS (tw_stored h1))
theorem ts_astore (hC : tw_Cx p s m args meth c cc nL ret own E D) {i : Nat} (hd : decode cc pc = .ok (.astore i, 2)) (hn4 : i < nL) : tw_Sd p l e R s m args below meth c ce sl Q nL E D ρ pc (pc + 2) (tw_as i) := by
  intro next jump hn hj lv st σ h H locs ls hP hS hL
  rcases st with _ | ⟨x | q, st⟩
  · exact tw_no h
  · exact tw_no h
  · exact lv_astore hC.1 hC.2.1 hd hL hn4 rfl (fun ls1 h1 => hn _ _ _ h H locs ls1 hP hS (tw_stored h1))
theorem ts_iinc (hC : tw_Cx p s m args meth c cc nL ret own E D) {i : Nat} {n : Int} {v : Int32} (hd : decode cc pc = .ok (.iinc i n, 3)) (hv : Int32.ofInt n = v) (hn4 : i < nL) : tw_Sd p l e R s m args below meth c ce sl Q nL E D ρ pc (pc + 3) (tw_inc i v) := by
  intro next jump hn hj lv st σ h H locs ls hP hS hL
  unfold tw_inc at h
  cases hg : tw_get lv i with
  | none => rw [hg] at h; exact tw_no h
  | some u =>
    rw [hg] at h
    rcases u with x | q
    · have hm := tw_get_mem E lv 0 i _ hg
      rw [Nat.zero_add] at hm
      obtain ⟨k, hk⟩ := List.mem_iff_getElem?.mp (hm : (i, tw_c E (.inl x)) ∈ tw_lv E lv)
      exact lv_iinc hC.1 hC.2.1 hd hL hk (v := x + v) (by rw [hv]) hn4 rfl (fun ls1 h1 => hn _ _ _ h H locs ls1 hP hS (tw_stored (v := .inl (x + v)) h1))
    · exact tw_no h
theorem ts_iadd (hC : tw_Cx p s m args meth c cc nL ret own E D) (hd : decode cc pc = .ok (.iadd, 1)) : tw_Sd p l e R s m args below meth c ce sl Q nL E D ρ pc (pc + 1) (tw_bin (· + ·)) := by
  intro next jump hn hj lv st σ h H locs ls hP hS hL
  rcases st with _ | ⟨y | q, _ | ⟨x | q2, st⟩⟩ <;> first | exact tw_no h | exact lv_iadd hC.1 hC.2.1 hd (hn _ _ _ h H locs ls hP hS hL)
theorem ts_isub (hC : tw_Cx p s m args meth c cc nL ret own E D) (hd : decode cc pc = .ok (.isub, 1)) : tw_Sd p l e R s m args below meth c ce sl Q nL E D ρ pc (pc + 1) (tw_bin (· - ·)) := by
  intro next jump hn hj lv st σ h H locs ls hP hS hL
  rcases st with _ | ⟨y | q, _ | ⟨x | q2, st⟩⟩ <;> first | exact tw_no h | exact lv_isub hC.1 hC.2.1 hd (hn _ _ _ h H locs ls hP hS hL)
theorem ts_imul (hC : tw_Cx p s m args meth c cc nL ret own E D) (hd : decode cc pc = .ok (.imul, 1)) : tw_Sd p l e R s m args below meth c ce sl Q nL E D ρ pc (pc + 1) (tw_bin (· * ·)) := by
  intro next jump hn hj lv st σ h H locs ls hP hS hL
  rcases st with _ | ⟨y | q, _ | ⟨x | q2, st⟩⟩ <;> first | exact tw_no h | exact lv_imul hC.1 hC.2.1 hd (hn _ _ _ h H locs ls hP hS hL)
theorem ts_iand (hC : tw_Cx p s m args meth c cc nL ret own E D) (hd : decode cc pc = .ok (.iand, 1)) : tw_Sd p l e R s m args below meth c ce sl Q nL E D ρ pc (pc + 1) (tw_bin (· &&& ·)) := by
  intro next jump hn hj lv st σ h H locs ls hP hS hL
  rcases st with _ | ⟨y | q, _ | ⟨x | q2, st⟩⟩ <;> first | exact tw_no h | exact lv_iand hC.1 hC.2.1 hd (hn _ _ _ h H locs ls hP hS hL)
theorem ts_ior (hC : tw_Cx p s m args meth c cc nL ret own E D) (hd : decode cc pc = .ok (.ior, 1)) : tw_Sd p l e R s m args below meth c ce sl Q nL E D ρ pc (pc + 1) (tw_bin (· ||| ·)) := by
  intro next jump hn hj lv st σ h H locs ls hP hS hL
  rcases st with _ | ⟨y | q, _ | ⟨x | q2, st⟩⟩ <;> first | exact tw_no h | exact lv_ior hC.1 hC.2.1 hd (hn _ _ _ h H locs ls hP hS hL)
theorem ts_ixor (hC : tw_Cx p s m args meth c cc nL ret own E D) (hd : decode cc pc = .ok (.ixor, 1)) : tw_Sd p l e R s m args below meth c ce sl Q nL E D ρ pc (pc + 1) (tw_bin (· ^^^ ·)) := by
  intro next jump hn hj lv st σ h H locs ls hP hS hL
  rcases st with _ | ⟨y | q, _ | ⟨x | q2, st⟩⟩ <;> first | exact tw_no h | exact lv_ixor hC.1 hC.2.1 hd (hn _ _ _ h H locs ls hP hS hL)
theorem ts_ishl (hC : tw_Cx p s m args meth c cc nL ret own E D) (hd : decode cc pc = .ok (.ishl, 1)) : tw_Sd p l e R s m args below meth c ce sl Q nL E D ρ pc (pc + 1) (tw_bin (fun x y => x <<< (y &&& 31))) := by
  intro next jump hn hj lv st σ h H locs ls hP hS hL
  rcases st with _ | ⟨y | q, _ | ⟨x | q2, st⟩⟩ <;> first | exact tw_no h | exact lv_ishl hC.1 hC.2.1 hd (hn _ _ _ h H locs ls hP hS hL)
theorem ts_ishr (hC : tw_Cx p s m args meth c cc nL ret own E D) (hd : decode cc pc = .ok (.ishr, 1)) : tw_Sd p l e R s m args below meth c ce sl Q nL E D ρ pc (pc + 1) (tw_bin (fun x y => x >>> (y &&& 31))) := by
  intro next jump hn hj lv st σ h H locs ls hP hS hL
  rcases st with _ | ⟨y | q, _ | ⟨x | q2, st⟩⟩ <;> first | exact tw_no h | exact lv_ishr hC.1 hC.2.1 hd (hn _ _ _ h H locs ls hP hS hL)
theorem ts_idiv (hC : tw_Cx p s m args meth c cc nL ret own E D) (hd : decode cc pc = .ok (.idiv, 1)) : tw_Sd p l e R s m args below meth c ce sl Q nL E D ρ pc (pc + 1) tw_div := by
  intro next jump hn hj lv st σ h H locs ls hP hS hL
  rcases st with _ | ⟨y | q, _ | ⟨x | q2, st⟩⟩ <;> first | exact tw_no h | skip
  have h1 : (if y = 0 then none else next lv (.inl (x / y) :: st) σ) = some ρ := h
  exact lv_idiv hC.1 hC.2.1 hd (fun z => tw_no (tw_pos h1 z)) (hn _ _ _ (tw_ng h1 (fun z => tw_no (tw_pos h1 z))) H locs ls hP hS hL)
theorem ts_irem (hC : tw_Cx p s m args meth c cc nL ret own E D) (hd : decode cc pc = .ok (.irem, 1)) : tw_Sd p l e R s m args below meth c ce sl Q nL E D ρ pc (pc + 1) tw_rem := by
  intro next jump hn hj lv st σ h H locs ls hP hS hL
  rcases st with _ | ⟨y | q, _ | ⟨x | q2, st⟩⟩ <;> first | exact tw_no h | skip
  have h1 : (if y = 0 then none else next lv (.inl (x - x / y * y) :: st) σ) = some ρ := h
  exact lv_irem hC.1 hC.2.1 hd (fun z => tw_no (tw_pos h1 z)) (hn _ _ _ (tw_ng h1 (fun z => tw_no (tw_pos h1 z))) H locs ls hP hS hL)
theorem ts_ineg (hC : tw_Cx p s m args meth c cc nL ret own E D) (hd : decode cc pc = .ok (.ineg, 1)) : tw_Sd p l e R s m args below meth c ce sl Q nL E D ρ pc (pc + 1) tw_neg := by
  intro next jump hn hj lv st σ h H locs ls hP hS hL
  rcases st with _ | ⟨x | q, st⟩ <;> first | exact tw_no h | exact lv_ineg hC.1 hC.2.1 hd (hn _ _ _ h H locs ls hP hS hL)
theorem ts_dup (hC : tw_Cx p s m args meth c cc nL ret own E D) (hd : decode cc pc = .ok (.dup, 1)) : tw_Sd p l e R s m args below meth c ce sl Q nL E D ρ pc (pc + 1) tw_dup := by
  intro next jump hn hj lv st σ h H locs ls hP hS hL
  rcases st with _ | ⟨x, st⟩
  · exact tw_no h
  · exact lv_dup hC.1 hC.2.1 hd (tw_cat E x) (hn _ _ _ h H locs ls hP hS hL)
theorem ts_pop (hC : tw_Cx p s m args meth c cc nL ret own E D) (hd : decode cc pc = .ok (.pop, 1)) : tw_Sd p l e R s m args below meth c ce sl Q nL E D ρ pc (pc + 1) tw_pop := by
  intro next jump hn hj lv st σ h H locs ls hP hS hL
  rcases st with _ | ⟨x, st⟩
  · exact tw_no h
  · exact lv_pop hC.1 hC.2.1 hd (tw_cat E x) (hn _ _ _ h H locs ls hP hS hL)
theorem ts_dup_x1 (hC : tw_Cx p s m args meth c cc nL ret own E D) (hd : decode cc pc = .ok (.dup_x1, 1)) : tw_Sd p l e R s m args below meth c ce sl Q nL E D ρ pc (pc + 1) tw_dx1 := by
  intro next jump hn hj lv st σ h H locs ls hP hS hL
  rcases st with _ | ⟨x, _ | ⟨y, st⟩⟩
  · exact tw_no h
  · exact tw_no h
  · exact lv_dup_x1 hC.1 hC.2.1 hd (tw_cat E x) (tw_cat E y) (hn _ _ _ h H locs ls hP hS hL)
theorem ts_dup2 (hC : tw_Cx p s m args meth c cc nL ret own E D) (hd : decode cc pc = .ok (.dup2, 1)) : tw_Sd p l e R s m args below meth c ce sl Q nL E D ρ pc (pc + 1) tw_d2 := by
  intro next jump hn hj lv st σ h H locs ls hP hS hL
  rcases st with _ | ⟨x, _ | ⟨y, st⟩⟩
  · exact tw_no h
  · exact tw_no h
  · exact lv_dup2_11 hC.1 hC.2.1 hd (tw_cat E x) (tw_cat E y) (hn _ _ _ h H locs ls hP hS hL)
theorem ts_goto (hC : tw_Cx p s m args meth c cc nL ret own E D) {off : Int} {tgt : Nat} (hd : decode cc pc = .ok (.goto off, 3)) (ht : (pc : Int) + off = (tgt : Int)) {pn : Nat} : tw_Sd p l e R s m args below meth c ce sl Q nL E D ρ pc pn (tw_jmp tgt) := by
  intro next jump hn hj lv st σ h H locs ls hP hS hL
  exact lv_goto hC.1 hC.2.1 hd ht (hj _ _ _ _ h H locs ls hP hS hL)
theorem ts_ifeq (hC : tw_Cx p s m args meth c cc nL ret own E D) {off : Int} {tgt : Nat} (hd : decode cc pc = .ok (.ifCond .eq off, 3)) (ht : (pc : Int) + off = (tgt : Int)) : tw_Sd p l e R s m args below meth c ce sl Q nL E D ρ pc (pc + 3) (tw_ifeq tgt) := by
  intro next jump hn hj lv st σ h H locs ls hP hS hL
  rcases st with _ | ⟨x | q, st⟩ <;> first | exact tw_no h | skip
  have h1 : (if x = 0 then jump tgt lv st σ else next lv st σ) = some ρ := h
  exact lv_if_eq hC.1 hC.2.1 hd ht (fun z => hj _ _ _ _ (tw_pos h1 z) H locs ls hP hS hL) (fun z => hn _ _ _ (tw_ng h1 z) H locs ls hP hS hL)
theorem ts_ceq (hC : tw_Cx p s m args meth c cc nL ret own E D) {off : Int} {tgt : Nat} (hd : decode cc pc = .ok (.if_icmp .eq off, 3)) (ht : (pc : Int) + off = (tgt : Int)) : tw_Sd p l e R s m args below meth c ce sl Q nL E D ρ pc (pc + 3) (tw_ceq tgt) := by
  intro next jump hn hj lv st σ h H locs ls hP hS hL
  rcases st with _ | ⟨y | q, _ | ⟨x | q2, st⟩⟩ <;> first | exact tw_no h | skip
  have h1 : (if x = y then jump tgt lv st σ else next lv st σ) = some ρ := h
  exact lv_icmp_eq hC.1 hC.2.1 hd ht (fun z => hj _ _ _ _ (tw_pos h1 z) H locs ls hP hS hL) (fun z => hn _ _ _ (tw_ng h1 z) H locs ls hP hS hL)
theorem ts_ifne (hC : tw_Cx p s m args meth c cc nL ret own E D) {off : Int} {tgt : Nat} (hd : decode cc pc = .ok (.ifCond .ne off, 3)) (ht : (pc : Int) + off = (tgt : Int)) : tw_Sd p l e R s m args below meth c ce sl Q nL E D ρ pc (pc + 3) (tw_ifne tgt) := by
  intro next jump hn hj lv st σ h H locs ls hP hS hL
  rcases st with _ | ⟨x | q, st⟩ <;> first | exact tw_no h | skip
  have h1 : (if x = 0 then next lv st σ else jump tgt lv st σ) = some ρ := h
  exact lv_if_ne hC.1 hC.2.1 hd ht (fun z => hj _ _ _ _ (tw_ng h1 z) H locs ls hP hS hL) (fun z => hn _ _ _ (tw_pos h1 z) H locs ls hP hS hL)
theorem ts_cne (hC : tw_Cx p s m args meth c cc nL ret own E D) {off : Int} {tgt : Nat} (hd : decode cc pc = .ok (.if_icmp .ne off, 3)) (ht : (pc : Int) + off = (tgt : Int)) : tw_Sd p l e R s m args below meth c ce sl Q nL E D ρ pc (pc + 3) (tw_cne tgt) := by
  intro next jump hn hj lv st σ h H locs ls hP hS hL
  rcases st with _ | ⟨y | q, _ | ⟨x | q2, st⟩⟩ <;> first | exact tw_no h | skip
  have h1 : (if x = y then next lv st σ else jump tgt lv st σ) = some ρ := h
  exact lv_icmp_ne hC.1 hC.2.1 hd ht (fun z => hj _ _ _ _ (tw_ng h1 z) H locs ls hP hS hL) (fun z => hn _ _ _ (tw_pos h1 z) H locs ls hP hS hL)
theorem ts_iflt (hC : tw_Cx p s m args meth c cc nL ret own E D) {off : Int} {tgt : Nat} (hd : decode cc pc = .ok (.ifCond .lt off, 3)) (ht : (pc : Int) + off = (tgt : Int)) : tw_Sd p l e R s m args below meth c ce sl Q nL E D ρ pc (pc + 3) (tw_iflt tgt) := by
  intro next jump hn hj lv st σ h H locs ls hP hS hL
  rcases st with _ | ⟨x | q, st⟩ <;> first | exact tw_no h | skip
  have h1 : (if x < 0 then jump tgt lv st σ else next lv st σ) = some ρ := h
  exact lv_if_lt hC.1 hC.2.1 hd ht (fun z => hj _ _ _ _ (tw_pos h1 z) H locs ls hP hS hL) (fun z => hn _ _ _ (tw_ng h1 z) H locs ls hP hS hL)
theorem ts_clt (hC : tw_Cx p s m args meth c cc nL ret own E D) {off : Int} {tgt : Nat} (hd : decode cc pc = .ok (.if_icmp .lt off, 3)) (ht : (pc : Int) + off = (tgt : Int)) : tw_Sd p l e R s m args below meth c ce sl Q nL E D ρ pc (pc + 3) (tw_clt tgt) := by
  intro next jump hn hj lv st σ h H locs ls hP hS hL
  rcases st with _ | ⟨y | q, _ | ⟨x | q2, st⟩⟩ <;> first | exact tw_no h | skip
  have h1 : (if x < y then jump tgt lv st σ else next lv st σ) = some ρ := h
  exact lv_icmp_lt hC.1 hC.2.1 hd ht (fun z => hj _ _ _ _ (tw_pos h1 z) H locs ls hP hS hL) (fun z => hn _ _ _ (tw_ng h1 z) H locs ls hP hS hL)
theorem ts_ifge (hC : tw_Cx p s m args meth c cc nL ret own E D) {off : Int} {tgt : Nat} (hd : decode cc pc = .ok (.ifCond .ge off, 3)) (ht : (pc : Int) + off = (tgt : Int)) : tw_Sd p l e R s m args below meth c ce sl Q nL E D ρ pc (pc + 3) (tw_ifge tgt) := by
  intro next jump hn hj lv st σ h H locs ls hP hS hL
  rcases st with _ | ⟨x | q, st⟩ <;> first | exact tw_no h | skip
  have h1 : (if 0 ≤ x then jump tgt lv st σ else next lv st σ) = some ρ := h
  exact lv_if_ge hC.1 hC.2.1 hd ht (fun z => hj _ _ _ _ (tw_pos h1 z) H locs ls hP hS hL) (fun z => hn _ _ _ (tw_ng h1 z) H locs ls hP hS hL)
theorem ts_cge (hC : tw_Cx p s m args meth c cc nL ret own E D) {off : Int} {tgt : Nat} (hd : decode cc pc = .ok (.if_icmp .ge off, 3)) (ht : (pc : Int) + off = (tgt : Int)) : tw_Sd p l e R s m args below meth c ce sl Q nL E D ρ pc (pc + 3) (tw_cge tgt) := by
  intro next jump hn hj lv st σ h H locs ls hP hS hL
  rcases st with _ | ⟨y | q, _ | ⟨x | q2, st⟩⟩ <;> first | exact tw_no h | skip
  have h1 : (if y ≤ x then jump tgt lv st σ else next lv st σ) = some ρ := h
  exact lv_icmp_ge hC.1 hC.2.1 hd ht (fun z => hj _ _ _ _ (tw_pos h1 z) H locs ls hP hS hL) (fun z => hn _ _ _ (tw_ng h1 z) H locs ls hP hS hL)
theorem ts_ifgt (hC : tw_Cx p s m args meth c cc nL ret own E D) {off : Int} {tgt : Nat} (hd : decode cc pc = .ok (.ifCond .gt off, 3)) (ht : (pc : Int) + off = (tgt : Int)) : tw_Sd p l e R s m args below meth c ce sl Q nL E D ρ pc (pc + 3) (tw_ifgt tgt) := by
  intro next jump hn hj lv st σ h H locs ls hP hS hL
  rcases st with _ | ⟨x | q, st⟩ <;> first | exact tw_no h | skip
  have h1 : (if 0 < x then jump tgt lv st σ else next lv st σ) = some ρ := h
  exact lv_if_gt hC.1 hC.2.1 hd ht (fun z => hj _ _ _ _ (tw_pos h1 z) H locs ls hP hS hL) (fun z => hn _ _ _ (tw_ng h1 z) H locs ls hP hS hL)
theorem ts_cgt (hC : tw_Cx p s m args meth c cc nL ret own E D) {off : Int} {tgt : Nat} (hd : decode cc pc = .ok (.if_icmp .gt off, 3)) (ht : (pc : Int) + off = (tgt : Int)) : tw_Sd p l e R s m args below meth c ce sl Q nL E D ρ pc (pc + 3) (tw_cgt tgt) := by
  intro next jump hn hj lv st σ h H locs ls hP hS hL
  rcases st with _ | ⟨y | q, _ | ⟨x | q2, st⟩⟩ <;> first | exact tw_no h | skip
  have h1 : (if y < x then jump tgt lv st σ else next lv st σ) = some ρ := h
  exact lv_icmp_gt hC.1 hC.2.1 hd ht (fun z => hj _ _ _ _ (tw_pos h1 z) H locs ls hP hS hL) (fun z => hn _ _ _ (tw_ng h1 z) H locs ls hP hS hL)
theorem ts_ifle (hC : tw_Cx p s m args meth c cc nL ret own E D) {off : Int} {tgt : Nat} (hd : decode cc pc = .ok (.ifCond .le off, 3)) (ht : (pc : Int) + off = (tgt : Int)) : tw_Sd p l e R s m args below meth c ce sl Q nL E D ρ pc (pc + 3) (tw_ifle tgt) := by
  intro next jump hn hj lv st σ h H locs ls hP hS hL
  rcases st with _ | ⟨x | q, st⟩ <;> first | exact tw_no h | skip
  have h1 : (if x ≤ 0 then jump tgt lv st σ else next lv st σ) = some ρ := h
  exact lv_if_le hC.1 hC.2.1 hd ht (fun z => hj _ _ _ _ (tw_pos h1 z) H locs ls hP hS hL) (fun z => hn _ _ _ (tw_ng h1 z) H locs ls hP hS hL)
theorem ts_cle (hC : tw_Cx p s m args meth c cc nL ret own E D) {off : Int} {tgt : Nat} (hd : decode cc pc = .ok (.if_icmp .le off, 3)) (ht : (pc : Int) + off = (tgt : Int)) : tw_Sd p l e R s m args below meth c ce sl Q nL E D ρ pc (pc + 3) (tw_cle tgt) := by
  intro next jump hn hj lv st σ h H locs ls hP hS hL
  rcases st with _ | ⟨y | q, _ | ⟨x | q2, st⟩⟩ <;> first | exact tw_no h | skip
  have h1 : (if x ≤ y then jump tgt lv st σ else next lv st σ) = some ρ := h
  exact lv_icmp_le hC.1 hC.2.1 hd ht (fun z => hj _ _ _ _ (tw_pos h1 z) H locs ls hP hS hL) (fun z => hn _ _ _ (tw_ng h1 z) H locs ls hP hS hL)
theorem tw_en_adr (hE : tw_EN E s s.heap) {g1 g2 : Bool} {a b : Nat} (h : tw_enb a b = true) : tw_adr E g1 a = tw_adr E g2 b ↔ a = b := by
  simp only [tw_enb, Bool.or_eq_true, Bool.and_eq_true, Nat.ble_eq, Nat.blt_eq] at h
  constructor
  · intro e
    rcases h with ⟨⟨a1, a2⟩, b1, b2⟩ | ⟨⟨a1, a2⟩, b1, b2⟩
    · unfold tw_adr at e
      rw [if_neg (by omega), if_pos (by omega), if_neg (by omega), if_pos (by omega)] at e
      have := hE.1.2 (a - 50) (b - 50) (by show a - 50 < 3; omega) (by show b - 50 < 3; omega) e
      omega
    · unfold tw_adr at e
      rw [if_neg (by omega), if_neg (by omega), if_pos (by omega), if_neg (by omega), if_neg (by omega), if_pos (by omega)] at e
      have := hE.2.2 (a - 60) (b - 60) (by show a - 60 < 3; omega) (by show b - 60 < 3; omega) e
      omega
  · intro e
    subst e
    unfold tw_adr
    rw [if_neg (by omega), if_neg (c := a < 50) (by omega)]
theorem ts_aeq (hC : tw_Cx p s m args meth c cc nL ret own E D) {off : Int} {tgt : Nat} (hd : decode cc pc = .ok (.if_acmp .eq off, 3)) (ht : (pc : Int) + off = (tgt : Int)) : tw_Sd p l e R s m args below meth c ce sl Q nL E D ρ pc (pc + 3) (tw_aeq tgt) := by
  intro next jump hn hj lv st σ h H locs ls hP hS hL
  rcases st with _ | ⟨y | q, _ | ⟨x | q2, st⟩⟩
  · exact tw_no h
  · exact tw_no h
  · exact tw_no h
  · exact tw_no h
  · exact tw_no h
  · exact tw_no h
  · unfold tw_aeq at h
    dsimp only at h
    cases hen : tw_enb q2.2 q.2 with
    | false => rw [hen] at h; exact tw_no h
    | true =>
      rw [hen] at h
      dsimp only at h
      have adr := tw_en_adr (g1 := q2.1) (g2 := q.1) hC.2.2.2.2.2.2.2.2.1 hen
      cases hb : Nat.beq q2.2 q.2 with
      | true => rw [hb] at h; exact lv_acmp_eq (rx := some (tw_adr E q2.1 q2.2)) (ry := some (tw_adr E q.1 q.2)) hC.1 hC.2.1 hd ht (fun _ => hj _ _ _ _ h H locs ls hP hS hL) (fun z => absurd (congrArg some (adr.mpr (Nat.eq_of_beq_eq_true hb))) z)
      | false => rw [hb] at h; exact lv_acmp_eq (rx := some (tw_adr E q2.1 q2.2)) (ry := some (tw_adr E q.1 q.2)) hC.1 hC.2.1 hd ht (fun z => absurd (adr.mp (Option.some.inj z)) (Nat.ne_of_beq_eq_false hb)) (fun _ => hn _ _ _ h H locs ls hP hS hL)
theorem ts_ane (hC : tw_Cx p s m args meth c cc nL ret own E D) {off : Int} {tgt : Nat} (hd : decode cc pc = .ok (.if_acmp .ne off, 3)) (ht : (pc : Int) + off = (tgt : Int)) : tw_Sd p l e R s m args below meth c ce sl Q nL E D ρ pc (pc + 3) (tw_ane tgt) := by
  intro next jump hn hj lv st σ h H locs ls hP hS hL
  rcases st with _ | ⟨y | q, _ | ⟨x | q2, st⟩⟩
  · exact tw_no h
  · exact tw_no h
  · exact tw_no h
  · exact tw_no h
  · exact tw_no h
  · exact tw_no h
  · unfold tw_ane at h
    dsimp only at h
    cases hen : tw_enb q2.2 q.2 with
    | false => rw [hen] at h; exact tw_no h
    | true =>
      rw [hen] at h
      dsimp only at h
      have adr := tw_en_adr (g1 := q2.1) (g2 := q.1) hC.2.2.2.2.2.2.2.2.1 hen
      cases hb : Nat.beq q2.2 q.2 with
      | true => rw [hb] at h; exact lv_acmp_ne (rx := some (tw_adr E q2.1 q2.2)) (ry := some (tw_adr E q.1 q.2)) hC.1 hC.2.1 hd ht (fun z => absurd (congrArg some (adr.mpr (Nat.eq_of_beq_eq_true hb))) z) (fun _ => hn _ _ _ h H locs ls hP hS hL)
      | false => rw [hb] at h; exact lv_acmp_ne (rx := some (tw_adr E q2.1 q2.2)) (ry := some (tw_adr E q.1 q.2)) hC.1 hC.2.1 hd ht (fun _ => hj _ _ _ _ h H locs ls hP hS hL) (fun z => absurd (adr.mp (Option.some.inj z)) (Nat.ne_of_beq_eq_false hb))
end TWS
end
section
/-- where a switch goes -/
def tw_tg (d : Nat) (x : Int32) : List (Int32 × Nat) → Nat
  | [] => d
  | q :: r => if x = q.1 then q.2 else tw_tg d x r
theorem tw_swr_tg {jump : Nat → tw_K} {d : Nat} {x : Int32} {lv : tw_L} {st : List tw_V} {σ : tw_S} {ρ : tw_R} : ∀ (cs : List (Int32 × Nat)), tw_swr jump d x lv st σ cs = some ρ → jump (tw_tg d x cs) lv st σ = some ρ
  | [], h => h
  | q :: r, h => by
    unfold tw_swr at h
    unfold tw_tg
    by_cases hq : x = q.1
    · rw [if_pos hq] at h ⊢; exact h
    · rw [if_neg hq] at h ⊢; exact tw_swr_tg r h
theorem tw_tg_out {d : Nat} {x : Int32} {lo hi : Int} (hx : x.toInt < lo ∨ hi < x.toInt) : ∀ (cs : List (Int32 × Nat)), cs.all (fun q => decide (lo ≤ q.1.toInt ∧ q.1.toInt ≤ hi)) = true → tw_tg d x cs = d
  | [], _ => rfl
  | q :: r, h => by
    rw [List.all_cons, Bool.and_eq_true] at h
    have hq := of_decide_eq_true h.1
    unfold tw_tg
    rw [if_neg (fun z => by rw [z] at hx; omega)]
    exact tw_tg_out hx r h.2
section TWS2
variable {p : Program} {l : Launch} {e : Env} {R : Room} {s : State} {m : MethodId} {args : Array Value} {below : List Frame} {meth : Method} {c : Code} {ce sl : Nat} {Q : State → Prop} {cc : ByteArray} {nL : Nat} {ret : Option FieldType} {own : String} {E : tw_E} {D : va_G} {ρ : tw_R} {pc : Nat}
theorem ts_table (hC : tw_Cx p s m args meth c cc nL ret own E D) {dflt lo hi : Int} {offs : Array Int} {len d n : Nat} (cs : List (Int32 × Nat)) (hd : decode cc pc = .ok (.tableswitch dflt lo hi offs, len)) (hdf : (pc : Int) + dflt = (d : Int)) (hn0 : hi = lo + n) (hcs : cs.all (fun q => decide (lo ≤ q.1.toInt ∧ q.1.toInt ≤ hi)) = true)
    (hof : ((List.range (n + 1)).all (fun k => match offs[k]? with | some o => decide ((pc : Int) + o = (tw_tg d (Int32.ofInt (lo + k)) cs : Nat)) | none => false)) = true) {pn : Nat} : tw_Sd p l e R s m args below meth c ce sl Q nL E D ρ pc pn (tw_sw cs d) := by
  intro next jump hn hj lv st σ h H locs ls hP hS hL
  rcases st with _ | ⟨x | q, st⟩
  · exact tw_no h
  · have hg := hj _ _ _ _ (tw_swr_tg cs h) H locs ls hP hS hL
    by_cases ho : x.toInt < lo ∨ hi < x.toInt
    · rw [tw_tg_out ho cs hcs] at hg
      exact lv_tableOut hC.1 hC.2.1 hd ho hdf hg
    · have h1 : ¬ x.toInt < lo := fun z => ho (Or.inl z)
      have h2 : ¬ hi < x.toInt := fun z => ho (Or.inr z)
      have hk : (x.toInt - lo).toNat < n + 1 := by omega
      have h3 := List.all_eq_true.mp hof _ (List.mem_range.mpr hk)
      have hxx : Int32.ofInt (lo + ((x.toInt - lo).toNat : Nat)) = x := by
        rw [show lo + ((x.toInt - lo).toNat : Nat) = x.toInt by omega]
        exact Int32.ofInt_toInt x
      cases hoo : offs[(x.toInt - lo).toNat]? with
      | none => rw [hoo] at h3; cases h3
      | some o =>
        rw [hoo] at h3
        have h4 := of_decide_eq_true h3
        rw [hxx] at h4
        exact lv_tableIn hC.1 hC.2.1 hd h1 h2 hoo h4 hg
  · exact tw_no h
theorem tw_look {d : Nat} {dflt : Int} {x : Int32} (hdf : (pc : Int) + dflt = (d : Int)) : ∀ (ps : List (Int × Int)) (cs : List (Int32 × Nat)), ps.length = cs.length → ((ps.zip cs).all (fun q => decide (q.2.1.toInt = q.1.1 ∧ (pc : Int) + q.1.2 = (q.2.2 : Nat)))) = true → (pc : Int) + Op.lookupswitch.offset ps dflt x.toInt = (tw_tg d x cs : Nat)
  | [], [], _, _ => by
    unfold tw_tg
    rw [show Op.lookupswitch.offset [] dflt x.toInt = dflt from rfl]
    exact hdf
  | [], _ :: _, h, _ => by simp at h
  | _ :: _, [], h, _ => by simp at h
  | a :: ps, b :: cs, hl, h => by
    rw [List.zip_cons_cons, List.all_cons, Bool.and_eq_true] at h
    have h1 := of_decide_eq_true h.1
    obtain ⟨a1, a2⟩ := a
    obtain ⟨b1, b2⟩ := b
    dsimp only at h1
    unfold tw_tg
    by_cases hq : x = b1
    · rw [if_pos hq, Op.lookupswitch.offset_cons, if_pos (by rw [hq]; exact h1.1.symm)]
      exact h1.2
    · rw [if_neg hq, lv_osw hq h1.1]
      exact tw_look hdf ps cs (by simpa using hl) h.2
theorem ts_lookup (hC : tw_Cx p s m args meth c cc nL ret own E D) {dflt : Int} {ps : Array (Int × Int)} {len d : Nat} (cs : List (Int32 × Nat)) (hd : decode cc pc = .ok (.lookupswitch dflt ps, len)) (hp : (ps.toList.zip (ps.toList.drop 1)).all (fun (a, next) => a.1 < next.1) = true) (hdf : (pc : Int) + dflt = (d : Int)) (hln : ps.toList.length = cs.length) (hof : ((ps.toList.zip cs).all (fun q => decide (q.2.1.toInt = q.1.1 ∧ (pc : Int) + q.1.2 = (q.2.2 : Nat)))) = true) {pn : Nat} : tw_Sd p l e R s m args below meth c ce sl Q nL E D ρ pc pn (tw_sw cs d) := by
  intro next jump hn hj lv st σ h H locs ls hP hS hL
  rcases st with _ | ⟨x | q, st⟩
  · exact tw_no h
  · exact lv_lookup hC.1 hC.2.1 hd hp rfl (tw_look hdf ps.toList cs hln hof) (hj _ _ _ _ (tw_swr_tg cs h) H locs ls hP hS hL)
  · exact tw_no h
theorem tw_cell_o {g : Bool} {k ci : Nat} {fds : List (Option Nat)} (h : tw_lay k = .inl (ci, fds)) (f : Nat → Int32) : tw_cell E g k f = .inr (ci, tw_fvs E g f 0 fds) := by
  unfold tw_cell
  rw [h]
theorem tw_cell_i {g : Bool} {k n : Nat} (h : tw_lay k = .inr (0, n)) (f : Nat → Int32) : tw_cell E g k f = .inl (E.2.1 (tw_ix g k), n, .inl f) := by
  unfold tw_cell
  rw [h]
  rfl
theorem tw_cell_z {g : Bool} {k n : Nat} (h : tw_lay k = .inr (1, n)) (f : Nat → Int32) : tw_cell E g k f = .inl (E.2.1 (tw_ix g k), n, .inl f) := by
  unfold tw_cell
  rw [h]
  rfl
theorem tw_ty_i {k n : Nat} (h : tw_lay k = .inr (0, n)) : tw_tyOf k = .int := by
  unfold tw_tyOf
  rw [if_neg (fun z => by rw [z] at h; cases h), if_neg (fun z => by rw [z] at h; cases h), if_neg (fun z => by rw [z] at h; cases h)]
theorem tw_ty_z {k n : Nat} (h : tw_lay k = .inr (1, n)) (hk : k = 27 ∨ k = 34) : tw_tyOf k = .boolean := by
  rcases hk with rfl | rfl <;> rfl
theorem tw_lay_z {k n : Nat} (hk : k < 37) (h : tw_lay k = .inr (1, n)) : k = 27 ∨ k = 34 := by
  have key : ∀ k, k < 37 → (match tw_lay k with | .inr (1, _) => (k == 27 || k == 34) | _ => true) = true := by decide +kernel
  have h1 := key k hk
  rw [h] at h1
  simpa using h1
/-- a receiver's name -/
theorem tw_rc {g : Bool} {k k' : Nat} (h : (Nat.beq k' k && tw_okb g k) = true) : k' = k ∧ tw_okb g k = true := by
  rw [Bool.and_eq_true] at h
  exact ⟨Nat.eq_of_beq_eq_true h.1, h.2⟩
theorem ts_gi (hC : tw_Cx p s m args meth c cc nL ret own E D) {k j ci N idx : Nat} {C : String} {T : u_T} {fds : List (Option Nat)} (hlay : tw_lay k = .inl (ci, fds)) (hf : fds[j]? = some none) (hcl : tw_cl[ci]? = some (C, T, N)) (hjN : j < N) (hin : ∀ w ∈ u_ws C T N, w ∈ tw_Tb) (hlink : Cond.fieldLink own idx C (T j).2.1 (T j).2.2.1 ∈ tw_Tb) (hT : (T j).1 = C) (hd : decode cc pc = .ok (.getfield idx, 3)) : tw_Sd p l e R s m args below meth c ce sl Q nL E D ρ pc (pc + 3) (tw_gi k j) := by
  obtain ⟨hx, hb, hml, hr, hlk, hown, hts, hK, hE, hinj, hNW⟩ := hC
  intro next jump hn hj lv st σ h H locs ls hP hS hL
  rcases st with _ | ⟨x | q, st⟩
  · exact tw_no h
  · exact tw_no h
  · unfold tw_gi at h
    dsimp only at h
    cases hq : (Nat.beq q.2 k && tw_okb q.1 k) with
    | false => rw [hq] at h; exact tw_no h
    | true =>
      rw [hq] at h
      obtain ⟨g, k'⟩ := q
      have hq : (Nat.beq k' k && tw_okb g k) = true := hq
      obtain ⟨e0, ho⟩ := tw_rc hq
      subst e0
      have hat := tw_ws_at E σ ho
      rw [tw_cell_o hlay] at hat
      have hv := tw_fvs_at E g (σ g k') fds 0 j none hf
      rw [Nat.zero_add] at hv
      exact va_get hx hb hts hin hown hK hP (tw_ix g k') hat hcl j hjN (hts _ hlink) (fun z hz => by rw [hT] at hz; exact hz) hv hd (hn _ _ _ h H locs ls hP hS hL)
theorem ts_gr (hC : tw_Cx p s m args meth c cc nL ret own E D) {k j ci N idx : Nat} {C : String} {T : u_T} {fds : List (Option Nat)} (hlay : tw_lay k = .inl (ci, fds)) {c2 : Nat} (hf : fds[j]? = some (some c2)) (hcl : tw_cl[ci]? = some (C, T, N)) (hjN : j < N) (hin : ∀ w ∈ u_ws C T N, w ∈ tw_Tb) (hlink : Cond.fieldLink own idx C (T j).2.1 (T j).2.2.1 ∈ tw_Tb) (hT : (T j).1 = C) (hd : decode cc pc = .ok (.getfield idx, 3)) : tw_Sd p l e R s m args below meth c ce sl Q nL E D ρ pc (pc + 3) (tw_gr k c2) := by
  obtain ⟨hx, hb, hml, hr, hlk, hown, hts, hK, hE, hinj, hNW⟩ := hC
  intro next jump hn hj lv st σ h H locs ls hP hS hL
  rcases st with _ | ⟨x | q, st⟩
  · exact tw_no h
  · exact tw_no h
  · unfold tw_gr at h
    dsimp only at h
    cases hq : (Nat.beq q.2 k && tw_okb q.1 k) with
    | false => rw [hq] at h; exact tw_no h
    | true =>
      rw [hq] at h
      obtain ⟨g, k'⟩ := q
      have hq : (Nat.beq k' k && tw_okb g k) = true := hq
      obtain ⟨e0, ho⟩ := tw_rc hq
      subst e0
      have hat := tw_ws_at E σ ho
      rw [tw_cell_o hlay] at hat
      have hv := tw_fvs_at E g (σ g k') fds 0 j (some c2) hf
      exact va_get hx hb hts hin hown hK hP (tw_ix g k') hat hcl j hjN (hts _ hlink) (fun z hz => by rw [hT] at hz; exact hz) hv hd (hn _ _ _ h H locs ls hP hS hL)
theorem tw_01 {x : Int32} {a : Option tw_R} {ρ : tw_R} (h : (if x = 0 ∨ x = 1 then a else none) = some ρ) : x = 0 ∨ x = 1 := by
  by_cases hx : x = 0 ∨ x = 1
  · exact hx
  · rw [if_neg hx] at h; cases h
theorem tw_ib {i : Int32} {n : Nat} {a : Option tw_R} {ρ : tw_R} (h : (if tw_out i n then none else a) = some ρ) : vp_in i n ∧ a = some ρ := by
  by_cases hx : tw_out i n
  · rw [if_pos hx] at h; cases h
  · rw [if_neg hx] at h; exact ⟨hx, h⟩
theorem tw_nz {x : Int32} (h : x = 0 ∨ x = 1) : narrow .boolean (.int x) = .int x := by
  rcases h with rfl | rfl <;> rfl
theorem tw_fz {x : Int32} (h : x = 0 ∨ x = 1) : fits .boolean (.int x) = true := by
  rcases h with rfl | rfl <;> rfl
theorem tw_vz {x : Int32} (h : x = 0 ∨ x = 1) : vp_nar .boolean x = x := by
  rcases h with rfl | rfl <;> rfl
theorem ts_pi (hC : tw_Cx p s m args meth c cc nL ret own E D) {k j ci N idx : Nat} {C : String} {T : u_T} {fds : List (Option Nat)} (hlay : tw_lay k = .inl (ci, fds)) (hf : fds[j]? = some none) (hcl : tw_cl[ci]? = some (C, T, N)) (hjN : j < N) (hin : ∀ w ∈ u_ws C T N, w ∈ tw_Tb) (hlink : Cond.fieldLink own idx C (T j).2.1 (T j).2.2.1 ∈ tw_Tb) (hT : (T j).1 = C) {ty0 : Nat → FieldType} (hty : ∀ k, k < N → parseFieldDescriptor (T k).2.2.1 = some (ty0 k)) (hnm : ∀ a, a < N → ∀ b, b < N → a ≠ b → (T a).2.1 ≠ (T b).2.1) (hfin : (T j).2.2.2 = false) (hd2 : parseFieldDescriptor (T j).2.2.1 = some .int) (hd : decode cc pc = .ok (.putfield idx, 3)) : tw_Sd p l e R s m args below meth c ce sl Q nL E D ρ pc (pc + 3) (tw_pi k j) := by
  obtain ⟨hx, hb, hml, hr, hlk, hown, hts, hK, hE, hinj, hNW⟩ := hC
  intro next jump hn hj lv st σ h H locs ls hP hS hL
  rcases st with _ | ⟨y | q0, _ | ⟨x | q, st⟩⟩
  · exact tw_no h
  · exact tw_no h
  · exact tw_no h
  · unfold tw_pi at h
    dsimp only at h
    cases hq : (Nat.beq q.2 k && tw_okb q.1 k) with
    | false => rw [hq] at h; exact tw_no h
    | true =>
      rw [hq] at h
      obtain ⟨g, k'⟩ := q
      have hq : (Nat.beq k' k && tw_okb g k) = true := hq
      obtain ⟨e0, ho⟩ := tw_rc hq
      subst e0
      have hat := tw_ws_at E σ ho
      rw [tw_cell_o hlay] at hat
      have hup0 := tw_fvs_up E g (σ g k') y fds 0 j hf
      rw [Nat.zero_add] at hup0
      have hup : (tw_fvs E g (σ g k') 0 fds).set j (tw_c E (.inl y)) = tw_fvs E g (upd (σ g k') j y) 0 fds := hup0
      have hlen : j < (tw_fvs E g (σ g k') 0 fds).length := by rw [tw_fvs_len]; exact (List.getElem?_eq_some_iff.mp hf).1
      refine va_put hx hb hts hin ty0 hty hnm hown hK hP (tw_D hinj σ) hS (tw_ix g k') hat hcl j hjN (hts _ hlink) (fun z hz => by rw [hT] at hz; exact hz) hfin hd2 rfl rfl hlen hd (fun H1 locs1 hP1 hD1 hS1 => ?_)
      rw [hup, ← tw_cell_o hlay, tw_ws_set E σ _ ho, tw_up_pt] at hP1
      exact hn _ _ _ h H1 locs1 ls hP1 hS1 hL
  · exact tw_no h
  · exact tw_no h
  · exact tw_no h
theorem ts_pz (hC : tw_Cx p s m args meth c cc nL ret own E D) {k j ci N idx : Nat} {C : String} {T : u_T} {fds : List (Option Nat)} (hlay : tw_lay k = .inl (ci, fds)) (hf : fds[j]? = some none) (hcl : tw_cl[ci]? = some (C, T, N)) (hjN : j < N) (hin : ∀ w ∈ u_ws C T N, w ∈ tw_Tb) (hlink : Cond.fieldLink own idx C (T j).2.1 (T j).2.2.1 ∈ tw_Tb) (hT : (T j).1 = C) {ty0 : Nat → FieldType} (hty : ∀ k, k < N → parseFieldDescriptor (T k).2.2.1 = some (ty0 k)) (hnm : ∀ a, a < N → ∀ b, b < N → a ≠ b → (T a).2.1 ≠ (T b).2.1) (hfin : (T j).2.2.2 = false) (hd2 : parseFieldDescriptor (T j).2.2.1 = some .boolean) (hd : decode cc pc = .ok (.putfield idx, 3)) : tw_Sd p l e R s m args below meth c ce sl Q nL E D ρ pc (pc + 3) (tw_pz k j) := by
  obtain ⟨hx, hb, hml, hr, hlk, hown, hts, hK, hE, hinj, hNW⟩ := hC
  intro next jump hn hj lv st σ h H locs ls hP hS hL
  rcases st with _ | ⟨y | q0, _ | ⟨x | q, st⟩⟩
  · exact tw_no h
  · exact tw_no h
  · exact tw_no h
  · unfold tw_pz at h
    dsimp only at h
    cases hq : (Nat.beq q.2 k && tw_okb q.1 k) with
    | false => rw [hq] at h; exact tw_no h
    | true =>
      rw [hq] at h
      obtain ⟨g, k'⟩ := q
      have hq : (Nat.beq k' k && tw_okb g k) = true := hq
      obtain ⟨e0, ho⟩ := tw_rc hq
      subst e0
      have hat := tw_ws_at E σ ho
      rw [tw_cell_o hlay] at hat
      have hup0 := tw_fvs_up E g (σ g k') y fds 0 j hf
      rw [Nat.zero_add] at hup0
      have hup : (tw_fvs E g (σ g k') 0 fds).set j (tw_c E (.inl y)) = tw_fvs E g (upd (σ g k') j y) 0 fds := hup0
      have hlen : j < (tw_fvs E g (σ g k') 0 fds).length := by rw [tw_fvs_len]; exact (List.getElem?_eq_some_iff.mp hf).1
      refine va_put hx hb hts hin ty0 hty hnm hown hK hP (tw_D hinj σ) hS (tw_ix g k') hat hcl j hjN (hts _ hlink) (fun z hz => by rw [hT] at hz; exact hz) hfin hd2 (tw_nz (tw_01 h)) (tw_fz (tw_01 h)) hlen hd (fun H1 locs1 hP1 hD1 hS1 => ?_)
      rw [hup, ← tw_cell_o hlay, tw_ws_set E σ _ ho, tw_up_pt] at hP1
      exact hn _ _ _ (tw_pos h (tw_01 h)) H1 locs1 ls hP1 hS1 hL
  · exact tw_no h
  · exact tw_no h
  · exact tw_no h
theorem ts_iaload (hC : tw_Cx p s m args meth c cc nL ret own E D) (hd : decode cc pc = .ok (.iaload, 1)) : tw_Sd p l e R s m args below meth c ce sl Q nL E D ρ pc (pc + 1) tw_ia := by
  obtain ⟨hx, hb, hml, hr, hlk, hown, hts, hK, hE, hinj, hNW⟩ := hC
  intro next jump hn hj lv st σ h H locs ls hP hS hL
  rcases st with _ | ⟨i | q0, _ | ⟨x | q, st⟩⟩
  · exact tw_no h
  · exact tw_no h
  · exact tw_no h
  · unfold tw_ia at h
    dsimp only at h
    split at h
    · rename_i n hl ho
      have hat := tw_ws_at E σ ho
      rw [tw_cell_i hl] at hat
      have hty := tw_tys_at E ho
      rw [tw_ty_i hl] at hty
      exact va_iald hx hb hK hP (tw_ix q.1 q.2) (tw_ix q.1 q.2) hat hty (tw_ib h).1 hd (hn _ _ _ (tw_ib h).2 H locs ls hP hS hL)
    · exact tw_no h
  · exact tw_no h
  · exact tw_no h
  · exact tw_no h
theorem ts_baload (hC : tw_Cx p s m args meth c cc nL ret own E D) (hd : decode cc pc = .ok (.baload, 1)) : tw_Sd p l e R s m args below meth c ce sl Q nL E D ρ pc (pc + 1) tw_za := by
  obtain ⟨hx, hb, hml, hr, hlk, hown, hts, hK, hE, hinj, hNW⟩ := hC
  intro next jump hn hj lv st σ h H locs ls hP hS hL
  rcases st with _ | ⟨i | q0, _ | ⟨x | q, st⟩⟩
  · exact tw_no h
  · exact tw_no h
  · exact tw_no h
  · unfold tw_za at h
    dsimp only at h
    split at h
    · rename_i n hl ho
      have hat := tw_ws_at E σ ho
      rw [tw_cell_z hl] at hat
      have hty := tw_tys_at E ho
      rw [tw_ty_z hl (tw_lay_z (tw_okb_lt ho) hl)] at hty
      exact va_zald hx hb hK hP (tw_ix q.1 q.2) (tw_ix q.1 q.2) hat hty (tw_ib h).1 hd (hn _ _ _ (tw_ib h).2 H locs ls hP hS hL)
    · exact tw_no h
  · exact tw_no h
  · exact tw_no h
  · exact tw_no h
theorem ts_aaload (hC : tw_Cx p s m args meth c cc nL ret own E D) (hd : decode cc pc = .ok (.aaload, 1)) : tw_Sd p l e R s m args below meth c ce sl Q nL E D ρ pc (pc + 1) tw_ga := by
  obtain ⟨hx, hb, hml, hr, hlk, hown, hts, hK, hE, hinj, hNW⟩ := hC
  intro next jump hn hj lv st σ h H locs ls hP hS hL
  rcases st with _ | ⟨i | q0, _ | ⟨x | q, st⟩⟩
  · exact tw_no h
  · exact tw_no h
  · exact tw_no h
  · unfold tw_ga at h
    dsimp only at h
    cases hq : (Nat.beq q.2 21 && !q.1) with
    | false => rw [hq] at h; exact tw_no h
    | true =>
      rw [hq] at h
      rw [Bool.and_eq_true] at hq
      obtain ⟨g, k⟩ := q
      have hk : k = 21 := Nat.eq_of_beq_eq_true hq.1
      have hg : g = false := by simpa using hq.2
      subst hk
      subst hg
      have hat := tw_ws_at E σ (g := false) (c := 21) rfl
      have hty := tw_tys_at E (g := false) (c := 21) rfl
      exact va_aldq (C := "TwinHost$Guest") (f := fun j => some (tw_adr E (j == 1) 0)) hx hb hK hP (tw_ix false 21) (tw_ix false 21) hat hty (tw_ib h).1 hd (hn _ _ _ (tw_ib h).2 H locs ls hP hS hL)
  · exact tw_no h
  · exact tw_no h
  · exact tw_no h
theorem ts_iastore (hC : tw_Cx p s m args meth c cc nL ret own E D) {a b : Nat} (hd : decode cc pc = .ok (.iastore, 1)) : tw_Sd p l e R s m args below meth c ce sl Q nL E D ρ pc (pc + 1) (tw_ias a b) := by
  obtain ⟨hx, hb, hml, hr, hlk, hown, hts, hK, hE, hinj, hNW⟩ := hC
  intro next jump hn hj lv st σ h H locs ls hP hS hL
  rcases st with _ | ⟨x | q0, _ | ⟨i | q1, _ | ⟨z | q, st⟩⟩⟩ <;> first | exact tw_no h | skip
  unfold tw_ias at h
  dsimp only at h
  split at h
  · rename_i n hl ho0
    rw [Bool.and_eq_true] at ho0
    have ho := ho0.1
    have hat := tw_ws_at E σ ho
    rw [tw_cell_i hl] at hat
    have hty := tw_tys_at E ho
    rw [tw_ty_i hl] at hty
    refine va_iast hx hb hK hP (tw_D hinj σ) hS (tw_ix q.1 q.2) (tw_ix q.1 q.2) hat hty (tw_ib h).1 hd (fun H1 locs1 hP1 hD1 hS1 => ?_)
    rw [← tw_cell_i hl, tw_ws_set E σ _ ho, tw_up_pt] at hP1
    exact hn _ _ _ (tw_ib h).2 H1 locs1 ls hP1 hS1 hL
  · exact tw_no h
theorem ts_bastore (hC : tw_Cx p s m args meth c cc nL ret own E D) {a b : Nat} (hd : decode cc pc = .ok (.bastore, 1)) : tw_Sd p l e R s m args below meth c ce sl Q nL E D ρ pc (pc + 1) (tw_zas a b) := by
  obtain ⟨hx, hb, hml, hr, hlk, hown, hts, hK, hE, hinj, hNW⟩ := hC
  intro next jump hn hj lv st σ h H locs ls hP hS hL
  rcases st with _ | ⟨x | q0, _ | ⟨i | q1, _ | ⟨z | q, st⟩⟩⟩ <;> first | exact tw_no h | skip
  unfold tw_zas at h
  dsimp only at h
  split at h
  · rename_i n hl ho0
    rw [Bool.and_eq_true] at ho0
    have ho := ho0.1
    have hat := tw_ws_at E σ ho
    rw [tw_cell_z hl] at hat
    have hty := tw_tys_at E ho
    rw [tw_ty_z hl (tw_lay_z (tw_okb_lt ho) hl)] at hty
    refine va_zast hx hb hK hP (tw_D hinj σ) hS (tw_ix q.1 q.2) (tw_ix q.1 q.2) hat hty (tw_ib h).1 hd (fun H1 locs1 hP1 hD1 hS1 => ?_)
    rw [tw_vz (tw_01 (tw_ib h).2), ← tw_cell_z hl, tw_ws_set E σ _ ho, tw_up_pt] at hP1
    exact hn _ _ _ (tw_pos (tw_ib h).2 (tw_01 (tw_ib h).2)) H1 locs1 ls hP1 hS1 hL
  · exact tw_no h
theorem ts_getA (hC : tw_Cx p s m args meth c cc nL ret own E D) {i idx : Nat} {nm : String} (hi : i < 3) (hnm : (["FETCH", "LOAD", "STORE"] : List String).getD i "" = nm) (hlink : Cond.fieldLink own idx "TwinHost$Access" nm "LTwinHost$Access;" ∈ tw_Tb) (hd : decode cc pc = .ok (.getstatic idx, 3)) : tw_Sd p l e R s m args below meth c ce sl Q nL E D ρ pc (pc + 3) (tw_en (50 + i)) := by
  obtain ⟨hx, hb, hml, hr, hlk, hown, hts, hK, hE, hinj, hNW⟩ := hC
  intro next jump hn hj lv st σ h H locs ls hP hS hL
  have hz := (hE.1.1 i hi).1
  rw [hnm] at hz
  refine va_gets hx hb hz hS hown (hts _ hlink) (fun _ z => z) hd ?_
  have hk := hn _ _ _ h H locs ls hP hS hL
  have ha : tw_adr E false (50 + i) = E.2.2.1 i := by
    unfold tw_adr
    rw [if_neg (by omega), if_pos (by omega), show 50 + i - 50 = i by omega]
  have hk2 : W p l e R s m args below meth c H locs ce sl Q (F0 m (pc + 3) ls (.ref (tw_adr E false (50 + i)) :: st.map (tw_c E))) := hk
  rw [ha] at hk2
  exact hk2
theorem ts_getO (hC : tw_Cx p s m args meth c cc nL ret own E D) {i idx : Nat} {nm : String} (hi : i < 3) (hnm : (["RETIRED", "TRAPPED", "STALLED"] : List String).getD i "" = nm) (hlink : Cond.fieldLink own idx "TwinHost$Outcome" nm "LTwinHost$Outcome;" ∈ tw_Tb) (hd : decode cc pc = .ok (.getstatic idx, 3)) : tw_Sd p l e R s m args below meth c ce sl Q nL E D ρ pc (pc + 3) (tw_en (60 + i)) := by
  obtain ⟨hx, hb, hml, hr, hlk, hown, hts, hK, hE, hinj, hNW⟩ := hC
  intro next jump hn hj lv st σ h H locs ls hP hS hL
  have hz := (hE.2.1 i hi).1
  rw [hnm] at hz
  refine va_gets hx hb hz hS hown (hts _ hlink) (fun _ z => z) hd ?_
  have hk := hn _ _ _ h H locs ls hP hS hL
  have ha : tw_adr E false (60 + i) = E.2.2.2.1 i := by
    unfold tw_adr
    rw [if_neg (by omega), if_neg (by omega), if_pos (by omega), show 60 + i - 60 = i by omega]
  have hk2 : W p l e R s m args below meth c H locs ce sl Q (F0 m (pc + 3) ls (.ref (tw_adr E false (60 + i)) :: st.map (tw_c E))) := hk
  rw [ha] at hk2
  exact hk2
theorem tw_acc_all : ((List.range 3).all (fun i => ([8, 2, 4] : List Int32).getD i 0 == tw_acc 0 i && (([1, 5, 7] : List Int32).getD i 0 == tw_acc 1 i && ([12, 13, 15] : List Int32).getD i 0 == tw_acc 2 i))) = true := by decide +kernel
theorem ts_ge (hC : tw_Cx p s m args meth c cc nL ret own E D) {j idx : Nat} {q0 : String × String × String × List Int32} (hq0 : q0 ∈ ([("TwinHost$Access", "need", "I", [8, 2, 4]), ("TwinHost$Access", "outside", "I", [1, 5, 7]), ("TwinHost$Access", "pageFault", "I", [12, 13, 15])] : List (String × String × String × List Int32))) (hv : ∀ i, i < 3 → q0.2.2.2.getD i 0 = tw_acc j i) (hq1 : q0.1 = "TwinHost$Access") (hlink : Cond.fieldLink own idx "TwinHost$Access" q0.2.1 q0.2.2.1 ∈ tw_Tb) (hd : decode cc pc = .ok (.getfield idx, 3)) : tw_Sd p l e R s m args below meth c ce sl Q nL E D ρ pc (pc + 3) (tw_ge j) := by
  obtain ⟨hx, hb, hml, hr, hlk, hown, hts, hK, hE, hinj, hNW⟩ := hC
  intro next jump hn hj lv st σ h H locs ls hP hS hL
  rcases st with _ | ⟨x | q, st⟩
  · exact tw_no h
  · exact tw_no h
  · unfold tw_ge at h
    dsimp only at h
    cases hq : (Nat.ble 50 q.2 && Nat.blt q.2 53) with
    | false => rw [hq] at h; exact tw_no h
    | true =>
      rw [hq] at h
      rw [Bool.and_eq_true] at hq
      have h1 : 50 ≤ q.2 := Nat.le_of_ble_eq_true hq.1
      have h2 : q.2 < 53 := Nat.blt_eq.mp hq.2
      have ha : tw_adr E q.1 q.2 = E.2.2.1 (q.2 - 50) := by
        unfold tw_adr
        rw [if_neg (by omega), if_pos (by omega)]
      have hk := va_getE hx hb hE.1 (i := q.2 - 50) (by show q.2 - 50 < 3; omega) hS hown hq0 (hts _ hlink) (fun z hz => by rw [hq1] at hz; exact hz) hd (by rw [hv _ (by omega)]; exact hn _ _ _ h H locs ls hP hS hL)
      rw [← ha] at hk
      exact hk
end TWS2
/-- a method's start and end in these words -/
def tw_Pi (E : tw_E) (D : va_G) (σ : tw_S) (U : State) : Prop := va_P D tw_cl (tw_ws E σ) U.heap ∧ va_K D tw_cl (tw_tys E) U ∧ tw_EN E U U.heap ∧ tw_NW U
def tw_Pc (E : tw_E) (D : va_G) (vs : List tw_V) (σ : tw_S) : Array Value → State → Prop := va_Pc (vs.map (tw_c E)) (tw_Pi E D σ)
def tw_Qc (E : tw_E) (D : va_G) (ρ : tw_R) : Array Value → State → Outcome → State → Prop := fun _ st oc t => (oc = .returned (ρ.1.map (tw_c E)) ∧ va_P D tw_cl (tw_ws E ρ.2) t.heap) ∧ va_F (tw_A E) st t
theorem tw_blind (E : tw_E) (D : va_G) (vs : List tw_V) (σ : tw_S) : FrameBlind (tw_Pc E D vs σ) := fun a U g mk q => by
  obtain ⟨q0, qP, qK, qE, qN⟩ := q
  exact ⟨q0, qP, va_K.moved (u := U) (U := U.calling g mk a) (Vm.Alike.refl U.vm) qK, tw_EN.moved (u := U) (U := U.calling g mk a) (Vm.Alike.refl U.vm) qE, fun z hz => va_Nw.same rfl (rfl : U.vm = (U.calling g mk a).vm) (qN z hz)⟩
def tw_rmd (d : Nat) : Room := { frames := d, cells := 0, slots := 0, locals := 40 * d }
/-- method y does what f says, with d frames below it at most -/
def tw_Con (y : MethodName) (cc : ByteArray) (maxL : Nat) (ret : Option FieldType) (d : Nat) (f : tw_Fn) : Prop := ∀ (l : Launch) (E : tw_E) (D : va_G), tw_inj E → ∀ (vs : List tw_V) (σ : tw_S) (ρ : tw_R), f vs σ = some ρ → Met l y (.code y cc maxL ret :: tw_Tb) (tw_rmd d) (tw_Pc E D vs σ) (tw_Qc E D ρ) 0 0 (tw_A E)
section TWS3
variable {p : Program} {l : Launch} {e : Env} {R : Room} {s : State} {m : MethodId} {args : Array Value} {below : List Frame} {meth : Method} {c : Code} {ce sl : Nat} {Q : State → Prop} {cc : ByteArray} {nL : Nat} {ret : Option FieldType} {own : String} {E : tw_E} {D : va_G} {ρ : tw_R} {pc : Nat}
theorem ts_vret (hC : tw_Cx p s m args meth c cc nL ret own E D) (hr0 : ret = none) (hd : decode cc pc = .ok (.return_, 1)) {pn : Nat} : tw_Sd p l e R s m args below meth c ce sl (MQ below (tw_Qc E D ρ) args s ce sl (tw_A E)) nL E D ρ pc pn tw_r0 := by
  obtain ⟨hx, hb, hml, hr, hlk, hown, hts, hK, hE, hinj, hNW⟩ := hC
  intro next jump hn hj lv st σ h H locs ls hP hS hL
  rcases st with _ | ⟨x, st⟩ <;> first | exact tw_no h | skip
  have h1 : some ((none : Option tw_V), σ) = some ρ := h
  obtain rfl := Option.some.inj h1
  exact W.vret hx hb (hr.trans hr0) (fun t ht hW => ⟨⟨rfl, by rw [ht]; exact hP⟩, hS.F ht⟩) hS.2.2 hd hlk
theorem ts_iret (hC : tw_Cx p s m args meth c cc nL ret own E D) (hr0 : ret = some .int) (hd : decode cc pc = .ok (.ireturn, 1)) {pn : Nat} : tw_Sd p l e R s m args below meth c ce sl (MQ below (tw_Qc E D ρ) args s ce sl (tw_A E)) nL E D ρ pc pn tw_ri := by
  obtain ⟨hx, hb, hml, hr, hlk, hown, hts, hK, hE, hinj, hNW⟩ := hC
  intro next jump hn hj lv st σ h H locs ls hP hS hL
  rcases st with _ | ⟨x | q, _ | ⟨y, st⟩⟩ <;> first | exact tw_no h | skip
  have h1 : some ((some (.inl x) : Option tw_V), σ) = some ρ := h
  obtain rfl := Option.some.inj h1
  exact W.iret hx hb (hr.trans hr0) (fun t ht hW => ⟨⟨rfl, by rw [ht]; exact hP⟩, hS.F ht⟩) hS.2.2 hd hlk
theorem ts_zret (hC : tw_Cx p s m args meth c cc nL ret own E D) (hr0 : ret = some .boolean) (hd : decode cc pc = .ok (.ireturn, 1)) {pn : Nat} : tw_Sd p l e R s m args below meth c ce sl (MQ below (tw_Qc E D ρ) args s ce sl (tw_A E)) nL E D ρ pc pn tw_rz := by
  obtain ⟨hx, hb, hml, hr, hlk, hown, hts, hK, hE, hinj, hNW⟩ := hC
  intro next jump hn hj lv st σ h H locs ls hP hS hL
  rcases st with _ | ⟨x | q, _ | ⟨y, st⟩⟩ <;> first | exact tw_no h | skip
  have h0 : (if x = 0 ∨ x = 1 then some (some (.inl x), σ) else none) = some ρ := h
  have hz := tw_01 h0
  have h1 := tw_pos h0 hz
  obtain rfl := Option.some.inj h1
  exact W.zret (ty := .boolean) hx hb (hr.trans hr0) (tw_nz hz) (fun t ht hW => ⟨⟨rfl, by rw [ht]; exact hP⟩, hS.F ht⟩) hS.2.2 hd hlk
theorem ts_aret (hC : tw_Cx p s m args meth c cc nL ret own E D) {n0 : String} (hr0 : ret = some (.object n0)) (hd : decode cc pc = .ok (.areturn, 1)) {pn : Nat} : tw_Sd p l e R s m args below meth c ce sl (MQ below (tw_Qc E D ρ) args s ce sl (tw_A E)) nL E D ρ pc pn tw_ra := by
  obtain ⟨hx, hb, hml, hr, hlk, hown, hts, hK, hE, hinj, hNW⟩ := hC
  intro next jump hn hj lv st σ h H locs ls hP hS hL
  rcases st with _ | ⟨x | q, _ | ⟨y, st⟩⟩ <;> first | exact tw_no h | skip
  have h1 : some ((some (.inr q) : Option tw_V), σ) = some ρ := h
  obtain rfl := Option.some.inj h1
  exact W.aret hx hb (hr.trans hr0) (Or.inl ⟨n0, rfl⟩) (Or.inr ⟨_, rfl⟩) (fun t ht hW => ⟨⟨rfl, by rw [ht]; exact hP⟩, hS.F ht⟩) hS.2.2 hd hlk
/-- behind a call -/
theorem tw_after {H : Heap} {locs : List Loc} {ls : Array Slot} {st0 rest : List Value} {a : Array Value} {ρ1 : tw_R} (hr : va_Run p l e R s m args below meth c H locs ce sl 0 0 (F0 m pc ls st0) rest (tw_Qc E D ρ1 a) (tw_A E)) (hS : va_S (tw_A E) s.heap H locs)
    (kk : ∀ (H1 : Heap) (locs1 : List Loc), va_P D tw_cl (tw_ws E ρ1.2) H1 → va_S (tw_A E) s.heap H1 locs1 → W p l e R s m args below meth c H1 locs1 ce sl Q (F0 m (pc + 3) ls ((ρ1.1.map (tw_c E)).toList ++ rest))) : W p l e R s m args below meth c H locs ce sl Q (F0 m pc ls st0) := by
  intro T hT X
  obtain ⟨v, st₀, t, T', L, h0, X', hL, e1, e2, ⟨⟨hv, hb⟩, hz, hk⟩, st⟩ := hr T hT X
  cases hv
  rw [h0] at hz hk
  obtain ⟨t2, a1, b1⟩ := kk T'.heap (locs ++ L) (by rw [e1]; exact hb)
    ⟨Nat.le_trans hS.1 (by rw [e1]; exact hz), fun q h1 h2 => by rw [e1, hk q (Nat.lt_of_lt_of_le h1 hS.1) h2]; exact hS.2.1 q h1 h2, fun q hq => by
      rcases List.mem_append.mp hq with h | h
      · exact hS.2.2 q h
      · exact hL q h⟩ T' rfl X'
  exact ⟨t2, st t2 a1, b1⟩
theorem tw_good : ∀ {y : MethodName} {cc2 : ByteArray} {maxL : Nat} {ret2 : Option FieldType}, Cond.code y cc2 maxL ret2 ∈ tw_Tb → GoodIn tw_Tb (.code y cc2 maxL ret2 :: tw_Tb) := fun hc w hw => by
  rcases List.mem_cons.mp hw with h | h
  · subst h; exact ⟨hc, Or.inl rfl⟩
  · exact ⟨h, tw_Tb_good w h⟩
theorem tw_pre {H : Heap} {locs : List Loc} {σ : tw_S} {vs : List tw_V} (hC : tw_Cx p s m args meth c cc nL ret own E D) (hP : va_P D tw_cl (tw_ws E σ) H) (hS : va_S (tw_A E) s.heap H locs) : PreS s H (tw_Pc E D vs σ) (vs.map (tw_c E)) :=
  ⟨tw_blind E D vs σ, fun U hU hW => ⟨rfl, by rw [hU]; exact hP, va_K.moved hW.alike hC.2.2.2.2.2.2.2.1, by rw [hU]; exact tw_EN.moved hW.alike (hC.2.2.2.2.2.2.2.2.1.kept hS.2.1), fun z hz => va_Nw.warmM hW (hC.2.2.2.2.2.2.2.2.2.2 z hz)⟩⟩
theorem tw_sum (E : tw_E) (st : List tw_V) : ((st.map (tw_c E)).map fun v => v.category).sum = st.length := by
  induction st with
  | nil => rfl
  | cons a r ih => rw [List.map_cons, List.map_cons, List.sum_cons, ih, tw_cat, List.length_cons]; omega
theorem tw_omap (E : tw_E) (r : Option tw_V) (rest : List tw_V) : (r.map (tw_c E)).toList ++ rest.map (tw_c E) = (r.toList ++ rest).map (tw_c E) := by
  cases r <;> simp
theorem ts_calls (hC : tw_Cx p s m args meth c cc nL ret own E D) {y : MethodName} {cc2 : ByteArray} {maxL n d idx : Nat} {ret2 : Option FieldType} {f : tw_Fn} (hM : tw_Con y cc2 maxL ret2 d f) (hcode : Cond.code y cc2 maxL ret2 ∈ tw_Tb) (hini : Cond.initialized y.cls ∈ tw_Tb) (hdd : y.cls ≠ "java/lang/invoke/MethodHandle" ∧ y.cls ≠ "java/lang/invoke/VarHandle" ∧ (parseMethodDescriptor y.desc).map (fun d => d.parameters.length) = some n) (hR : (tw_rmd d).frames + 1 ≤ R.frames ∧ 8 + (maxL + 11) + (tw_rmd d).locals ≤ R.locals) (hrm : ce ≤ R.cells ∧ sl ≤ R.slots) (hlk : Cond.methodLink own idx y ∈ tw_Tb) (hst : Cond.static y ∈ tw_Tb) (hd : decode cc pc = .ok (.invokestatic idx, 3)) : tw_Sd p l e R s m args below meth c ce sl Q nL E D ρ pc (pc + 3) (tw_cs n f) := by
  intro next jump hn hj lv st σ h H locs ls hP hS hL
  unfold tw_cs at h
  cases hq : (Nat.ble n st.length && Nat.ble (st.drop n).length 8) with
  | false => rw [hq] at h; exact tw_no h
  | true =>
    rw [hq] at h
    rw [Bool.and_eq_true] at hq
    have hlen : n ≤ st.length := Nat.le_of_ble_eq_true hq.1
    have hl8 : (st.drop n).length ≤ 8 := Nat.le_of_ble_eq_true hq.2
    have hstk : st.map (tw_c E) = (((st.take n).reverse).map (tw_c E)).reverse ++ (st.drop n).map (tw_c E) := by
      rw [← List.map_reverse, List.reverse_reverse, ← List.map_append, List.take_append_drop]
    cases hf : f (st.take n).reverse σ with
    | none => rw [hf] at h; exact tw_no h
    | some ρ1 =>
      rw [hf] at h
      refine tw_after (ρ1 := ρ1) (rest := (st.drop n).map (tw_c E)) (va_runS (As := ((st.take n).reverse).map (tw_c E)) ⟨hC.1, hC.2.1, hC.2.2.1, hC.2.2.2.2.2.1, hC.2.2.2.2.2.2.1⟩ (hM l E D hC.2.2.2.2.2.2.2.2.2.1 _ σ _ hf) ⟨callB_of n hC.2.2.2.2.2.2.1 (tw_good hcode) rfl rfl rfl (hC.2.2.2.2.2.2.1 _ hini) (hC.2.2.2.2.2.2.1 _ hlk) hdd hR, hC.2.2.2.2.2.2.1 _ hst⟩ (tw_pre hC hP hS) rfl (by simp [hlen]) hL.1 hstk (lv_room (by rw [tw_sum]; exact hl8)) hd hrm) hS (fun H1 locs1 hP1 hS1 => ?_)
      rw [tw_omap]
      exact hn _ _ _ h H1 locs1 ls hP1 hS1 hL
theorem ts_callsN (hC : tw_Cx p s m args meth c cc nL ret own E D) {y : MethodName} {cc2 : ByteArray} {maxL n d idx : Nat} {ret2 : Option FieldType} {f : tw_Fn} (hM : tw_Con y cc2 maxL ret2 d f) (hcode : Cond.code y cc2 maxL ret2 ∈ tw_Tb) (hini : Cond.initialized y.cls ∈ tw_Tb) (hdd : y.cls ≠ "java/lang/invoke/MethodHandle" ∧ y.cls ≠ "java/lang/invoke/VarHandle" ∧ (parseMethodDescriptor y.desc).map (fun d => d.parameters.length) = some n) (hR : (tw_rmd d).frames + 1 ≤ R.frames ∧ 8 + (maxL + 11) + (tw_rmd d).locals ≤ R.locals) (hrm : ce ≤ R.cells ∧ sl ≤ R.slots) {host : String} (hlk : (own, idx, y, host) ∈ tw_Ne) (hst : Cond.static y ∈ tw_Tb) (hd : decode cc pc = .ok (.invokestatic idx, 3)) : tw_Sd p l e R s m args below meth c ce sl Q nL E D ρ pc (pc + 3) (tw_cs n f) := by
  intro next jump hn hj lv st σ h H locs ls hP hS hL
  unfold tw_cs at h
  cases hq : (Nat.ble n st.length && Nat.ble (st.drop n).length 8) with
  | false => rw [hq] at h; exact tw_no h
  | true =>
    rw [hq] at h
    rw [Bool.and_eq_true] at hq
    have hlen : n ≤ st.length := Nat.le_of_ble_eq_true hq.1
    have hl8 : (st.drop n).length ≤ 8 := Nat.le_of_ble_eq_true hq.2
    have hstk : st.map (tw_c E) = (((st.take n).reverse).map (tw_c E)).reverse ++ (st.drop n).map (tw_c E) := by
      rw [← List.map_reverse, List.reverse_reverse, ← List.map_append, List.take_append_drop]
    cases hf : f (st.take n).reverse σ with
    | none => rw [hf] at h; exact tw_no h
    | some ρ1 =>
      rw [hf] at h
      refine tw_after (ρ1 := ρ1) (rest := (st.drop n).map (tw_c E)) (va_runSN (host := host) (As := ((st.take n).reverse).map (tw_c E)) ⟨hC.1, hC.2.1, hC.2.2.1, hC.2.2.2.2.2.1, hC.2.2.2.2.2.2.1⟩ (hM l E D hC.2.2.2.2.2.2.2.2.2.1 _ σ _ hf) ⟨va_cnB n hC.2.2.2.2.2.2.1 (tw_good hcode) rfl rfl rfl (hC.2.2.2.2.2.2.2.2.2.2 _ hlk) (hC.2.2.2.2.2.2.1 _ hini) hdd hR, hC.2.2.2.2.2.2.1 _ hst, trivial⟩ (tw_pre hC hP hS) rfl (by simp [hlen]) hL.1 hstk (lv_room (by rw [tw_sum]; exact hl8)) hd hrm) hS (fun H1 locs1 hP1 hS1 => ?_)
      rw [tw_omap]
      exact hn _ _ _ h H1 locs1 ls hP1 hS1 hL
theorem ts_callv (hC : tw_Cx p s m args meth c cc nL ret own E D) {y : MethodName} {cc2 : ByteArray} {maxL n d idx : Nat} {ret2 : Option FieldType} {f : tw_Fn} (hM : tw_Con y cc2 maxL ret2 d f) (hcode : Cond.code y cc2 maxL ret2 ∈ tw_Tb) (hini : Cond.initialized y.cls ∈ tw_Tb) (hdd : y.cls ≠ "java/lang/invoke/MethodHandle" ∧ y.cls ≠ "java/lang/invoke/VarHandle" ∧ (parseMethodDescriptor y.desc).map (fun d => d.parameters.length) = some n) (hR : (tw_rmd d).frames + 1 ≤ R.frames ∧ 8 + (maxL + 11) + (tw_rmd d).locals ≤ R.locals) (hrm : ce ≤ R.cells ∧ sl ≤ R.slots) (hlk : Cond.methodLink own idx y ∈ tw_Tb) {k ci : Nat} {C : String} {T : u_T} {N : Nat} {fds : List (Option Nat)} (hlay : tw_lay k = .inl (ci, fds)) (hcl : tw_cl[ci]? = some (C, T, N)) (hinst : Cond.instanceMethod y ∈ tw_Tb) (hsel : Cond.selects C y y ∈ tw_Tb) (hd : decode cc pc = .ok (.invokevirtual idx, 3)) : tw_Sd p l e R s m args below meth c ce sl Q nL E D ρ pc (pc + 3) (tw_cv n k f) := by
  intro next jump hn hj lv st σ h H locs ls hP hS hL
  unfold tw_cv at h
  cases hdr : st.drop n with
  | nil => rw [hdr] at h; exact tw_no h
  | cons v rest =>
    rw [hdr] at h
    rcases v with x | q
    · exact tw_no h
    · dsimp only at h
      cases hq : (Nat.ble rest.length 8 && (Nat.beq q.2 k && tw_okb q.1 k)) with
      | false => rw [hq] at h; exact tw_no h
      | true =>
        rw [hq] at h
        rw [Bool.and_eq_true] at hq
        obtain ⟨g, k'⟩ := q
        have hq2 : (Nat.beq k' k && tw_okb g k) = true := hq.2
        obtain ⟨e0, ho⟩ := tw_rc hq2
        subst e0
        have hl8 : rest.length ≤ 8 := Nat.le_of_ble_eq_true hq.1
        have hlen : n ≤ st.length := by
          by_cases hz : n ≤ st.length
          · exact hz
          · rw [List.drop_eq_nil_of_le (by omega)] at hdr; cases hdr
        have hstk : st.map (tw_c E) = (((st.take n).reverse).map (tw_c E)).reverse ++ .ref (tw_adr E g k') :: rest.map (tw_c E) := by
          rw [← List.map_reverse, List.reverse_reverse]
          have h9 : st = st.take n ++ .inr (g, k') :: rest := by rw [← hdr, List.take_append_drop]
          conv => lhs; rw [h9]
          rw [List.map_append]
          rfl
        have hat := tw_ws_at E σ ho
        rw [tw_cell_o hlay] at hat
        have hpre := tw_pre (vs := .inr (g, k') :: (st.take n).reverse) hC hP hS
        cases hf : f (.inr (g, k') :: (st.take n).reverse) σ with
        | none => rw [hf] at h; exact tw_no h
        | some ρ1 =>
        rw [hf] at h
        refine tw_after (ρ1 := ρ1) (rest := rest.map (tw_c E)) (va_runV (C := C) (b := tw_adr E g k') (As := ((st.take n).reverse).map (tw_c E)) ⟨hC.1, hC.2.1, hC.2.2.1, hC.2.2.2.2.2.1, hC.2.2.2.2.2.2.1⟩ (hM l E D hC.2.2.2.2.2.2.2.2.2.1 _ σ _ hf) ⟨callB_of n hC.2.2.2.2.2.2.1 (tw_good hcode) rfl rfl rfl (hC.2.2.2.2.2.2.1 _ hini) (hC.2.2.2.2.2.2.1 _ hlk) hdd hR, hC.2.2.2.2.2.2.1 _ hinst, hC.2.2.2.2.2.2.1 _ hsel⟩ ⟨hpre.1, va_recv hC.2.2.2.2.2.2.2.1 hP hcl hat, hpre.2⟩ rfl (by simp [hlen]) hL.1 hstk (lv_room (by rw [tw_sum]; exact hl8)) hd hrm) hS (fun H1 locs1 hP1 hS1 => ?_)
        rw [tw_omap]
        exact hn _ _ _ h H1 locs1 ls hP1 hS1 hL
theorem ts_callvN (hC : tw_Cx p s m args meth c cc nL ret own E D) {y : MethodName} {cc2 : ByteArray} {maxL n d idx : Nat} {ret2 : Option FieldType} {f : tw_Fn} (hM : tw_Con y cc2 maxL ret2 d f) (hcode : Cond.code y cc2 maxL ret2 ∈ tw_Tb) (hini : Cond.initialized y.cls ∈ tw_Tb) (hdd : y.cls ≠ "java/lang/invoke/MethodHandle" ∧ y.cls ≠ "java/lang/invoke/VarHandle" ∧ (parseMethodDescriptor y.desc).map (fun d => d.parameters.length) = some n) (hR : (tw_rmd d).frames + 1 ≤ R.frames ∧ 8 + (maxL + 11) + (tw_rmd d).locals ≤ R.locals) (hrm : ce ≤ R.cells ∧ sl ≤ R.slots) {host : String} (hlk : (own, idx, y, host) ∈ tw_Ne) {k ci : Nat} {C : String} {T : u_T} {N : Nat} {fds : List (Option Nat)} (hlay : tw_lay k = .inl (ci, fds)) (hcl : tw_cl[ci]? = some (C, T, N)) (hinst : Cond.instanceMethod y ∈ tw_Tb) (hsel : Cond.selects C y y ∈ tw_Tb) (hd : decode cc pc = .ok (.invokevirtual idx, 3)) : tw_Sd p l e R s m args below meth c ce sl Q nL E D ρ pc (pc + 3) (tw_cv n k f) := by
  intro next jump hn hj lv st σ h H locs ls hP hS hL
  unfold tw_cv at h
  cases hdr : st.drop n with
  | nil => rw [hdr] at h; exact tw_no h
  | cons v rest =>
    rw [hdr] at h
    rcases v with x | q
    · exact tw_no h
    · dsimp only at h
      cases hq : (Nat.ble rest.length 8 && (Nat.beq q.2 k && tw_okb q.1 k)) with
      | false => rw [hq] at h; exact tw_no h
      | true =>
        rw [hq] at h
        rw [Bool.and_eq_true] at hq
        obtain ⟨g, k'⟩ := q
        have hq2 : (Nat.beq k' k && tw_okb g k) = true := hq.2
        obtain ⟨e0, ho⟩ := tw_rc hq2
        subst e0
        have hl8 : rest.length ≤ 8 := Nat.le_of_ble_eq_true hq.1
        have hlen : n ≤ st.length := by
          by_cases hz : n ≤ st.length
          · exact hz
          · rw [List.drop_eq_nil_of_le (by omega)] at hdr; cases hdr
        have hstk : st.map (tw_c E) = (((st.take n).reverse).map (tw_c E)).reverse ++ .ref (tw_adr E g k') :: rest.map (tw_c E) := by
          rw [← List.map_reverse, List.reverse_reverse]
          have h9 : st = st.take n ++ .inr (g, k') :: rest := by rw [← hdr, List.take_append_drop]
          conv => lhs; rw [h9]
          rw [List.map_append]
          rfl
        have hat := tw_ws_at E σ ho
        rw [tw_cell_o hlay] at hat
        have hpre := tw_pre (vs := .inr (g, k') :: (st.take n).reverse) hC hP hS
        cases hf : f (.inr (g, k') :: (st.take n).reverse) σ with
        | none => rw [hf] at h; exact tw_no h
        | some ρ1 =>
        rw [hf] at h
        refine tw_after (ρ1 := ρ1) (rest := rest.map (tw_c E)) (va_runVN (host := host) (C := C) (b := tw_adr E g k') (As := ((st.take n).reverse).map (tw_c E)) ⟨hC.1, hC.2.1, hC.2.2.1, hC.2.2.2.2.2.1, hC.2.2.2.2.2.2.1⟩ (hM l E D hC.2.2.2.2.2.2.2.2.2.1 _ σ _ hf) ⟨va_cnB n hC.2.2.2.2.2.2.1 (tw_good hcode) rfl rfl rfl (hC.2.2.2.2.2.2.2.2.2.2 _ hlk) (hC.2.2.2.2.2.2.1 _ hini) hdd hR, hC.2.2.2.2.2.2.1 _ hinst, hC.2.2.2.2.2.2.1 _ hsel⟩ ⟨hpre.1, va_recv hC.2.2.2.2.2.2.2.1 hP hcl hat, hpre.2⟩ rfl (by simp [hlen]) hL.1 hstk (lv_room (by rw [tw_sum]; exact hl8)) hd hrm) hS (fun H1 locs1 hP1 hS1 => ?_)
        rw [tw_omap]
        exact hn _ _ _ h H1 locs1 ls hP1 hS1 hL
end TWS3
theorem tw_lvnone (E : tw_E) : ∀ (n k : Nat), tw_lvf E k (List.replicate n none) = []
  | 0, _ => rfl
  | n + 1, k => tw_lvnone E n (k + 1)
theorem tw_lvargs (E : tw_E) (n : Nat) : ∀ (vs : List tw_V) (k : Nat), lv_args k (vs.map (tw_c E)) = tw_lvf E k (vs.map some ++ List.replicate n none)
  | [], k => (tw_lvnone E n k).symm
  | v :: r, k => by
    have h := tw_cat E v
    show (k, tw_c E v) :: lv_args (if (tw_c E v).category = 2 then k + 2 else k + 1) (r.map (tw_c E)) = (k, tw_c E v) :: tw_lvf E (k + 1) (r.map some ++ List.replicate n none)
    rw [h, if_neg (by decide), tw_lvargs E n r (k + 1)]
theorem tw_lgsl (E : tw_E) : ∀ (vs : List tw_V), (lg_sl (vs.map (tw_c E))).length = vs.length
  | [] => rfl
  | v :: r => by
    have ih := tw_lgsl E r
    have e : lg_sl ((v :: r).map (tw_c E)) = Slot.val (tw_c E v) :: lg_sl (r.map (tw_c E)) := by
      rcases v with x | q <;> rfl
    rw [e, List.length_cons, ih, List.length_cons]
/-- a method whose walk is good from its entry keeps its contract -/
theorem tw_met {y : MethodName} {cc : ByteArray} {maxL : Nat} {ret : Option FieldType} {d : Nat} {f : tw_Fn} (hy : plainName y.cls = true) (hlen : ∀ vs σ ρ, f vs σ = some ρ → vs.length ≤ maxL)
    (hw : ∀ (p : Program) (l : Launch) (e : Env) (s : State) (m : MethodId) (args : Array Value) (below : List Frame) (meth : Method) (c : Code) (E : tw_E) (D : va_G) (vs : List tw_V) (σ : tw_S) (ρ : tw_R), tw_Cx p s m args meth c cc maxL ret y.cls E D → f vs σ = some ρ → tw_G p l e (tw_rmd d) s m args below meth c 0 0 (MQ below (tw_Qc E D ρ) args s 0 0 (tw_A E)) maxL E D 0 (tw_args maxL vs) [] σ) : tw_Con y cc maxL ret d f := by
  intro l E D hinj vs σ ρ hsp
  refine Met.ofW (cc := cc) (maxL := maxL) (ret := ret) hy rfl ?_
  intro p e s m args below meth c s₁ B hml hv
  obtain ⟨rfl, hP, hK, hE, hNW⟩ := hv
  have hts := atoms_spec (ws := .code y cc maxL ret :: tw_Tb) B.pre
  have hC : tw_Cx p s m ((vs.map (tw_c E)).toArray) meth c cc maxL ret y.cls E D := ⟨B.exec, B.bytes, hml, B.returns, B.notSynchronized, findClass_of_methodNamed B.named, fun w h => hts w (List.mem_cons_of_mem _ h), hK, hE, hinj, hNW⟩
  have hl := lv_entry (vs.map (tw_c E)) (n := maxL) (by rw [tw_lgsl]; exact hlen vs σ ρ hsp)
  rw [lg_entry_eq]
  rw [tw_lvargs E (maxL - vs.length)] at hl
  exact hw p l e s m _ below meth c E D vs σ ρ hC hsp s.heap [] _ hP va_S.rf hl
end
section
-- TwinHost$Controls.exists(I)Z: 9 instructions, depth 0, calls 
theorem d_Co_exists_0 : decode b_Co_exists 0 = .ok (.iload_n 0, 1) := by decide +kernel
theorem d_Co_exists_1 : decode b_Co_exists 1 = .ok (.ifCond .lt 13, 3) := by decide +kernel
theorem d_Co_exists_4 : decode b_Co_exists 4 = .ok (.iload_n 0, 1) := by decide +kernel
theorem d_Co_exists_5 : decode b_Co_exists 5 = .ok (.bipush 12, 2) := by decide +kernel
theorem d_Co_exists_7 : decode b_Co_exists 7 = .ok (.if_icmp .ge 7, 3) := by decide +kernel
theorem d_Co_exists_10 : decode b_Co_exists 10 = .ok (.iconst 1, 1) := by decide +kernel
theorem d_Co_exists_11 : decode b_Co_exists 11 = .ok (.goto 4, 3) := by decide +kernel
theorem d_Co_exists_14 : decode b_Co_exists 14 = .ok (.iconst 0, 1) := by decide +kernel
theorem d_Co_exists_15 : decode b_Co_exists 15 = .ok (.ireturn, 1) := by decide +kernel
def pr_Co_exists : List (Nat × tw_Op) := [(0, tw_il 0), (1, tw_iflt 14), (4, tw_il 0), (5, tw_ic (12)), (7, tw_cge 14), (10, tw_ic 1), (11, tw_jmp 15), (14, tw_ic 0), (15, tw_rz)]
set_option maxRecDepth 100000 in
set_option maxHeartbeats 4000000 in
theorem ok_Co_exists {p : Program} {l : Launch} {e : Env} {s : State} {m : MethodId} {args : Array Value} {below : List Frame} {meth : Method} {c : Code} {E : tw_E} {D : va_G} {ρ : tw_R} (hC : tw_Cx p s m args meth c b_Co_exists 1 (some .boolean) "TwinHost$Controls" E D) : tw_Ok p l e (tw_rmd 0) s m args below meth c 0 0 (MQ below (tw_Qc E D ρ) args s 0 0 (tw_A E)) 1 E D ρ pr_Co_exists :=
  ⟨ts_iload_n hC d_Co_exists_0 rfl,
   ts_iflt hC d_Co_exists_1 (by decide),
   ts_iload_n hC d_Co_exists_4 rfl,
   ts_bipush hC d_Co_exists_5 (by decide),
   ts_cge hC d_Co_exists_7 (by decide),
   ts_iconst hC d_Co_exists_10 (by decide),
   ts_goto hC d_Co_exists_11 (by decide),
   ts_iconst hC d_Co_exists_14 (by decide),
   ts_zret hC rfl d_Co_exists_15,
   trivial⟩
def fn_Co_exists : tw_Fn := tw_fn 1 1 11 pr_Co_exists
theorem con_Co_exists : tw_Con y_Co_exists b_Co_exists 1 (some .boolean) 0 fn_Co_exists := tw_met (by decide +kernel) (tw_fn_len (n := 1) (by decide)) (fun p l e s m args below meth c E D vs σ ρ hC h => tw_sound (ok_Co_exists hC) 11 pr_Co_exists (ok_Co_exists hC) _ _ _ (tw_fn_get h))

-- TwinHost$Controls.isOn(I)Z: 11 instructions, depth 0, calls 
theorem d_Co_isOn_0 : decode b_Co_isOn 0 = .ok (.aload_n 0, 1) := by decide +kernel
theorem d_Co_isOn_1 : decode b_Co_isOn 1 = .ok (.getfield 9, 3) := by decide +kernel
theorem d_Co_isOn_4 : decode b_Co_isOn 4 = .ok (.iconst 0, 1) := by decide +kernel
theorem d_Co_isOn_5 : decode b_Co_isOn 5 = .ok (.iaload, 1) := by decide +kernel
theorem d_Co_isOn_6 : decode b_Co_isOn 6 = .ok (.iload_n 1, 1) := by decide +kernel
theorem d_Co_isOn_7 : decode b_Co_isOn 7 = .ok (.iand, 1) := by decide +kernel
theorem d_Co_isOn_8 : decode b_Co_isOn 8 = .ok (.ifCond .eq 7, 3) := by decide +kernel
theorem d_Co_isOn_11 : decode b_Co_isOn 11 = .ok (.iconst 1, 1) := by decide +kernel
theorem d_Co_isOn_12 : decode b_Co_isOn 12 = .ok (.goto 4, 3) := by decide +kernel
theorem d_Co_isOn_15 : decode b_Co_isOn 15 = .ok (.iconst 0, 1) := by decide +kernel
theorem d_Co_isOn_16 : decode b_Co_isOn 16 = .ok (.ireturn, 1) := by decide +kernel
def pr_Co_isOn : List (Nat × tw_Op) := [(0, tw_al 0), (1, tw_gr 4 5), (4, tw_ic 0), (5, tw_ia), (6, tw_il 1), (7, tw_bin (· &&& ·)), (8, tw_ifeq 15), (11, tw_ic 1), (12, tw_jmp 16), (15, tw_ic 0), (16, tw_rz)]
set_option maxRecDepth 100000 in
set_option maxHeartbeats 4000000 in
theorem ok_Co_isOn {p : Program} {l : Launch} {e : Env} {s : State} {m : MethodId} {args : Array Value} {below : List Frame} {meth : Method} {c : Code} {E : tw_E} {D : va_G} {ρ : tw_R} (hC : tw_Cx p s m args meth c b_Co_isOn 2 (some .boolean) "TwinHost$Controls" E D) : tw_Ok p l e (tw_rmd 0) s m args below meth c 0 0 (MQ below (tw_Qc E D ρ) args s 0 0 (tw_A E)) 2 E D ρ pr_Co_isOn :=
  ⟨ts_aload_n hC d_Co_isOn_0 rfl,
   ts_gr (j := 0) (C := R_Co) (T := T_Co) hC rfl rfl rfl (by decide) u_Co wd_75 rfl d_Co_isOn_1,
   ts_iconst hC d_Co_isOn_4 (by decide),
   ts_iaload hC d_Co_isOn_5,
   ts_iload_n hC d_Co_isOn_6 rfl,
   ts_iand hC d_Co_isOn_7,
   ts_ifeq hC d_Co_isOn_8 (by decide),
   ts_iconst hC d_Co_isOn_11 (by decide),
   ts_goto hC d_Co_isOn_12 (by decide),
   ts_iconst hC d_Co_isOn_15 (by decide),
   ts_zret hC rfl d_Co_isOn_16,
   trivial⟩
def fn_Co_isOn : tw_Fn := tw_fn 2 2 13 pr_Co_isOn
theorem con_Co_isOn : tw_Con y_Co_isOn b_Co_isOn 2 (some .boolean) 0 fn_Co_isOn := tw_met (by decide +kernel) (tw_fn_len (n := 2) (by decide)) (fun p l e s m args below meth c E D vs σ ρ hC h => tw_sound (ok_Co_isOn hC) 13 pr_Co_isOn (ok_Co_isOn hC) _ _ _ (tw_fn_get h))

-- TwinHost$Controls.keptBits(I)I: 10 instructions, depth 0, calls 
theorem d_Co_keptBits_0 : decode b_Co_keptBits 0 = .ok (.iload_n 0, 1) := by decide +kernel
theorem d_Co_keptBits_1 : decode b_Co_keptBits 1 = .ok (.lookupswitch 44 #[(0, 35), (6, 38), (7, 42)], 35) := by decide +kernel
theorem d_Co_keptBits_36 : decode b_Co_keptBits 36 = .ok (.bipush 15, 2) := by decide +kernel
theorem d_Co_keptBits_38 : decode b_Co_keptBits 38 = .ok (.ireturn, 1) := by decide +kernel
theorem d_Co_keptBits_39 : decode b_Co_keptBits 39 = .ok (.sipush 143, 3) := by decide +kernel
theorem d_Co_keptBits_42 : decode b_Co_keptBits 42 = .ok (.ireturn, 1) := by decide +kernel
theorem d_Co_keptBits_43 : decode b_Co_keptBits 43 = .ok (.iconst 3, 1) := by decide +kernel
theorem d_Co_keptBits_44 : decode b_Co_keptBits 44 = .ok (.ireturn, 1) := by decide +kernel
theorem d_Co_keptBits_45 : decode b_Co_keptBits 45 = .ok (.iconst (-1), 1) := by decide +kernel
theorem d_Co_keptBits_46 : decode b_Co_keptBits 46 = .ok (.ireturn, 1) := by decide +kernel
def pr_Co_keptBits : List (Nat × tw_Op) := [(0, tw_il 0), (1, tw_sw [(0, 36), (6, 39), (7, 43)] 45), (36, tw_ic (15)), (38, tw_ri), (39, tw_ic (143)), (42, tw_ri), (43, tw_ic 3), (44, tw_ri), (45, tw_ic (-1)), (46, tw_ri)]
set_option maxRecDepth 100000 in
set_option maxHeartbeats 4000000 in
theorem ok_Co_keptBits {p : Program} {l : Launch} {e : Env} {s : State} {m : MethodId} {args : Array Value} {below : List Frame} {meth : Method} {c : Code} {E : tw_E} {D : va_G} {ρ : tw_R} (hC : tw_Cx p s m args meth c b_Co_keptBits 1 (some .int) "TwinHost$Controls" E D) : tw_Ok p l e (tw_rmd 0) s m args below meth c 0 0 (MQ below (tw_Qc E D ρ) args s 0 0 (tw_A E)) 1 E D ρ pr_Co_keptBits :=
  ⟨ts_iload_n hC d_Co_keptBits_0 rfl,
   ts_lookup hC _ d_Co_keptBits_1 (by decide +kernel) (by decide) rfl (by decide +kernel),
   ts_bipush hC d_Co_keptBits_36 (by decide),
   ts_iret hC rfl d_Co_keptBits_38,
   ts_sipush hC d_Co_keptBits_39 (by decide),
   ts_iret hC rfl d_Co_keptBits_42,
   ts_iconst hC d_Co_keptBits_43 (by decide),
   ts_iret hC rfl d_Co_keptBits_44,
   ts_iconst hC d_Co_keptBits_45 (by decide),
   ts_iret hC rfl d_Co_keptBits_46,
   trivial⟩
def fn_Co_keptBits : tw_Fn := tw_fn 1 1 12 pr_Co_keptBits
theorem con_Co_keptBits : tw_Con y_Co_keptBits b_Co_keptBits 1 (some .int) 0 fn_Co_keptBits := tw_met (by decide +kernel) (tw_fn_len (n := 1) (by decide)) (fun p l e s m args below meth c E D vs σ ρ hC h => tw_sound (ok_Co_keptBits hC) 12 pr_Co_keptBits (ok_Co_keptBits hC) _ _ _ (tw_fn_get h))

-- TwinHost$Controls.translates()Z: 11 instructions, depth 0, calls 
theorem d_Co_translates_0 : decode b_Co_translates 0 = .ok (.aload_n 0, 1) := by decide +kernel
theorem d_Co_translates_1 : decode b_Co_translates 1 = .ok (.getfield 9, 3) := by decide +kernel
theorem d_Co_translates_4 : decode b_Co_translates 4 = .ok (.bipush 6, 2) := by decide +kernel
theorem d_Co_translates_6 : decode b_Co_translates 6 = .ok (.iaload, 1) := by decide +kernel
theorem d_Co_translates_7 : decode b_Co_translates 7 = .ok (.sipush 128, 3) := by decide +kernel
theorem d_Co_translates_10 : decode b_Co_translates 10 = .ok (.iand, 1) := by decide +kernel
theorem d_Co_translates_11 : decode b_Co_translates 11 = .ok (.ifCond .eq 7, 3) := by decide +kernel
theorem d_Co_translates_14 : decode b_Co_translates 14 = .ok (.iconst 1, 1) := by decide +kernel
theorem d_Co_translates_15 : decode b_Co_translates 15 = .ok (.goto 4, 3) := by decide +kernel
theorem d_Co_translates_18 : decode b_Co_translates 18 = .ok (.iconst 0, 1) := by decide +kernel
theorem d_Co_translates_19 : decode b_Co_translates 19 = .ok (.ireturn, 1) := by decide +kernel
def pr_Co_translates : List (Nat × tw_Op) := [(0, tw_al 0), (1, tw_gr 4 5), (4, tw_ic (6)), (6, tw_ia), (7, tw_ic (128)), (10, tw_bin (· &&& ·)), (11, tw_ifeq 18), (14, tw_ic 1), (15, tw_jmp 19), (18, tw_ic 0), (19, tw_rz)]
set_option maxRecDepth 100000 in
set_option maxHeartbeats 4000000 in
theorem ok_Co_translates {p : Program} {l : Launch} {e : Env} {s : State} {m : MethodId} {args : Array Value} {below : List Frame} {meth : Method} {c : Code} {E : tw_E} {D : va_G} {ρ : tw_R} (hC : tw_Cx p s m args meth c b_Co_translates 1 (some .boolean) "TwinHost$Controls" E D) : tw_Ok p l e (tw_rmd 0) s m args below meth c 0 0 (MQ below (tw_Qc E D ρ) args s 0 0 (tw_A E)) 1 E D ρ pr_Co_translates :=
  ⟨ts_aload_n hC d_Co_translates_0 rfl,
   ts_gr (j := 0) (C := R_Co) (T := T_Co) hC rfl rfl rfl (by decide) u_Co wd_75 rfl d_Co_translates_1,
   ts_bipush hC d_Co_translates_4 (by decide),
   ts_iaload hC d_Co_translates_6,
   ts_sipush hC d_Co_translates_7 (by decide),
   ts_iand hC d_Co_translates_10,
   ts_ifeq hC d_Co_translates_11 (by decide),
   ts_iconst hC d_Co_translates_14 (by decide),
   ts_goto hC d_Co_translates_15 (by decide),
   ts_iconst hC d_Co_translates_18 (by decide),
   ts_zret hC rfl d_Co_translates_19,
   trivial⟩
def fn_Co_translates : tw_Fn := tw_fn 1 1 13 pr_Co_translates
theorem con_Co_translates : tw_Con y_Co_translates b_Co_translates 1 (some .boolean) 0 fn_Co_translates := tw_met (by decide +kernel) (tw_fn_len (n := 1) (by decide)) (fun p l e s m args below meth c E D vs σ ρ hC h => tw_sound (ok_Co_translates hC) 13 pr_Co_translates (ok_Co_translates hC) _ _ _ (tw_fn_get h))

-- TwinHost$Entry.allows(ILTwinHost$Access;ZZ)Z: 30 instructions, depth 0, calls 
theorem d_En_allows_0 : decode b_En_allows 0 = .ok (.iload_n 0, 1) := by decide +kernel
theorem d_En_allows_1 : decode b_En_allows 1 = .ok (.aload_n 1, 1) := by decide +kernel
theorem d_En_allows_2 : decode b_En_allows 2 = .ok (.getfield 9, 3) := by decide +kernel
theorem d_En_allows_5 : decode b_En_allows 5 = .ok (.iand, 1) := by decide +kernel
theorem d_En_allows_6 : decode b_En_allows 6 = .ok (.ifCond .ne 5, 3) := by decide +kernel
theorem d_En_allows_9 : decode b_En_allows 9 = .ok (.iconst 0, 1) := by decide +kernel
theorem d_En_allows_10 : decode b_En_allows 10 = .ok (.ireturn, 1) := by decide +kernel
theorem d_En_allows_11 : decode b_En_allows 11 = .ok (.iload_n 0, 1) := by decide +kernel
theorem d_En_allows_12 : decode b_En_allows 12 = .ok (.bipush 16, 2) := by decide +kernel
theorem d_En_allows_14 : decode b_En_allows 14 = .ok (.iand, 1) := by decide +kernel
theorem d_En_allows_15 : decode b_En_allows 15 = .ok (.ifCond .eq 7, 3) := by decide +kernel
theorem d_En_allows_18 : decode b_En_allows 18 = .ok (.iconst 1, 1) := by decide +kernel
theorem d_En_allows_19 : decode b_En_allows 19 = .ok (.goto 4, 3) := by decide +kernel
theorem d_En_allows_22 : decode b_En_allows 22 = .ok (.iconst 0, 1) := by decide +kernel
theorem d_En_allows_23 : decode b_En_allows 23 = .ok (.istore 4, 2) := by decide +kernel
theorem d_En_allows_25 : decode b_En_allows 25 = .ok (.iload_n 2, 1) := by decide +kernel
theorem d_En_allows_26 : decode b_En_allows 26 = .ok (.ifCond .eq 6, 3) := by decide +kernel
theorem d_En_allows_29 : decode b_En_allows 29 = .ok (.iload 4, 2) := by decide +kernel
theorem d_En_allows_31 : decode b_En_allows 31 = .ok (.ireturn, 1) := by decide +kernel
theorem d_En_allows_32 : decode b_En_allows 32 = .ok (.iload 4, 2) := by decide +kernel
theorem d_En_allows_34 : decode b_En_allows 34 = .ok (.ifCond .eq 14, 3) := by decide +kernel
theorem d_En_allows_37 : decode b_En_allows 37 = .ok (.iload_n 3, 1) := by decide +kernel
theorem d_En_allows_38 : decode b_En_allows 38 = .ok (.ifCond .eq 14, 3) := by decide +kernel
theorem d_En_allows_41 : decode b_En_allows 41 = .ok (.aload_n 1, 1) := by decide +kernel
theorem d_En_allows_42 : decode b_En_allows 42 = .ok (.getstatic 15, 3) := by decide +kernel
theorem d_En_allows_45 : decode b_En_allows 45 = .ok (.if_acmp .eq 7, 3) := by decide +kernel
theorem d_En_allows_48 : decode b_En_allows 48 = .ok (.iconst 1, 1) := by decide +kernel
theorem d_En_allows_49 : decode b_En_allows 49 = .ok (.goto 4, 3) := by decide +kernel
theorem d_En_allows_52 : decode b_En_allows 52 = .ok (.iconst 0, 1) := by decide +kernel
theorem d_En_allows_53 : decode b_En_allows 53 = .ok (.ireturn, 1) := by decide +kernel
def pr_En_allows : List (Nat × tw_Op) := [(0, tw_il 0), (1, tw_al 1), (2, tw_ge 0), (5, tw_bin (· &&& ·)), (6, tw_ifne 11), (9, tw_ic 0), (10, tw_rz), (11, tw_il 0), (12, tw_ic (16)), (14, tw_bin (· &&& ·)), (15, tw_ifeq 22), (18, tw_ic 1), (19, tw_jmp 23), (22, tw_ic 0), (23, tw_is 4), (25, tw_il 2), (26, tw_ifeq 32), (29, tw_il 4), (31, tw_rz), (32, tw_il 4), (34, tw_ifeq 48), (37, tw_il 3), (38, tw_ifeq 52), (41, tw_al 1), (42, tw_en 50), (45, tw_aeq 52), (48, tw_ic 1), (49, tw_jmp 53), (52, tw_ic 0), (53, tw_rz)]
set_option maxRecDepth 100000 in
set_option maxHeartbeats 4000000 in
theorem ok_En_allows {p : Program} {l : Launch} {e : Env} {s : State} {m : MethodId} {args : Array Value} {below : List Frame} {meth : Method} {c : Code} {E : tw_E} {D : va_G} {ρ : tw_R} (hC : tw_Cx p s m args meth c b_En_allows 5 (some .boolean) "TwinHost$Entry" E D) : tw_Ok p l e (tw_rmd 0) s m args below meth c 0 0 (MQ below (tw_Qc E D ρ) args s 0 0 (tw_A E)) 5 E D ρ pr_En_allows :=
  ⟨ts_iload_n hC d_En_allows_0 rfl,
   ts_aload_n hC d_En_allows_1 rfl,
   ts_ge (q0 := ("TwinHost$Access", "need", "I", [8, 2, 4])) hC (by decide) (by decide) rfl wd_683 d_En_allows_2,
   ts_iand hC d_En_allows_5,
   ts_ifne hC d_En_allows_6 (by decide),
   ts_iconst hC d_En_allows_9 (by decide),
   ts_zret hC rfl d_En_allows_10,
   ts_iload_n hC d_En_allows_11 rfl,
   ts_bipush hC d_En_allows_12 (by decide),
   ts_iand hC d_En_allows_14,
   ts_ifeq hC d_En_allows_15 (by decide),
   ts_iconst hC d_En_allows_18 (by decide),
   ts_goto hC d_En_allows_19 (by decide),
   ts_iconst hC d_En_allows_22 (by decide),
   ts_istore hC d_En_allows_23 (by decide),
   ts_iload_n hC d_En_allows_25 rfl,
   ts_ifeq hC d_En_allows_26 (by decide),
   ts_iload hC d_En_allows_29,
   ts_zret hC rfl d_En_allows_31,
   ts_iload hC d_En_allows_32,
   ts_ifeq hC d_En_allows_34 (by decide),
   ts_iload_n hC d_En_allows_37 rfl,
   ts_ifeq hC d_En_allows_38 (by decide),
   ts_aload_n hC d_En_allows_41 rfl,
   ts_getA (i := 0) hC (by decide) rfl wd_324 d_En_allows_42,
   ts_aeq hC d_En_allows_45 (by decide),
   ts_iconst hC d_En_allows_48 (by decide),
   ts_goto hC d_En_allows_49 (by decide),
   ts_iconst hC d_En_allows_52 (by decide),
   ts_zret hC rfl d_En_allows_53,
   trivial⟩
def fn_En_allows : tw_Fn := tw_fn 4 5 32 pr_En_allows
theorem con_En_allows : tw_Con y_En_allows b_En_allows 5 (some .boolean) 0 fn_En_allows := tw_met (by decide +kernel) (tw_fn_len (n := 4) (by decide)) (fun p l e s m args below meth c E D vs σ ρ hC h => tw_sound (ok_En_allows hC) 32 pr_En_allows (ok_En_allows hC) _ _ _ (tw_fn_get h))

-- TwinHost$Entry.isBroken(I)Z: 13 instructions, depth 0, calls 
theorem d_En_isBroken_0 : decode b_En_isBroken 0 = .ok (.iload_n 0, 1) := by decide +kernel
theorem d_En_isBroken_1 : decode b_En_isBroken 1 = .ok (.iconst 1, 1) := by decide +kernel
theorem d_En_isBroken_2 : decode b_En_isBroken 2 = .ok (.iand, 1) := by decide +kernel
theorem d_En_isBroken_3 : decode b_En_isBroken 3 = .ok (.ifCond .eq 11, 3) := by decide +kernel
theorem d_En_isBroken_6 : decode b_En_isBroken 6 = .ok (.iload_n 0, 1) := by decide +kernel
theorem d_En_isBroken_7 : decode b_En_isBroken 7 = .ok (.bipush 6, 2) := by decide +kernel
theorem d_En_isBroken_9 : decode b_En_isBroken 9 = .ok (.iand, 1) := by decide +kernel
theorem d_En_isBroken_10 : decode b_En_isBroken 10 = .ok (.iconst 4, 1) := by decide +kernel
theorem d_En_isBroken_11 : decode b_En_isBroken 11 = .ok (.if_icmp .ne 7, 3) := by decide +kernel
theorem d_En_isBroken_14 : decode b_En_isBroken 14 = .ok (.iconst 1, 1) := by decide +kernel
theorem d_En_isBroken_15 : decode b_En_isBroken 15 = .ok (.goto 4, 3) := by decide +kernel
theorem d_En_isBroken_18 : decode b_En_isBroken 18 = .ok (.iconst 0, 1) := by decide +kernel
theorem d_En_isBroken_19 : decode b_En_isBroken 19 = .ok (.ireturn, 1) := by decide +kernel
def pr_En_isBroken : List (Nat × tw_Op) := [(0, tw_il 0), (1, tw_ic 1), (2, tw_bin (· &&& ·)), (3, tw_ifeq 14), (6, tw_il 0), (7, tw_ic (6)), (9, tw_bin (· &&& ·)), (10, tw_ic 4), (11, tw_cne 18), (14, tw_ic 1), (15, tw_jmp 19), (18, tw_ic 0), (19, tw_rz)]
set_option maxRecDepth 100000 in
set_option maxHeartbeats 4000000 in
theorem ok_En_isBroken {p : Program} {l : Launch} {e : Env} {s : State} {m : MethodId} {args : Array Value} {below : List Frame} {meth : Method} {c : Code} {E : tw_E} {D : va_G} {ρ : tw_R} (hC : tw_Cx p s m args meth c b_En_isBroken 1 (some .boolean) "TwinHost$Entry" E D) : tw_Ok p l e (tw_rmd 0) s m args below meth c 0 0 (MQ below (tw_Qc E D ρ) args s 0 0 (tw_A E)) 1 E D ρ pr_En_isBroken :=
  ⟨ts_iload_n hC d_En_isBroken_0 rfl,
   ts_iconst hC d_En_isBroken_1 (by decide),
   ts_iand hC d_En_isBroken_2,
   ts_ifeq hC d_En_isBroken_3 (by decide),
   ts_iload_n hC d_En_isBroken_6 rfl,
   ts_bipush hC d_En_isBroken_7 (by decide),
   ts_iand hC d_En_isBroken_9,
   ts_iconst hC d_En_isBroken_10 (by decide),
   ts_cne hC d_En_isBroken_11 (by decide),
   ts_iconst hC d_En_isBroken_14 (by decide),
   ts_goto hC d_En_isBroken_15 (by decide),
   ts_iconst hC d_En_isBroken_18 (by decide),
   ts_zret hC rfl d_En_isBroken_19,
   trivial⟩
def fn_En_isBroken : tw_Fn := tw_fn 1 1 15 pr_En_isBroken
theorem con_En_isBroken : tw_Con y_En_isBroken b_En_isBroken 1 (some .boolean) 0 fn_En_isBroken := tw_met (by decide +kernel) (tw_fn_len (n := 1) (by decide)) (fun p l e s m args below meth c E D vs σ ρ hC h => tw_sound (ok_En_isBroken hC) 15 pr_En_isBroken (ok_En_isBroken hC) _ _ _ (tw_fn_get h))

-- TwinHost$Entry.isLeaf(I)Z: 8 instructions, depth 0, calls 
theorem d_En_isLeaf_0 : decode b_En_isLeaf 0 = .ok (.iload_n 0, 1) := by decide +kernel
theorem d_En_isLeaf_1 : decode b_En_isLeaf 1 = .ok (.bipush 10, 2) := by decide +kernel
theorem d_En_isLeaf_3 : decode b_En_isLeaf 3 = .ok (.iand, 1) := by decide +kernel
theorem d_En_isLeaf_4 : decode b_En_isLeaf 4 = .ok (.ifCond .eq 7, 3) := by decide +kernel
theorem d_En_isLeaf_7 : decode b_En_isLeaf 7 = .ok (.iconst 1, 1) := by decide +kernel
theorem d_En_isLeaf_8 : decode b_En_isLeaf 8 = .ok (.goto 4, 3) := by decide +kernel
theorem d_En_isLeaf_11 : decode b_En_isLeaf 11 = .ok (.iconst 0, 1) := by decide +kernel
theorem d_En_isLeaf_12 : decode b_En_isLeaf 12 = .ok (.ireturn, 1) := by decide +kernel
def pr_En_isLeaf : List (Nat × tw_Op) := [(0, tw_il 0), (1, tw_ic (10)), (3, tw_bin (· &&& ·)), (4, tw_ifeq 11), (7, tw_ic 1), (8, tw_jmp 12), (11, tw_ic 0), (12, tw_rz)]
set_option maxRecDepth 100000 in
set_option maxHeartbeats 4000000 in
theorem ok_En_isLeaf {p : Program} {l : Launch} {e : Env} {s : State} {m : MethodId} {args : Array Value} {below : List Frame} {meth : Method} {c : Code} {E : tw_E} {D : va_G} {ρ : tw_R} (hC : tw_Cx p s m args meth c b_En_isLeaf 1 (some .boolean) "TwinHost$Entry" E D) : tw_Ok p l e (tw_rmd 0) s m args below meth c 0 0 (MQ below (tw_Qc E D ρ) args s 0 0 (tw_A E)) 1 E D ρ pr_En_isLeaf :=
  ⟨ts_iload_n hC d_En_isLeaf_0 rfl,
   ts_bipush hC d_En_isLeaf_1 (by decide),
   ts_iand hC d_En_isLeaf_3,
   ts_ifeq hC d_En_isLeaf_4 (by decide),
   ts_iconst hC d_En_isLeaf_7 (by decide),
   ts_goto hC d_En_isLeaf_8 (by decide),
   ts_iconst hC d_En_isLeaf_11 (by decide),
   ts_zret hC rfl d_En_isLeaf_12,
   trivial⟩
def fn_En_isLeaf : tw_Fn := tw_fn 1 1 10 pr_En_isLeaf
theorem con_En_isLeaf : tw_Con y_En_isLeaf b_En_isLeaf 1 (some .boolean) 0 fn_En_isLeaf := tw_met (by decide +kernel) (tw_fn_len (n := 1) (by decide)) (fun p l e s m args below meth c E D vs σ ρ hC h => tw_sound (ok_En_isLeaf hC) 10 pr_En_isLeaf (ok_En_isLeaf hC) _ _ _ (tw_fn_get h))

-- TwinHost$Entry.pageNumber(I)I: 6 instructions, depth 0, calls 
theorem d_En_pageNumber_0 : decode b_En_pageNumber 0 = .ok (.iload_n 0, 1) := by decide +kernel
theorem d_En_pageNumber_1 : decode b_En_pageNumber 1 = .ok (.bipush 8, 2) := by decide +kernel
theorem d_En_pageNumber_3 : decode b_En_pageNumber 3 = .ok (.ishr, 1) := by decide +kernel
theorem d_En_pageNumber_4 : decode b_En_pageNumber 4 = .ok (.bipush 15, 2) := by decide +kernel
theorem d_En_pageNumber_6 : decode b_En_pageNumber 6 = .ok (.iand, 1) := by decide +kernel
theorem d_En_pageNumber_7 : decode b_En_pageNumber 7 = .ok (.ireturn, 1) := by decide +kernel
def pr_En_pageNumber : List (Nat × tw_Op) := [(0, tw_il 0), (1, tw_ic (8)), (3, tw_bin (fun x y => x >>> (y &&& 31))), (4, tw_ic (15)), (6, tw_bin (· &&& ·)), (7, tw_ri)]
set_option maxRecDepth 100000 in
set_option maxHeartbeats 4000000 in
theorem ok_En_pageNumber {p : Program} {l : Launch} {e : Env} {s : State} {m : MethodId} {args : Array Value} {below : List Frame} {meth : Method} {c : Code} {E : tw_E} {D : va_G} {ρ : tw_R} (hC : tw_Cx p s m args meth c b_En_pageNumber 1 (some .int) "TwinHost$Entry" E D) : tw_Ok p l e (tw_rmd 0) s m args below meth c 0 0 (MQ below (tw_Qc E D ρ) args s 0 0 (tw_A E)) 1 E D ρ pr_En_pageNumber :=
  ⟨ts_iload_n hC d_En_pageNumber_0 rfl,
   ts_bipush hC d_En_pageNumber_1 (by decide),
   ts_ishr hC d_En_pageNumber_3,
   ts_bipush hC d_En_pageNumber_4 (by decide),
   ts_iand hC d_En_pageNumber_6,
   ts_iret hC rfl d_En_pageNumber_7,
   trivial⟩
def fn_En_pageNumber : tw_Fn := tw_fn 1 1 8 pr_En_pageNumber
theorem con_En_pageNumber : tw_Con y_En_pageNumber b_En_pageNumber 1 (some .int) 0 fn_En_pageNumber := tw_met (by decide +kernel) (tw_fn_len (n := 1) (by decide)) (fun p l e s m args below meth c E D vs σ ρ hC h => tw_sound (ok_En_pageNumber hC) 8 pr_En_pageNumber (ok_En_pageNumber hC) _ _ _ (tw_fn_get h))

-- TwinHost$Guest.changed(III)I: 14 instructions, depth 0, calls 
theorem d_Gu_changed_0 : decode b_Gu_changed 0 = .ok (.iload_n 0, 1) := by decide +kernel
theorem d_Gu_changed_1 : decode b_Gu_changed 1 = .ok (.lookupswitch 37 #[(20, 27), (21, 31)], 27) := by decide +kernel
theorem d_Gu_changed_28 : decode b_Gu_changed 28 = .ok (.iload_n 1, 1) := by decide +kernel
theorem d_Gu_changed_29 : decode b_Gu_changed 29 = .ok (.iload_n 2, 1) := by decide +kernel
theorem d_Gu_changed_30 : decode b_Gu_changed 30 = .ok (.ior, 1) := by decide +kernel
theorem d_Gu_changed_31 : decode b_Gu_changed 31 = .ok (.ireturn, 1) := by decide +kernel
theorem d_Gu_changed_32 : decode b_Gu_changed 32 = .ok (.iload_n 1, 1) := by decide +kernel
theorem d_Gu_changed_33 : decode b_Gu_changed 33 = .ok (.iload_n 2, 1) := by decide +kernel
theorem d_Gu_changed_34 : decode b_Gu_changed 34 = .ok (.iconst (-1), 1) := by decide +kernel
theorem d_Gu_changed_35 : decode b_Gu_changed 35 = .ok (.ixor, 1) := by decide +kernel
theorem d_Gu_changed_36 : decode b_Gu_changed 36 = .ok (.iand, 1) := by decide +kernel
theorem d_Gu_changed_37 : decode b_Gu_changed 37 = .ok (.ireturn, 1) := by decide +kernel
theorem d_Gu_changed_38 : decode b_Gu_changed 38 = .ok (.iload_n 2, 1) := by decide +kernel
theorem d_Gu_changed_39 : decode b_Gu_changed 39 = .ok (.ireturn, 1) := by decide +kernel
def pr_Gu_changed : List (Nat × tw_Op) := [(0, tw_il 0), (1, tw_sw [(20, 28), (21, 32)] 38), (28, tw_il 1), (29, tw_il 2), (30, tw_bin (· ||| ·)), (31, tw_ri), (32, tw_il 1), (33, tw_il 2), (34, tw_ic (-1)), (35, tw_bin (· ^^^ ·)), (36, tw_bin (· &&& ·)), (37, tw_ri), (38, tw_il 2), (39, tw_ri)]
set_option maxRecDepth 100000 in
set_option maxHeartbeats 4000000 in
theorem ok_Gu_changed {p : Program} {l : Launch} {e : Env} {s : State} {m : MethodId} {args : Array Value} {below : List Frame} {meth : Method} {c : Code} {E : tw_E} {D : va_G} {ρ : tw_R} (hC : tw_Cx p s m args meth c b_Gu_changed 3 (some .int) "TwinHost$Guest" E D) : tw_Ok p l e (tw_rmd 0) s m args below meth c 0 0 (MQ below (tw_Qc E D ρ) args s 0 0 (tw_A E)) 3 E D ρ pr_Gu_changed :=
  ⟨ts_iload_n hC d_Gu_changed_0 rfl,
   ts_lookup hC _ d_Gu_changed_1 (by decide +kernel) (by decide) rfl (by decide +kernel),
   ts_iload_n hC d_Gu_changed_28 rfl,
   ts_iload_n hC d_Gu_changed_29 rfl,
   ts_ior hC d_Gu_changed_30,
   ts_iret hC rfl d_Gu_changed_31,
   ts_iload_n hC d_Gu_changed_32 rfl,
   ts_iload_n hC d_Gu_changed_33 rfl,
   ts_iconst hC d_Gu_changed_34 (by decide),
   ts_ixor hC d_Gu_changed_35,
   ts_iand hC d_Gu_changed_36,
   ts_iret hC rfl d_Gu_changed_37,
   ts_iload_n hC d_Gu_changed_38 rfl,
   ts_iret hC rfl d_Gu_changed_39,
   trivial⟩
def fn_Gu_changed : tw_Fn := tw_fn 3 3 16 pr_Gu_changed
theorem con_Gu_changed : tw_Con y_Gu_changed b_Gu_changed 3 (some .int) 0 fn_Gu_changed := tw_met (by decide +kernel) (tw_fn_len (n := 3) (by decide)) (fun p l e s m args below meth c E D vs σ ρ hC h => tw_sound (ok_Gu_changed hC) 16 pr_Gu_changed (ok_Gu_changed hC) _ _ _ (tw_fn_get h))

-- TwinHost$Guest.compute(IIII)I: 49 instructions, depth 0, calls 
theorem d_Gu_compute_0 : decode b_Gu_compute 0 = .ok (.iload_n 0, 1) := by decide +kernel
theorem d_Gu_compute_1 : decode b_Gu_compute 1 = .ok (.tableswitch 100 0 8 #[51, 55, 59, 63, 67, 71, 75, 86, 93], 51) := by decide +kernel
theorem d_Gu_compute_52 : decode b_Gu_compute 52 = .ok (.iload_n 1, 1) := by decide +kernel
theorem d_Gu_compute_53 : decode b_Gu_compute 53 = .ok (.iload_n 3, 1) := by decide +kernel
theorem d_Gu_compute_54 : decode b_Gu_compute 54 = .ok (.iadd, 1) := by decide +kernel
theorem d_Gu_compute_55 : decode b_Gu_compute 55 = .ok (.ireturn, 1) := by decide +kernel
theorem d_Gu_compute_56 : decode b_Gu_compute 56 = .ok (.iload_n 1, 1) := by decide +kernel
theorem d_Gu_compute_57 : decode b_Gu_compute 57 = .ok (.iload_n 2, 1) := by decide +kernel
theorem d_Gu_compute_58 : decode b_Gu_compute 58 = .ok (.iadd, 1) := by decide +kernel
theorem d_Gu_compute_59 : decode b_Gu_compute 59 = .ok (.ireturn, 1) := by decide +kernel
theorem d_Gu_compute_60 : decode b_Gu_compute 60 = .ok (.iload_n 1, 1) := by decide +kernel
theorem d_Gu_compute_61 : decode b_Gu_compute 61 = .ok (.iload_n 2, 1) := by decide +kernel
theorem d_Gu_compute_62 : decode b_Gu_compute 62 = .ok (.isub, 1) := by decide +kernel
theorem d_Gu_compute_63 : decode b_Gu_compute 63 = .ok (.ireturn, 1) := by decide +kernel
theorem d_Gu_compute_64 : decode b_Gu_compute 64 = .ok (.iload_n 1, 1) := by decide +kernel
theorem d_Gu_compute_65 : decode b_Gu_compute 65 = .ok (.iload_n 2, 1) := by decide +kernel
theorem d_Gu_compute_66 : decode b_Gu_compute 66 = .ok (.iand, 1) := by decide +kernel
theorem d_Gu_compute_67 : decode b_Gu_compute 67 = .ok (.ireturn, 1) := by decide +kernel
theorem d_Gu_compute_68 : decode b_Gu_compute 68 = .ok (.iload_n 1, 1) := by decide +kernel
theorem d_Gu_compute_69 : decode b_Gu_compute 69 = .ok (.iload_n 2, 1) := by decide +kernel
theorem d_Gu_compute_70 : decode b_Gu_compute 70 = .ok (.ior, 1) := by decide +kernel
theorem d_Gu_compute_71 : decode b_Gu_compute 71 = .ok (.ireturn, 1) := by decide +kernel
theorem d_Gu_compute_72 : decode b_Gu_compute 72 = .ok (.iload_n 1, 1) := by decide +kernel
theorem d_Gu_compute_73 : decode b_Gu_compute 73 = .ok (.iload_n 2, 1) := by decide +kernel
theorem d_Gu_compute_74 : decode b_Gu_compute 74 = .ok (.ixor, 1) := by decide +kernel
theorem d_Gu_compute_75 : decode b_Gu_compute 75 = .ok (.ireturn, 1) := by decide +kernel
theorem d_Gu_compute_76 : decode b_Gu_compute 76 = .ok (.iload_n 1, 1) := by decide +kernel
theorem d_Gu_compute_77 : decode b_Gu_compute 77 = .ok (.iload_n 2, 1) := by decide +kernel
theorem d_Gu_compute_78 : decode b_Gu_compute 78 = .ok (.if_icmp .ge 7, 3) := by decide +kernel
theorem d_Gu_compute_81 : decode b_Gu_compute 81 = .ok (.iconst 1, 1) := by decide +kernel
theorem d_Gu_compute_82 : decode b_Gu_compute 82 = .ok (.goto 4, 3) := by decide +kernel
theorem d_Gu_compute_85 : decode b_Gu_compute 85 = .ok (.iconst 0, 1) := by decide +kernel
theorem d_Gu_compute_86 : decode b_Gu_compute 86 = .ok (.ireturn, 1) := by decide +kernel
theorem d_Gu_compute_87 : decode b_Gu_compute 87 = .ok (.iload_n 1, 1) := by decide +kernel
theorem d_Gu_compute_88 : decode b_Gu_compute 88 = .ok (.iload_n 2, 1) := by decide +kernel
theorem d_Gu_compute_89 : decode b_Gu_compute 89 = .ok (.bipush 31, 2) := by decide +kernel
theorem d_Gu_compute_91 : decode b_Gu_compute 91 = .ok (.iand, 1) := by decide +kernel
theorem d_Gu_compute_92 : decode b_Gu_compute 92 = .ok (.ishl, 1) := by decide +kernel
theorem d_Gu_compute_93 : decode b_Gu_compute 93 = .ok (.ireturn, 1) := by decide +kernel
theorem d_Gu_compute_94 : decode b_Gu_compute 94 = .ok (.iload_n 1, 1) := by decide +kernel
theorem d_Gu_compute_95 : decode b_Gu_compute 95 = .ok (.iload_n 2, 1) := by decide +kernel
theorem d_Gu_compute_96 : decode b_Gu_compute 96 = .ok (.bipush 31, 2) := by decide +kernel
theorem d_Gu_compute_98 : decode b_Gu_compute 98 = .ok (.iand, 1) := by decide +kernel
theorem d_Gu_compute_99 : decode b_Gu_compute 99 = .ok (.ishr, 1) := by decide +kernel
theorem d_Gu_compute_100 : decode b_Gu_compute 100 = .ok (.ireturn, 1) := by decide +kernel
theorem d_Gu_compute_101 : decode b_Gu_compute 101 = .ok (.iload_n 3, 1) := by decide +kernel
theorem d_Gu_compute_102 : decode b_Gu_compute 102 = .ok (.bipush 16, 2) := by decide +kernel
theorem d_Gu_compute_104 : decode b_Gu_compute 104 = .ok (.ishl, 1) := by decide +kernel
theorem d_Gu_compute_105 : decode b_Gu_compute 105 = .ok (.ireturn, 1) := by decide +kernel
def pr_Gu_compute : List (Nat × tw_Op) := [(0, tw_il 0), (1, tw_sw [(0, 52), (1, 56), (2, 60), (3, 64), (4, 68), (5, 72), (6, 76), (7, 87), (8, 94)] 101), (52, tw_il 1), (53, tw_il 3), (54, tw_bin (· + ·)), (55, tw_ri), (56, tw_il 1), (57, tw_il 2), (58, tw_bin (· + ·)), (59, tw_ri), (60, tw_il 1), (61, tw_il 2), (62, tw_bin (· - ·)), (63, tw_ri), (64, tw_il 1), (65, tw_il 2), (66, tw_bin (· &&& ·)), (67, tw_ri), (68, tw_il 1), (69, tw_il 2), (70, tw_bin (· ||| ·)), (71, tw_ri), (72, tw_il 1), (73, tw_il 2), (74, tw_bin (· ^^^ ·)), (75, tw_ri), (76, tw_il 1), (77, tw_il 2), (78, tw_cge 85), (81, tw_ic 1), (82, tw_jmp 86), (85, tw_ic 0), (86, tw_ri), (87, tw_il 1), (88, tw_il 2), (89, tw_ic (31)), (91, tw_bin (· &&& ·)), (92, tw_bin (fun x y => x <<< (y &&& 31))), (93, tw_ri), (94, tw_il 1), (95, tw_il 2), (96, tw_ic (31)), (98, tw_bin (· &&& ·)), (99, tw_bin (fun x y => x >>> (y &&& 31))), (100, tw_ri), (101, tw_il 3), (102, tw_ic (16)), (104, tw_bin (fun x y => x <<< (y &&& 31))), (105, tw_ri)]
set_option maxRecDepth 100000 in
set_option maxHeartbeats 4000000 in
theorem ok_Gu_compute {p : Program} {l : Launch} {e : Env} {s : State} {m : MethodId} {args : Array Value} {below : List Frame} {meth : Method} {c : Code} {E : tw_E} {D : va_G} {ρ : tw_R} (hC : tw_Cx p s m args meth c b_Gu_compute 4 (some .int) "TwinHost$Guest" E D) : tw_Ok p l e (tw_rmd 0) s m args below meth c 0 0 (MQ below (tw_Qc E D ρ) args s 0 0 (tw_A E)) 4 E D ρ pr_Gu_compute :=
  ⟨ts_iload_n hC d_Gu_compute_0 rfl,
   ts_table (n := 8) hC _ d_Gu_compute_1 (by decide) (by decide) (by decide +kernel) (by decide +kernel),
   ts_iload_n hC d_Gu_compute_52 rfl,
   ts_iload_n hC d_Gu_compute_53 rfl,
   ts_iadd hC d_Gu_compute_54,
   ts_iret hC rfl d_Gu_compute_55,
   ts_iload_n hC d_Gu_compute_56 rfl,
   ts_iload_n hC d_Gu_compute_57 rfl,
   ts_iadd hC d_Gu_compute_58,
   ts_iret hC rfl d_Gu_compute_59,
   ts_iload_n hC d_Gu_compute_60 rfl,
   ts_iload_n hC d_Gu_compute_61 rfl,
   ts_isub hC d_Gu_compute_62,
   ts_iret hC rfl d_Gu_compute_63,
   ts_iload_n hC d_Gu_compute_64 rfl,
   ts_iload_n hC d_Gu_compute_65 rfl,
   ts_iand hC d_Gu_compute_66,
   ts_iret hC rfl d_Gu_compute_67,
   ts_iload_n hC d_Gu_compute_68 rfl,
   ts_iload_n hC d_Gu_compute_69 rfl,
   ts_ior hC d_Gu_compute_70,
   ts_iret hC rfl d_Gu_compute_71,
   ts_iload_n hC d_Gu_compute_72 rfl,
   ts_iload_n hC d_Gu_compute_73 rfl,
   ts_ixor hC d_Gu_compute_74,
   ts_iret hC rfl d_Gu_compute_75,
   ts_iload_n hC d_Gu_compute_76 rfl,
   ts_iload_n hC d_Gu_compute_77 rfl,
   ts_cge hC d_Gu_compute_78 (by decide),
   ts_iconst hC d_Gu_compute_81 (by decide),
   ts_goto hC d_Gu_compute_82 (by decide),
   ts_iconst hC d_Gu_compute_85 (by decide),
   ts_iret hC rfl d_Gu_compute_86,
   ts_iload_n hC d_Gu_compute_87 rfl,
   ts_iload_n hC d_Gu_compute_88 rfl,
   ts_bipush hC d_Gu_compute_89 (by decide),
   ts_iand hC d_Gu_compute_91,
   ts_ishl hC d_Gu_compute_92,
   ts_iret hC rfl d_Gu_compute_93,
   ts_iload_n hC d_Gu_compute_94 rfl,
   ts_iload_n hC d_Gu_compute_95 rfl,
   ts_bipush hC d_Gu_compute_96 (by decide),
   ts_iand hC d_Gu_compute_98,
   ts_ishr hC d_Gu_compute_99,
   ts_iret hC rfl d_Gu_compute_100,
   ts_iload_n hC d_Gu_compute_101 rfl,
   ts_bipush hC d_Gu_compute_102 (by decide),
   ts_ishl hC d_Gu_compute_104,
   ts_iret hC rfl d_Gu_compute_105,
   trivial⟩
def fn_Gu_compute : tw_Fn := tw_fn 4 4 51 pr_Gu_compute
theorem con_Gu_compute : tw_Con y_Gu_compute b_Gu_compute 4 (some .int) 0 fn_Gu_compute := tw_met (by decide +kernel) (tw_fn_len (n := 4) (by decide)) (fun p l e s m args below meth c E D vs σ ρ hC h => tw_sound (ok_Gu_compute hC) 51 pr_Gu_compute (ok_Gu_compute hC) _ _ _ (tw_fn_get h))

-- TwinHost$Guest.retireAt(I)LTwinHost$Outcome;: 14 instructions, depth 0, calls 
theorem d_Gu_retireAt_0 : decode b_Gu_retireAt 0 = .ok (.aload_n 0, 1) := by decide +kernel
theorem d_Gu_retireAt_1 : decode b_Gu_retireAt 1 = .ok (.getfield 26, 3) := by decide +kernel
theorem d_Gu_retireAt_4 : decode b_Gu_retireAt 4 = .ok (.getfield 123, 3) := by decide +kernel
theorem d_Gu_retireAt_7 : decode b_Gu_retireAt 7 = .ok (.bipush 10, 2) := by decide +kernel
theorem d_Gu_retireAt_9 : decode b_Gu_retireAt 9 = .ok (.dup2, 1) := by decide +kernel
theorem d_Gu_retireAt_10 : decode b_Gu_retireAt 10 = .ok (.iaload, 1) := by decide +kernel
theorem d_Gu_retireAt_11 : decode b_Gu_retireAt 11 = .ok (.iconst 1, 1) := by decide +kernel
theorem d_Gu_retireAt_12 : decode b_Gu_retireAt 12 = .ok (.iadd, 1) := by decide +kernel
theorem d_Gu_retireAt_13 : decode b_Gu_retireAt 13 = .ok (.iastore, 1) := by decide +kernel
theorem d_Gu_retireAt_14 : decode b_Gu_retireAt 14 = .ok (.aload_n 0, 1) := by decide +kernel
theorem d_Gu_retireAt_15 : decode b_Gu_retireAt 15 = .ok (.iload_n 1, 1) := by decide +kernel
theorem d_Gu_retireAt_16 : decode b_Gu_retireAt 16 = .ok (.putfield 62, 3) := by decide +kernel
theorem d_Gu_retireAt_19 : decode b_Gu_retireAt 19 = .ok (.getstatic 155, 3) := by decide +kernel
theorem d_Gu_retireAt_22 : decode b_Gu_retireAt 22 = .ok (.areturn, 1) := by decide +kernel
def pr_Gu_retireAt : List (Nat × tw_Op) := [(0, tw_al 0), (1, tw_gr 0 4), (4, tw_gr 4 5), (7, tw_ic (10)), (9, tw_d2), (10, tw_ia), (11, tw_ic 1), (12, tw_bin (· + ·)), (13, tw_ias 0 22), (14, tw_al 0), (15, tw_il 1), (16, tw_pi 0 6), (19, tw_en 60), (22, tw_ra)]
set_option maxRecDepth 100000 in
set_option maxHeartbeats 4000000 in
theorem ok_Gu_retireAt {p : Program} {l : Launch} {e : Env} {s : State} {m : MethodId} {args : Array Value} {below : List Frame} {meth : Method} {c : Code} {E : tw_E} {D : va_G} {ρ : tw_R} (hC : tw_Cx p s m args meth c b_Gu_retireAt 2 (some (.object "TwinHost$Outcome")) "TwinHost$Guest" E D) : tw_Ok p l e (tw_rmd 0) s m args below meth c 0 0 (MQ below (tw_Qc E D ρ) args s 0 0 (tw_A E)) 2 E D ρ pr_Gu_retireAt :=
  ⟨ts_aload_n hC d_Gu_retireAt_0 rfl,
   ts_gr (j := 3) (C := R_Gu) (T := T_Gu) hC rfl rfl rfl (by decide) u_Gu wd_138 rfl d_Gu_retireAt_1,
   ts_gr (j := 0) (C := R_Co) (T := T_Co) hC rfl rfl rfl (by decide) u_Co wd_76 rfl d_Gu_retireAt_4,
   ts_bipush hC d_Gu_retireAt_7 (by decide),
   ts_dup2 hC d_Gu_retireAt_9,
   ts_iaload hC d_Gu_retireAt_10,
   ts_iconst hC d_Gu_retireAt_11 (by decide),
   ts_iadd hC d_Gu_retireAt_12,
   ts_iastore hC d_Gu_retireAt_13,
   ts_aload_n hC d_Gu_retireAt_14 rfl,
   ts_iload_n hC d_Gu_retireAt_15 rfl,
   ts_pi (j := 6) (C := R_Gu) (T := T_Gu) hC rfl rfl rfl (by decide) u_Gu wd_143 rfl t_Gu_ok n_Gu rfl (by decide +kernel) d_Gu_retireAt_16,
   ts_getO (i := 0) hC (by decide) rfl wd_369 d_Gu_retireAt_19,
   ts_aret hC rfl d_Gu_retireAt_22,
   trivial⟩
def fn_Gu_retireAt : tw_Fn := tw_fn 2 2 16 pr_Gu_retireAt
theorem con_Gu_retireAt : tw_Con y_Gu_retireAt b_Gu_retireAt 2 (some (.object "TwinHost$Outcome")) 0 fn_Gu_retireAt := tw_met (by decide +kernel) (tw_fn_len (n := 2) (by decide)) (fun p l e s m args below meth c E D vs σ ρ hC h => tw_sound (ok_Gu_retireAt hC) 16 pr_Gu_retireAt (ok_Gu_retireAt hC) _ _ _ (tw_fn_get h))

-- TwinHost$Guest.setRegister(II)V: 8 instructions, depth 0, calls 
theorem d_Gu_setRegister_0 : decode b_Gu_setRegister 0 = .ok (.iload_n 1, 1) := by decide +kernel
theorem d_Gu_setRegister_1 : decode b_Gu_setRegister 1 = .ok (.ifCond .eq 10, 3) := by decide +kernel
theorem d_Gu_setRegister_4 : decode b_Gu_setRegister 4 = .ok (.aload_n 0, 1) := by decide +kernel
theorem d_Gu_setRegister_5 : decode b_Gu_setRegister 5 = .ok (.getfield 15, 3) := by decide +kernel
theorem d_Gu_setRegister_8 : decode b_Gu_setRegister 8 = .ok (.iload_n 1, 1) := by decide +kernel
theorem d_Gu_setRegister_9 : decode b_Gu_setRegister 9 = .ok (.iload_n 2, 1) := by decide +kernel
theorem d_Gu_setRegister_10 : decode b_Gu_setRegister 10 = .ok (.iastore, 1) := by decide +kernel
theorem d_Gu_setRegister_11 : decode b_Gu_setRegister 11 = .ok (.return_, 1) := by decide +kernel
def pr_Gu_setRegister : List (Nat × tw_Op) := [(0, tw_il 1), (1, tw_ifeq 11), (4, tw_al 0), (5, tw_gr 0 2), (8, tw_il 1), (9, tw_il 2), (10, tw_ias 0 22), (11, tw_r0)]
set_option maxRecDepth 100000 in
set_option maxHeartbeats 4000000 in
theorem ok_Gu_setRegister {p : Program} {l : Launch} {e : Env} {s : State} {m : MethodId} {args : Array Value} {below : List Frame} {meth : Method} {c : Code} {E : tw_E} {D : va_G} {ρ : tw_R} (hC : tw_Cx p s m args meth c b_Gu_setRegister 3 none "TwinHost$Guest" E D) : tw_Ok p l e (tw_rmd 0) s m args below meth c 0 0 (MQ below (tw_Qc E D ρ) args s 0 0 (tw_A E)) 3 E D ρ pr_Gu_setRegister :=
  ⟨ts_iload_n hC d_Gu_setRegister_0 rfl,
   ts_ifeq hC d_Gu_setRegister_1 (by decide),
   ts_aload_n hC d_Gu_setRegister_4 rfl,
   ts_gr (j := 1) (C := R_Gu) (T := T_Gu) hC rfl rfl rfl (by decide) u_Gu wd_134 rfl d_Gu_setRegister_5,
   ts_iload_n hC d_Gu_setRegister_8 rfl,
   ts_iload_n hC d_Gu_setRegister_9 rfl,
   ts_iastore hC d_Gu_setRegister_10,
   ts_vret hC rfl d_Gu_setRegister_11,
   trivial⟩
def fn_Gu_setRegister : tw_Fn := tw_fn 3 3 10 pr_Gu_setRegister
theorem con_Gu_setRegister : tw_Con y_Gu_setRegister b_Gu_setRegister 3 none 0 fn_Gu_setRegister := tw_met (by decide +kernel) (tw_fn_len (n := 3) (by decide)) (fun p l e s m args below meth c E D vs σ ρ hC h => tw_sound (ok_Gu_setRegister hC) 10 pr_Gu_setRegister (ok_Gu_setRegister hC) _ _ _ (tw_fn_get h))

-- TwinHost$Inputs.append(II)Z: 26 instructions, depth 0, calls 
theorem d_In_append_0 : decode b_In_append 0 = .ok (.aload_n 0, 1) := by decide +kernel
theorem d_In_append_1 : decode b_In_append 1 = .ok (.getfield 16, 3) := by decide +kernel
theorem d_In_append_4 : decode b_In_append 4 = .ok (.bipush 6, 2) := by decide +kernel
theorem d_In_append_6 : decode b_In_append 6 = .ok (.if_icmp .lt 5, 3) := by decide +kernel
theorem d_In_append_9 : decode b_In_append 9 = .ok (.iconst 0, 1) := by decide +kernel
theorem d_In_append_10 : decode b_In_append 10 = .ok (.ireturn, 1) := by decide +kernel
theorem d_In_append_11 : decode b_In_append 11 = .ok (.aload_n 0, 1) := by decide +kernel
theorem d_In_append_12 : decode b_In_append 12 = .ok (.getfield 9, 3) := by decide +kernel
theorem d_In_append_15 : decode b_In_append 15 = .ok (.aload_n 0, 1) := by decide +kernel
theorem d_In_append_16 : decode b_In_append 16 = .ok (.getfield 16, 3) := by decide +kernel
theorem d_In_append_19 : decode b_In_append 19 = .ok (.iload_n 1, 1) := by decide +kernel
theorem d_In_append_20 : decode b_In_append 20 = .ok (.iastore, 1) := by decide +kernel
theorem d_In_append_21 : decode b_In_append 21 = .ok (.aload_n 0, 1) := by decide +kernel
theorem d_In_append_22 : decode b_In_append 22 = .ok (.getfield 13, 3) := by decide +kernel
theorem d_In_append_25 : decode b_In_append 25 = .ok (.aload_n 0, 1) := by decide +kernel
theorem d_In_append_26 : decode b_In_append 26 = .ok (.getfield 16, 3) := by decide +kernel
theorem d_In_append_29 : decode b_In_append 29 = .ok (.iload_n 2, 1) := by decide +kernel
theorem d_In_append_30 : decode b_In_append 30 = .ok (.iastore, 1) := by decide +kernel
theorem d_In_append_31 : decode b_In_append 31 = .ok (.aload_n 0, 1) := by decide +kernel
theorem d_In_append_32 : decode b_In_append 32 = .ok (.dup, 1) := by decide +kernel
theorem d_In_append_33 : decode b_In_append 33 = .ok (.getfield 16, 3) := by decide +kernel
theorem d_In_append_36 : decode b_In_append 36 = .ok (.iconst 1, 1) := by decide +kernel
theorem d_In_append_37 : decode b_In_append 37 = .ok (.iadd, 1) := by decide +kernel
theorem d_In_append_38 : decode b_In_append 38 = .ok (.putfield 16, 3) := by decide +kernel
theorem d_In_append_41 : decode b_In_append 41 = .ok (.iconst 1, 1) := by decide +kernel
theorem d_In_append_42 : decode b_In_append 42 = .ok (.ireturn, 1) := by decide +kernel
def pr_In_append : List (Nat × tw_Op) := [(0, tw_al 0), (1, tw_gi 6 2), (4, tw_ic (6)), (6, tw_clt 11), (9, tw_ic 0), (10, tw_rz), (11, tw_al 0), (12, tw_gr 6 7), (15, tw_al 0), (16, tw_gi 6 2), (19, tw_il 1), (20, tw_ias 0 22), (21, tw_al 0), (22, tw_gr 6 8), (25, tw_al 0), (26, tw_gi 6 2), (29, tw_il 2), (30, tw_ias 0 22), (31, tw_al 0), (32, tw_dup), (33, tw_gi 6 2), (36, tw_ic 1), (37, tw_bin (· + ·)), (38, tw_pi 6 2), (41, tw_ic 1), (42, tw_rz)]
set_option maxRecDepth 100000 in
set_option maxHeartbeats 4000000 in
theorem ok_In_append {p : Program} {l : Launch} {e : Env} {s : State} {m : MethodId} {args : Array Value} {below : List Frame} {meth : Method} {c : Code} {E : tw_E} {D : va_G} {ρ : tw_R} (hC : tw_Cx p s m args meth c b_In_append 3 (some .boolean) "TwinHost$Inputs" E D) : tw_Ok p l e (tw_rmd 0) s m args below meth c 0 0 (MQ below (tw_Qc E D ρ) args s 0 0 (tw_A E)) 3 E D ρ pr_In_append :=
  ⟨ts_aload_n hC d_In_append_0 rfl,
   ts_gi (j := 2) (C := R_In) (T := T_In) hC rfl rfl rfl (by decide) u_In wd_65 rfl d_In_append_1,
   ts_bipush hC d_In_append_4 (by decide),
   ts_clt hC d_In_append_6 (by decide),
   ts_iconst hC d_In_append_9 (by decide),
   ts_zret hC rfl d_In_append_10,
   ts_aload_n hC d_In_append_11 rfl,
   ts_gr (j := 0) (C := R_In) (T := T_In) hC rfl rfl rfl (by decide) u_In wd_62 rfl d_In_append_12,
   ts_aload_n hC d_In_append_15 rfl,
   ts_gi (j := 2) (C := R_In) (T := T_In) hC rfl rfl rfl (by decide) u_In wd_65 rfl d_In_append_16,
   ts_iload_n hC d_In_append_19 rfl,
   ts_iastore hC d_In_append_20,
   ts_aload_n hC d_In_append_21 rfl,
   ts_gr (j := 1) (C := R_In) (T := T_In) hC rfl rfl rfl (by decide) u_In wd_63 rfl d_In_append_22,
   ts_aload_n hC d_In_append_25 rfl,
   ts_gi (j := 2) (C := R_In) (T := T_In) hC rfl rfl rfl (by decide) u_In wd_65 rfl d_In_append_26,
   ts_iload_n hC d_In_append_29 rfl,
   ts_iastore hC d_In_append_30,
   ts_aload_n hC d_In_append_31 rfl,
   ts_dup hC d_In_append_32,
   ts_gi (j := 2) (C := R_In) (T := T_In) hC rfl rfl rfl (by decide) u_In wd_65 rfl d_In_append_33,
   ts_iconst hC d_In_append_36 (by decide),
   ts_iadd hC d_In_append_37,
   ts_pi (j := 2) (C := R_In) (T := T_In) hC rfl rfl rfl (by decide) u_In wd_65 rfl t_In_ok n_In rfl (by decide +kernel) d_In_append_38,
   ts_iconst hC d_In_append_41 (by decide),
   ts_zret hC rfl d_In_append_42,
   trivial⟩
def fn_In_append : tw_Fn := tw_fn 3 3 28 pr_In_append
theorem con_In_append : tw_Con y_In_append b_In_append 3 (some .boolean) 0 fn_In_append := tw_met (by decide +kernel) (tw_fn_len (n := 3) (by decide)) (fun p l e s m args below meth c E D vs σ ρ hC h => tw_sound (ok_In_append hC) 28 pr_In_append (ok_In_append hC) _ _ _ (tw_fn_get h))

-- TwinHost$Inputs.isThere(I)Z: 13 instructions, depth 0, calls 
theorem d_In_isThere_0 : decode b_In_isThere 0 = .ok (.aload_n 0, 1) := by decide +kernel
theorem d_In_isThere_1 : decode b_In_isThere 1 = .ok (.getfield 16, 3) := by decide +kernel
theorem d_In_isThere_4 : decode b_In_isThere 4 = .ok (.ifCond .le 17, 3) := by decide +kernel
theorem d_In_isThere_7 : decode b_In_isThere 7 = .ok (.aload_n 0, 1) := by decide +kernel
theorem d_In_isThere_8 : decode b_In_isThere 8 = .ok (.getfield 9, 3) := by decide +kernel
theorem d_In_isThere_11 : decode b_In_isThere 11 = .ok (.iconst 0, 1) := by decide +kernel
theorem d_In_isThere_12 : decode b_In_isThere 12 = .ok (.iaload, 1) := by decide +kernel
theorem d_In_isThere_13 : decode b_In_isThere 13 = .ok (.iload_n 1, 1) := by decide +kernel
theorem d_In_isThere_14 : decode b_In_isThere 14 = .ok (.if_icmp .gt 7, 3) := by decide +kernel
theorem d_In_isThere_17 : decode b_In_isThere 17 = .ok (.iconst 1, 1) := by decide +kernel
theorem d_In_isThere_18 : decode b_In_isThere 18 = .ok (.goto 4, 3) := by decide +kernel
theorem d_In_isThere_21 : decode b_In_isThere 21 = .ok (.iconst 0, 1) := by decide +kernel
theorem d_In_isThere_22 : decode b_In_isThere 22 = .ok (.ireturn, 1) := by decide +kernel
def pr_In_isThere : List (Nat × tw_Op) := [(0, tw_al 0), (1, tw_gi 6 2), (4, tw_ifle 21), (7, tw_al 0), (8, tw_gr 6 7), (11, tw_ic 0), (12, tw_ia), (13, tw_il 1), (14, tw_cgt 21), (17, tw_ic 1), (18, tw_jmp 22), (21, tw_ic 0), (22, tw_rz)]
set_option maxRecDepth 100000 in
set_option maxHeartbeats 4000000 in
theorem ok_In_isThere {p : Program} {l : Launch} {e : Env} {s : State} {m : MethodId} {args : Array Value} {below : List Frame} {meth : Method} {c : Code} {E : tw_E} {D : va_G} {ρ : tw_R} (hC : tw_Cx p s m args meth c b_In_isThere 2 (some .boolean) "TwinHost$Inputs" E D) : tw_Ok p l e (tw_rmd 0) s m args below meth c 0 0 (MQ below (tw_Qc E D ρ) args s 0 0 (tw_A E)) 2 E D ρ pr_In_isThere :=
  ⟨ts_aload_n hC d_In_isThere_0 rfl,
   ts_gi (j := 2) (C := R_In) (T := T_In) hC rfl rfl rfl (by decide) u_In wd_65 rfl d_In_isThere_1,
   ts_ifle hC d_In_isThere_4 (by decide),
   ts_aload_n hC d_In_isThere_7 rfl,
   ts_gr (j := 0) (C := R_In) (T := T_In) hC rfl rfl rfl (by decide) u_In wd_62 rfl d_In_isThere_8,
   ts_iconst hC d_In_isThere_11 (by decide),
   ts_iaload hC d_In_isThere_12,
   ts_iload_n hC d_In_isThere_13 rfl,
   ts_cgt hC d_In_isThere_14 (by decide),
   ts_iconst hC d_In_isThere_17 (by decide),
   ts_goto hC d_In_isThere_18 (by decide),
   ts_iconst hC d_In_isThere_21 (by decide),
   ts_zret hC rfl d_In_isThere_22,
   trivial⟩
def fn_In_isThere : tw_Fn := tw_fn 2 2 15 pr_In_isThere
theorem con_In_isThere : tw_Con y_In_isThere b_In_isThere 2 (some .boolean) 0 fn_In_isThere := tw_met (by decide +kernel) (tw_fn_len (n := 2) (by decide)) (fun p l e s m args below meth c E D vs σ ρ hC h => tw_sound (ok_In_isThere hC) 15 pr_In_isThere (ok_In_isThere hC) _ _ _ (tw_fn_get h))

-- TwinHost$Inputs.removeFirst()V: 39 instructions, depth 0, calls 
theorem d_In_removeFirst_0 : decode b_In_removeFirst 0 = .ok (.aload_n 0, 1) := by decide +kernel
theorem d_In_removeFirst_1 : decode b_In_removeFirst 1 = .ok (.getfield 16, 3) := by decide +kernel
theorem d_In_removeFirst_4 : decode b_In_removeFirst 4 = .ok (.ifCond .ne 4, 3) := by decide +kernel
theorem d_In_removeFirst_7 : decode b_In_removeFirst 7 = .ok (.return_, 1) := by decide +kernel
theorem d_In_removeFirst_8 : decode b_In_removeFirst 8 = .ok (.aload_n 0, 1) := by decide +kernel
theorem d_In_removeFirst_9 : decode b_In_removeFirst 9 = .ok (.dup, 1) := by decide +kernel
theorem d_In_removeFirst_10 : decode b_In_removeFirst 10 = .ok (.getfield 16, 3) := by decide +kernel
theorem d_In_removeFirst_13 : decode b_In_removeFirst 13 = .ok (.iconst 1, 1) := by decide +kernel
theorem d_In_removeFirst_14 : decode b_In_removeFirst 14 = .ok (.isub, 1) := by decide +kernel
theorem d_In_removeFirst_15 : decode b_In_removeFirst 15 = .ok (.putfield 16, 3) := by decide +kernel
theorem d_In_removeFirst_18 : decode b_In_removeFirst 18 = .ok (.iconst 0, 1) := by decide +kernel
theorem d_In_removeFirst_19 : decode b_In_removeFirst 19 = .ok (.istore_n 1, 1) := by decide +kernel
theorem d_In_removeFirst_20 : decode b_In_removeFirst 20 = .ok (.iload_n 1, 1) := by decide +kernel
theorem d_In_removeFirst_21 : decode b_In_removeFirst 21 = .ok (.aload_n 0, 1) := by decide +kernel
theorem d_In_removeFirst_22 : decode b_In_removeFirst 22 = .ok (.getfield 16, 3) := by decide +kernel
theorem d_In_removeFirst_25 : decode b_In_removeFirst 25 = .ok (.if_icmp .ge 37, 3) := by decide +kernel
theorem d_In_removeFirst_28 : decode b_In_removeFirst 28 = .ok (.aload_n 0, 1) := by decide +kernel
theorem d_In_removeFirst_29 : decode b_In_removeFirst 29 = .ok (.getfield 9, 3) := by decide +kernel
theorem d_In_removeFirst_32 : decode b_In_removeFirst 32 = .ok (.iload_n 1, 1) := by decide +kernel
theorem d_In_removeFirst_33 : decode b_In_removeFirst 33 = .ok (.aload_n 0, 1) := by decide +kernel
theorem d_In_removeFirst_34 : decode b_In_removeFirst 34 = .ok (.getfield 9, 3) := by decide +kernel
theorem d_In_removeFirst_37 : decode b_In_removeFirst 37 = .ok (.iload_n 1, 1) := by decide +kernel
theorem d_In_removeFirst_38 : decode b_In_removeFirst 38 = .ok (.iconst 1, 1) := by decide +kernel
theorem d_In_removeFirst_39 : decode b_In_removeFirst 39 = .ok (.iadd, 1) := by decide +kernel
theorem d_In_removeFirst_40 : decode b_In_removeFirst 40 = .ok (.iaload, 1) := by decide +kernel
theorem d_In_removeFirst_41 : decode b_In_removeFirst 41 = .ok (.iastore, 1) := by decide +kernel
theorem d_In_removeFirst_42 : decode b_In_removeFirst 42 = .ok (.aload_n 0, 1) := by decide +kernel
theorem d_In_removeFirst_43 : decode b_In_removeFirst 43 = .ok (.getfield 13, 3) := by decide +kernel
theorem d_In_removeFirst_46 : decode b_In_removeFirst 46 = .ok (.iload_n 1, 1) := by decide +kernel
theorem d_In_removeFirst_47 : decode b_In_removeFirst 47 = .ok (.aload_n 0, 1) := by decide +kernel
theorem d_In_removeFirst_48 : decode b_In_removeFirst 48 = .ok (.getfield 13, 3) := by decide +kernel
theorem d_In_removeFirst_51 : decode b_In_removeFirst 51 = .ok (.iload_n 1, 1) := by decide +kernel
theorem d_In_removeFirst_52 : decode b_In_removeFirst 52 = .ok (.iconst 1, 1) := by decide +kernel
theorem d_In_removeFirst_53 : decode b_In_removeFirst 53 = .ok (.iadd, 1) := by decide +kernel
theorem d_In_removeFirst_54 : decode b_In_removeFirst 54 = .ok (.iaload, 1) := by decide +kernel
theorem d_In_removeFirst_55 : decode b_In_removeFirst 55 = .ok (.iastore, 1) := by decide +kernel
theorem d_In_removeFirst_56 : decode b_In_removeFirst 56 = .ok (.iinc 1 1, 3) := by decide +kernel
theorem d_In_removeFirst_59 : decode b_In_removeFirst 59 = .ok (.goto (-39), 3) := by decide +kernel
theorem d_In_removeFirst_62 : decode b_In_removeFirst 62 = .ok (.return_, 1) := by decide +kernel
def pr_In_removeFirst : List (Nat × tw_Op) := [(0, tw_al 0), (1, tw_gi 6 2), (4, tw_ifne 8), (7, tw_r0), (8, tw_al 0), (9, tw_dup), (10, tw_gi 6 2), (13, tw_ic 1), (14, tw_bin (· - ·)), (15, tw_pi 6 2), (18, tw_ic 0), (19, tw_is 1), (20, tw_il 1), (21, tw_al 0), (22, tw_gi 6 2), (25, tw_cge 62), (28, tw_al 0), (29, tw_gr 6 7), (32, tw_il 1), (33, tw_al 0), (34, tw_gr 6 7), (37, tw_il 1), (38, tw_ic 1), (39, tw_bin (· + ·)), (40, tw_ia), (41, tw_ias 0 22), (42, tw_al 0), (43, tw_gr 6 8), (46, tw_il 1), (47, tw_al 0), (48, tw_gr 6 8), (51, tw_il 1), (52, tw_ic 1), (53, tw_bin (· + ·)), (54, tw_ia), (55, tw_ias 0 22), (56, tw_inc 1 (1)), (59, tw_jmp 20), (62, tw_r0)]
set_option maxRecDepth 100000 in
set_option maxHeartbeats 4000000 in
theorem ok_In_removeFirst {p : Program} {l : Launch} {e : Env} {s : State} {m : MethodId} {args : Array Value} {below : List Frame} {meth : Method} {c : Code} {E : tw_E} {D : va_G} {ρ : tw_R} (hC : tw_Cx p s m args meth c b_In_removeFirst 2 none "TwinHost$Inputs" E D) : tw_Ok p l e (tw_rmd 0) s m args below meth c 0 0 (MQ below (tw_Qc E D ρ) args s 0 0 (tw_A E)) 2 E D ρ pr_In_removeFirst :=
  ⟨ts_aload_n hC d_In_removeFirst_0 rfl,
   ts_gi (j := 2) (C := R_In) (T := T_In) hC rfl rfl rfl (by decide) u_In wd_65 rfl d_In_removeFirst_1,
   ts_ifne hC d_In_removeFirst_4 (by decide),
   ts_vret hC rfl d_In_removeFirst_7,
   ts_aload_n hC d_In_removeFirst_8 rfl,
   ts_dup hC d_In_removeFirst_9,
   ts_gi (j := 2) (C := R_In) (T := T_In) hC rfl rfl rfl (by decide) u_In wd_65 rfl d_In_removeFirst_10,
   ts_iconst hC d_In_removeFirst_13 (by decide),
   ts_isub hC d_In_removeFirst_14,
   ts_pi (j := 2) (C := R_In) (T := T_In) hC rfl rfl rfl (by decide) u_In wd_65 rfl t_In_ok n_In rfl (by decide +kernel) d_In_removeFirst_15,
   ts_iconst hC d_In_removeFirst_18 (by decide),
   ts_istore_n hC d_In_removeFirst_19 rfl (by decide),
   ts_iload_n hC d_In_removeFirst_20 rfl,
   ts_aload_n hC d_In_removeFirst_21 rfl,
   ts_gi (j := 2) (C := R_In) (T := T_In) hC rfl rfl rfl (by decide) u_In wd_65 rfl d_In_removeFirst_22,
   ts_cge hC d_In_removeFirst_25 (by decide),
   ts_aload_n hC d_In_removeFirst_28 rfl,
   ts_gr (j := 0) (C := R_In) (T := T_In) hC rfl rfl rfl (by decide) u_In wd_62 rfl d_In_removeFirst_29,
   ts_iload_n hC d_In_removeFirst_32 rfl,
   ts_aload_n hC d_In_removeFirst_33 rfl,
   ts_gr (j := 0) (C := R_In) (T := T_In) hC rfl rfl rfl (by decide) u_In wd_62 rfl d_In_removeFirst_34,
   ts_iload_n hC d_In_removeFirst_37 rfl,
   ts_iconst hC d_In_removeFirst_38 (by decide),
   ts_iadd hC d_In_removeFirst_39,
   ts_iaload hC d_In_removeFirst_40,
   ts_iastore hC d_In_removeFirst_41,
   ts_aload_n hC d_In_removeFirst_42 rfl,
   ts_gr (j := 1) (C := R_In) (T := T_In) hC rfl rfl rfl (by decide) u_In wd_63 rfl d_In_removeFirst_43,
   ts_iload_n hC d_In_removeFirst_46 rfl,
   ts_aload_n hC d_In_removeFirst_47 rfl,
   ts_gr (j := 1) (C := R_In) (T := T_In) hC rfl rfl rfl (by decide) u_In wd_63 rfl d_In_removeFirst_48,
   ts_iload_n hC d_In_removeFirst_51 rfl,
   ts_iconst hC d_In_removeFirst_52 (by decide),
   ts_iadd hC d_In_removeFirst_53,
   ts_iaload hC d_In_removeFirst_54,
   ts_iastore hC d_In_removeFirst_55,
   ts_iinc hC d_In_removeFirst_56 (by decide) (by decide),
   ts_goto hC d_In_removeFirst_59 (by decide),
   ts_vret hC rfl d_In_removeFirst_62,
   trivial⟩
def fn_In_removeFirst : tw_Fn := tw_fn 1 2 400 pr_In_removeFirst
theorem con_In_removeFirst : tw_Con y_In_removeFirst b_In_removeFirst 2 none 0 fn_In_removeFirst := tw_met (by decide +kernel) (tw_fn_len (n := 1) (by decide)) (fun p l e s m args below meth c E D vs σ ρ hC h => tw_sound (ok_In_removeFirst hC) 400 pr_In_removeFirst (ok_In_removeFirst hC) _ _ _ (tw_fn_get h))

-- TwinHost$Shadows.clear()V: 13 instructions, depth 0, calls 
theorem d_Sh_clear_0 : decode b_Sh_clear 0 = .ok (.iconst 0, 1) := by decide +kernel
theorem d_Sh_clear_1 : decode b_Sh_clear 1 = .ok (.istore_n 1, 1) := by decide +kernel
theorem d_Sh_clear_2 : decode b_Sh_clear 2 = .ok (.iload_n 1, 1) := by decide +kernel
theorem d_Sh_clear_3 : decode b_Sh_clear 3 = .ok (.bipush 16, 2) := by decide +kernel
theorem d_Sh_clear_5 : decode b_Sh_clear 5 = .ok (.if_icmp .ge 16, 3) := by decide +kernel
theorem d_Sh_clear_8 : decode b_Sh_clear 8 = .ok (.aload_n 0, 1) := by decide +kernel
theorem d_Sh_clear_9 : decode b_Sh_clear 9 = .ok (.getfield 9, 3) := by decide +kernel
theorem d_Sh_clear_12 : decode b_Sh_clear 12 = .ok (.iload_n 1, 1) := by decide +kernel
theorem d_Sh_clear_13 : decode b_Sh_clear 13 = .ok (.iconst (-1), 1) := by decide +kernel
theorem d_Sh_clear_14 : decode b_Sh_clear 14 = .ok (.iastore, 1) := by decide +kernel
theorem d_Sh_clear_15 : decode b_Sh_clear 15 = .ok (.iinc 1 1, 3) := by decide +kernel
theorem d_Sh_clear_18 : decode b_Sh_clear 18 = .ok (.goto (-16), 3) := by decide +kernel
theorem d_Sh_clear_21 : decode b_Sh_clear 21 = .ok (.return_, 1) := by decide +kernel
def pr_Sh_clear : List (Nat × tw_Op) := [(0, tw_ic 0), (1, tw_is 1), (2, tw_il 1), (3, tw_ic (16)), (5, tw_cge 21), (8, tw_al 0), (9, tw_gr 9 10), (12, tw_il 1), (13, tw_ic (-1)), (14, tw_ias 0 22), (15, tw_inc 1 (1)), (18, tw_jmp 2), (21, tw_r0)]
set_option maxRecDepth 100000 in
set_option maxHeartbeats 4000000 in
theorem ok_Sh_clear {p : Program} {l : Launch} {e : Env} {s : State} {m : MethodId} {args : Array Value} {below : List Frame} {meth : Method} {c : Code} {E : tw_E} {D : va_G} {ρ : tw_R} (hC : tw_Cx p s m args meth c b_Sh_clear 2 none "TwinHost$Shadows" E D) : tw_Ok p l e (tw_rmd 0) s m args below meth c 0 0 (MQ below (tw_Qc E D ρ) args s 0 0 (tw_A E)) 2 E D ρ pr_Sh_clear :=
  ⟨ts_iconst hC d_Sh_clear_0 (by decide),
   ts_istore_n hC d_Sh_clear_1 rfl (by decide),
   ts_iload_n hC d_Sh_clear_2 rfl,
   ts_bipush hC d_Sh_clear_3 (by decide),
   ts_cge hC d_Sh_clear_5 (by decide),
   ts_aload_n hC d_Sh_clear_8 rfl,
   ts_gr (j := 0) (C := R_Sh) (T := T_Sh) hC rfl rfl rfl (by decide) u_Sh wd_94 rfl d_Sh_clear_9,
   ts_iload_n hC d_Sh_clear_12 rfl,
   ts_iconst hC d_Sh_clear_13 (by decide),
   ts_iastore hC d_Sh_clear_14,
   ts_iinc hC d_Sh_clear_15 (by decide) (by decide),
   ts_goto hC d_Sh_clear_18 (by decide),
   ts_vret hC rfl d_Sh_clear_21,
   trivial⟩
def fn_Sh_clear : tw_Fn := tw_fn 1 2 400 pr_Sh_clear
theorem con_Sh_clear : tw_Con y_Sh_clear b_Sh_clear 2 none 0 fn_Sh_clear := tw_met (by decide +kernel) (tw_fn_len (n := 1) (by decide)) (fun p l e s m args below meth c E D vs σ ρ hC h => tw_sound (ok_Sh_clear hC) 400 pr_Sh_clear (ok_Sh_clear hC) _ _ _ (tw_fn_get h))

-- TwinHost$Shadows.describe(I)I: 35 instructions, depth 0, calls 
theorem d_Sh_describe_0 : decode b_Sh_describe 0 = .ok (.aload_n 0, 1) := by decide +kernel
theorem d_Sh_describe_1 : decode b_Sh_describe 1 = .ok (.getfield 9, 3) := by decide +kernel
theorem d_Sh_describe_4 : decode b_Sh_describe 4 = .ok (.iload_n 1, 1) := by decide +kernel
theorem d_Sh_describe_5 : decode b_Sh_describe 5 = .ok (.iaload, 1) := by decide +kernel
theorem d_Sh_describe_6 : decode b_Sh_describe 6 = .ok (.iconst (-1), 1) := by decide +kernel
theorem d_Sh_describe_7 : decode b_Sh_describe 7 = .ok (.if_icmp .ne 5, 3) := by decide +kernel
theorem d_Sh_describe_10 : decode b_Sh_describe 10 = .ok (.iconst (-1), 1) := by decide +kernel
theorem d_Sh_describe_11 : decode b_Sh_describe 11 = .ok (.ireturn, 1) := by decide +kernel
theorem d_Sh_describe_12 : decode b_Sh_describe 12 = .ok (.aload_n 0, 1) := by decide +kernel
theorem d_Sh_describe_13 : decode b_Sh_describe 13 = .ok (.getfield 15, 3) := by decide +kernel
theorem d_Sh_describe_16 : decode b_Sh_describe 16 = .ok (.iload_n 1, 1) := by decide +kernel
theorem d_Sh_describe_17 : decode b_Sh_describe 17 = .ok (.iaload, 1) := by decide +kernel
theorem d_Sh_describe_18 : decode b_Sh_describe 18 = .ok (.bipush (-65), 2) := by decide +kernel
theorem d_Sh_describe_20 : decode b_Sh_describe 20 = .ok (.iand, 1) := by decide +kernel
theorem d_Sh_describe_21 : decode b_Sh_describe 21 = .ok (.istore_n 2, 1) := by decide +kernel
theorem d_Sh_describe_22 : decode b_Sh_describe 22 = .ok (.aload_n 0, 1) := by decide +kernel
theorem d_Sh_describe_23 : decode b_Sh_describe 23 = .ok (.getfield 9, 3) := by decide +kernel
theorem d_Sh_describe_26 : decode b_Sh_describe 26 = .ok (.iload_n 1, 1) := by decide +kernel
theorem d_Sh_describe_27 : decode b_Sh_describe 27 = .ok (.iaload, 1) := by decide +kernel
theorem d_Sh_describe_28 : decode b_Sh_describe 28 = .ok (.bipush 8, 2) := by decide +kernel
theorem d_Sh_describe_30 : decode b_Sh_describe 30 = .ok (.iload_n 2, 1) := by decide +kernel
theorem d_Sh_describe_31 : decode b_Sh_describe 31 = .ok (.imul, 1) := by decide +kernel
theorem d_Sh_describe_32 : decode b_Sh_describe 32 = .ok (.iadd, 1) := by decide +kernel
theorem d_Sh_describe_33 : decode b_Sh_describe 33 = .ok (.aload_n 0, 1) := by decide +kernel
theorem d_Sh_describe_34 : decode b_Sh_describe 34 = .ok (.getfield 15, 3) := by decide +kernel
theorem d_Sh_describe_37 : decode b_Sh_describe 37 = .ok (.iload_n 1, 1) := by decide +kernel
theorem d_Sh_describe_38 : decode b_Sh_describe 38 = .ok (.iaload, 1) := by decide +kernel
theorem d_Sh_describe_39 : decode b_Sh_describe 39 = .ok (.bipush 64, 2) := by decide +kernel
theorem d_Sh_describe_41 : decode b_Sh_describe 41 = .ok (.iand, 1) := by decide +kernel
theorem d_Sh_describe_42 : decode b_Sh_describe 42 = .ok (.ifCond .eq 9, 3) := by decide +kernel
theorem d_Sh_describe_45 : decode b_Sh_describe 45 = .ok (.sipush 512, 3) := by decide +kernel
theorem d_Sh_describe_48 : decode b_Sh_describe 48 = .ok (.goto 4, 3) := by decide +kernel
theorem d_Sh_describe_51 : decode b_Sh_describe 51 = .ok (.iconst 0, 1) := by decide +kernel
theorem d_Sh_describe_52 : decode b_Sh_describe 52 = .ok (.iadd, 1) := by decide +kernel
theorem d_Sh_describe_53 : decode b_Sh_describe 53 = .ok (.ireturn, 1) := by decide +kernel
def pr_Sh_describe : List (Nat × tw_Op) := [(0, tw_al 0), (1, tw_gr 9 10), (4, tw_il 1), (5, tw_ia), (6, tw_ic (-1)), (7, tw_cne 12), (10, tw_ic (-1)), (11, tw_ri), (12, tw_al 0), (13, tw_gr 9 11), (16, tw_il 1), (17, tw_ia), (18, tw_ic (-65)), (20, tw_bin (· &&& ·)), (21, tw_is 2), (22, tw_al 0), (23, tw_gr 9 10), (26, tw_il 1), (27, tw_ia), (28, tw_ic (8)), (30, tw_il 2), (31, tw_bin (· * ·)), (32, tw_bin (· + ·)), (33, tw_al 0), (34, tw_gr 9 11), (37, tw_il 1), (38, tw_ia), (39, tw_ic (64)), (41, tw_bin (· &&& ·)), (42, tw_ifeq 51), (45, tw_ic (512)), (48, tw_jmp 52), (51, tw_ic 0), (52, tw_bin (· + ·)), (53, tw_ri)]
set_option maxRecDepth 100000 in
set_option maxHeartbeats 4000000 in
theorem ok_Sh_describe {p : Program} {l : Launch} {e : Env} {s : State} {m : MethodId} {args : Array Value} {below : List Frame} {meth : Method} {c : Code} {E : tw_E} {D : va_G} {ρ : tw_R} (hC : tw_Cx p s m args meth c b_Sh_describe 3 (some .int) "TwinHost$Shadows" E D) : tw_Ok p l e (tw_rmd 0) s m args below meth c 0 0 (MQ below (tw_Qc E D ρ) args s 0 0 (tw_A E)) 3 E D ρ pr_Sh_describe :=
  ⟨ts_aload_n hC d_Sh_describe_0 rfl,
   ts_gr (j := 0) (C := R_Sh) (T := T_Sh) hC rfl rfl rfl (by decide) u_Sh wd_94 rfl d_Sh_describe_1,
   ts_iload_n hC d_Sh_describe_4 rfl,
   ts_iaload hC d_Sh_describe_5,
   ts_iconst hC d_Sh_describe_6 (by decide),
   ts_cne hC d_Sh_describe_7 (by decide),
   ts_iconst hC d_Sh_describe_10 (by decide),
   ts_iret hC rfl d_Sh_describe_11,
   ts_aload_n hC d_Sh_describe_12 rfl,
   ts_gr (j := 1) (C := R_Sh) (T := T_Sh) hC rfl rfl rfl (by decide) u_Sh wd_96 rfl d_Sh_describe_13,
   ts_iload_n hC d_Sh_describe_16 rfl,
   ts_iaload hC d_Sh_describe_17,
   ts_bipush hC d_Sh_describe_18 (by decide),
   ts_iand hC d_Sh_describe_20,
   ts_istore_n hC d_Sh_describe_21 rfl (by decide),
   ts_aload_n hC d_Sh_describe_22 rfl,
   ts_gr (j := 0) (C := R_Sh) (T := T_Sh) hC rfl rfl rfl (by decide) u_Sh wd_94 rfl d_Sh_describe_23,
   ts_iload_n hC d_Sh_describe_26 rfl,
   ts_iaload hC d_Sh_describe_27,
   ts_bipush hC d_Sh_describe_28 (by decide),
   ts_iload_n hC d_Sh_describe_30 rfl,
   ts_imul hC d_Sh_describe_31,
   ts_iadd hC d_Sh_describe_32,
   ts_aload_n hC d_Sh_describe_33 rfl,
   ts_gr (j := 1) (C := R_Sh) (T := T_Sh) hC rfl rfl rfl (by decide) u_Sh wd_96 rfl d_Sh_describe_34,
   ts_iload_n hC d_Sh_describe_37 rfl,
   ts_iaload hC d_Sh_describe_38,
   ts_bipush hC d_Sh_describe_39 (by decide),
   ts_iand hC d_Sh_describe_41,
   ts_ifeq hC d_Sh_describe_42 (by decide),
   ts_sipush hC d_Sh_describe_45 (by decide),
   ts_goto hC d_Sh_describe_48 (by decide),
   ts_iconst hC d_Sh_describe_51 (by decide),
   ts_iadd hC d_Sh_describe_52,
   ts_iret hC rfl d_Sh_describe_53,
   trivial⟩
def fn_Sh_describe : tw_Fn := tw_fn 2 3 37 pr_Sh_describe
theorem con_Sh_describe : tw_Con y_Sh_describe b_Sh_describe 3 (some .int) 0 fn_Sh_describe := tw_met (by decide +kernel) (tw_fn_len (n := 2) (by decide)) (fun p l e s m args below meth c E D vs σ ρ hC h => tw_sound (ok_Sh_describe hC) 37 pr_Sh_describe (ok_Sh_describe hC) _ _ _ (tw_fn_get h))

-- TwinHost$Shadows.dropThoseOf(I)I: 35 instructions, depth 0, calls 
theorem d_Sh_dropThoseOf_0 : decode b_Sh_dropThoseOf 0 = .ok (.iconst 0, 1) := by decide +kernel
theorem d_Sh_dropThoseOf_1 : decode b_Sh_dropThoseOf 1 = .ok (.istore_n 2, 1) := by decide +kernel
theorem d_Sh_dropThoseOf_2 : decode b_Sh_dropThoseOf 2 = .ok (.iconst 0, 1) := by decide +kernel
theorem d_Sh_dropThoseOf_3 : decode b_Sh_dropThoseOf 3 = .ok (.istore_n 3, 1) := by decide +kernel
theorem d_Sh_dropThoseOf_4 : decode b_Sh_dropThoseOf 4 = .ok (.iload_n 3, 1) := by decide +kernel
theorem d_Sh_dropThoseOf_5 : decode b_Sh_dropThoseOf 5 = .ok (.bipush 16, 2) := by decide +kernel
theorem d_Sh_dropThoseOf_7 : decode b_Sh_dropThoseOf 7 = .ok (.if_icmp .ge 49, 3) := by decide +kernel
theorem d_Sh_dropThoseOf_10 : decode b_Sh_dropThoseOf 10 = .ok (.aload_n 0, 1) := by decide +kernel
theorem d_Sh_dropThoseOf_11 : decode b_Sh_dropThoseOf 11 = .ok (.getfield 9, 3) := by decide +kernel
theorem d_Sh_dropThoseOf_14 : decode b_Sh_dropThoseOf 14 = .ok (.iload_n 3, 1) := by decide +kernel
theorem d_Sh_dropThoseOf_15 : decode b_Sh_dropThoseOf 15 = .ok (.iaload, 1) := by decide +kernel
theorem d_Sh_dropThoseOf_16 : decode b_Sh_dropThoseOf 16 = .ok (.iconst (-1), 1) := by decide +kernel
theorem d_Sh_dropThoseOf_17 : decode b_Sh_dropThoseOf 17 = .ok (.if_icmp .eq 33, 3) := by decide +kernel
theorem d_Sh_dropThoseOf_20 : decode b_Sh_dropThoseOf 20 = .ok (.aload_n 0, 1) := by decide +kernel
theorem d_Sh_dropThoseOf_21 : decode b_Sh_dropThoseOf 21 = .ok (.getfield 18, 3) := by decide +kernel
theorem d_Sh_dropThoseOf_24 : decode b_Sh_dropThoseOf 24 = .ok (.iload_n 3, 1) := by decide +kernel
theorem d_Sh_dropThoseOf_25 : decode b_Sh_dropThoseOf 25 = .ok (.iaload, 1) := by decide +kernel
theorem d_Sh_dropThoseOf_26 : decode b_Sh_dropThoseOf 26 = .ok (.iload_n 1, 1) := by decide +kernel
theorem d_Sh_dropThoseOf_27 : decode b_Sh_dropThoseOf 27 = .ok (.if_icmp .eq 13, 3) := by decide +kernel
theorem d_Sh_dropThoseOf_30 : decode b_Sh_dropThoseOf 30 = .ok (.aload_n 0, 1) := by decide +kernel
theorem d_Sh_dropThoseOf_31 : decode b_Sh_dropThoseOf 31 = .ok (.getfield 21, 3) := by decide +kernel
theorem d_Sh_dropThoseOf_34 : decode b_Sh_dropThoseOf 34 = .ok (.iload_n 3, 1) := by decide +kernel
theorem d_Sh_dropThoseOf_35 : decode b_Sh_dropThoseOf 35 = .ok (.iaload, 1) := by decide +kernel
theorem d_Sh_dropThoseOf_36 : decode b_Sh_dropThoseOf 36 = .ok (.iload_n 1, 1) := by decide +kernel
theorem d_Sh_dropThoseOf_37 : decode b_Sh_dropThoseOf 37 = .ok (.if_icmp .ne 13, 3) := by decide +kernel
theorem d_Sh_dropThoseOf_40 : decode b_Sh_dropThoseOf 40 = .ok (.aload_n 0, 1) := by decide +kernel
theorem d_Sh_dropThoseOf_41 : decode b_Sh_dropThoseOf 41 = .ok (.getfield 9, 3) := by decide +kernel
theorem d_Sh_dropThoseOf_44 : decode b_Sh_dropThoseOf 44 = .ok (.iload_n 3, 1) := by decide +kernel
theorem d_Sh_dropThoseOf_45 : decode b_Sh_dropThoseOf 45 = .ok (.iconst (-1), 1) := by decide +kernel
theorem d_Sh_dropThoseOf_46 : decode b_Sh_dropThoseOf 46 = .ok (.iastore, 1) := by decide +kernel
theorem d_Sh_dropThoseOf_47 : decode b_Sh_dropThoseOf 47 = .ok (.iinc 2 1, 3) := by decide +kernel
theorem d_Sh_dropThoseOf_50 : decode b_Sh_dropThoseOf 50 = .ok (.iinc 3 1, 3) := by decide +kernel
theorem d_Sh_dropThoseOf_53 : decode b_Sh_dropThoseOf 53 = .ok (.goto (-49), 3) := by decide +kernel
theorem d_Sh_dropThoseOf_56 : decode b_Sh_dropThoseOf 56 = .ok (.iload_n 2, 1) := by decide +kernel
theorem d_Sh_dropThoseOf_57 : decode b_Sh_dropThoseOf 57 = .ok (.ireturn, 1) := by decide +kernel
def pr_Sh_dropThoseOf : List (Nat × tw_Op) := [(0, tw_ic 0), (1, tw_is 2), (2, tw_ic 0), (3, tw_is 3), (4, tw_il 3), (5, tw_ic (16)), (7, tw_cge 56), (10, tw_al 0), (11, tw_gr 9 10), (14, tw_il 3), (15, tw_ia), (16, tw_ic (-1)), (17, tw_ceq 50), (20, tw_al 0), (21, tw_gr 9 12), (24, tw_il 3), (25, tw_ia), (26, tw_il 1), (27, tw_ceq 40), (30, tw_al 0), (31, tw_gr 9 13), (34, tw_il 3), (35, tw_ia), (36, tw_il 1), (37, tw_cne 50), (40, tw_al 0), (41, tw_gr 9 10), (44, tw_il 3), (45, tw_ic (-1)), (46, tw_ias 0 22), (47, tw_inc 2 (1)), (50, tw_inc 3 (1)), (53, tw_jmp 4), (56, tw_il 2), (57, tw_ri)]
set_option maxRecDepth 100000 in
set_option maxHeartbeats 4000000 in
theorem ok_Sh_dropThoseOf {p : Program} {l : Launch} {e : Env} {s : State} {m : MethodId} {args : Array Value} {below : List Frame} {meth : Method} {c : Code} {E : tw_E} {D : va_G} {ρ : tw_R} (hC : tw_Cx p s m args meth c b_Sh_dropThoseOf 4 (some .int) "TwinHost$Shadows" E D) : tw_Ok p l e (tw_rmd 0) s m args below meth c 0 0 (MQ below (tw_Qc E D ρ) args s 0 0 (tw_A E)) 4 E D ρ pr_Sh_dropThoseOf :=
  ⟨ts_iconst hC d_Sh_dropThoseOf_0 (by decide),
   ts_istore_n hC d_Sh_dropThoseOf_1 rfl (by decide),
   ts_iconst hC d_Sh_dropThoseOf_2 (by decide),
   ts_istore_n hC d_Sh_dropThoseOf_3 rfl (by decide),
   ts_iload_n hC d_Sh_dropThoseOf_4 rfl,
   ts_bipush hC d_Sh_dropThoseOf_5 (by decide),
   ts_cge hC d_Sh_dropThoseOf_7 (by decide),
   ts_aload_n hC d_Sh_dropThoseOf_10 rfl,
   ts_gr (j := 0) (C := R_Sh) (T := T_Sh) hC rfl rfl rfl (by decide) u_Sh wd_94 rfl d_Sh_dropThoseOf_11,
   ts_iload_n hC d_Sh_dropThoseOf_14 rfl,
   ts_iaload hC d_Sh_dropThoseOf_15,
   ts_iconst hC d_Sh_dropThoseOf_16 (by decide),
   ts_ceq hC d_Sh_dropThoseOf_17 (by decide),
   ts_aload_n hC d_Sh_dropThoseOf_20 rfl,
   ts_gr (j := 2) (C := R_Sh) (T := T_Sh) hC rfl rfl rfl (by decide) u_Sh wd_97 rfl d_Sh_dropThoseOf_21,
   ts_iload_n hC d_Sh_dropThoseOf_24 rfl,
   ts_iaload hC d_Sh_dropThoseOf_25,
   ts_iload_n hC d_Sh_dropThoseOf_26 rfl,
   ts_ceq hC d_Sh_dropThoseOf_27 (by decide),
   ts_aload_n hC d_Sh_dropThoseOf_30 rfl,
   ts_gr (j := 3) (C := R_Sh) (T := T_Sh) hC rfl rfl rfl (by decide) u_Sh wd_98 rfl d_Sh_dropThoseOf_31,
   ts_iload_n hC d_Sh_dropThoseOf_34 rfl,
   ts_iaload hC d_Sh_dropThoseOf_35,
   ts_iload_n hC d_Sh_dropThoseOf_36 rfl,
   ts_cne hC d_Sh_dropThoseOf_37 (by decide),
   ts_aload_n hC d_Sh_dropThoseOf_40 rfl,
   ts_gr (j := 0) (C := R_Sh) (T := T_Sh) hC rfl rfl rfl (by decide) u_Sh wd_94 rfl d_Sh_dropThoseOf_41,
   ts_iload_n hC d_Sh_dropThoseOf_44 rfl,
   ts_iconst hC d_Sh_dropThoseOf_45 (by decide),
   ts_iastore hC d_Sh_dropThoseOf_46,
   ts_iinc hC d_Sh_dropThoseOf_47 (by decide) (by decide),
   ts_iinc hC d_Sh_dropThoseOf_50 (by decide) (by decide),
   ts_goto hC d_Sh_dropThoseOf_53 (by decide),
   ts_iload_n hC d_Sh_dropThoseOf_56 rfl,
   ts_iret hC rfl d_Sh_dropThoseOf_57,
   trivial⟩
def fn_Sh_dropThoseOf : tw_Fn := tw_fn 2 4 1200 pr_Sh_dropThoseOf
theorem con_Sh_dropThoseOf : tw_Con y_Sh_dropThoseOf b_Sh_dropThoseOf 4 (some .int) 0 fn_Sh_dropThoseOf := tw_met (by decide +kernel) (tw_fn_len (n := 2) (by decide)) (fun p l e s m args below meth c E D vs σ ρ hC h => tw_sound (ok_Sh_dropThoseOf hC) 1200 pr_Sh_dropThoseOf (ok_Sh_dropThoseOf hC) _ _ _ (tw_fn_get h))

-- TwinHost$Shadows.isIn(II)Z: 12 instructions, depth 0, calls 
theorem d_Sh_isIn_0 : decode b_Sh_isIn 0 = .ok (.iload_n 0, 1) := by decide +kernel
theorem d_Sh_isIn_1 : decode b_Sh_isIn 1 = .ok (.iconst (-1), 1) := by decide +kernel
theorem d_Sh_isIn_2 : decode b_Sh_isIn 2 = .ok (.if_icmp .eq 14, 3) := by decide +kernel
theorem d_Sh_isIn_5 : decode b_Sh_isIn 5 = .ok (.iload_n 0, 1) := by decide +kernel
theorem d_Sh_isIn_6 : decode b_Sh_isIn 6 = .ok (.iconst 4, 1) := by decide +kernel
theorem d_Sh_isIn_7 : decode b_Sh_isIn 7 = .ok (.ishr, 1) := by decide +kernel
theorem d_Sh_isIn_8 : decode b_Sh_isIn 8 = .ok (.iload_n 1, 1) := by decide +kernel
theorem d_Sh_isIn_9 : decode b_Sh_isIn 9 = .ok (.if_icmp .ne 7, 3) := by decide +kernel
theorem d_Sh_isIn_12 : decode b_Sh_isIn 12 = .ok (.iconst 1, 1) := by decide +kernel
theorem d_Sh_isIn_13 : decode b_Sh_isIn 13 = .ok (.goto 4, 3) := by decide +kernel
theorem d_Sh_isIn_16 : decode b_Sh_isIn 16 = .ok (.iconst 0, 1) := by decide +kernel
theorem d_Sh_isIn_17 : decode b_Sh_isIn 17 = .ok (.ireturn, 1) := by decide +kernel
def pr_Sh_isIn : List (Nat × tw_Op) := [(0, tw_il 0), (1, tw_ic (-1)), (2, tw_ceq 16), (5, tw_il 0), (6, tw_ic 4), (7, tw_bin (fun x y => x >>> (y &&& 31))), (8, tw_il 1), (9, tw_cne 16), (12, tw_ic 1), (13, tw_jmp 17), (16, tw_ic 0), (17, tw_rz)]
set_option maxRecDepth 100000 in
set_option maxHeartbeats 4000000 in
theorem ok_Sh_isIn {p : Program} {l : Launch} {e : Env} {s : State} {m : MethodId} {args : Array Value} {below : List Frame} {meth : Method} {c : Code} {E : tw_E} {D : va_G} {ρ : tw_R} (hC : tw_Cx p s m args meth c b_Sh_isIn 2 (some .boolean) "TwinHost$Shadows" E D) : tw_Ok p l e (tw_rmd 0) s m args below meth c 0 0 (MQ below (tw_Qc E D ρ) args s 0 0 (tw_A E)) 2 E D ρ pr_Sh_isIn :=
  ⟨ts_iload_n hC d_Sh_isIn_0 rfl,
   ts_iconst hC d_Sh_isIn_1 (by decide),
   ts_ceq hC d_Sh_isIn_2 (by decide),
   ts_iload_n hC d_Sh_isIn_5 rfl,
   ts_iconst hC d_Sh_isIn_6 (by decide),
   ts_ishr hC d_Sh_isIn_7,
   ts_iload_n hC d_Sh_isIn_8 rfl,
   ts_cne hC d_Sh_isIn_9 (by decide),
   ts_iconst hC d_Sh_isIn_12 (by decide),
   ts_goto hC d_Sh_isIn_13 (by decide),
   ts_iconst hC d_Sh_isIn_16 (by decide),
   ts_zret hC rfl d_Sh_isIn_17,
   trivial⟩
def fn_Sh_isIn : tw_Fn := tw_fn 2 2 14 pr_Sh_isIn
theorem con_Sh_isIn : tw_Con y_Sh_isIn b_Sh_isIn 2 (some .boolean) 0 fn_Sh_isIn := tw_met (by decide +kernel) (tw_fn_len (n := 2) (by decide)) (fun p l e s m args below meth c E D vs σ ρ hC h => tw_sound (ok_Sh_isIn hC) 14 pr_Sh_isIn (ok_Sh_isIn hC) _ _ _ (tw_fn_get h))

-- TwinHost$Shadows.put(IILTwinHost$Walk;)V: 26 instructions, depth 0, calls 
theorem d_Sh_put_0 : decode b_Sh_put 0 = .ok (.aload_n 0, 1) := by decide +kernel
theorem d_Sh_put_1 : decode b_Sh_put 1 = .ok (.getfield 9, 3) := by decide +kernel
theorem d_Sh_put_4 : decode b_Sh_put 4 = .ok (.iload_n 1, 1) := by decide +kernel
theorem d_Sh_put_5 : decode b_Sh_put 5 = .ok (.aload_n 3, 1) := by decide +kernel
theorem d_Sh_put_6 : decode b_Sh_put 6 = .ok (.getfield 27, 3) := by decide +kernel
theorem d_Sh_put_9 : decode b_Sh_put 9 = .ok (.iastore, 1) := by decide +kernel
theorem d_Sh_put_10 : decode b_Sh_put 10 = .ok (.aload_n 0, 1) := by decide +kernel
theorem d_Sh_put_11 : decode b_Sh_put 11 = .ok (.getfield 15, 3) := by decide +kernel
theorem d_Sh_put_14 : decode b_Sh_put 14 = .ok (.iload_n 1, 1) := by decide +kernel
theorem d_Sh_put_15 : decode b_Sh_put 15 = .ok (.iload_n 2, 1) := by decide +kernel
theorem d_Sh_put_16 : decode b_Sh_put 16 = .ok (.bipush 94, 2) := by decide +kernel
theorem d_Sh_put_18 : decode b_Sh_put 18 = .ok (.iand, 1) := by decide +kernel
theorem d_Sh_put_19 : decode b_Sh_put 19 = .ok (.iastore, 1) := by decide +kernel
theorem d_Sh_put_20 : decode b_Sh_put 20 = .ok (.aload_n 0, 1) := by decide +kernel
theorem d_Sh_put_21 : decode b_Sh_put 21 = .ok (.getfield 18, 3) := by decide +kernel
theorem d_Sh_put_24 : decode b_Sh_put 24 = .ok (.iload_n 1, 1) := by decide +kernel
theorem d_Sh_put_25 : decode b_Sh_put 25 = .ok (.aload_n 3, 1) := by decide +kernel
theorem d_Sh_put_26 : decode b_Sh_put 26 = .ok (.getfield 35, 3) := by decide +kernel
theorem d_Sh_put_29 : decode b_Sh_put 29 = .ok (.iastore, 1) := by decide +kernel
theorem d_Sh_put_30 : decode b_Sh_put 30 = .ok (.aload_n 0, 1) := by decide +kernel
theorem d_Sh_put_31 : decode b_Sh_put 31 = .ok (.getfield 21, 3) := by decide +kernel
theorem d_Sh_put_34 : decode b_Sh_put 34 = .ok (.iload_n 1, 1) := by decide +kernel
theorem d_Sh_put_35 : decode b_Sh_put 35 = .ok (.aload_n 3, 1) := by decide +kernel
theorem d_Sh_put_36 : decode b_Sh_put 36 = .ok (.getfield 38, 3) := by decide +kernel
theorem d_Sh_put_39 : decode b_Sh_put 39 = .ok (.iastore, 1) := by decide +kernel
theorem d_Sh_put_40 : decode b_Sh_put 40 = .ok (.return_, 1) := by decide +kernel
def pr_Sh_put : List (Nat × tw_Op) := [(0, tw_al 0), (1, tw_gr 9 10), (4, tw_il 1), (5, tw_al 3), (6, tw_gi 14 3), (9, tw_ias 0 22), (10, tw_al 0), (11, tw_gr 9 11), (14, tw_il 1), (15, tw_il 2), (16, tw_ic (94)), (18, tw_bin (· &&& ·)), (19, tw_ias 0 22), (20, tw_al 0), (21, tw_gr 9 12), (24, tw_il 1), (25, tw_al 3), (26, tw_gi 14 0), (29, tw_ias 0 22), (30, tw_al 0), (31, tw_gr 9 13), (34, tw_il 1), (35, tw_al 3), (36, tw_gi 14 1), (39, tw_ias 0 22), (40, tw_r0)]
set_option maxRecDepth 100000 in
set_option maxHeartbeats 4000000 in
theorem ok_Sh_put {p : Program} {l : Launch} {e : Env} {s : State} {m : MethodId} {args : Array Value} {below : List Frame} {meth : Method} {c : Code} {E : tw_E} {D : va_G} {ρ : tw_R} (hC : tw_Cx p s m args meth c b_Sh_put 4 none "TwinHost$Shadows" E D) : tw_Ok p l e (tw_rmd 0) s m args below meth c 0 0 (MQ below (tw_Qc E D ρ) args s 0 0 (tw_A E)) 4 E D ρ pr_Sh_put :=
  ⟨ts_aload_n hC d_Sh_put_0 rfl,
   ts_gr (j := 0) (C := R_Sh) (T := T_Sh) hC rfl rfl rfl (by decide) u_Sh wd_94 rfl d_Sh_put_1,
   ts_iload_n hC d_Sh_put_4 rfl,
   ts_aload_n hC d_Sh_put_5 rfl,
   ts_gi (j := 3) (C := R_Wa) (T := T_Wa) hC rfl rfl rfl (by decide) u_Wa wd_121 rfl d_Sh_put_6,
   ts_iastore hC d_Sh_put_9,
   ts_aload_n hC d_Sh_put_10 rfl,
   ts_gr (j := 1) (C := R_Sh) (T := T_Sh) hC rfl rfl rfl (by decide) u_Sh wd_96 rfl d_Sh_put_11,
   ts_iload_n hC d_Sh_put_14 rfl,
   ts_iload_n hC d_Sh_put_15 rfl,
   ts_bipush hC d_Sh_put_16 (by decide),
   ts_iand hC d_Sh_put_18,
   ts_iastore hC d_Sh_put_19,
   ts_aload_n hC d_Sh_put_20 rfl,
   ts_gr (j := 2) (C := R_Sh) (T := T_Sh) hC rfl rfl rfl (by decide) u_Sh wd_97 rfl d_Sh_put_21,
   ts_iload_n hC d_Sh_put_24 rfl,
   ts_aload_n hC d_Sh_put_25 rfl,
   ts_gi (j := 0) (C := R_Wa) (T := T_Wa) hC rfl rfl rfl (by decide) u_Wa wd_115 rfl d_Sh_put_26,
   ts_iastore hC d_Sh_put_29,
   ts_aload_n hC d_Sh_put_30 rfl,
   ts_gr (j := 3) (C := R_Sh) (T := T_Sh) hC rfl rfl rfl (by decide) u_Sh wd_98 rfl d_Sh_put_31,
   ts_iload_n hC d_Sh_put_34 rfl,
   ts_aload_n hC d_Sh_put_35 rfl,
   ts_gi (j := 1) (C := R_Wa) (T := T_Wa) hC rfl rfl rfl (by decide) u_Wa wd_117 rfl d_Sh_put_36,
   ts_iastore hC d_Sh_put_39,
   ts_vret hC rfl d_Sh_put_40,
   trivial⟩
def fn_Sh_put : tw_Fn := tw_fn 4 4 28 pr_Sh_put
theorem con_Sh_put : tw_Con y_Sh_put b_Sh_put 4 none 0 fn_Sh_put := tw_met (by decide +kernel) (tw_fn_len (n := 4) (by decide)) (fun p l e s m args below meth c E D vs σ ρ hC h => tw_sound (ok_Sh_put hC) 28 pr_Sh_put (ok_Sh_put hC) _ _ _ (tw_fn_get h))

-- TwinHost.isGuest(I)Z: 9 instructions, depth 0, calls 
theorem d_TH_isGuest_0 : decode b_TH_isGuest 0 = .ok (.iload_n 0, 1) := by decide +kernel
theorem d_TH_isGuest_1 : decode b_TH_isGuest 1 = .ok (.ifCond .lt 12, 3) := by decide +kernel
theorem d_TH_isGuest_4 : decode b_TH_isGuest 4 = .ok (.iload_n 0, 1) := by decide +kernel
theorem d_TH_isGuest_5 : decode b_TH_isGuest 5 = .ok (.iconst 2, 1) := by decide +kernel
theorem d_TH_isGuest_6 : decode b_TH_isGuest 6 = .ok (.if_icmp .ge 7, 3) := by decide +kernel
theorem d_TH_isGuest_9 : decode b_TH_isGuest 9 = .ok (.iconst 1, 1) := by decide +kernel
theorem d_TH_isGuest_10 : decode b_TH_isGuest 10 = .ok (.goto 4, 3) := by decide +kernel
theorem d_TH_isGuest_13 : decode b_TH_isGuest 13 = .ok (.iconst 0, 1) := by decide +kernel
theorem d_TH_isGuest_14 : decode b_TH_isGuest 14 = .ok (.ireturn, 1) := by decide +kernel
def pr_TH_isGuest : List (Nat × tw_Op) := [(0, tw_il 0), (1, tw_iflt 13), (4, tw_il 0), (5, tw_ic 2), (6, tw_cge 13), (9, tw_ic 1), (10, tw_jmp 14), (13, tw_ic 0), (14, tw_rz)]
set_option maxRecDepth 100000 in
set_option maxHeartbeats 4000000 in
theorem ok_TH_isGuest {p : Program} {l : Launch} {e : Env} {s : State} {m : MethodId} {args : Array Value} {below : List Frame} {meth : Method} {c : Code} {E : tw_E} {D : va_G} {ρ : tw_R} (hC : tw_Cx p s m args meth c b_TH_isGuest 1 (some .boolean) "TwinHost" E D) : tw_Ok p l e (tw_rmd 0) s m args below meth c 0 0 (MQ below (tw_Qc E D ρ) args s 0 0 (tw_A E)) 1 E D ρ pr_TH_isGuest :=
  ⟨ts_iload_n hC d_TH_isGuest_0 rfl,
   ts_iflt hC d_TH_isGuest_1 (by decide),
   ts_iload_n hC d_TH_isGuest_4 rfl,
   ts_iconst hC d_TH_isGuest_5 (by decide),
   ts_cge hC d_TH_isGuest_6 (by decide),
   ts_iconst hC d_TH_isGuest_9 (by decide),
   ts_goto hC d_TH_isGuest_10 (by decide),
   ts_iconst hC d_TH_isGuest_13 (by decide),
   ts_zret hC rfl d_TH_isGuest_14,
   trivial⟩
def fn_TH_isGuest : tw_Fn := tw_fn 1 1 11 pr_TH_isGuest
theorem con_TH_isGuest : tw_Con y_TH_isGuest b_TH_isGuest 1 (some .boolean) 0 fn_TH_isGuest := tw_met (by decide +kernel) (tw_fn_len (n := 1) (by decide)) (fun p l e s m args below meth c E D vs σ ρ hC h => tw_sound (ok_TH_isGuest hC) 11 pr_TH_isGuest (ok_TH_isGuest hC) _ _ _ (tw_fn_get h))

-- TwinHost.isRegister(I)Z: 9 instructions, depth 0, calls 
theorem d_TH_isRegister_0 : decode b_TH_isRegister 0 = .ok (.iload_n 0, 1) := by decide +kernel
theorem d_TH_isRegister_1 : decode b_TH_isRegister 1 = .ok (.ifCond .lt 13, 3) := by decide +kernel
theorem d_TH_isRegister_4 : decode b_TH_isRegister 4 = .ok (.iload_n 0, 1) := by decide +kernel
theorem d_TH_isRegister_5 : decode b_TH_isRegister 5 = .ok (.bipush 8, 2) := by decide +kernel
theorem d_TH_isRegister_7 : decode b_TH_isRegister 7 = .ok (.if_icmp .ge 7, 3) := by decide +kernel
theorem d_TH_isRegister_10 : decode b_TH_isRegister 10 = .ok (.iconst 1, 1) := by decide +kernel
theorem d_TH_isRegister_11 : decode b_TH_isRegister 11 = .ok (.goto 4, 3) := by decide +kernel
theorem d_TH_isRegister_14 : decode b_TH_isRegister 14 = .ok (.iconst 0, 1) := by decide +kernel
theorem d_TH_isRegister_15 : decode b_TH_isRegister 15 = .ok (.ireturn, 1) := by decide +kernel
def pr_TH_isRegister : List (Nat × tw_Op) := [(0, tw_il 0), (1, tw_iflt 14), (4, tw_il 0), (5, tw_ic (8)), (7, tw_cge 14), (10, tw_ic 1), (11, tw_jmp 15), (14, tw_ic 0), (15, tw_rz)]
set_option maxRecDepth 100000 in
set_option maxHeartbeats 4000000 in
theorem ok_TH_isRegister {p : Program} {l : Launch} {e : Env} {s : State} {m : MethodId} {args : Array Value} {below : List Frame} {meth : Method} {c : Code} {E : tw_E} {D : va_G} {ρ : tw_R} (hC : tw_Cx p s m args meth c b_TH_isRegister 1 (some .boolean) "TwinHost" E D) : tw_Ok p l e (tw_rmd 0) s m args below meth c 0 0 (MQ below (tw_Qc E D ρ) args s 0 0 (tw_A E)) 1 E D ρ pr_TH_isRegister :=
  ⟨ts_iload_n hC d_TH_isRegister_0 rfl,
   ts_iflt hC d_TH_isRegister_1 (by decide),
   ts_iload_n hC d_TH_isRegister_4 rfl,
   ts_bipush hC d_TH_isRegister_5 (by decide),
   ts_cge hC d_TH_isRegister_7 (by decide),
   ts_iconst hC d_TH_isRegister_10 (by decide),
   ts_goto hC d_TH_isRegister_11 (by decide),
   ts_iconst hC d_TH_isRegister_14 (by decide),
   ts_zret hC rfl d_TH_isRegister_15,
   trivial⟩
def fn_TH_isRegister : tw_Fn := tw_fn 1 1 11 pr_TH_isRegister
theorem con_TH_isRegister : tw_Con y_TH_isRegister b_TH_isRegister 1 (some .boolean) 0 fn_TH_isRegister := tw_met (by decide +kernel) (tw_fn_len (n := 1) (by decide)) (fun p l e s m args below meth c E D vs σ ρ hC h => tw_sound (ok_TH_isRegister hC) 11 pr_TH_isRegister (ok_TH_isRegister hC) _ _ _ (tw_fn_get h))

-- TwinHost.isWord(I)Z: 9 instructions, depth 0, calls 
theorem d_TH_isWord_0 : decode b_TH_isWord 0 = .ok (.iload_n 0, 1) := by decide +kernel
theorem d_TH_isWord_1 : decode b_TH_isWord 1 = .ok (.ifCond .lt 14, 3) := by decide +kernel
theorem d_TH_isWord_4 : decode b_TH_isWord 4 = .ok (.iload_n 0, 1) := by decide +kernel
theorem d_TH_isWord_5 : decode b_TH_isWord 5 = .ok (.sipush 128, 3) := by decide +kernel
theorem d_TH_isWord_8 : decode b_TH_isWord 8 = .ok (.if_icmp .ge 7, 3) := by decide +kernel
theorem d_TH_isWord_11 : decode b_TH_isWord 11 = .ok (.iconst 1, 1) := by decide +kernel
theorem d_TH_isWord_12 : decode b_TH_isWord 12 = .ok (.goto 4, 3) := by decide +kernel
theorem d_TH_isWord_15 : decode b_TH_isWord 15 = .ok (.iconst 0, 1) := by decide +kernel
theorem d_TH_isWord_16 : decode b_TH_isWord 16 = .ok (.ireturn, 1) := by decide +kernel
def pr_TH_isWord : List (Nat × tw_Op) := [(0, tw_il 0), (1, tw_iflt 15), (4, tw_il 0), (5, tw_ic (128)), (8, tw_cge 15), (11, tw_ic 1), (12, tw_jmp 16), (15, tw_ic 0), (16, tw_rz)]
set_option maxRecDepth 100000 in
set_option maxHeartbeats 4000000 in
theorem ok_TH_isWord {p : Program} {l : Launch} {e : Env} {s : State} {m : MethodId} {args : Array Value} {below : List Frame} {meth : Method} {c : Code} {E : tw_E} {D : va_G} {ρ : tw_R} (hC : tw_Cx p s m args meth c b_TH_isWord 1 (some .boolean) "TwinHost" E D) : tw_Ok p l e (tw_rmd 0) s m args below meth c 0 0 (MQ below (tw_Qc E D ρ) args s 0 0 (tw_A E)) 1 E D ρ pr_TH_isWord :=
  ⟨ts_iload_n hC d_TH_isWord_0 rfl,
   ts_iflt hC d_TH_isWord_1 (by decide),
   ts_iload_n hC d_TH_isWord_4 rfl,
   ts_sipush hC d_TH_isWord_5 (by decide),
   ts_cge hC d_TH_isWord_8 (by decide),
   ts_iconst hC d_TH_isWord_11 (by decide),
   ts_goto hC d_TH_isWord_12 (by decide),
   ts_iconst hC d_TH_isWord_15 (by decide),
   ts_zret hC rfl d_TH_isWord_16,
   trivial⟩
def fn_TH_isWord : tw_Fn := tw_fn 1 1 11 pr_TH_isWord
theorem con_TH_isWord : tw_Con y_TH_isWord b_TH_isWord 1 (some .boolean) 0 fn_TH_isWord := tw_met (by decide +kernel) (tw_fn_len (n := 1) (by decide)) (fun p l e s m args below meth c E D vs σ ρ hC h => tw_sound (ok_TH_isWord hC) 11 pr_TH_isWord (ok_TH_isWord hC) _ _ _ (tw_fn_get h))

-- TwinHost.passTurnAfter(LTwinHost$Outcome;)V: 37 instructions, depth 0, calls 
theorem d_TH_passTurnAfter_0 : decode b_TH_passTurnAfter 0 = .ok (.aload_n 0, 1) := by decide +kernel
theorem d_TH_passTurnAfter_1 : decode b_TH_passTurnAfter 1 = .ok (.dup, 1) := by decide +kernel
theorem d_TH_passTurnAfter_2 : decode b_TH_passTurnAfter 2 = .ok (.getfield 115, 3) := by decide +kernel
theorem d_TH_passTurnAfter_5 : decode b_TH_passTurnAfter 5 = .ok (.iconst 1, 1) := by decide +kernel
theorem d_TH_passTurnAfter_6 : decode b_TH_passTurnAfter 6 = .ok (.iadd, 1) := by decide +kernel
theorem d_TH_passTurnAfter_7 : decode b_TH_passTurnAfter 7 = .ok (.putfield 115, 3) := by decide +kernel
theorem d_TH_passTurnAfter_10 : decode b_TH_passTurnAfter 10 = .ok (.aload_n 0, 1) := by decide +kernel
theorem d_TH_passTurnAfter_11 : decode b_TH_passTurnAfter 11 = .ok (.getfield 115, 3) := by decide +kernel
theorem d_TH_passTurnAfter_14 : decode b_TH_passTurnAfter 14 = .ok (.aload_n 0, 1) := by decide +kernel
theorem d_TH_passTurnAfter_15 : decode b_TH_passTurnAfter 15 = .ok (.getfield 9, 3) := by decide +kernel
theorem d_TH_passTurnAfter_18 : decode b_TH_passTurnAfter 18 = .ok (.if_icmp .ge 11, 3) := by decide +kernel
theorem d_TH_passTurnAfter_21 : decode b_TH_passTurnAfter 21 = .ok (.aload_n 1, 1) := by decide +kernel
theorem d_TH_passTurnAfter_22 : decode b_TH_passTurnAfter 22 = .ok (.getstatic 118, 3) := by decide +kernel
theorem d_TH_passTurnAfter_25 : decode b_TH_passTurnAfter 25 = .ok (.if_acmp .eq 4, 3) := by decide +kernel
theorem d_TH_passTurnAfter_28 : decode b_TH_passTurnAfter 28 = .ok (.return_, 1) := by decide +kernel
theorem d_TH_passTurnAfter_29 : decode b_TH_passTurnAfter 29 = .ok (.aload_n 0, 1) := by decide +kernel
theorem d_TH_passTurnAfter_30 : decode b_TH_passTurnAfter 30 = .ok (.getfield 16, 3) := by decide +kernel
theorem d_TH_passTurnAfter_33 : decode b_TH_passTurnAfter 33 = .ok (.aload_n 0, 1) := by decide +kernel
theorem d_TH_passTurnAfter_34 : decode b_TH_passTurnAfter 34 = .ok (.getfield 81, 3) := by decide +kernel
theorem d_TH_passTurnAfter_37 : decode b_TH_passTurnAfter 37 = .ok (.aaload, 1) := by decide +kernel
theorem d_TH_passTurnAfter_38 : decode b_TH_passTurnAfter 38 = .ok (.getfield 112, 3) := by decide +kernel
theorem d_TH_passTurnAfter_41 : decode b_TH_passTurnAfter 41 = .ok (.bipush 7, 2) := by decide +kernel
theorem d_TH_passTurnAfter_43 : decode b_TH_passTurnAfter 43 = .ok (.dup2, 1) := by decide +kernel
theorem d_TH_passTurnAfter_44 : decode b_TH_passTurnAfter 44 = .ok (.iaload, 1) := by decide +kernel
theorem d_TH_passTurnAfter_45 : decode b_TH_passTurnAfter 45 = .ok (.iconst 1, 1) := by decide +kernel
theorem d_TH_passTurnAfter_46 : decode b_TH_passTurnAfter 46 = .ok (.iadd, 1) := by decide +kernel
theorem d_TH_passTurnAfter_47 : decode b_TH_passTurnAfter 47 = .ok (.iastore, 1) := by decide +kernel
theorem d_TH_passTurnAfter_48 : decode b_TH_passTurnAfter 48 = .ok (.aload_n 0, 1) := by decide +kernel
theorem d_TH_passTurnAfter_49 : decode b_TH_passTurnAfter 49 = .ok (.iconst 1, 1) := by decide +kernel
theorem d_TH_passTurnAfter_50 : decode b_TH_passTurnAfter 50 = .ok (.aload_n 0, 1) := by decide +kernel
theorem d_TH_passTurnAfter_51 : decode b_TH_passTurnAfter 51 = .ok (.getfield 81, 3) := by decide +kernel
theorem d_TH_passTurnAfter_54 : decode b_TH_passTurnAfter 54 = .ok (.isub, 1) := by decide +kernel
theorem d_TH_passTurnAfter_55 : decode b_TH_passTurnAfter 55 = .ok (.putfield 81, 3) := by decide +kernel
theorem d_TH_passTurnAfter_58 : decode b_TH_passTurnAfter 58 = .ok (.aload_n 0, 1) := by decide +kernel
theorem d_TH_passTurnAfter_59 : decode b_TH_passTurnAfter 59 = .ok (.iconst 0, 1) := by decide +kernel
theorem d_TH_passTurnAfter_60 : decode b_TH_passTurnAfter 60 = .ok (.putfield 115, 3) := by decide +kernel
theorem d_TH_passTurnAfter_63 : decode b_TH_passTurnAfter 63 = .ok (.return_, 1) := by decide +kernel
def pr_TH_passTurnAfter : List (Nat × tw_Op) := [(0, tw_al 0), (1, tw_dup), (2, tw_gi 20 3), (5, tw_ic 1), (6, tw_bin (· + ·)), (7, tw_pi 20 3), (10, tw_al 0), (11, tw_gi 20 3), (14, tw_al 0), (15, tw_gi 20 1), (18, tw_cge 29), (21, tw_al 1), (22, tw_en 62), (25, tw_aeq 29), (28, tw_r0), (29, tw_al 0), (30, tw_gr 20 21), (33, tw_al 0), (34, tw_gi 20 2), (37, tw_ga), (38, tw_gr 0 3), (41, tw_ic (7)), (43, tw_d2), (44, tw_ia), (45, tw_ic 1), (46, tw_bin (· + ·)), (47, tw_ias 0 22), (48, tw_al 0), (49, tw_ic 1), (50, tw_al 0), (51, tw_gi 20 2), (54, tw_bin (· - ·)), (55, tw_pi 20 2), (58, tw_al 0), (59, tw_ic 0), (60, tw_pi 20 3), (63, tw_r0)]
set_option maxRecDepth 100000 in
set_option maxHeartbeats 4000000 in
theorem ok_TH_passTurnAfter {p : Program} {l : Launch} {e : Env} {s : State} {m : MethodId} {args : Array Value} {below : List Frame} {meth : Method} {c : Code} {E : tw_E} {D : va_G} {ρ : tw_R} (hC : tw_Cx p s m args meth c b_TH_passTurnAfter 2 none "TwinHost" E D) : tw_Ok p l e (tw_rmd 0) s m args below meth c 0 0 (MQ below (tw_Qc E D ρ) args s 0 0 (tw_A E)) 2 E D ρ pr_TH_passTurnAfter :=
  ⟨ts_aload_n hC d_TH_passTurnAfter_0 rfl,
   ts_dup hC d_TH_passTurnAfter_1,
   ts_gi (j := 3) (C := R_TH) (T := T_TH) hC rfl rfl rfl (by decide) u_TH wd_167 rfl d_TH_passTurnAfter_2,
   ts_iconst hC d_TH_passTurnAfter_5 (by decide),
   ts_iadd hC d_TH_passTurnAfter_6,
   ts_pi (j := 3) (C := R_TH) (T := T_TH) hC rfl rfl rfl (by decide) u_TH wd_167 rfl t_TH_ok n_TH rfl (by decide +kernel) d_TH_passTurnAfter_7,
   ts_aload_n hC d_TH_passTurnAfter_10 rfl,
   ts_gi (j := 3) (C := R_TH) (T := T_TH) hC rfl rfl rfl (by decide) u_TH wd_167 rfl d_TH_passTurnAfter_11,
   ts_aload_n hC d_TH_passTurnAfter_14 rfl,
   ts_gi (j := 1) (C := R_TH) (T := T_TH) hC rfl rfl rfl (by decide) u_TH wd_165 rfl d_TH_passTurnAfter_15,
   ts_cge hC d_TH_passTurnAfter_18 (by decide),
   ts_aload_n hC d_TH_passTurnAfter_21 rfl,
   ts_getO (i := 2) hC (by decide) rfl wd_424 d_TH_passTurnAfter_22,
   ts_aeq hC d_TH_passTurnAfter_25 (by decide),
   ts_vret hC rfl d_TH_passTurnAfter_28,
   ts_aload_n hC d_TH_passTurnAfter_29 rfl,
   ts_gr (j := 0) (C := R_TH) (T := T_TH) hC rfl rfl rfl (by decide) u_TH wd_164 rfl d_TH_passTurnAfter_30,
   ts_aload_n hC d_TH_passTurnAfter_33 rfl,
   ts_gi (j := 2) (C := R_TH) (T := T_TH) hC rfl rfl rfl (by decide) u_TH wd_166 rfl d_TH_passTurnAfter_34,
   ts_aaload hC d_TH_passTurnAfter_37,
   ts_gr (j := 2) (C := R_Gu) (T := T_Gu) hC rfl rfl rfl (by decide) u_Gu wd_137 rfl d_TH_passTurnAfter_38,
   ts_bipush hC d_TH_passTurnAfter_41 (by decide),
   ts_dup2 hC d_TH_passTurnAfter_43,
   ts_iaload hC d_TH_passTurnAfter_44,
   ts_iconst hC d_TH_passTurnAfter_45 (by decide),
   ts_iadd hC d_TH_passTurnAfter_46,
   ts_iastore hC d_TH_passTurnAfter_47,
   ts_aload_n hC d_TH_passTurnAfter_48 rfl,
   ts_iconst hC d_TH_passTurnAfter_49 (by decide),
   ts_aload_n hC d_TH_passTurnAfter_50 rfl,
   ts_gi (j := 2) (C := R_TH) (T := T_TH) hC rfl rfl rfl (by decide) u_TH wd_166 rfl d_TH_passTurnAfter_51,
   ts_isub hC d_TH_passTurnAfter_54,
   ts_pi (j := 2) (C := R_TH) (T := T_TH) hC rfl rfl rfl (by decide) u_TH wd_166 rfl t_TH_ok n_TH rfl (by decide +kernel) d_TH_passTurnAfter_55,
   ts_aload_n hC d_TH_passTurnAfter_58 rfl,
   ts_iconst hC d_TH_passTurnAfter_59 (by decide),
   ts_pi (j := 3) (C := R_TH) (T := T_TH) hC rfl rfl rfl (by decide) u_TH wd_167 rfl t_TH_ok n_TH rfl (by decide +kernel) d_TH_passTurnAfter_60,
   ts_vret hC rfl d_TH_passTurnAfter_63,
   trivial⟩
def fn_TH_passTurnAfter : tw_Fn := tw_fn 2 2 39 pr_TH_passTurnAfter
theorem con_TH_passTurnAfter : tw_Con y_TH_passTurnAfter b_TH_passTurnAfter 2 none 0 fn_TH_passTurnAfter := tw_met (by decide +kernel) (tw_fn_len (n := 2) (by decide)) (fun p l e s m args below meth c E D vs σ ρ hC h => tw_sound (ok_TH_passTurnAfter hC) 39 pr_TH_passTurnAfter (ok_TH_passTurnAfter hC) _ _ _ (tw_fn_get h))

-- TwinHost.turn()I: 3 instructions, depth 0, calls 
theorem d_TH_turn_0 : decode b_TH_turn 0 = .ok (.aload_n 0, 1) := by decide +kernel
theorem d_TH_turn_1 : decode b_TH_turn 1 = .ok (.getfield 81, 3) := by decide +kernel
theorem d_TH_turn_4 : decode b_TH_turn 4 = .ok (.ireturn, 1) := by decide +kernel
def pr_TH_turn : List (Nat × tw_Op) := [(0, tw_al 0), (1, tw_gi 20 2), (4, tw_ri)]
set_option maxRecDepth 100000 in
set_option maxHeartbeats 4000000 in
theorem ok_TH_turn {p : Program} {l : Launch} {e : Env} {s : State} {m : MethodId} {args : Array Value} {below : List Frame} {meth : Method} {c : Code} {E : tw_E} {D : va_G} {ρ : tw_R} (hC : tw_Cx p s m args meth c b_TH_turn 1 (some .int) "TwinHost" E D) : tw_Ok p l e (tw_rmd 0) s m args below meth c 0 0 (MQ below (tw_Qc E D ρ) args s 0 0 (tw_A E)) 1 E D ρ pr_TH_turn :=
  ⟨ts_aload_n hC d_TH_turn_0 rfl,
   ts_gi (j := 2) (C := R_TH) (T := T_TH) hC rfl rfl rfl (by decide) u_TH wd_166 rfl d_TH_turn_1,
   ts_iret hC rfl d_TH_turn_4,
   trivial⟩
def fn_TH_turn : tw_Fn := tw_fn 1 1 5 pr_TH_turn
theorem con_TH_turn : tw_Con y_TH_turn b_TH_turn 1 (some .int) 0 fn_TH_turn := tw_met (by decide +kernel) (tw_fn_len (n := 1) (by decide)) (fun p l e s m args below meth c E D vs σ ρ hC h => tw_sound (ok_TH_turn hC) 5 pr_TH_turn (ok_TH_turn hC) _ _ _ (tw_fn_get h))
end
