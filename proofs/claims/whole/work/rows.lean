section
-- ===== PART A: goes FIRST, ahead of the names: the tables' words, and 'selects' of the private methods out of them =====
/-- a private method of a class that the tables say can be made, by its rows of tables_1 -/
def lw_okq (q : MethodName × Nat) : Prop := (q.1.cls ≠ "java/lang/invoke/MethodHandle" ∧ q.1.cls ≠ "java/lang/invoke/VarHandle") ∧ Cond.instantiable q.1.cls q.2 ∈ tables_1 ∧ Cond.privateMethod q.1 ∈ tables_1 ∧ Cond.instanceMethod q.1 ∈ tables_1
theorem lw_p0 : lw_okq (⟨"TwinHost", "passTurnAfter", "(LTwinHost$Outcome;)V"⟩, 4) := ⟨⟨by decide +kernel, by decide +kernel⟩, List.mem_of_getElem? (i := 13) (by decide +kernel), List.mem_of_getElem? (i := 398) (by decide +kernel), List.mem_of_getElem? (i := 399) (by decide +kernel)⟩
theorem lw_p1 : lw_okq (⟨"TwinHostModel", "drop", "(II)V"⟩, 20) := ⟨⟨by decide +kernel, by decide +kernel⟩, List.mem_of_getElem? (i := 427) (by decide +kernel), List.mem_of_getElem? (i := 511) (by decide +kernel), List.mem_of_getElem? (i := 512) (by decide +kernel)⟩
theorem lw_p2 : lw_okq (⟨"TwinHostModel", "add", "(III)V"⟩, 20) := ⟨⟨by decide +kernel, by decide +kernel⟩, List.mem_of_getElem? (i := 427) (by decide +kernel), List.mem_of_getElem? (i := 515) (by decide +kernel), List.mem_of_getElem? (i := 516) (by decide +kernel)⟩
theorem lw_p3 : lw_okq (⟨"TwinHostModel", "put", "(III)V"⟩, 20) := ⟨⟨by decide +kernel, by decide +kernel⟩, List.mem_of_getElem? (i := 427) (by decide +kernel), List.mem_of_getElem? (i := 527) (by decide +kernel), List.mem_of_getElem? (i := 528) (by decide +kernel)⟩
theorem lw_p4 : lw_okq (⟨"TwinHostModel", "assign", "(III)V"⟩, 20) := ⟨⟨by decide +kernel, by decide +kernel⟩, List.mem_of_getElem? (i := 427) (by decide +kernel), List.mem_of_getElem? (i := 542) (by decide +kernel), List.mem_of_getElem? (i := 543) (by decide +kernel)⟩
theorem lw_p5 : lw_okq (⟨"TwinHostModel", "flush", "(I)V"⟩, 20) := ⟨⟨by decide +kernel, by decide +kernel⟩, List.mem_of_getElem? (i := 427) (by decide +kernel), List.mem_of_getElem? (i := 546) (by decide +kernel), List.mem_of_getElem? (i := 547) (by decide +kernel)⟩
theorem lw_p6 : lw_okq (⟨"TwinHostModel", "isThere", "(I)Z"⟩, 20) := ⟨⟨by decide +kernel, by decide +kernel⟩, List.mem_of_getElem? (i := 427) (by decide +kernel), List.mem_of_getElem? (i := 554) (by decide +kernel), List.mem_of_getElem? (i := 555) (by decide +kernel)⟩
theorem lw_p7 : lw_okq (⟨"TwinHostModel", "pending", "(I)I"⟩, 20) := ⟨⟨by decide +kernel, by decide +kernel⟩, List.mem_of_getElem? (i := 427) (by decide +kernel), List.mem_of_getElem? (i := 558) (by decide +kernel), List.mem_of_getElem? (i := 559) (by decide +kernel)⟩
theorem lw_p8 : lw_okq (⟨"TwinHostModel", "step", "(I)I"⟩, 20) := ⟨⟨by decide +kernel, by decide +kernel⟩, List.mem_of_getElem? (i := 427) (by decide +kernel), List.mem_of_getElem? (i := 582) (by decide +kernel), List.mem_of_getElem? (i := 583) (by decide +kernel)⟩
theorem lw_p9 : lw_okq (⟨"TwinHostModel", "trap", "(III)V"⟩, 20) := ⟨⟨by decide +kernel, by decide +kernel⟩, List.mem_of_getElem? (i := 427) (by decide +kernel), List.mem_of_getElem? (i := 587) (by decide +kernel), List.mem_of_getElem? (i := 588) (by decide +kernel)⟩
theorem lw_p10 : lw_okq (⟨"TwinHostModel", "access", "(III)I"⟩, 20) := ⟨⟨by decide +kernel, by decide +kernel⟩, List.mem_of_getElem? (i := 427) (by decide +kernel), List.mem_of_getElem? (i := 591) (by decide +kernel), List.mem_of_getElem? (i := 592) (by decide +kernel)⟩
theorem lw_p11 : lw_okq (⟨"TwinHostModel", "outside", "(III)I"⟩, 20) := ⟨⟨by decide +kernel, by decide +kernel⟩, List.mem_of_getElem? (i := 427) (by decide +kernel), List.mem_of_getElem? (i := 595) (by decide +kernel), List.mem_of_getElem? (i := 596) (by decide +kernel)⟩
theorem lw_p12 : lw_okq (⟨"TwinHostModel", "fault", "(III)I"⟩, 20) := ⟨⟨by decide +kernel, by decide +kernel⟩, List.mem_of_getElem? (i := 427) (by decide +kernel), List.mem_of_getElem? (i := 599) (by decide +kernel), List.mem_of_getElem? (i := 600) (by decide +kernel)⟩
theorem lw_p13 : lw_okq (⟨"TwinHostModel", "allowed", "(III)Z"⟩, 20) := ⟨⟨by decide +kernel, by decide +kernel⟩, List.mem_of_getElem? (i := 427) (by decide +kernel), List.mem_of_getElem? (i := 603) (by decide +kernel), List.mem_of_getElem? (i := 604) (by decide +kernel)⟩
theorem lw_p14 : lw_okq (⟨"TwinHostModel", "walk", "(III)I"⟩, 20) := ⟨⟨by decide +kernel, by decide +kernel⟩, List.mem_of_getElem? (i := 427) (by decide +kernel), List.mem_of_getElem? (i := 607) (by decide +kernel), List.mem_of_getElem? (i := 608) (by decide +kernel)⟩
theorem lw_p15 : lw_okq (⟨"TwinHostModel", "reach", "(IIII)I"⟩, 20) := ⟨⟨by decide +kernel, by decide +kernel⟩, List.mem_of_getElem? (i := 427) (by decide +kernel), List.mem_of_getElem? (i := 614) (by decide +kernel), List.mem_of_getElem? (i := 615) (by decide +kernel)⟩
def lw_privs_1 : List (MethodName × Nat) := [(⟨"TwinHost", "passTurnAfter", "(LTwinHost$Outcome;)V"⟩, 4), (⟨"TwinHostModel", "drop", "(II)V"⟩, 20), (⟨"TwinHostModel", "add", "(III)V"⟩, 20), (⟨"TwinHostModel", "put", "(III)V"⟩, 20), (⟨"TwinHostModel", "assign", "(III)V"⟩, 20), (⟨"TwinHostModel", "flush", "(I)V"⟩, 20), (⟨"TwinHostModel", "isThere", "(I)Z"⟩, 20), (⟨"TwinHostModel", "pending", "(I)I"⟩, 20), (⟨"TwinHostModel", "step", "(I)I"⟩, 20), (⟨"TwinHostModel", "trap", "(III)V"⟩, 20), (⟨"TwinHostModel", "access", "(III)I"⟩, 20), (⟨"TwinHostModel", "outside", "(III)I"⟩, 20), (⟨"TwinHostModel", "fault", "(III)I"⟩, 20), (⟨"TwinHostModel", "allowed", "(III)Z"⟩, 20), (⟨"TwinHostModel", "walk", "(III)I"⟩, 20), (⟨"TwinHostModel", "reach", "(IIII)I"⟩, 20)]
theorem lw_r1 : ∀ q ∈ lw_privs_1, lw_okq q := List.forall_mem_cons.mpr ⟨lw_p0, List.forall_mem_cons.mpr ⟨lw_p1, List.forall_mem_cons.mpr ⟨lw_p2, List.forall_mem_cons.mpr ⟨lw_p3, List.forall_mem_cons.mpr ⟨lw_p4, List.forall_mem_cons.mpr ⟨lw_p5, List.forall_mem_cons.mpr ⟨lw_p6, List.forall_mem_cons.mpr ⟨lw_p7, List.forall_mem_cons.mpr ⟨lw_p8, List.forall_mem_cons.mpr ⟨lw_p9, List.forall_mem_cons.mpr ⟨lw_p10, List.forall_mem_cons.mpr ⟨lw_p11, List.forall_mem_cons.mpr ⟨lw_p12, List.forall_mem_cons.mpr ⟨lw_p13, List.forall_mem_cons.mpr ⟨lw_p14, List.forall_mem_cons.mpr ⟨lw_p15, fun _ h => absurd h List.not_mem_nil⟩⟩⟩⟩⟩⟩⟩⟩⟩⟩⟩⟩⟩⟩⟩⟩
theorem lw_p16 : lw_okq (⟨"TwinHostModel", "fill", "(IIII)V"⟩, 20) := ⟨⟨by decide +kernel, by decide +kernel⟩, List.mem_of_getElem? (i := 427) (by decide +kernel), List.mem_of_getElem? (i := 618) (by decide +kernel), List.mem_of_getElem? (i := 619) (by decide +kernel)⟩
theorem lw_p17 : lw_okq (⟨"TwinHostModel", "special", "(IIII)I"⟩, 20) := ⟨⟨by decide +kernel, by decide +kernel⟩, List.mem_of_getElem? (i := 427) (by decide +kernel), List.mem_of_getElem? (i := 622) (by decide +kernel), List.mem_of_getElem? (i := 623) (by decide +kernel)⟩
theorem lw_p18 : lw_okq (⟨"TwinHostModel", "illegal", "(II)I"⟩, 20) := ⟨⟨by decide +kernel, by decide +kernel⟩, List.mem_of_getElem? (i := 427) (by decide +kernel), List.mem_of_getElem? (i := 626) (by decide +kernel), List.mem_of_getElem? (i := 627) (by decide +kernel)⟩
theorem lw_p19 : lw_okq (⟨"TwinHostModel", "controls", "(III)I"⟩, 20) := ⟨⟨by decide +kernel, by decide +kernel⟩, List.mem_of_getElem? (i := 427) (by decide +kernel), List.mem_of_getElem? (i := 630) (by decide +kernel), List.mem_of_getElem? (i := 631) (by decide +kernel)⟩
theorem lw_p20 : lw_okq (⟨"TwinHostModel", "takeInput", "(I)V"⟩, 20) := ⟨⟨by decide +kernel, by decide +kernel⟩, List.mem_of_getElem? (i := 427) (by decide +kernel), List.mem_of_getElem? (i := 635) (by decide +kernel), List.mem_of_getElem? (i := 636) (by decide +kernel)⟩
theorem lw_p21 : lw_okq (⟨"TwinHostModel", "retire", "(II)I"⟩, 20) := ⟨⟨by decide +kernel, by decide +kernel⟩, List.mem_of_getElem? (i := 427) (by decide +kernel), List.mem_of_getElem? (i := 639) (by decide +kernel), List.mem_of_getElem? (i := 640) (by decide +kernel)⟩
theorem lw_p22 : lw_okq (⟨"TwinHostModel", "data", "(IIIII)I"⟩, 20) := ⟨⟨by decide +kernel, by decide +kernel⟩, List.mem_of_getElem? (i := 427) (by decide +kernel), List.mem_of_getElem? (i := 646) (by decide +kernel), List.mem_of_getElem? (i := 647) (by decide +kernel)⟩
def lw_privs_2 : List (MethodName × Nat) := [(⟨"TwinHostModel", "fill", "(IIII)V"⟩, 20), (⟨"TwinHostModel", "special", "(IIII)I"⟩, 20), (⟨"TwinHostModel", "illegal", "(II)I"⟩, 20), (⟨"TwinHostModel", "controls", "(III)I"⟩, 20), (⟨"TwinHostModel", "takeInput", "(I)V"⟩, 20), (⟨"TwinHostModel", "retire", "(II)I"⟩, 20), (⟨"TwinHostModel", "data", "(IIIII)I"⟩, 20)]
theorem lw_r2 : ∀ q ∈ lw_privs_2, lw_okq q := List.forall_mem_cons.mpr ⟨lw_p16, List.forall_mem_cons.mpr ⟨lw_p17, List.forall_mem_cons.mpr ⟨lw_p18, List.forall_mem_cons.mpr ⟨lw_p19, List.forall_mem_cons.mpr ⟨lw_p20, List.forall_mem_cons.mpr ⟨lw_p21, List.forall_mem_cons.mpr ⟨lw_p22, fun _ h => absurd h List.not_mem_nil⟩⟩⟩⟩⟩⟩⟩
def lw_privs : List (MethodName × Nat) := lw_privs_1 ++ (lw_privs_2)
def lw_tbl : List Cond := k2_sels lw_privs ++ tables_1
theorem lw_privs_ok : ∀ q ∈ lw_privs, lw_okq q := by
  show ∀ q ∈ lw_privs_1 ++ (lw_privs_2), lw_okq q
  exact List.forall_mem_append.mpr ⟨lw_r1, lw_r2⟩
def R_TH : String := "TwinHost"
def T_TH : u_T := fun k => match k with
  | 0 => ("TwinHost", "guests", "[LTwinHost$Guest;", true)
  | 1 => ("TwinHost", "quantum", "I", true)
  | 2 => ("TwinHost", "holder", "I", false)
  | _ => ("TwinHost", "stepsInRow", "I", false)
def t_TH : Nat → FieldType := fun k => match k with
  | 0 => .array (.object "TwinHost$Guest")
  | 1 => .int
  | 2 => .int
  | _ => .int
theorem n_TH : ∀ a, a < 4 → ∀ b, b < 4 → a ≠ b → (T_TH a).2.1 ≠ (T_TH b).2.1 := by decide +kernel
theorem t_TH_ok : ∀ k, k < 4 → parseFieldDescriptor (T_TH k).2.2.1 = some (t_TH k) := by decide +kernel
def R_Gu : String := "TwinHost$Guest"
def T_Gu : u_T := fun k => match k with
  | 0 => ("TwinHost$Guest", "memory", "[I", true)
  | 1 => ("TwinHost$Guest", "registers", "[I", true)
  | 2 => ("TwinHost$Guest", "counts", "[I", true)
  | 3 => ("TwinHost$Guest", "controls", "LTwinHost$Controls;", true)
  | 4 => ("TwinHost$Guest", "shadows", "LTwinHost$Shadows;", true)
  | 5 => ("TwinHost$Guest", "walk", "LTwinHost$Walk;", true)
  | 6 => ("TwinHost$Guest", "pc", "I", false)
  | _ => ("TwinHost$Guest", "inUser", "Z", false)
def t_Gu : Nat → FieldType := fun k => match k with
  | 0 => .array .int
  | 1 => .array .int
  | 2 => .array .int
  | 3 => .object "TwinHost$Controls"
  | 4 => .object "TwinHost$Shadows"
  | 5 => .object "TwinHost$Walk"
  | 6 => .int
  | _ => .boolean
theorem n_Gu : ∀ a, a < 8 → ∀ b, b < 8 → a ≠ b → (T_Gu a).2.1 ≠ (T_Gu b).2.1 := by decide +kernel
theorem t_Gu_ok : ∀ k, k < 8 → parseFieldDescriptor (T_Gu k).2.2.1 = some (t_Gu k) := by decide +kernel
def R_Co : String := "TwinHost$Controls"
def T_Co : u_T := fun k => match k with
  | 0 => ("TwinHost$Controls", "values", "[I", true)
  | _ => ("TwinHost$Controls", "inputs", "LTwinHost$Inputs;", true)
def t_Co : Nat → FieldType := fun k => match k with
  | 0 => .array .int
  | _ => .object "TwinHost$Inputs"
theorem n_Co : ∀ a, a < 2 → ∀ b, b < 2 → a ≠ b → (T_Co a).2.1 ≠ (T_Co b).2.1 := by decide +kernel
theorem t_Co_ok : ∀ k, k < 2 → parseFieldDescriptor (T_Co k).2.2.1 = some (t_Co k) := by decide +kernel
def R_In : String := "TwinHost$Inputs"
def T_In : u_T := fun k => match k with
  | 0 => ("TwinHost$Inputs", "times", "[I", true)
  | 1 => ("TwinHost$Inputs", "values", "[I", true)
  | _ => ("TwinHost$Inputs", "size", "I", false)
def t_In : Nat → FieldType := fun k => match k with
  | 0 => .array .int
  | 1 => .array .int
  | _ => .int
theorem n_In : ∀ a, a < 3 → ∀ b, b < 3 → a ≠ b → (T_In a).2.1 ≠ (T_In b).2.1 := by decide +kernel
theorem t_In_ok : ∀ k, k < 3 → parseFieldDescriptor (T_In k).2.2.1 = some (t_In k) := by decide +kernel
def R_Sh : String := "TwinHost$Shadows"
def T_Sh : u_T := fun k => match k with
  | 0 => ("TwinHost$Shadows", "pages", "[I", true)
  | 1 => ("TwinHost$Shadows", "bits", "[I", true)
  | 2 => ("TwinHost$Shadows", "firsts", "[I", true)
  | _ => ("TwinHost$Shadows", "seconds", "[I", true)
def t_Sh : Nat → FieldType := fun k => match k with
  | 0 => .array .int
  | 1 => .array .int
  | 2 => .array .int
  | _ => .array .int
theorem n_Sh : ∀ a, a < 4 → ∀ b, b < 4 → a ≠ b → (T_Sh a).2.1 ≠ (T_Sh b).2.1 := by decide +kernel
theorem t_Sh_ok : ∀ k, k < 4 → parseFieldDescriptor (T_Sh k).2.2.1 = some (t_Sh k) := by decide +kernel
def R_Wa : String := "TwinHost$Walk"
def T_Wa : u_T := fun k => match k with
  | 0 => ("TwinHost$Walk", "first", "I", false)
  | 1 => ("TwinHost$Walk", "second", "I", false)
  | 2 => ("TwinHost$Walk", "leafAt", "I", false)
  | _ => ("TwinHost$Walk", "page", "I", false)
def t_Wa : Nat → FieldType := fun k => match k with
  | 0 => .int
  | 1 => .int
  | 2 => .int
  | _ => .int
theorem n_Wa : ∀ a, a < 4 → ∀ b, b < 4 → a ≠ b → (T_Wa a).2.1 ≠ (T_Wa b).2.1 := by decide +kernel
theorem t_Wa_ok : ∀ k, k < 4 → parseFieldDescriptor (T_Wa k).2.2.1 = some (t_Wa k) := by decide +kernel
def R_Mo : String := "TwinHostModel"
def T_Mo : u_T := fun k => match k with
  | 0 => ("TwinHostModel", "quantum", "I", false)
  | 1 => ("TwinHostModel", "turn", "I", false)
  | 2 => ("TwinHostModel", "row", "I", false)
  | 3 => ("TwinHostModel", "memory", "[I", false)
  | 4 => ("TwinHostModel", "x", "[I", false)
  | 5 => ("TwinHostModel", "control", "[I", false)
  | 6 => ("TwinHostModel", "pc", "[I", false)
  | 7 => ("TwinHostModel", "user", "[Z", false)
  | 8 => ("TwinHostModel", "waiting", "[I", false)
  | 9 => ("TwinHostModel", "inputTime", "[I", false)
  | 10 => ("TwinHostModel", "inputValue", "[I", false)
  | 11 => ("TwinHostModel", "counts", "[I", false)
  | 12 => ("TwinHostModel", "page", "[I", false)
  | 13 => ("TwinHostModel", "bits", "[I", false)
  | 14 => ("TwinHostModel", "dirty", "[Z", false)
  | 15 => ("TwinHostModel", "first", "[I", false)
  | 16 => ("TwinHostModel", "second", "[I", false)
  | 17 => ("TwinHostModel", "leafAt", "I", false)
  | 18 => ("TwinHostModel", "tableAt", "I", false)
  | _ => ("TwinHostModel", "through", "Z", false)
def t_Mo : Nat → FieldType := fun k => match k with
  | 0 => .int
  | 1 => .int
  | 2 => .int
  | 3 => .array .int
  | 4 => .array .int
  | 5 => .array .int
  | 6 => .array .int
  | 7 => .array .boolean
  | 8 => .array .int
  | 9 => .array .int
  | 10 => .array .int
  | 11 => .array .int
  | 12 => .array .int
  | 13 => .array .int
  | 14 => .array .boolean
  | 15 => .array .int
  | 16 => .array .int
  | 17 => .int
  | 18 => .int
  | _ => .boolean
theorem n_Mo : ∀ a, a < 20 → ∀ b, b < 20 → a ≠ b → (T_Mo a).2.1 ≠ (T_Mo b).2.1 := by decide +kernel
theorem t_Mo_ok : ∀ k, k < 20 → parseFieldDescriptor (T_Mo k).2.2.1 = some (t_Mo k) := by decide +kernel
abbrev tw_cl : List vw_C := [(R_TH, T_TH, 4), (R_Gu, T_Gu, 8), (R_Co, T_Co, 2), (R_In, T_In, 3), (R_Sh, T_Sh, 4), (R_Wa, T_Wa, 4), (R_Mo, T_Mo, 20)]
/-- the words of the tables that a callee may ask of its caller -/
def tw_Tb : List Cond := lw_tbl.filter goodWord
theorem tw_Tb_good : ∀ w ∈ tw_Tb, (w.onTables && w.keeps) = true ∨ ∃ ty, w = .arrayClass ty := fun _ h => good_of_word (List.mem_filter.mp h).2
theorem tw_in {w : Cond} (k : Nat) (h : lw_tbl[k]? = some w) (hg : goodWord w = true) : w ∈ tw_Tb := List.mem_filter.mpr ⟨List.mem_of_getElem? h, hg⟩
theorem u_TH : ∀ w ∈ u_ws R_TH T_TH 4, w ∈ tw_Tb := fun w h => List.mem_filter.mpr (by
  have key : ((u_ws R_TH T_TH 4).all (fun w => lw_tbl.contains w && goodWord w)) = true := by decide +kernel
  have h2 := List.all_eq_true.mp key w h
  rw [Bool.and_eq_true] at h2
  exact ⟨List.contains_iff_mem.mp h2.1, h2.2⟩)
theorem u_Gu : ∀ w ∈ u_ws R_Gu T_Gu 8, w ∈ tw_Tb := fun w h => List.mem_filter.mpr (by
  have key : ((u_ws R_Gu T_Gu 8).all (fun w => lw_tbl.contains w && goodWord w)) = true := by decide +kernel
  have h2 := List.all_eq_true.mp key w h
  rw [Bool.and_eq_true] at h2
  exact ⟨List.contains_iff_mem.mp h2.1, h2.2⟩)
theorem u_Co : ∀ w ∈ u_ws R_Co T_Co 2, w ∈ tw_Tb := fun w h => List.mem_filter.mpr (by
  have key : ((u_ws R_Co T_Co 2).all (fun w => lw_tbl.contains w && goodWord w)) = true := by decide +kernel
  have h2 := List.all_eq_true.mp key w h
  rw [Bool.and_eq_true] at h2
  exact ⟨List.contains_iff_mem.mp h2.1, h2.2⟩)
theorem u_In : ∀ w ∈ u_ws R_In T_In 3, w ∈ tw_Tb := fun w h => List.mem_filter.mpr (by
  have key : ((u_ws R_In T_In 3).all (fun w => lw_tbl.contains w && goodWord w)) = true := by decide +kernel
  have h2 := List.all_eq_true.mp key w h
  rw [Bool.and_eq_true] at h2
  exact ⟨List.contains_iff_mem.mp h2.1, h2.2⟩)
theorem u_Sh : ∀ w ∈ u_ws R_Sh T_Sh 4, w ∈ tw_Tb := fun w h => List.mem_filter.mpr (by
  have key : ((u_ws R_Sh T_Sh 4).all (fun w => lw_tbl.contains w && goodWord w)) = true := by decide +kernel
  have h2 := List.all_eq_true.mp key w h
  rw [Bool.and_eq_true] at h2
  exact ⟨List.contains_iff_mem.mp h2.1, h2.2⟩)
theorem u_Wa : ∀ w ∈ u_ws R_Wa T_Wa 4, w ∈ tw_Tb := fun w h => List.mem_filter.mpr (by
  have key : ((u_ws R_Wa T_Wa 4).all (fun w => lw_tbl.contains w && goodWord w)) = true := by decide +kernel
  have h2 := List.all_eq_true.mp key w h
  rw [Bool.and_eq_true] at h2
  exact ⟨List.contains_iff_mem.mp h2.1, h2.2⟩)
theorem u_Mo : ∀ w ∈ u_ws R_Mo T_Mo 20, w ∈ tw_Tb := fun w h => List.mem_filter.mpr (by
  have key : ((u_ws R_Mo T_Mo 20).all (fun w => lw_tbl.contains w && goodWord w)) = true := by decide +kernel
  have h2 := List.all_eq_true.mp key w h
  rw [Bool.and_eq_true] at h2
  exact ⟨List.contains_iff_mem.mp h2.1, h2.2⟩)
abbrev b_Co_exists : ByteArray := prog_3_method_2_code
def y_Co_exists : MethodName := ⟨"TwinHost$Controls", "exists", "(I)Z"⟩
abbrev b_Co_isOn : ByteArray := prog_3_method_10_code
def y_Co_isOn : MethodName := ⟨"TwinHost$Controls", "isOn", "(I)Z"⟩
abbrev b_Co_keptBits : ByteArray := prog_3_method_4_code
def y_Co_keptBits : MethodName := ⟨"TwinHost$Controls", "keptBits", "(I)I"⟩
abbrev b_Co_translates : ByteArray := prog_3_method_11_code
def y_Co_translates : MethodName := ⟨"TwinHost$Controls", "translates", "()Z"⟩
abbrev b_En_allows : ByteArray := prog_5_method_5_code
def y_En_allows : MethodName := ⟨"TwinHost$Entry", "allows", "(ILTwinHost$Access;ZZ)Z"⟩
abbrev b_En_isBroken : ByteArray := prog_5_method_2_code
def y_En_isBroken : MethodName := ⟨"TwinHost$Entry", "isBroken", "(I)Z"⟩
abbrev b_En_isLeaf : ByteArray := prog_5_method_3_code
def y_En_isLeaf : MethodName := ⟨"TwinHost$Entry", "isLeaf", "(I)Z"⟩
abbrev b_En_pageNumber : ByteArray := prog_5_method_4_code
def y_En_pageNumber : MethodName := ⟨"TwinHost$Entry", "pageNumber", "(I)I"⟩
abbrev b_Gu_changed : ByteArray := prog_6_method_10_code
def y_Gu_changed : MethodName := ⟨"TwinHost$Guest", "changed", "(III)I"⟩
abbrev b_Gu_compute : ByteArray := prog_6_method_4_code
def y_Gu_compute : MethodName := ⟨"TwinHost$Guest", "compute", "(IIII)I"⟩
abbrev b_Gu_retireAt : ByteArray := prog_6_method_11_code
def y_Gu_retireAt : MethodName := ⟨"TwinHost$Guest", "retireAt", "(I)LTwinHost$Outcome;"⟩
abbrev b_Gu_setRegister : ByteArray := prog_6_method_17_code
def y_Gu_setRegister : MethodName := ⟨"TwinHost$Guest", "setRegister", "(II)V"⟩
abbrev b_In_append : ByteArray := prog_7_method_2_code
def y_In_append : MethodName := ⟨"TwinHost$Inputs", "append", "(II)Z"⟩
abbrev b_In_init : ByteArray := prog_7_method_1_code
def y_In_init : MethodName := ⟨"TwinHost$Inputs", "<init>", "()V"⟩
abbrev b_In_isThere : ByteArray := prog_7_method_3_code
def y_In_isThere : MethodName := ⟨"TwinHost$Inputs", "isThere", "(I)Z"⟩
abbrev b_In_removeFirst : ByteArray := prog_7_method_4_code
def y_In_removeFirst : MethodName := ⟨"TwinHost$Inputs", "removeFirst", "()V"⟩
abbrev b_La_cell : ByteArray := method_2_code
def y_La_cell : MethodName := ⟨"TwinHostLaw", "cell", "([II)I"⟩
abbrev b_Mo_add : ByteArray := prog_12_method_3_code
def y_Mo_add : MethodName := ⟨"TwinHostModel", "add", "(III)V"⟩
abbrev b_Mo_allowed : ByteArray := prog_12_method_27_code
def y_Mo_allowed : MethodName := ⟨"TwinHostModel", "allowed", "(III)Z"⟩
abbrev b_Mo_broken : ByteArray := prog_12_method_29_code
def y_Mo_broken : MethodName := ⟨"TwinHostModel", "broken", "(I)Z"⟩
abbrev b_Mo_calculate : ByteArray := prog_12_method_33_code
def y_Mo_calculate : MethodName := ⟨"TwinHostModel", "calculate", "(IIII)I"⟩
abbrev b_Mo_guest : ByteArray := prog_12_method_2_code
def y_Mo_guest : MethodName := ⟨"TwinHostModel", "guest", "(I)Z"⟩
abbrev b_Mo_init : ByteArray := prog_12_method_1_code
def y_Mo_init : MethodName := ⟨"TwinHostModel", "<init>", "(I)V"⟩
abbrev b_Mo_isStored : ByteArray := prog_12_method_13_code
def y_Mo_isStored : MethodName := ⟨"TwinHostModel", "isStored", "(I)Z"⟩
abbrev b_Mo_isThere : ByteArray := prog_12_method_16_code
def y_Mo_isThere : MethodName := ⟨"TwinHostModel", "isThere", "(I)Z"⟩
abbrev b_Mo_put : ByteArray := prog_12_method_10_code
def y_Mo_put : MethodName := ⟨"TwinHostModel", "put", "(III)V"⟩
abbrev b_Mo_retire : ByteArray := prog_12_method_34_code
def y_Mo_retire : MethodName := ⟨"TwinHostModel", "retire", "(II)I"⟩
abbrev b_Mo_takeInput : ByteArray := prog_12_method_23_code
def y_Mo_takeInput : MethodName := ⟨"TwinHostModel", "takeInput", "(I)V"⟩
abbrev b_Mo_turn : ByteArray := prog_12_method_41_code
def y_Mo_turn : MethodName := ⟨"TwinHostModel", "turn", "()I"⟩
abbrev b_Sh_clear : ByteArray := prog_9_method_2_code
def y_Sh_clear : MethodName := ⟨"TwinHost$Shadows", "clear", "()V"⟩
abbrev b_Sh_describe : ByteArray := prog_9_method_7_code
def y_Sh_describe : MethodName := ⟨"TwinHost$Shadows", "describe", "(I)I"⟩
abbrev b_Sh_dropThoseOf : ByteArray := prog_9_method_6_code
def y_Sh_dropThoseOf : MethodName := ⟨"TwinHost$Shadows", "dropThoseOf", "(I)I"⟩
abbrev b_Sh_isIn : ByteArray := prog_9_method_8_code
def y_Sh_isIn : MethodName := ⟨"TwinHost$Shadows", "isIn", "(II)Z"⟩
abbrev b_Sh_put : ByteArray := prog_9_method_3_code
def y_Sh_put : MethodName := ⟨"TwinHost$Shadows", "put", "(IILTwinHost$Walk;)V"⟩
abbrev b_TH_isGuest : ByteArray := prog_1_method_18_code
def y_TH_isGuest : MethodName := ⟨"TwinHost", "isGuest", "(I)Z"⟩
abbrev b_TH_isRegister : ByteArray := prog_1_method_20_code
def y_TH_isRegister : MethodName := ⟨"TwinHost", "isRegister", "(I)Z"⟩
abbrev b_TH_isWord : ByteArray := prog_1_method_19_code
def y_TH_isWord : MethodName := ⟨"TwinHost", "isWord", "(I)Z"⟩
abbrev b_TH_passTurnAfter : ByteArray := prog_1_method_17_code
def y_TH_passTurnAfter : MethodName := ⟨"TwinHost", "passTurnAfter", "(LTwinHost$Outcome;)V"⟩
abbrev b_TH_turn : ByteArray := prog_1_method_13_code
def y_TH_turn : MethodName := ⟨"TwinHost", "turn", "()I"⟩
abbrev b_Wa_init : ByteArray := prog_10_method_1_code
def y_Wa_init : MethodName := ⟨"TwinHost$Walk", "<init>", "()V"⟩
abbrev b_Co_enterTrap : ByteArray := prog_3_method_12_code
def y_Co_enterTrap : MethodName := ⟨"TwinHost$Controls", "enterTrap", "(IIIZ)V"⟩
abbrev b_Co_init : ByteArray := prog_3_method_1_code
def y_Co_init : MethodName := ⟨"TwinHost$Controls", "<init>", "()V"⟩
abbrev b_Co_isStoredTo : ByteArray := prog_3_method_3_code
def y_Co_isStoredTo : MethodName := ⟨"TwinHost$Controls", "isStoredTo", "(I)Z"⟩
abbrev b_Co_leaveTrap : ByteArray := prog_3_method_13_code
def y_Co_leaveTrap : MethodName := ⟨"TwinHost$Controls", "leaveTrap", "()Z"⟩
abbrev b_Co_pendingBits : ByteArray := prog_3_method_8_code
def y_Co_pendingBits : MethodName := ⟨"TwinHost$Controls", "pendingBits", "()I"⟩
abbrev b_Co_put : ByteArray := prog_3_method_7_code
def y_Co_put : MethodName := ⟨"TwinHost$Controls", "put", "(II)V"⟩
abbrev b_Gu_fill : ByteArray := prog_6_method_15_code
def y_Gu_fill : MethodName := ⟨"TwinHost$Guest", "fill", "(ILTwinHost$Access;)I"⟩
abbrev b_Gu_flush : ByteArray := prog_6_method_19_code
def y_Gu_flush : MethodName := ⟨"TwinHost$Guest", "flush", "()V"⟩
abbrev b_Gu_link : ByteArray := prog_6_method_7_code
def y_Gu_link : MethodName := ⟨"TwinHost$Guest", "link", "(II)LTwinHost$Outcome;"⟩
abbrev b_Gu_overwrite : ByteArray := prog_6_method_16_code
def y_Gu_overwrite : MethodName := ⟨"TwinHost$Guest", "overwrite", "(II)I"⟩
abbrev b_Mo_count : ByteArray := prog_12_method_42_code
def y_Mo_count : MethodName := ⟨"TwinHostModel", "count", "(II)I"⟩
abbrev b_Mo_drop : ByteArray := prog_12_method_4_code
def y_Mo_drop : MethodName := ⟨"TwinHostModel", "drop", "(II)V"⟩
abbrev b_Mo_fill : ByteArray := prog_12_method_32_code
def y_Mo_fill : MethodName := ⟨"TwinHostModel", "fill", "(IIII)V"⟩
abbrev b_Mo_flush : ByteArray := prog_12_method_5_code
def y_Mo_flush : MethodName := ⟨"TwinHostModel", "flush", "(I)V"⟩
abbrev b_Mo_give : ByteArray := prog_12_method_11_code
def y_Mo_give : MethodName := ⟨"TwinHostModel", "give", "(III)Z"⟩
abbrev b_Mo_input : ByteArray := prog_12_method_22_code
def y_Mo_input : MethodName := ⟨"TwinHostModel", "input", "(III)Z"⟩
abbrev b_Mo_pc : ByteArray := prog_12_method_20_code
def y_Mo_pc : MethodName := ⟨"TwinHostModel", "pc", "(I)I"⟩
abbrev b_Mo_peek : ByteArray := prog_12_method_9_code
def y_Mo_peek : MethodName := ⟨"TwinHostModel", "peek", "(II)I"⟩
abbrev b_Mo_pending : ByteArray := prog_12_method_17_code
def y_Mo_pending : MethodName := ⟨"TwinHostModel", "pending", "(I)I"⟩
abbrev b_Mo_place : ByteArray := prog_12_method_19_code
def y_Mo_place : MethodName := ⟨"TwinHostModel", "place", "(IIZ)Z"⟩
abbrev b_Mo_register : ByteArray := prog_12_method_12_code
def y_Mo_register : MethodName := ⟨"TwinHostModel", "register", "(II)I"⟩
abbrev b_Mo_shadow : ByteArray := prog_12_method_6_code
def y_Mo_shadow : MethodName := ⟨"TwinHostModel", "shadow", "(II)I"⟩
abbrev b_Mo_traced : ByteArray := prog_12_method_7_code
def y_Mo_traced : MethodName := ⟨"TwinHostModel", "traced", "(II)Z"⟩
abbrev b_Mo_trap : ByteArray := prog_12_method_24_code
def y_Mo_trap : MethodName := ⟨"TwinHostModel", "trap", "(III)V"⟩
abbrev b_Mo_user : ByteArray := prog_12_method_21_code
def y_Mo_user : MethodName := ⟨"TwinHostModel", "user", "(I)Z"⟩
abbrev b_Sh_init : ByteArray := prog_9_method_1_code
def y_Sh_init : MethodName := ⟨"TwinHost$Shadows", "<init>", "()V"⟩
abbrev b_Sh_isTraced : ByteArray := prog_9_method_5_code
def y_Sh_isTraced : MethodName := ⟨"TwinHost$Shadows", "isTraced", "(I)Z"⟩
abbrev b_Sh_letsThrough : ByteArray := prog_9_method_4_code
def y_Sh_letsThrough : MethodName := ⟨"TwinHost$Shadows", "letsThrough", "(ILTwinHost$Access;ZZ)Z"⟩
abbrev b_TH_count : ByteArray := prog_1_method_16_code
def y_TH_count : MethodName := ⟨"TwinHost", "count", "(II)I"⟩
abbrev b_TH_give : ByteArray := prog_1_method_4_code
def y_TH_give : MethodName := ⟨"TwinHost", "give", "(III)Z"⟩
abbrev b_TH_input : ByteArray := prog_1_method_11_code
def y_TH_input : MethodName := ⟨"TwinHost", "input", "(III)Z"⟩
abbrev b_TH_pc : ByteArray := prog_1_method_9_code
def y_TH_pc : MethodName := ⟨"TwinHost", "pc", "(I)I"⟩
abbrev b_TH_peek : ByteArray := prog_1_method_3_code
def y_TH_peek : MethodName := ⟨"TwinHost", "peek", "(II)I"⟩
abbrev b_TH_place : ByteArray := prog_1_method_8_code
def y_TH_place : MethodName := ⟨"TwinHost", "place", "(IIZ)Z"⟩
abbrev b_TH_register : ByteArray := prog_1_method_5_code
def y_TH_register : MethodName := ⟨"TwinHost", "register", "(II)I"⟩
abbrev b_TH_shadow : ByteArray := prog_1_method_14_code
def y_TH_shadow : MethodName := ⟨"TwinHost", "shadow", "(II)I"⟩
abbrev b_TH_user : ByteArray := prog_1_method_10_code
def y_TH_user : MethodName := ⟨"TwinHost", "user", "(I)Z"⟩
abbrev b_Wa_search : ByteArray := prog_10_method_2_code
def y_Wa_search : MethodName := ⟨"TwinHost$Walk", "search", "([IIILTwinHost$Access;)I"⟩
abbrev b_Co_dueBits : ByteArray := prog_3_method_9_code
def y_Co_dueBits : MethodName := ⟨"TwinHost$Controls", "dueBits", "()I"⟩
abbrev b_Co_look : ByteArray := prog_3_method_5_code
def y_Co_look : MethodName := ⟨"TwinHost$Controls", "look", "(I)I"⟩
abbrev b_Gu_init : ByteArray := prog_6_method_1_code
def y_Gu_init : MethodName := ⟨"TwinHost$Guest", "<init>", "()V"⟩
abbrev b_Gu_reach : ByteArray := prog_6_method_14_code
def y_Gu_reach : MethodName := ⟨"TwinHost$Guest", "reach", "(ILTwinHost$Access;)I"⟩
abbrev b_Gu_storeControl : ByteArray := prog_6_method_18_code
def y_Gu_storeControl : MethodName := ⟨"TwinHost$Guest", "storeControl", "(II)V"⟩
abbrev b_Gu_trap : ByteArray := prog_6_method_13_code
def y_Gu_trap : MethodName := ⟨"TwinHost$Guest", "trap", "(II)LTwinHost$Outcome;"⟩
abbrev b_Mo_assign : ByteArray := prog_12_method_14_code
def y_Mo_assign : MethodName := ⟨"TwinHostModel", "assign", "(III)V"⟩
abbrev b_Mo_control : ByteArray := prog_12_method_18_code
def y_Mo_control : MethodName := ⟨"TwinHostModel", "control", "(II)I"⟩
abbrev b_Mo_fault : ByteArray := prog_12_method_26_code
def y_Mo_fault : MethodName := ⟨"TwinHostModel", "fault", "(III)I"⟩
abbrev b_Mo_illegal : ByteArray := prog_12_method_38_code
def y_Mo_illegal : MethodName := ⟨"TwinHostModel", "illegal", "(II)I"⟩
abbrev b_Mo_outside : ByteArray := prog_12_method_25_code
def y_Mo_outside : MethodName := ⟨"TwinHostModel", "outside", "(III)I"⟩
abbrev b_Mo_poke : ByteArray := prog_12_method_8_code
def y_Mo_poke : MethodName := ⟨"TwinHostModel", "poke", "(III)I"⟩
abbrev b_TH_poke : ByteArray := prog_1_method_2_code
def y_TH_poke : MethodName := ⟨"TwinHost", "poke", "(III)I"⟩
abbrev b_TH_traced : ByteArray := prog_1_method_15_code
def y_TH_traced : MethodName := ⟨"TwinHost", "traced", "(II)Z"⟩
abbrev b_Co_take : ByteArray := prog_3_method_6_code
def y_Co_take : MethodName := ⟨"TwinHost$Controls", "take", "(I)I"⟩
abbrev b_Gu_fault : ByteArray := prog_6_method_12_code
def y_Gu_fault : MethodName := ⟨"TwinHost$Guest", "fault", "(II)LTwinHost$Outcome;"⟩
abbrev b_Mo_command : ByteArray := prog_12_method_15_code
def y_Mo_command : MethodName := ⟨"TwinHostModel", "command", "(III)Z"⟩
abbrev b_Mo_controls : ByteArray := prog_12_method_39_code
def y_Mo_controls : MethodName := ⟨"TwinHostModel", "controls", "(III)I"⟩
abbrev b_Mo_reach : ByteArray := prog_12_method_31_code
def y_Mo_reach : MethodName := ⟨"TwinHostModel", "reach", "(IIII)I"⟩
abbrev b_TH_command : ByteArray := prog_1_method_6_code
def y_TH_command : MethodName := ⟨"TwinHost", "command", "(III)Z"⟩
abbrev b_TH_control : ByteArray := prog_1_method_7_code
def y_TH_control : MethodName := ⟨"TwinHost", "control", "(II)I"⟩
abbrev b_TH_init : ByteArray := prog_1_method_1_code
def y_TH_init : MethodName := ⟨"TwinHost", "<init>", "(I)V"⟩
abbrev b_Gu_changeControl : ByteArray := prog_6_method_9_code
def y_Gu_changeControl : MethodName := ⟨"TwinHost$Guest", "changeControl", "(I)LTwinHost$Outcome;"⟩
abbrev b_Gu_load : ByteArray := prog_6_method_5_code
def y_Gu_load : MethodName := ⟨"TwinHost$Guest", "load", "(II)LTwinHost$Outcome;"⟩
abbrev b_Gu_store : ByteArray := prog_6_method_6_code
def y_Gu_store : MethodName := ⟨"TwinHost$Guest", "store", "(II)LTwinHost$Outcome;"⟩
abbrev b_Mo_special : ByteArray := prog_12_method_37_code
def y_Mo_special : MethodName := ⟨"TwinHostModel", "special", "(IIII)I"⟩
abbrev b_Mo_walk : ByteArray := prog_12_method_30_code
def y_Mo_walk : MethodName := ⟨"TwinHostModel", "walk", "(III)I"⟩
abbrev b_Gu_doOrdinary : ByteArray := prog_6_method_3_code
def y_Gu_doOrdinary : MethodName := ⟨"TwinHost$Guest", "doOrdinary", "(I)LTwinHost$Outcome;"⟩
abbrev b_Gu_doSystem : ByteArray := prog_6_method_8_code
def y_Gu_doSystem : MethodName := ⟨"TwinHost$Guest", "doSystem", "(I)LTwinHost$Outcome;"⟩
abbrev b_Mo_access : ByteArray := prog_12_method_28_code
def y_Mo_access : MethodName := ⟨"TwinHostModel", "access", "(III)I"⟩
abbrev b_Gu_step : ByteArray := prog_6_method_2_code
def y_Gu_step : MethodName := ⟨"TwinHost$Guest", "step", "()LTwinHost$Outcome;"⟩
abbrev b_Mo_data : ByteArray := prog_12_method_36_code
def y_Mo_data : MethodName := ⟨"TwinHostModel", "data", "(IIIII)I"⟩
abbrev b_Mo_step : ByteArray := prog_12_method_35_code
def y_Mo_step : MethodName := ⟨"TwinHostModel", "step", "(I)I"⟩
abbrev b_TH_run : ByteArray := prog_1_method_12_code
def y_TH_run : MethodName := ⟨"TwinHost", "run", "(I)I"⟩
abbrev b_Mo_run : ByteArray := prog_12_method_40_code
def y_Mo_run : MethodName := ⟨"TwinHostModel", "run", "(I)I"⟩
def tw_Ne : List (String × Nat × MethodName × String) := [("TwinHost", 15, y_Gu_init, "TwinHost"), ("TwinHost$Controls", 15, y_In_init, "TwinHost"), ("TwinHost$Guest", 39, y_Wa_init, "TwinHost"), ("TwinHost$Guest", 168, y_TH_isWord, "TwinHost")]
theorem wd_0 : Cond.selects R_TH y_TH_passTurnAfter y_TH_passTurnAfter ∈ tw_Tb := tw_in 0 (by decide +kernel) (by decide +kernel)
theorem wd_1 : Cond.selects R_Mo y_Mo_drop y_Mo_drop ∈ tw_Tb := tw_in 1 (by decide +kernel) (by decide +kernel)
theorem wd_2 : Cond.selects R_Mo y_Mo_add y_Mo_add ∈ tw_Tb := tw_in 2 (by decide +kernel) (by decide +kernel)
theorem wd_3 : Cond.selects R_Mo y_Mo_put y_Mo_put ∈ tw_Tb := tw_in 3 (by decide +kernel) (by decide +kernel)
theorem wd_4 : Cond.selects R_Mo y_Mo_assign y_Mo_assign ∈ tw_Tb := tw_in 4 (by decide +kernel) (by decide +kernel)
theorem wd_5 : Cond.selects R_Mo y_Mo_flush y_Mo_flush ∈ tw_Tb := tw_in 5 (by decide +kernel) (by decide +kernel)
theorem wd_6 : Cond.selects R_Mo y_Mo_isThere y_Mo_isThere ∈ tw_Tb := tw_in 6 (by decide +kernel) (by decide +kernel)
theorem wd_7 : Cond.selects R_Mo y_Mo_pending y_Mo_pending ∈ tw_Tb := tw_in 7 (by decide +kernel) (by decide +kernel)
theorem wd_8 : Cond.selects R_Mo y_Mo_step y_Mo_step ∈ tw_Tb := tw_in 8 (by decide +kernel) (by decide +kernel)
theorem wd_9 : Cond.selects R_Mo y_Mo_trap y_Mo_trap ∈ tw_Tb := tw_in 9 (by decide +kernel) (by decide +kernel)
theorem wd_10 : Cond.selects R_Mo y_Mo_access y_Mo_access ∈ tw_Tb := tw_in 10 (by decide +kernel) (by decide +kernel)
theorem wd_11 : Cond.selects R_Mo y_Mo_outside y_Mo_outside ∈ tw_Tb := tw_in 11 (by decide +kernel) (by decide +kernel)
theorem wd_12 : Cond.selects R_Mo y_Mo_fault y_Mo_fault ∈ tw_Tb := tw_in 12 (by decide +kernel) (by decide +kernel)
theorem wd_13 : Cond.selects R_Mo y_Mo_allowed y_Mo_allowed ∈ tw_Tb := tw_in 13 (by decide +kernel) (by decide +kernel)
theorem wd_14 : Cond.selects R_Mo y_Mo_walk y_Mo_walk ∈ tw_Tb := tw_in 14 (by decide +kernel) (by decide +kernel)
theorem wd_15 : Cond.selects R_Mo y_Mo_reach y_Mo_reach ∈ tw_Tb := tw_in 15 (by decide +kernel) (by decide +kernel)
theorem wd_16 : Cond.selects R_Mo y_Mo_fill y_Mo_fill ∈ tw_Tb := tw_in 16 (by decide +kernel) (by decide +kernel)
theorem wd_17 : Cond.selects R_Mo y_Mo_special y_Mo_special ∈ tw_Tb := tw_in 17 (by decide +kernel) (by decide +kernel)
theorem wd_18 : Cond.selects R_Mo y_Mo_illegal y_Mo_illegal ∈ tw_Tb := tw_in 18 (by decide +kernel) (by decide +kernel)
theorem wd_19 : Cond.selects R_Mo y_Mo_controls y_Mo_controls ∈ tw_Tb := tw_in 19 (by decide +kernel) (by decide +kernel)
theorem wd_20 : Cond.selects R_Mo y_Mo_takeInput y_Mo_takeInput ∈ tw_Tb := tw_in 20 (by decide +kernel) (by decide +kernel)
theorem wd_21 : Cond.selects R_Mo y_Mo_retire y_Mo_retire ∈ tw_Tb := tw_in 21 (by decide +kernel) (by decide +kernel)
theorem wd_22 : Cond.selects R_Mo y_Mo_data y_Mo_data ∈ tw_Tb := tw_in 22 (by decide +kernel) (by decide +kernel)
theorem wd_24 : Cond.initialized "TwinHost" ∈ tw_Tb := tw_in 24 (by decide +kernel) (by decide +kernel)
theorem wd_25 : Cond.initialized "TwinHost$Guest" ∈ tw_Tb := tw_in 25 (by decide +kernel) (by decide +kernel)
theorem wd_26 : Cond.initialized "TwinHost$Controls" ∈ tw_Tb := tw_in 26 (by decide +kernel) (by decide +kernel)
theorem wd_27 : Cond.initialized "TwinHost$Inputs" ∈ tw_Tb := tw_in 27 (by decide +kernel) (by decide +kernel)
theorem wd_28 : Cond.initialized "TwinHost$Shadows" ∈ tw_Tb := tw_in 28 (by decide +kernel) (by decide +kernel)
theorem wd_29 : Cond.initialized "TwinHost$Walk" ∈ tw_Tb := tw_in 29 (by decide +kernel) (by decide +kernel)
theorem wd_30 : Cond.initialized "TwinHostModel" ∈ tw_Tb := tw_in 30 (by decide +kernel) (by decide +kernel)
theorem wd_34 : Cond.initialized "TwinHost$Entry" ∈ tw_Tb := tw_in 34 (by decide +kernel) (by decide +kernel)
theorem wd_62 : Cond.fieldLink "TwinHost$Inputs" 9 "TwinHost$Inputs" "times" "[I" ∈ tw_Tb := tw_in 62 (by decide +kernel) (by decide +kernel)
theorem wd_63 : Cond.fieldLink "TwinHost$Inputs" 13 "TwinHost$Inputs" "values" "[I" ∈ tw_Tb := tw_in 63 (by decide +kernel) (by decide +kernel)
theorem wd_64 : Cond.fieldLink "TwinHost$Controls" 32 "TwinHost$Inputs" "values" "[I" ∈ tw_Tb := tw_in 64 (by decide +kernel) (by decide +kernel)
theorem wd_65 : Cond.fieldLink "TwinHost$Inputs" 16 "TwinHost$Inputs" "size" "I" ∈ tw_Tb := tw_in 65 (by decide +kernel) (by decide +kernel)
theorem wd_75 : Cond.fieldLink "TwinHost$Controls" 9 "TwinHost$Controls" "values" "[I" ∈ tw_Tb := tw_in 75 (by decide +kernel) (by decide +kernel)
theorem wd_76 : Cond.fieldLink "TwinHost$Guest" 123 "TwinHost$Controls" "values" "[I" ∈ tw_Tb := tw_in 76 (by decide +kernel) (by decide +kernel)
theorem wd_77 : Cond.fieldLink "TwinHost$Controls" 16 "TwinHost$Controls" "inputs" "LTwinHost$Inputs;" ∈ tw_Tb := tw_in 77 (by decide +kernel) (by decide +kernel)
theorem wd_78 : Cond.fieldLink "TwinHost" 71 "TwinHost$Controls" "inputs" "LTwinHost$Inputs;" ∈ tw_Tb := tw_in 78 (by decide +kernel) (by decide +kernel)
theorem wd_91 : Cond.instanceMethod y_Sh_clear ∈ tw_Tb := tw_in 91 (by decide +kernel) (by decide +kernel)
theorem wd_92 : Cond.selects R_Sh y_Sh_clear y_Sh_clear ∈ tw_Tb := tw_in 92 (by decide +kernel) (by decide +kernel)
theorem wd_93 : Cond.code y_Sh_clear b_Sh_clear 2 none ∈ tw_Tb := tw_in 93 (by decide +kernel) (by decide +kernel)
theorem wd_94 : Cond.fieldLink "TwinHost$Shadows" 9 "TwinHost$Shadows" "pages" "[I" ∈ tw_Tb := tw_in 94 (by decide +kernel) (by decide +kernel)
theorem wd_95 : Cond.fieldLink "TwinHost$Guest" 188 "TwinHost$Shadows" "pages" "[I" ∈ tw_Tb := tw_in 95 (by decide +kernel) (by decide +kernel)
theorem wd_96 : Cond.fieldLink "TwinHost$Shadows" 15 "TwinHost$Shadows" "bits" "[I" ∈ tw_Tb := tw_in 96 (by decide +kernel) (by decide +kernel)
theorem wd_97 : Cond.fieldLink "TwinHost$Shadows" 18 "TwinHost$Shadows" "firsts" "[I" ∈ tw_Tb := tw_in 97 (by decide +kernel) (by decide +kernel)
theorem wd_98 : Cond.fieldLink "TwinHost$Shadows" 21 "TwinHost$Shadows" "seconds" "[I" ∈ tw_Tb := tw_in 98 (by decide +kernel) (by decide +kernel)
theorem wd_114 : Cond.fieldLink "TwinHost$Walk" 15 "TwinHost$Walk" "first" "I" ∈ tw_Tb := tw_in 114 (by decide +kernel) (by decide +kernel)
theorem wd_115 : Cond.fieldLink "TwinHost$Shadows" 35 "TwinHost$Walk" "first" "I" ∈ tw_Tb := tw_in 115 (by decide +kernel) (by decide +kernel)
theorem wd_116 : Cond.fieldLink "TwinHost$Walk" 22 "TwinHost$Walk" "second" "I" ∈ tw_Tb := tw_in 116 (by decide +kernel) (by decide +kernel)
theorem wd_117 : Cond.fieldLink "TwinHost$Shadows" 38 "TwinHost$Walk" "second" "I" ∈ tw_Tb := tw_in 117 (by decide +kernel) (by decide +kernel)
theorem wd_118 : Cond.fieldLink "TwinHost$Walk" 25 "TwinHost$Walk" "leafAt" "I" ∈ tw_Tb := tw_in 118 (by decide +kernel) (by decide +kernel)
theorem wd_119 : Cond.fieldLink "TwinHost$Guest" 191 "TwinHost$Walk" "leafAt" "I" ∈ tw_Tb := tw_in 119 (by decide +kernel) (by decide +kernel)
theorem wd_120 : Cond.fieldLink "TwinHost$Walk" 44 "TwinHost$Walk" "page" "I" ∈ tw_Tb := tw_in 120 (by decide +kernel) (by decide +kernel)
theorem wd_121 : Cond.fieldLink "TwinHost$Shadows" 27 "TwinHost$Walk" "page" "I" ∈ tw_Tb := tw_in 121 (by decide +kernel) (by decide +kernel)
theorem wd_122 : Cond.fieldLink "TwinHost$Guest" 199 "TwinHost$Walk" "page" "I" ∈ tw_Tb := tw_in 122 (by decide +kernel) (by decide +kernel)
theorem wd_132 : Cond.fieldLink "TwinHost$Guest" 9 "TwinHost$Guest" "memory" "[I" ∈ tw_Tb := tw_in 132 (by decide +kernel) (by decide +kernel)
theorem wd_133 : Cond.fieldLink "TwinHost" 31 "TwinHost$Guest" "memory" "[I" ∈ tw_Tb := tw_in 133 (by decide +kernel) (by decide +kernel)
theorem wd_134 : Cond.fieldLink "TwinHost$Guest" 15 "TwinHost$Guest" "registers" "[I" ∈ tw_Tb := tw_in 134 (by decide +kernel) (by decide +kernel)
theorem wd_135 : Cond.fieldLink "TwinHost" 42 "TwinHost$Guest" "registers" "[I" ∈ tw_Tb := tw_in 135 (by decide +kernel) (by decide +kernel)
theorem wd_136 : Cond.fieldLink "TwinHost$Guest" 20 "TwinHost$Guest" "counts" "[I" ∈ tw_Tb := tw_in 136 (by decide +kernel) (by decide +kernel)
theorem wd_137 : Cond.fieldLink "TwinHost" 112 "TwinHost$Guest" "counts" "[I" ∈ tw_Tb := tw_in 137 (by decide +kernel) (by decide +kernel)
theorem wd_138 : Cond.fieldLink "TwinHost$Guest" 26 "TwinHost$Guest" "controls" "LTwinHost$Controls;" ∈ tw_Tb := tw_in 138 (by decide +kernel) (by decide +kernel)
theorem wd_139 : Cond.fieldLink "TwinHost" 56 "TwinHost$Guest" "controls" "LTwinHost$Controls;" ∈ tw_Tb := tw_in 139 (by decide +kernel) (by decide +kernel)
theorem wd_140 : Cond.fieldLink "TwinHost$Guest" 33 "TwinHost$Guest" "shadows" "LTwinHost$Shadows;" ∈ tw_Tb := tw_in 140 (by decide +kernel) (by decide +kernel)
theorem wd_141 : Cond.fieldLink "TwinHost" 98 "TwinHost$Guest" "shadows" "LTwinHost$Shadows;" ∈ tw_Tb := tw_in 141 (by decide +kernel) (by decide +kernel)
theorem wd_142 : Cond.fieldLink "TwinHost$Guest" 40 "TwinHost$Guest" "walk" "LTwinHost$Walk;" ∈ tw_Tb := tw_in 142 (by decide +kernel) (by decide +kernel)
theorem wd_143 : Cond.fieldLink "TwinHost$Guest" 62 "TwinHost$Guest" "pc" "I" ∈ tw_Tb := tw_in 143 (by decide +kernel) (by decide +kernel)
theorem wd_144 : Cond.fieldLink "TwinHost" 64 "TwinHost$Guest" "pc" "I" ∈ tw_Tb := tw_in 144 (by decide +kernel) (by decide +kernel)
theorem wd_145 : Cond.fieldLink "TwinHost$Guest" 48 "TwinHost$Guest" "inUser" "Z" ∈ tw_Tb := tw_in 145 (by decide +kernel) (by decide +kernel)
theorem wd_146 : Cond.fieldLink "TwinHost" 67 "TwinHost$Guest" "inUser" "Z" ∈ tw_Tb := tw_in 146 (by decide +kernel) (by decide +kernel)
theorem wd_164 : Cond.fieldLink "TwinHost" 16 "TwinHost" "guests" "[LTwinHost$Guest;" ∈ tw_Tb := tw_in 164 (by decide +kernel) (by decide +kernel)
theorem wd_165 : Cond.fieldLink "TwinHost" 9 "TwinHost" "quantum" "I" ∈ tw_Tb := tw_in 165 (by decide +kernel) (by decide +kernel)
theorem wd_166 : Cond.fieldLink "TwinHost" 81 "TwinHost" "holder" "I" ∈ tw_Tb := tw_in 166 (by decide +kernel) (by decide +kernel)
theorem wd_167 : Cond.fieldLink "TwinHost" 115 "TwinHost" "stepsInRow" "I" ∈ tw_Tb := tw_in 167 (by decide +kernel) (by decide +kernel)
theorem wd_181 : Cond.methodLink "TwinHost" 20 y_TH_isGuest ∈ tw_Tb := tw_in 181 (by decide +kernel) (by decide +kernel)
theorem wd_182 : Cond.static y_TH_isGuest ∈ tw_Tb := tw_in 182 (by decide +kernel) (by decide +kernel)
theorem wd_183 : Cond.code y_TH_isGuest b_TH_isGuest 1 (some .boolean) ∈ tw_Tb := tw_in 183 (by decide +kernel) (by decide +kernel)
theorem wd_184 : Cond.methodLink "TwinHost" 24 y_TH_isWord ∈ tw_Tb := tw_in 184 (by decide +kernel) (by decide +kernel)
theorem wd_185 : Cond.static y_TH_isWord ∈ tw_Tb := tw_in 185 (by decide +kernel) (by decide +kernel)
theorem wd_186 : Cond.code y_TH_isWord b_TH_isWord 1 (some .boolean) ∈ tw_Tb := tw_in 186 (by decide +kernel) (by decide +kernel)
theorem wd_187 : Cond.methodLink "TwinHost" 27 y_Gu_overwrite ∈ tw_Tb := tw_in 187 (by decide +kernel) (by decide +kernel)
theorem wd_188 : Cond.instanceMethod y_Gu_overwrite ∈ tw_Tb := tw_in 188 (by decide +kernel) (by decide +kernel)
theorem wd_189 : Cond.selects R_Gu y_Gu_overwrite y_Gu_overwrite ∈ tw_Tb := tw_in 189 (by decide +kernel) (by decide +kernel)
theorem wd_190 : Cond.code y_Gu_overwrite b_Gu_overwrite 4 (some .int) ∈ tw_Tb := tw_in 190 (by decide +kernel) (by decide +kernel)
theorem wd_191 : Cond.methodLink "TwinHost$Guest" 206 y_Sh_dropThoseOf ∈ tw_Tb := tw_in 191 (by decide +kernel) (by decide +kernel)
theorem wd_192 : Cond.instanceMethod y_Sh_dropThoseOf ∈ tw_Tb := tw_in 192 (by decide +kernel) (by decide +kernel)
theorem wd_193 : Cond.selects R_Sh y_Sh_dropThoseOf y_Sh_dropThoseOf ∈ tw_Tb := tw_in 193 (by decide +kernel) (by decide +kernel)
theorem wd_194 : Cond.code y_Sh_dropThoseOf b_Sh_dropThoseOf 4 (some .int) ∈ tw_Tb := tw_in 194 (by decide +kernel) (by decide +kernel)
theorem wd_203 : Cond.methodLink "TwinHost" 35 y_TH_isRegister ∈ tw_Tb := tw_in 203 (by decide +kernel) (by decide +kernel)
theorem wd_204 : Cond.static y_TH_isRegister ∈ tw_Tb := tw_in 204 (by decide +kernel) (by decide +kernel)
theorem wd_205 : Cond.code y_TH_isRegister b_TH_isRegister 1 (some .boolean) ∈ tw_Tb := tw_in 205 (by decide +kernel) (by decide +kernel)
theorem wd_206 : Cond.methodLink "TwinHost" 38 y_Gu_setRegister ∈ tw_Tb := tw_in 206 (by decide +kernel) (by decide +kernel)
theorem wd_207 : Cond.instanceMethod y_Gu_setRegister ∈ tw_Tb := tw_in 207 (by decide +kernel) (by decide +kernel)
theorem wd_208 : Cond.selects R_Gu y_Gu_setRegister y_Gu_setRegister ∈ tw_Tb := tw_in 208 (by decide +kernel) (by decide +kernel)
theorem wd_209 : Cond.code y_Gu_setRegister b_Gu_setRegister 3 none ∈ tw_Tb := tw_in 209 (by decide +kernel) (by decide +kernel)
theorem wd_218 : Cond.methodLink "TwinHost" 45 y_Co_isStoredTo ∈ tw_Tb := tw_in 218 (by decide +kernel) (by decide +kernel)
theorem wd_219 : Cond.static y_Co_isStoredTo ∈ tw_Tb := tw_in 219 (by decide +kernel) (by decide +kernel)
theorem wd_220 : Cond.code y_Co_isStoredTo b_Co_isStoredTo 1 (some .boolean) ∈ tw_Tb := tw_in 220 (by decide +kernel) (by decide +kernel)
theorem wd_221 : Cond.methodLink "TwinHost$Controls" 21 y_Co_exists ∈ tw_Tb := tw_in 221 (by decide +kernel) (by decide +kernel)
theorem wd_222 : Cond.static y_Co_exists ∈ tw_Tb := tw_in 222 (by decide +kernel) (by decide +kernel)
theorem wd_223 : Cond.code y_Co_exists b_Co_exists 1 (some .boolean) ∈ tw_Tb := tw_in 223 (by decide +kernel) (by decide +kernel)
theorem wd_224 : Cond.methodLink "TwinHost" 50 y_Gu_storeControl ∈ tw_Tb := tw_in 224 (by decide +kernel) (by decide +kernel)
theorem wd_225 : Cond.instanceMethod y_Gu_storeControl ∈ tw_Tb := tw_in 225 (by decide +kernel) (by decide +kernel)
theorem wd_226 : Cond.selects R_Gu y_Gu_storeControl y_Gu_storeControl ∈ tw_Tb := tw_in 226 (by decide +kernel) (by decide +kernel)
theorem wd_227 : Cond.code y_Gu_storeControl b_Gu_storeControl 3 none ∈ tw_Tb := tw_in 227 (by decide +kernel) (by decide +kernel)
theorem wd_228 : Cond.methodLink "TwinHost$Guest" 209 y_Co_put ∈ tw_Tb := tw_in 228 (by decide +kernel) (by decide +kernel)
theorem wd_229 : Cond.instanceMethod y_Co_put ∈ tw_Tb := tw_in 229 (by decide +kernel) (by decide +kernel)
theorem wd_230 : Cond.selects R_Co y_Co_put y_Co_put ∈ tw_Tb := tw_in 230 (by decide +kernel) (by decide +kernel)
theorem wd_231 : Cond.code y_Co_put b_Co_put 3 none ∈ tw_Tb := tw_in 231 (by decide +kernel) (by decide +kernel)
theorem wd_232 : Cond.methodLink "TwinHost$Controls" 40 y_Co_keptBits ∈ tw_Tb := tw_in 232 (by decide +kernel) (by decide +kernel)
theorem wd_233 : Cond.static y_Co_keptBits ∈ tw_Tb := tw_in 233 (by decide +kernel) (by decide +kernel)
theorem wd_234 : Cond.code y_Co_keptBits b_Co_keptBits 1 (some .int) ∈ tw_Tb := tw_in 234 (by decide +kernel) (by decide +kernel)
theorem wd_235 : Cond.methodLink "TwinHost$Guest" 126 y_Gu_flush ∈ tw_Tb := tw_in 235 (by decide +kernel) (by decide +kernel)
theorem wd_236 : Cond.instanceMethod y_Gu_flush ∈ tw_Tb := tw_in 236 (by decide +kernel) (by decide +kernel)
theorem wd_237 : Cond.selects R_Gu y_Gu_flush y_Gu_flush ∈ tw_Tb := tw_in 237 (by decide +kernel) (by decide +kernel)
theorem wd_238 : Cond.code y_Gu_flush b_Gu_flush 1 none ∈ tw_Tb := tw_in 238 (by decide +kernel) (by decide +kernel)
theorem wd_239 : Cond.methodLink "TwinHost$Guest" 211 y_Sh_clear ∈ tw_Tb := tw_in 239 (by decide +kernel) (by decide +kernel)
theorem wd_244 : Cond.methodLink "TwinHost" 53 y_Co_exists ∈ tw_Tb := tw_in 244 (by decide +kernel) (by decide +kernel)
theorem wd_245 : Cond.methodLink "TwinHost" 60 y_Co_look ∈ tw_Tb := tw_in 245 (by decide +kernel) (by decide +kernel)
theorem wd_246 : Cond.instanceMethod y_Co_look ∈ tw_Tb := tw_in 246 (by decide +kernel) (by decide +kernel)
theorem wd_247 : Cond.selects R_Co y_Co_look y_Co_look ∈ tw_Tb := tw_in 247 (by decide +kernel) (by decide +kernel)
theorem wd_248 : Cond.code y_Co_look b_Co_look 2 (some .int) ∈ tw_Tb := tw_in 248 (by decide +kernel) (by decide +kernel)
theorem wd_249 : Cond.methodLink "TwinHost$Controls" 25 y_Co_pendingBits ∈ tw_Tb := tw_in 249 (by decide +kernel) (by decide +kernel)
theorem wd_250 : Cond.instanceMethod y_Co_pendingBits ∈ tw_Tb := tw_in 250 (by decide +kernel) (by decide +kernel)
theorem wd_251 : Cond.selects R_Co y_Co_pendingBits y_Co_pendingBits ∈ tw_Tb := tw_in 251 (by decide +kernel) (by decide +kernel)
theorem wd_252 : Cond.code y_Co_pendingBits b_Co_pendingBits 2 (some .int) ∈ tw_Tb := tw_in 252 (by decide +kernel) (by decide +kernel)
theorem wd_253 : Cond.methodLink "TwinHost$Controls" 29 y_In_isThere ∈ tw_Tb := tw_in 253 (by decide +kernel) (by decide +kernel)
theorem wd_254 : Cond.instanceMethod y_In_isThere ∈ tw_Tb := tw_in 254 (by decide +kernel) (by decide +kernel)
theorem wd_255 : Cond.selects R_In y_In_isThere y_In_isThere ∈ tw_Tb := tw_in 255 (by decide +kernel) (by decide +kernel)
theorem wd_256 : Cond.code y_In_isThere b_In_isThere 2 (some .boolean) ∈ tw_Tb := tw_in 256 (by decide +kernel) (by decide +kernel)
theorem wd_273 : Cond.methodLink "TwinHost" 75 y_In_append ∈ tw_Tb := tw_in 273 (by decide +kernel) (by decide +kernel)
theorem wd_274 : Cond.instanceMethod y_In_append ∈ tw_Tb := tw_in 274 (by decide +kernel) (by decide +kernel)
theorem wd_275 : Cond.selects R_In y_In_append y_In_append ∈ tw_Tb := tw_in 275 (by decide +kernel) (by decide +kernel)
theorem wd_276 : Cond.code y_In_append b_In_append 3 (some .boolean) ∈ tw_Tb := tw_in 276 (by decide +kernel) (by decide +kernel)
theorem wd_281 : Cond.methodLink "TwinHost" 84 y_Gu_step ∈ tw_Tb := tw_in 281 (by decide +kernel) (by decide +kernel)
theorem wd_282 : Cond.instanceMethod y_Gu_step ∈ tw_Tb := tw_in 282 (by decide +kernel) (by decide +kernel)
theorem wd_283 : Cond.selects R_Gu y_Gu_step y_Gu_step ∈ tw_Tb := tw_in 283 (by decide +kernel) (by decide +kernel)
theorem wd_284 : Cond.code y_Gu_step b_Gu_step 4 (some (.object "TwinHost$Outcome")) ∈ tw_Tb := tw_in 284 (by decide +kernel) (by decide +kernel)
theorem wd_285 : Cond.methodLink "TwinHost$Guest" 44 y_Co_dueBits ∈ tw_Tb := tw_in 285 (by decide +kernel) (by decide +kernel)
theorem wd_286 : Cond.instanceMethod y_Co_dueBits ∈ tw_Tb := tw_in 286 (by decide +kernel) (by decide +kernel)
theorem wd_287 : Cond.selects R_Co y_Co_dueBits y_Co_dueBits ∈ tw_Tb := tw_in 287 (by decide +kernel) (by decide +kernel)
theorem wd_288 : Cond.code y_Co_dueBits b_Co_dueBits 1 (some .int) ∈ tw_Tb := tw_in 288 (by decide +kernel) (by decide +kernel)
theorem wd_289 : Cond.methodLink "TwinHost$Guest" 52 y_Co_isOn ∈ tw_Tb := tw_in 289 (by decide +kernel) (by decide +kernel)
theorem wd_290 : Cond.instanceMethod y_Co_isOn ∈ tw_Tb := tw_in 290 (by decide +kernel) (by decide +kernel)
theorem wd_291 : Cond.selects R_Co y_Co_isOn y_Co_isOn ∈ tw_Tb := tw_in 291 (by decide +kernel) (by decide +kernel)
theorem wd_292 : Cond.code y_Co_isOn b_Co_isOn 2 (some .boolean) ∈ tw_Tb := tw_in 292 (by decide +kernel) (by decide +kernel)
theorem wd_293 : Cond.constant "TwinHost$Guest" 56 (-2147483639) ∈ tw_Tb := tw_in 293 (by decide +kernel) (by decide +kernel)
theorem wd_294 : Cond.constant "TwinHost$Guest" 57 (-2147483643) ∈ tw_Tb := tw_in 294 (by decide +kernel) (by decide +kernel)
theorem wd_295 : Cond.methodLink "TwinHost$Guest" 58 y_Gu_trap ∈ tw_Tb := tw_in 295 (by decide +kernel) (by decide +kernel)
theorem wd_296 : Cond.instanceMethod y_Gu_trap ∈ tw_Tb := tw_in 296 (by decide +kernel) (by decide +kernel)
theorem wd_297 : Cond.selects R_Gu y_Gu_trap y_Gu_trap ∈ tw_Tb := tw_in 297 (by decide +kernel) (by decide +kernel)
theorem wd_298 : Cond.code y_Gu_trap b_Gu_trap 3 (some (.object "TwinHost$Outcome")) ∈ tw_Tb := tw_in 298 (by decide +kernel) (by decide +kernel)
theorem wd_299 : Cond.methodLink "TwinHost$Guest" 158 y_Co_enterTrap ∈ tw_Tb := tw_in 299 (by decide +kernel) (by decide +kernel)
theorem wd_300 : Cond.instanceMethod y_Co_enterTrap ∈ tw_Tb := tw_in 300 (by decide +kernel) (by decide +kernel)
theorem wd_301 : Cond.selects R_Co y_Co_enterTrap y_Co_enterTrap ∈ tw_Tb := tw_in 301 (by decide +kernel) (by decide +kernel)
theorem wd_302 : Cond.code y_Co_enterTrap b_Co_enterTrap 6 none ∈ tw_Tb := tw_in 302 (by decide +kernel) (by decide +kernel)
theorem wd_303 : Cond.methodLink "TwinHost$Controls" 43 y_Co_isOn ∈ tw_Tb := tw_in 303 (by decide +kernel) (by decide +kernel)
theorem wd_304 : Cond.fieldLink "TwinHost$Guest" 162 "TwinHost$Outcome" "TRAPPED" "LTwinHost$Outcome;" ∈ tw_Tb := tw_in 304 (by decide +kernel) (by decide +kernel)
theorem wd_306 : Cond.fieldLink "TwinHost$Guest" 66 "TwinHost$Access" "FETCH" "LTwinHost$Access;" ∈ tw_Tb := tw_in 306 (by decide +kernel) (by decide +kernel)
theorem wd_308 : Cond.methodLink "TwinHost$Guest" 72 y_Gu_reach ∈ tw_Tb := tw_in 308 (by decide +kernel) (by decide +kernel)
theorem wd_309 : Cond.instanceMethod y_Gu_reach ∈ tw_Tb := tw_in 309 (by decide +kernel) (by decide +kernel)
theorem wd_310 : Cond.selects R_Gu y_Gu_reach y_Gu_reach ∈ tw_Tb := tw_in 310 (by decide +kernel) (by decide +kernel)
theorem wd_311 : Cond.code y_Gu_reach b_Gu_reach 6 (some .int) ∈ tw_Tb := tw_in 311 (by decide +kernel) (by decide +kernel)
theorem wd_312 : Cond.methodLink "TwinHost$Guest" 165 y_Co_translates ∈ tw_Tb := tw_in 312 (by decide +kernel) (by decide +kernel)
theorem wd_313 : Cond.instanceMethod y_Co_translates ∈ tw_Tb := tw_in 313 (by decide +kernel) (by decide +kernel)
theorem wd_314 : Cond.selects R_Co y_Co_translates y_Co_translates ∈ tw_Tb := tw_in 314 (by decide +kernel) (by decide +kernel)
theorem wd_315 : Cond.code y_Co_translates b_Co_translates 1 (some .boolean) ∈ tw_Tb := tw_in 315 (by decide +kernel) (by decide +kernel)
theorem wd_317 : Cond.methodLink "TwinHost$Guest" 177 y_Sh_letsThrough ∈ tw_Tb := tw_in 317 (by decide +kernel) (by decide +kernel)
theorem wd_318 : Cond.instanceMethod y_Sh_letsThrough ∈ tw_Tb := tw_in 318 (by decide +kernel) (by decide +kernel)
theorem wd_319 : Cond.selects R_Sh y_Sh_letsThrough y_Sh_letsThrough ∈ tw_Tb := tw_in 319 (by decide +kernel) (by decide +kernel)
theorem wd_320 : Cond.code y_Sh_letsThrough b_Sh_letsThrough 5 (some .boolean) ∈ tw_Tb := tw_in 320 (by decide +kernel) (by decide +kernel)
theorem wd_321 : Cond.methodLink "TwinHost$Shadows" 41 y_En_allows ∈ tw_Tb := tw_in 321 (by decide +kernel) (by decide +kernel)
theorem wd_322 : Cond.static y_En_allows ∈ tw_Tb := tw_in 322 (by decide +kernel) (by decide +kernel)
theorem wd_323 : Cond.code y_En_allows b_En_allows 5 (some .boolean) ∈ tw_Tb := tw_in 323 (by decide +kernel) (by decide +kernel)
theorem wd_324 : Cond.fieldLink "TwinHost$Entry" 15 "TwinHost$Access" "FETCH" "LTwinHost$Access;" ∈ tw_Tb := tw_in 324 (by decide +kernel) (by decide +kernel)
theorem wd_325 : Cond.fieldLink "TwinHost$Shadows" 45 "TwinHost$Access" "STORE" "LTwinHost$Access;" ∈ tw_Tb := tw_in 325 (by decide +kernel) (by decide +kernel)
theorem wd_327 : Cond.methodLink "TwinHost$Guest" 181 y_Wa_search ∈ tw_Tb := tw_in 327 (by decide +kernel) (by decide +kernel)
theorem wd_328 : Cond.instanceMethod y_Wa_search ∈ tw_Tb := tw_in 328 (by decide +kernel) (by decide +kernel)
theorem wd_329 : Cond.selects R_Wa y_Wa_search y_Wa_search ∈ tw_Tb := tw_in 329 (by decide +kernel) (by decide +kernel)
theorem wd_330 : Cond.code y_Wa_search b_Wa_search 9 (some .int) ∈ tw_Tb := tw_in 330 (by decide +kernel) (by decide +kernel)
theorem wd_331 : Cond.methodLink "TwinHost$Walk" 28 y_En_isBroken ∈ tw_Tb := tw_in 331 (by decide +kernel) (by decide +kernel)
theorem wd_332 : Cond.static y_En_isBroken ∈ tw_Tb := tw_in 332 (by decide +kernel) (by decide +kernel)
theorem wd_333 : Cond.code y_En_isBroken b_En_isBroken 1 (some .boolean) ∈ tw_Tb := tw_in 333 (by decide +kernel) (by decide +kernel)
theorem wd_334 : Cond.methodLink "TwinHost$Walk" 37 y_En_pageNumber ∈ tw_Tb := tw_in 334 (by decide +kernel) (by decide +kernel)
theorem wd_335 : Cond.static y_En_pageNumber ∈ tw_Tb := tw_in 335 (by decide +kernel) (by decide +kernel)
theorem wd_336 : Cond.code y_En_pageNumber b_En_pageNumber 1 (some .int) ∈ tw_Tb := tw_in 336 (by decide +kernel) (by decide +kernel)
theorem wd_337 : Cond.methodLink "TwinHost$Walk" 41 y_En_isLeaf ∈ tw_Tb := tw_in 337 (by decide +kernel) (by decide +kernel)
theorem wd_338 : Cond.static y_En_isLeaf ∈ tw_Tb := tw_in 338 (by decide +kernel) (by decide +kernel)
theorem wd_339 : Cond.code y_En_isLeaf b_En_isLeaf 1 (some .boolean) ∈ tw_Tb := tw_in 339 (by decide +kernel) (by decide +kernel)
theorem wd_340 : Cond.methodLink "TwinHost$Guest" 185 y_Gu_fill ∈ tw_Tb := tw_in 340 (by decide +kernel) (by decide +kernel)
theorem wd_341 : Cond.instanceMethod y_Gu_fill ∈ tw_Tb := tw_in 341 (by decide +kernel) (by decide +kernel)
theorem wd_342 : Cond.selects R_Gu y_Gu_fill y_Gu_fill ∈ tw_Tb := tw_in 342 (by decide +kernel) (by decide +kernel)
theorem wd_343 : Cond.code y_Gu_fill b_Gu_fill 4 (some .int) ∈ tw_Tb := tw_in 343 (by decide +kernel) (by decide +kernel)
theorem wd_344 : Cond.methodLink "TwinHost$Guest" 194 y_En_allows ∈ tw_Tb := tw_in 344 (by decide +kernel) (by decide +kernel)
theorem wd_345 : Cond.fieldLink "TwinHost$Guest" 109 "TwinHost$Access" "STORE" "LTwinHost$Access;" ∈ tw_Tb := tw_in 345 (by decide +kernel) (by decide +kernel)
theorem wd_346 : Cond.methodLink "TwinHost$Guest" 202 y_Sh_put ∈ tw_Tb := tw_in 346 (by decide +kernel) (by decide +kernel)
theorem wd_347 : Cond.instanceMethod y_Sh_put ∈ tw_Tb := tw_in 347 (by decide +kernel) (by decide +kernel)
theorem wd_348 : Cond.selects R_Sh y_Sh_put y_Sh_put ∈ tw_Tb := tw_in 348 (by decide +kernel) (by decide +kernel)
theorem wd_349 : Cond.code y_Sh_put b_Sh_put 4 none ∈ tw_Tb := tw_in 349 (by decide +kernel) (by decide +kernel)
theorem wd_350 : Cond.methodLink "TwinHost$Guest" 76 y_Gu_fault ∈ tw_Tb := tw_in 350 (by decide +kernel) (by decide +kernel)
theorem wd_351 : Cond.instanceMethod y_Gu_fault ∈ tw_Tb := tw_in 351 (by decide +kernel) (by decide +kernel)
theorem wd_352 : Cond.selects R_Gu y_Gu_fault y_Gu_fault ∈ tw_Tb := tw_in 352 (by decide +kernel) (by decide +kernel)
theorem wd_353 : Cond.code y_Gu_fault b_Gu_fault 3 (some (.object "TwinHost$Outcome")) ∈ tw_Tb := tw_in 353 (by decide +kernel) (by decide +kernel)
theorem wd_354 : Cond.methodLink "TwinHost$Guest" 79 y_Gu_doOrdinary ∈ tw_Tb := tw_in 354 (by decide +kernel) (by decide +kernel)
theorem wd_355 : Cond.instanceMethod y_Gu_doOrdinary ∈ tw_Tb := tw_in 355 (by decide +kernel) (by decide +kernel)
theorem wd_356 : Cond.selects R_Gu y_Gu_doOrdinary y_Gu_doOrdinary ∈ tw_Tb := tw_in 356 (by decide +kernel) (by decide +kernel)
theorem wd_357 : Cond.code y_Gu_doOrdinary b_Gu_doOrdinary 6 (some (.object "TwinHost$Outcome")) ∈ tw_Tb := tw_in 357 (by decide +kernel) (by decide +kernel)
theorem wd_358 : Cond.methodLink "TwinHost$Guest" 86 y_Gu_load ∈ tw_Tb := tw_in 358 (by decide +kernel) (by decide +kernel)
theorem wd_359 : Cond.instanceMethod y_Gu_load ∈ tw_Tb := tw_in 359 (by decide +kernel) (by decide +kernel)
theorem wd_360 : Cond.selects R_Gu y_Gu_load y_Gu_load ∈ tw_Tb := tw_in 360 (by decide +kernel) (by decide +kernel)
theorem wd_361 : Cond.code y_Gu_load b_Gu_load 4 (some (.object "TwinHost$Outcome")) ∈ tw_Tb := tw_in 361 (by decide +kernel) (by decide +kernel)
theorem wd_362 : Cond.fieldLink "TwinHost$Guest" 106 "TwinHost$Access" "LOAD" "LTwinHost$Access;" ∈ tw_Tb := tw_in 362 (by decide +kernel) (by decide +kernel)
theorem wd_364 : Cond.methodLink "TwinHost$Guest" 102 y_Gu_setRegister ∈ tw_Tb := tw_in 364 (by decide +kernel) (by decide +kernel)
theorem wd_365 : Cond.methodLink "TwinHost$Guest" 92 y_Gu_retireAt ∈ tw_Tb := tw_in 365 (by decide +kernel) (by decide +kernel)
theorem wd_366 : Cond.instanceMethod y_Gu_retireAt ∈ tw_Tb := tw_in 366 (by decide +kernel) (by decide +kernel)
theorem wd_367 : Cond.selects R_Gu y_Gu_retireAt y_Gu_retireAt ∈ tw_Tb := tw_in 367 (by decide +kernel) (by decide +kernel)
theorem wd_368 : Cond.code y_Gu_retireAt b_Gu_retireAt 2 (some (.object "TwinHost$Outcome")) ∈ tw_Tb := tw_in 368 (by decide +kernel) (by decide +kernel)
theorem wd_369 : Cond.fieldLink "TwinHost$Guest" 155 "TwinHost$Outcome" "RETIRED" "LTwinHost$Outcome;" ∈ tw_Tb := tw_in 369 (by decide +kernel) (by decide +kernel)
theorem wd_371 : Cond.methodLink "TwinHost$Guest" 89 y_Gu_store ∈ tw_Tb := tw_in 371 (by decide +kernel) (by decide +kernel)
theorem wd_372 : Cond.instanceMethod y_Gu_store ∈ tw_Tb := tw_in 372 (by decide +kernel) (by decide +kernel)
theorem wd_373 : Cond.selects R_Gu y_Gu_store y_Gu_store ∈ tw_Tb := tw_in 373 (by decide +kernel) (by decide +kernel)
theorem wd_374 : Cond.code y_Gu_store b_Gu_store 4 (some (.object "TwinHost$Outcome")) ∈ tw_Tb := tw_in 374 (by decide +kernel) (by decide +kernel)
theorem wd_375 : Cond.methodLink "TwinHost$Guest" 112 y_Sh_isTraced ∈ tw_Tb := tw_in 375 (by decide +kernel) (by decide +kernel)
theorem wd_376 : Cond.instanceMethod y_Sh_isTraced ∈ tw_Tb := tw_in 376 (by decide +kernel) (by decide +kernel)
theorem wd_377 : Cond.selects R_Sh y_Sh_isTraced y_Sh_isTraced ∈ tw_Tb := tw_in 377 (by decide +kernel) (by decide +kernel)
theorem wd_378 : Cond.code y_Sh_isTraced b_Sh_isTraced 3 (some .boolean) ∈ tw_Tb := tw_in 378 (by decide +kernel) (by decide +kernel)
theorem wd_379 : Cond.methodLink "TwinHost$Shadows" 51 y_Sh_isIn ∈ tw_Tb := tw_in 379 (by decide +kernel) (by decide +kernel)
theorem wd_380 : Cond.static y_Sh_isIn ∈ tw_Tb := tw_in 380 (by decide +kernel) (by decide +kernel)
theorem wd_381 : Cond.code y_Sh_isIn b_Sh_isIn 2 (some .boolean) ∈ tw_Tb := tw_in 381 (by decide +kernel) (by decide +kernel)
theorem wd_382 : Cond.methodLink "TwinHost$Guest" 115 y_Gu_overwrite ∈ tw_Tb := tw_in 382 (by decide +kernel) (by decide +kernel)
theorem wd_383 : Cond.methodLink "TwinHost$Guest" 95 y_Gu_link ∈ tw_Tb := tw_in 383 (by decide +kernel) (by decide +kernel)
theorem wd_384 : Cond.instanceMethod y_Gu_link ∈ tw_Tb := tw_in 384 (by decide +kernel) (by decide +kernel)
theorem wd_385 : Cond.selects R_Gu y_Gu_link y_Gu_link ∈ tw_Tb := tw_in 385 (by decide +kernel) (by decide +kernel)
theorem wd_386 : Cond.code y_Gu_link b_Gu_link 3 (some (.object "TwinHost$Outcome")) ∈ tw_Tb := tw_in 386 (by decide +kernel) (by decide +kernel)
theorem wd_387 : Cond.methodLink "TwinHost$Guest" 98 y_Gu_compute ∈ tw_Tb := tw_in 387 (by decide +kernel) (by decide +kernel)
theorem wd_388 : Cond.static y_Gu_compute ∈ tw_Tb := tw_in 388 (by decide +kernel) (by decide +kernel)
theorem wd_389 : Cond.code y_Gu_compute b_Gu_compute 4 (some .int) ∈ tw_Tb := tw_in 389 (by decide +kernel) (by decide +kernel)
theorem wd_390 : Cond.methodLink "TwinHost$Guest" 83 y_Gu_doSystem ∈ tw_Tb := tw_in 390 (by decide +kernel) (by decide +kernel)
theorem wd_391 : Cond.instanceMethod y_Gu_doSystem ∈ tw_Tb := tw_in 391 (by decide +kernel) (by decide +kernel)
theorem wd_392 : Cond.selects R_Gu y_Gu_doSystem y_Gu_doSystem ∈ tw_Tb := tw_in 392 (by decide +kernel) (by decide +kernel)
theorem wd_393 : Cond.code y_Gu_doSystem b_Gu_doSystem 3 (some (.object "TwinHost$Outcome")) ∈ tw_Tb := tw_in 393 (by decide +kernel) (by decide +kernel)
theorem wd_394 : Cond.methodLink "TwinHost$Guest" 119 y_Co_leaveTrap ∈ tw_Tb := tw_in 394 (by decide +kernel) (by decide +kernel)
theorem wd_395 : Cond.instanceMethod y_Co_leaveTrap ∈ tw_Tb := tw_in 395 (by decide +kernel) (by decide +kernel)
theorem wd_396 : Cond.selects R_Co y_Co_leaveTrap y_Co_leaveTrap ∈ tw_Tb := tw_in 396 (by decide +kernel) (by decide +kernel)
theorem wd_397 : Cond.code y_Co_leaveTrap b_Co_leaveTrap 3 (some .boolean) ∈ tw_Tb := tw_in 397 (by decide +kernel) (by decide +kernel)
theorem wd_398 : Cond.fieldLink "TwinHost$Guest" 129 "TwinHost$Outcome" "STALLED" "LTwinHost$Outcome;" ∈ tw_Tb := tw_in 398 (by decide +kernel) (by decide +kernel)
theorem wd_400 : Cond.methodLink "TwinHost$Guest" 135 y_Gu_changeControl ∈ tw_Tb := tw_in 400 (by decide +kernel) (by decide +kernel)
theorem wd_401 : Cond.instanceMethod y_Gu_changeControl ∈ tw_Tb := tw_in 401 (by decide +kernel) (by decide +kernel)
theorem wd_402 : Cond.selects R_Gu y_Gu_changeControl y_Gu_changeControl ∈ tw_Tb := tw_in 402 (by decide +kernel) (by decide +kernel)
theorem wd_403 : Cond.code y_Gu_changeControl b_Gu_changeControl 8 (some (.object "TwinHost$Outcome")) ∈ tw_Tb := tw_in 403 (by decide +kernel) (by decide +kernel)
theorem wd_404 : Cond.methodLink "TwinHost$Guest" 138 y_Co_exists ∈ tw_Tb := tw_in 404 (by decide +kernel) (by decide +kernel)
theorem wd_405 : Cond.methodLink "TwinHost$Guest" 141 y_Co_isStoredTo ∈ tw_Tb := tw_in 405 (by decide +kernel) (by decide +kernel)
theorem wd_406 : Cond.methodLink "TwinHost$Guest" 144 y_Co_take ∈ tw_Tb := tw_in 406 (by decide +kernel) (by decide +kernel)
theorem wd_407 : Cond.instanceMethod y_Co_take ∈ tw_Tb := tw_in 407 (by decide +kernel) (by decide +kernel)
theorem wd_408 : Cond.selects R_Co y_Co_take y_Co_take ∈ tw_Tb := tw_in 408 (by decide +kernel) (by decide +kernel)
theorem wd_409 : Cond.code y_Co_take b_Co_take 3 (some .int) ∈ tw_Tb := tw_in 409 (by decide +kernel) (by decide +kernel)
theorem wd_410 : Cond.methodLink "TwinHost$Controls" 33 y_Co_look ∈ tw_Tb := tw_in 410 (by decide +kernel) (by decide +kernel)
theorem wd_411 : Cond.methodLink "TwinHost$Controls" 37 y_In_removeFirst ∈ tw_Tb := tw_in 411 (by decide +kernel) (by decide +kernel)
theorem wd_412 : Cond.instanceMethod y_In_removeFirst ∈ tw_Tb := tw_in 412 (by decide +kernel) (by decide +kernel)
theorem wd_413 : Cond.selects R_In y_In_removeFirst y_In_removeFirst ∈ tw_Tb := tw_in 413 (by decide +kernel) (by decide +kernel)
theorem wd_414 : Cond.code y_In_removeFirst b_In_removeFirst 2 none ∈ tw_Tb := tw_in 414 (by decide +kernel) (by decide +kernel)
theorem wd_415 : Cond.methodLink "TwinHost$Guest" 148 y_Gu_changed ∈ tw_Tb := tw_in 415 (by decide +kernel) (by decide +kernel)
theorem wd_416 : Cond.static y_Gu_changed ∈ tw_Tb := tw_in 416 (by decide +kernel) (by decide +kernel)
theorem wd_417 : Cond.code y_Gu_changed b_Gu_changed 3 (some .int) ∈ tw_Tb := tw_in 417 (by decide +kernel) (by decide +kernel)
theorem wd_418 : Cond.methodLink "TwinHost$Guest" 152 y_Gu_storeControl ∈ tw_Tb := tw_in 418 (by decide +kernel) (by decide +kernel)
theorem wd_419 : Cond.fieldLink "TwinHost" 88 "TwinHost$Outcome" "RETIRED" "LTwinHost$Outcome;" ∈ tw_Tb := tw_in 419 (by decide +kernel) (by decide +kernel)
theorem wd_420 : Cond.methodLink "TwinHost" 94 y_TH_passTurnAfter ∈ tw_Tb := tw_in 420 (by decide +kernel) (by decide +kernel)
theorem wd_422 : Cond.instanceMethod y_TH_passTurnAfter ∈ tw_Tb := tw_in 422 (by decide +kernel) (by decide +kernel)
theorem wd_423 : Cond.code y_TH_passTurnAfter b_TH_passTurnAfter 2 none ∈ tw_Tb := tw_in 423 (by decide +kernel) (by decide +kernel)
theorem wd_424 : Cond.fieldLink "TwinHost" 118 "TwinHost$Outcome" "STALLED" "LTwinHost$Outcome;" ∈ tw_Tb := tw_in 424 (by decide +kernel) (by decide +kernel)
theorem wd_433 : Cond.methodLink "TwinHost" 102 y_Sh_describe ∈ tw_Tb := tw_in 433 (by decide +kernel) (by decide +kernel)
theorem wd_434 : Cond.instanceMethod y_Sh_describe ∈ tw_Tb := tw_in 434 (by decide +kernel) (by decide +kernel)
theorem wd_435 : Cond.selects R_Sh y_Sh_describe y_Sh_describe ∈ tw_Tb := tw_in 435 (by decide +kernel) (by decide +kernel)
theorem wd_436 : Cond.code y_Sh_describe b_Sh_describe 3 (some .int) ∈ tw_Tb := tw_in 436 (by decide +kernel) (by decide +kernel)
theorem wd_441 : Cond.methodLink "TwinHost" 107 y_Sh_isTraced ∈ tw_Tb := tw_in 441 (by decide +kernel) (by decide +kernel)
theorem wd_456 : Cond.fieldLink "TwinHostModel" 53 "TwinHostModel" "quantum" "I" ∈ tw_Tb := tw_in 456 (by decide +kernel) (by decide +kernel)
theorem wd_457 : Cond.fieldLink "TwinHostModel" 161 "TwinHostModel" "turn" "I" ∈ tw_Tb := tw_in 457 (by decide +kernel) (by decide +kernel)
theorem wd_458 : Cond.fieldLink "TwinHostModel" 167 "TwinHostModel" "row" "I" ∈ tw_Tb := tw_in 458 (by decide +kernel) (by decide +kernel)
theorem wd_459 : Cond.fieldLink "TwinHostModel" 7 "TwinHostModel" "memory" "[I" ∈ tw_Tb := tw_in 459 (by decide +kernel) (by decide +kernel)
theorem wd_460 : Cond.fieldLink "TwinHostModel" 13 "TwinHostModel" "x" "[I" ∈ tw_Tb := tw_in 460 (by decide +kernel) (by decide +kernel)
theorem wd_461 : Cond.fieldLink "TwinHostModel" 16 "TwinHostModel" "control" "[I" ∈ tw_Tb := tw_in 461 (by decide +kernel) (by decide +kernel)
theorem wd_462 : Cond.fieldLink "TwinHostModel" 19 "TwinHostModel" "pc" "[I" ∈ tw_Tb := tw_in 462 (by decide +kernel) (by decide +kernel)
theorem wd_463 : Cond.fieldLink "TwinHostModel" 22 "TwinHostModel" "user" "[Z" ∈ tw_Tb := tw_in 463 (by decide +kernel) (by decide +kernel)
theorem wd_464 : Cond.fieldLink "TwinHostModel" 26 "TwinHostModel" "waiting" "[I" ∈ tw_Tb := tw_in 464 (by decide +kernel) (by decide +kernel)
theorem wd_465 : Cond.fieldLink "TwinHostModel" 29 "TwinHostModel" "inputTime" "[I" ∈ tw_Tb := tw_in 465 (by decide +kernel) (by decide +kernel)
theorem wd_466 : Cond.fieldLink "TwinHostModel" 32 "TwinHostModel" "inputValue" "[I" ∈ tw_Tb := tw_in 466 (by decide +kernel) (by decide +kernel)
theorem wd_467 : Cond.fieldLink "TwinHostModel" 35 "TwinHostModel" "counts" "[I" ∈ tw_Tb := tw_in 467 (by decide +kernel) (by decide +kernel)
theorem wd_468 : Cond.fieldLink "TwinHostModel" 38 "TwinHostModel" "page" "[I" ∈ tw_Tb := tw_in 468 (by decide +kernel) (by decide +kernel)
theorem wd_469 : Cond.fieldLink "TwinHostModel" 41 "TwinHostModel" "bits" "[I" ∈ tw_Tb := tw_in 469 (by decide +kernel) (by decide +kernel)
theorem wd_470 : Cond.fieldLink "TwinHostModel" 44 "TwinHostModel" "dirty" "[Z" ∈ tw_Tb := tw_in 470 (by decide +kernel) (by decide +kernel)
theorem wd_471 : Cond.fieldLink "TwinHostModel" 47 "TwinHostModel" "first" "[I" ∈ tw_Tb := tw_in 471 (by decide +kernel) (by decide +kernel)
theorem wd_472 : Cond.fieldLink "TwinHostModel" 50 "TwinHostModel" "second" "[I" ∈ tw_Tb := tw_in 472 (by decide +kernel) (by decide +kernel)
theorem wd_473 : Cond.fieldLink "TwinHostModel" 114 "TwinHostModel" "leafAt" "I" ∈ tw_Tb := tw_in 473 (by decide +kernel) (by decide +kernel)
theorem wd_474 : Cond.fieldLink "TwinHostModel" 111 "TwinHostModel" "tableAt" "I" ∈ tw_Tb := tw_in 474 (by decide +kernel) (by decide +kernel)
theorem wd_475 : Cond.fieldLink "TwinHostModel" 104 "TwinHostModel" "through" "Z" ∈ tw_Tb := tw_in 475 (by decide +kernel) (by decide +kernel)
theorem wd_522 : Cond.methodLink "TwinHostModel" 62 y_Mo_guest ∈ tw_Tb := tw_in 522 (by decide +kernel) (by decide +kernel)
theorem wd_523 : Cond.static y_Mo_guest ∈ tw_Tb := tw_in 523 (by decide +kernel) (by decide +kernel)
theorem wd_524 : Cond.code y_Mo_guest b_Mo_guest 1 (some .boolean) ∈ tw_Tb := tw_in 524 (by decide +kernel) (by decide +kernel)
theorem wd_526 : Cond.instanceMethod y_Mo_traced ∈ tw_Tb := tw_in 526 (by decide +kernel) (by decide +kernel)
theorem wd_527 : Cond.selects R_Mo y_Mo_traced y_Mo_traced ∈ tw_Tb := tw_in 527 (by decide +kernel) (by decide +kernel)
theorem wd_528 : Cond.code y_Mo_traced b_Mo_traced 5 (some .boolean) ∈ tw_Tb := tw_in 528 (by decide +kernel) (by decide +kernel)
theorem wd_533 : Cond.methodLink "TwinHostModel" 66 y_Mo_drop ∈ tw_Tb := tw_in 533 (by decide +kernel) (by decide +kernel)
theorem wd_535 : Cond.instanceMethod y_Mo_drop ∈ tw_Tb := tw_in 535 (by decide +kernel) (by decide +kernel)
theorem wd_536 : Cond.code y_Mo_drop b_Mo_drop 4 none ∈ tw_Tb := tw_in 536 (by decide +kernel) (by decide +kernel)
theorem wd_537 : Cond.methodLink "TwinHostModel" 58 y_Mo_add ∈ tw_Tb := tw_in 537 (by decide +kernel) (by decide +kernel)
theorem wd_539 : Cond.instanceMethod y_Mo_add ∈ tw_Tb := tw_in 539 (by decide +kernel) (by decide +kernel)
theorem wd_540 : Cond.code y_Mo_add b_Mo_add 4 none ∈ tw_Tb := tw_in 540 (by decide +kernel) (by decide +kernel)
theorem wd_549 : Cond.methodLink "TwinHostModel" 70 y_Mo_put ∈ tw_Tb := tw_in 549 (by decide +kernel) (by decide +kernel)
theorem wd_551 : Cond.instanceMethod y_Mo_put ∈ tw_Tb := tw_in 551 (by decide +kernel) (by decide +kernel)
theorem wd_552 : Cond.code y_Mo_put b_Mo_put 4 none ∈ tw_Tb := tw_in 552 (by decide +kernel) (by decide +kernel)
theorem wd_561 : Cond.methodLink "TwinHostModel" 77 y_Mo_isStored ∈ tw_Tb := tw_in 561 (by decide +kernel) (by decide +kernel)
theorem wd_562 : Cond.static y_Mo_isStored ∈ tw_Tb := tw_in 562 (by decide +kernel) (by decide +kernel)
theorem wd_563 : Cond.code y_Mo_isStored b_Mo_isStored 1 (some .boolean) ∈ tw_Tb := tw_in 563 (by decide +kernel) (by decide +kernel)
theorem wd_564 : Cond.methodLink "TwinHostModel" 80 y_Mo_assign ∈ tw_Tb := tw_in 564 (by decide +kernel) (by decide +kernel)
theorem wd_566 : Cond.instanceMethod y_Mo_assign ∈ tw_Tb := tw_in 566 (by decide +kernel) (by decide +kernel)
theorem wd_567 : Cond.code y_Mo_assign b_Mo_assign 4 none ∈ tw_Tb := tw_in 567 (by decide +kernel) (by decide +kernel)
theorem wd_568 : Cond.methodLink "TwinHostModel" 73 y_Mo_flush ∈ tw_Tb := tw_in 568 (by decide +kernel) (by decide +kernel)
theorem wd_570 : Cond.instanceMethod y_Mo_flush ∈ tw_Tb := tw_in 570 (by decide +kernel) (by decide +kernel)
theorem wd_571 : Cond.code y_Mo_flush b_Mo_flush 3 none ∈ tw_Tb := tw_in 571 (by decide +kernel) (by decide +kernel)
theorem wd_573 : Cond.instanceMethod y_Mo_control ∈ tw_Tb := tw_in 573 (by decide +kernel) (by decide +kernel)
theorem wd_574 : Cond.selects R_Mo y_Mo_control y_Mo_control ∈ tw_Tb := tw_in 574 (by decide +kernel) (by decide +kernel)
theorem wd_575 : Cond.code y_Mo_control b_Mo_control 3 (some .int) ∈ tw_Tb := tw_in 575 (by decide +kernel) (by decide +kernel)
theorem wd_576 : Cond.methodLink "TwinHostModel" 83 y_Mo_isThere ∈ tw_Tb := tw_in 576 (by decide +kernel) (by decide +kernel)
theorem wd_578 : Cond.instanceMethod y_Mo_isThere ∈ tw_Tb := tw_in 578 (by decide +kernel) (by decide +kernel)
theorem wd_579 : Cond.code y_Mo_isThere b_Mo_isThere 2 (some .boolean) ∈ tw_Tb := tw_in 579 (by decide +kernel) (by decide +kernel)
theorem wd_580 : Cond.methodLink "TwinHostModel" 86 y_Mo_pending ∈ tw_Tb := tw_in 580 (by decide +kernel) (by decide +kernel)
theorem wd_582 : Cond.instanceMethod y_Mo_pending ∈ tw_Tb := tw_in 582 (by decide +kernel) (by decide +kernel)
theorem wd_583 : Cond.code y_Mo_pending b_Mo_pending 2 (some .int) ∈ tw_Tb := tw_in 583 (by decide +kernel) (by decide +kernel)
theorem wd_604 : Cond.methodLink "TwinHostModel" 164 y_Mo_step ∈ tw_Tb := tw_in 604 (by decide +kernel) (by decide +kernel)
theorem wd_606 : Cond.instanceMethod y_Mo_step ∈ tw_Tb := tw_in 606 (by decide +kernel) (by decide +kernel)
theorem wd_607 : Cond.code y_Mo_step b_Mo_step 12 (some .int) ∈ tw_Tb := tw_in 607 (by decide +kernel) (by decide +kernel)
theorem wd_608 : Cond.constant "TwinHostModel" 128 (-2147483648) ∈ tw_Tb := tw_in 608 (by decide +kernel) (by decide +kernel)
theorem wd_609 : Cond.methodLink "TwinHostModel" 90 y_Mo_trap ∈ tw_Tb := tw_in 609 (by decide +kernel) (by decide +kernel)
theorem wd_611 : Cond.instanceMethod y_Mo_trap ∈ tw_Tb := tw_in 611 (by decide +kernel) (by decide +kernel)
theorem wd_612 : Cond.code y_Mo_trap b_Mo_trap 6 none ∈ tw_Tb := tw_in 612 (by decide +kernel) (by decide +kernel)
theorem wd_613 : Cond.methodLink "TwinHostModel" 129 y_Mo_access ∈ tw_Tb := tw_in 613 (by decide +kernel) (by decide +kernel)
theorem wd_615 : Cond.instanceMethod y_Mo_access ∈ tw_Tb := tw_in 615 (by decide +kernel) (by decide +kernel)
theorem wd_616 : Cond.code y_Mo_access b_Mo_access 5 (some .int) ∈ tw_Tb := tw_in 616 (by decide +kernel) (by decide +kernel)
theorem wd_617 : Cond.methodLink "TwinHostModel" 93 y_Mo_outside ∈ tw_Tb := tw_in 617 (by decide +kernel) (by decide +kernel)
theorem wd_619 : Cond.instanceMethod y_Mo_outside ∈ tw_Tb := tw_in 619 (by decide +kernel) (by decide +kernel)
theorem wd_620 : Cond.code y_Mo_outside b_Mo_outside 4 (some .int) ∈ tw_Tb := tw_in 620 (by decide +kernel) (by decide +kernel)
theorem wd_621 : Cond.methodLink "TwinHostModel" 97 y_Mo_fault ∈ tw_Tb := tw_in 621 (by decide +kernel) (by decide +kernel)
theorem wd_623 : Cond.instanceMethod y_Mo_fault ∈ tw_Tb := tw_in 623 (by decide +kernel) (by decide +kernel)
theorem wd_624 : Cond.code y_Mo_fault b_Mo_fault 4 (some .int) ∈ tw_Tb := tw_in 624 (by decide +kernel) (by decide +kernel)
theorem wd_625 : Cond.methodLink "TwinHostModel" 100 y_Mo_allowed ∈ tw_Tb := tw_in 625 (by decide +kernel) (by decide +kernel)
theorem wd_627 : Cond.instanceMethod y_Mo_allowed ∈ tw_Tb := tw_in 627 (by decide +kernel) (by decide +kernel)
theorem wd_628 : Cond.code y_Mo_allowed b_Mo_allowed 7 (some .boolean) ∈ tw_Tb := tw_in 628 (by decide +kernel) (by decide +kernel)
theorem wd_629 : Cond.methodLink "TwinHostModel" 108 y_Mo_walk ∈ tw_Tb := tw_in 629 (by decide +kernel) (by decide +kernel)
theorem wd_631 : Cond.instanceMethod y_Mo_walk ∈ tw_Tb := tw_in 631 (by decide +kernel) (by decide +kernel)
theorem wd_632 : Cond.code y_Mo_walk b_Mo_walk 7 (some .int) ∈ tw_Tb := tw_in 632 (by decide +kernel) (by decide +kernel)
theorem wd_633 : Cond.methodLink "TwinHostModel" 117 y_Mo_broken ∈ tw_Tb := tw_in 633 (by decide +kernel) (by decide +kernel)
theorem wd_634 : Cond.static y_Mo_broken ∈ tw_Tb := tw_in 634 (by decide +kernel) (by decide +kernel)
theorem wd_635 : Cond.code y_Mo_broken b_Mo_broken 1 (some .boolean) ∈ tw_Tb := tw_in 635 (by decide +kernel) (by decide +kernel)
theorem wd_636 : Cond.methodLink "TwinHostModel" 120 y_Mo_reach ∈ tw_Tb := tw_in 636 (by decide +kernel) (by decide +kernel)
theorem wd_638 : Cond.instanceMethod y_Mo_reach ∈ tw_Tb := tw_in 638 (by decide +kernel) (by decide +kernel)
theorem wd_639 : Cond.code y_Mo_reach b_Mo_reach 6 (some .int) ∈ tw_Tb := tw_in 639 (by decide +kernel) (by decide +kernel)
theorem wd_640 : Cond.methodLink "TwinHostModel" 124 y_Mo_fill ∈ tw_Tb := tw_in 640 (by decide +kernel) (by decide +kernel)
theorem wd_642 : Cond.instanceMethod y_Mo_fill ∈ tw_Tb := tw_in 642 (by decide +kernel) (by decide +kernel)
theorem wd_643 : Cond.code y_Mo_fill b_Mo_fill 5 none ∈ tw_Tb := tw_in 643 (by decide +kernel) (by decide +kernel)
theorem wd_644 : Cond.methodLink "TwinHostModel" 132 y_Mo_special ∈ tw_Tb := tw_in 644 (by decide +kernel) (by decide +kernel)
theorem wd_646 : Cond.instanceMethod y_Mo_special ∈ tw_Tb := tw_in 646 (by decide +kernel) (by decide +kernel)
theorem wd_647 : Cond.code y_Mo_special b_Mo_special 6 (some .int) ∈ tw_Tb := tw_in 647 (by decide +kernel) (by decide +kernel)
theorem wd_648 : Cond.methodLink "TwinHostModel" 150 y_Mo_illegal ∈ tw_Tb := tw_in 648 (by decide +kernel) (by decide +kernel)
theorem wd_650 : Cond.instanceMethod y_Mo_illegal ∈ tw_Tb := tw_in 650 (by decide +kernel) (by decide +kernel)
theorem wd_651 : Cond.code y_Mo_illegal b_Mo_illegal 3 (some .int) ∈ tw_Tb := tw_in 651 (by decide +kernel) (by decide +kernel)
theorem wd_652 : Cond.methodLink "TwinHostModel" 153 y_Mo_controls ∈ tw_Tb := tw_in 652 (by decide +kernel) (by decide +kernel)
theorem wd_654 : Cond.instanceMethod y_Mo_controls ∈ tw_Tb := tw_in 654 (by decide +kernel) (by decide +kernel)
theorem wd_655 : Cond.code y_Mo_controls b_Mo_controls 9 (some .int) ∈ tw_Tb := tw_in 655 (by decide +kernel) (by decide +kernel)
theorem wd_656 : Cond.methodLink "TwinHostModel" 156 y_Mo_control ∈ tw_Tb := tw_in 656 (by decide +kernel) (by decide +kernel)
theorem wd_657 : Cond.methodLink "TwinHostModel" 158 y_Mo_takeInput ∈ tw_Tb := tw_in 657 (by decide +kernel) (by decide +kernel)
theorem wd_659 : Cond.instanceMethod y_Mo_takeInput ∈ tw_Tb := tw_in 659 (by decide +kernel) (by decide +kernel)
theorem wd_660 : Cond.code y_Mo_takeInput b_Mo_takeInput 3 none ∈ tw_Tb := tw_in 660 (by decide +kernel) (by decide +kernel)
theorem wd_661 : Cond.methodLink "TwinHostModel" 138 y_Mo_retire ∈ tw_Tb := tw_in 661 (by decide +kernel) (by decide +kernel)
theorem wd_663 : Cond.instanceMethod y_Mo_retire ∈ tw_Tb := tw_in 663 (by decide +kernel) (by decide +kernel)
theorem wd_664 : Cond.code y_Mo_retire b_Mo_retire 3 (some .int) ∈ tw_Tb := tw_in 664 (by decide +kernel) (by decide +kernel)
theorem wd_665 : Cond.methodLink "TwinHostModel" 135 y_Mo_calculate ∈ tw_Tb := tw_in 665 (by decide +kernel) (by decide +kernel)
theorem wd_666 : Cond.static y_Mo_calculate ∈ tw_Tb := tw_in 666 (by decide +kernel) (by decide +kernel)
theorem wd_667 : Cond.code y_Mo_calculate b_Mo_calculate 4 (some .int) ∈ tw_Tb := tw_in 667 (by decide +kernel) (by decide +kernel)
theorem wd_668 : Cond.methodLink "TwinHostModel" 142 y_Mo_data ∈ tw_Tb := tw_in 668 (by decide +kernel) (by decide +kernel)
theorem wd_670 : Cond.instanceMethod y_Mo_data ∈ tw_Tb := tw_in 670 (by decide +kernel) (by decide +kernel)
theorem wd_671 : Cond.code y_Mo_data b_Mo_data 8 (some .int) ∈ tw_Tb := tw_in 671 (by decide +kernel) (by decide +kernel)
theorem wd_672 : Cond.methodLink "TwinHostModel" 146 y_Mo_traced ∈ tw_Tb := tw_in 672 (by decide +kernel) (by decide +kernel)
theorem wd_681 : Cond.fieldLink "TwinHost$Guest" 171 "TwinHost$Access" "outside" "I" ∈ tw_Tb := tw_in 681 (by decide +kernel) (by decide +kernel)
theorem wd_682 : Cond.fieldLink "TwinHost$Guest" 174 "TwinHost$Access" "pageFault" "I" ∈ tw_Tb := tw_in 682 (by decide +kernel) (by decide +kernel)
theorem wd_683 : Cond.fieldLink "TwinHost$Entry" 9 "TwinHost$Access" "need" "I" ∈ tw_Tb := tw_in 683 (by decide +kernel) (by decide +kernel)
theorem wd_684 : Cond.fieldLink "TwinHost$Walk" 9 "TwinHost$Access" "outside" "I" ∈ tw_Tb := tw_in 684 (by decide +kernel) (by decide +kernel)
theorem wd_685 : Cond.fieldLink "TwinHost$Walk" 34 "TwinHost$Access" "pageFault" "I" ∈ tw_Tb := tw_in 685 (by decide +kernel) (by decide +kernel)
end
section
/-! A reading of the bytecode as functions, proved sound once over the kit's rows. A value is an int, or a cell of the world by its name (guest, component); the state is the ints of all cells. An instruction is an Op: how the method ends from here, given how it ends from the next instruction and from each other one; none: not said. -/
abbrev tw_V : Type := Int32 ⊕ (Bool × Nat)
abbrev tw_S : Type := Bool → Nat → Nat → Int32
/-- locals by their number; none: nothing is said of it -/
abbrev tw_L : Type := List (Option tw_V)
/-- how a method ends: its answer and the state -/
abbrev tw_R : Type := Option tw_V × tw_S
abbrev tw_K : Type := tw_L → List tw_V → tw_S → Option tw_R
abbrev tw_Op : Type := tw_K → (Nat → tw_K) → tw_K
abbrev tw_Fn : Type := List tw_V → tw_S → Option tw_R
/-- where things lie: the world's cells by place, the classes of its arrays, the constants of Access, of Outcome, the script -/
abbrev tw_E : Type := (Nat → Nat) × (Nat → ClassId) × (Nat → Nat) × (Nat → Nat) × Nat
def tw_ix (g : Bool) (c : Nat) : Nat := if c < 15 then (if g = true then 15 + c else c) else c + 10
def tw_adr (E : tw_E) (g : Bool) (c : Nat) : Nat := if c < 50 then E.1 (tw_ix g c) else if c < 60 then E.2.2.1 (c - 50) else if c < 70 then E.2.2.2.1 (c - 60) else E.2.2.2.2
def tw_c (E : tw_E) (v : tw_V) : Value := match v with
  | .inl x => .int x
  | .inr q => .ref (tw_adr E q.1 q.2)
theorem tw_cat (E : tw_E) (v : tw_V) : (tw_c E v).category = 1 := by
  rcases v with x | q <;> rfl
/-- objects: class and fields (none: an int; some c: the component c of the same guest); arrays: kind (0 int, 1 boolean, 2 the guests) and length -/
def tw_lay (c : Nat) : (Nat × List (Option Nat)) ⊕ (Nat × Nat) := match c with
  | 0 => .inl (1, [some 1, some 2, some 3, some 4, some 9, some 14, none, none])
  | 1 => .inr (0, 128)
  | 2 => .inr (0, 8)
  | 3 => .inr (0, 9)
  | 4 => .inl (2, [some 5, some 6])
  | 5 => .inr (0, 12)
  | 6 => .inl (3, [some 7, some 8, none])
  | 7 => .inr (0, 6)
  | 8 => .inr (0, 6)
  | 9 => .inl (4, [some 10, some 11, some 12, some 13])
  | 10 => .inr (0, 16)
  | 11 => .inr (0, 16)
  | 12 => .inr (0, 16)
  | 13 => .inr (0, 16)
  | 14 => .inl (5, [none, none, none, none])
  | 20 => .inl (0, [some 21, none, none, none])
  | 21 => .inr (2, 2)
  | 22 => .inl (6, [none, none, none, some 23, some 24, some 25, some 26, some 27, some 28, some 29, some 30, some 31, some 32, some 33, some 34, some 35, some 36, none, none, none])
  | 23 => .inr (0, 256)
  | 24 => .inr (0, 16)
  | 25 => .inr (0, 24)
  | 26 => .inr (0, 2)
  | 27 => .inr (1, 2)
  | 28 => .inr (0, 2)
  | 29 => .inr (0, 12)
  | 30 => .inr (0, 12)
  | 31 => .inr (0, 18)
  | 32 => .inr (0, 32)
  | 33 => .inr (0, 32)
  | 34 => .inr (1, 32)
  | 35 => .inr (0, 32)
  | 36 => .inr (0, 32)
  | _ => .inr (3, 0)
def tw_fv (E : tw_E) (g : Bool) (f : Nat → Int32) (j : Nat) (o : Option Nat) : Value := match o with
  | none => .int (f j)
  | some c2 => .ref (tw_adr E g c2)
/-- the fields' values, from the j-th on -/
def tw_fvs (E : tw_E) (g : Bool) (f : Nat → Int32) : Nat → List (Option Nat) → List Value
  | _, [] => []
  | j, o :: r => tw_fv E g f j o :: tw_fvs E g f (j + 1) r
theorem tw_fvs_len (E : tw_E) (g : Bool) (f : Nat → Int32) : ∀ (l : List (Option Nat)) (j : Nat), (tw_fvs E g f j l).length = l.length
  | [], _ => rfl
  | _ :: r, j => by show (tw_fvs E g f (j + 1) r).length + 1 = r.length + 1; rw [tw_fvs_len E g f r (j + 1)]
theorem tw_fvs_at (E : tw_E) (g : Bool) (f : Nat → Int32) : ∀ (l : List (Option Nat)) (j k : Nat) (o : Option Nat), l[k]? = some o → (tw_fvs E g f j l)[k]? = some (tw_fv E g f (j + k) o)
  | [], _, k, o, h => by simp at h
  | a :: r, j, 0, o, h => by
    have h' : a = o := by simpa using h
    subst h'
    rfl
  | a :: r, j, k + 1, o, h => by
    have h' : r[k]? = some o := by simpa using h
    have := tw_fvs_at E g f r (j + 1) k o h'
    show (tw_fvs E g f (j + 1) r)[k]? = _
    rw [this]
    congr 2
    omega
theorem tw_fvs_up (E : tw_E) (g : Bool) (f : Nat → Int32) (x : Int32) : ∀ (l : List (Option Nat)) (j k : Nat), l[k]? = some none → (tw_fvs E g f j l).set k (.int x) = tw_fvs E g (upd f (j + k) x) j l := by
  have aux : ∀ (l : List (Option Nat)) (j n : Nat), n < j → tw_fvs E g (upd f n x) j l = tw_fvs E g f j l := by
    intro l
    induction l with
    | nil => intro j n _; rfl
    | cons o r ih =>
      intro j n h
      show tw_fv E g (upd f n x) j o :: tw_fvs E g (upd f n x) (j + 1) r = tw_fv E g f j o :: tw_fvs E g f (j + 1) r
      rw [ih (j + 1) n (by omega)]
      congr 1
      cases o with
      | none => show Value.int (upd f n x j) = .int (f j); rw [show upd f n x j = f j from pk_un (by omega)]
      | some c2 => rfl
  intro l
  induction l with
  | nil => intro j k h; simp at h
  | cons o r ih =>
    intro j k h
    cases k with
    | zero =>
      have h' : o = none := by simpa using h
      subst h'
      show Value.int x :: tw_fvs E g f (j + 1) r = Value.int (upd f (j + 0) x j) :: tw_fvs E g (upd f (j + 0) x) (j + 1) r
      rw [aux r (j + 1) (j + 0) (by omega), show upd f (j + 0) x j = x from pk_us]
    | succ k =>
      have h' : r[k]? = some none := by simpa using h
      have := ih (j + 1) k h'
      show tw_fv E g f j o :: (tw_fvs E g f (j + 1) r).set k (.int x) = tw_fv E g (upd f (j + (k + 1)) x) j o :: tw_fvs E g (upd f (j + (k + 1)) x) (j + 1) r
      rw [this, show j + 1 + k = j + (k + 1) by omega]
      congr 1
      cases o with
      | none => show Value.int (f j) = .int (upd f (j + (k + 1)) x j); rw [show upd f (j + (k + 1)) x j = f j from pk_un (by omega)]
      | some c2 => rfl
def tw_cell (E : tw_E) (g : Bool) (c : Nat) (f : Nat → Int32) : va_E := match tw_lay c with
  | .inl o => .inr (o.1, tw_fvs E g f 0 o.2)
  | .inr (2, n) => .inl (E.2.1 (tw_ix g c), n, .inr (.inr (.inr (.inr (fun j => some (tw_adr E (j == 1) 0))))))
  | .inr (_, n) => .inl (E.2.1 (tw_ix g c), n, .inl f)
def tw_nm : List (Bool × Nat) := (List.range 15).map (fun c => (false, c)) ++ ((List.range 15).map (fun c => (true, c)) ++ (List.range 17).map (fun c => (false, 20 + c)))
def tw_ws (E : tw_E) (σ : tw_S) : va_W := tw_nm.map (fun q => (tw_adr E q.1 q.2, tw_cell E q.1 q.2 (σ q.1 q.2)))
def tw_tyOf (c : Nat) : FieldType := if c = 27 then .boolean else if c = 34 then .boolean else if c = 21 then .object "TwinHost$Guest" else .int
def tw_tys (E : tw_E) : List (ClassId × FieldType) := tw_nm.map (fun q => (E.2.1 (tw_ix q.1 q.2), tw_tyOf q.2))
/-- is (g, c) a cell of the world? -/
def tw_okb (g : Bool) (c : Nat) : Bool := Nat.blt c 15 || (Nat.ble 20 c && (Nat.blt c 37 && !g))
theorem tw_ok_all : ((List.range 60).all (fun c => [false, true].all (fun g => !tw_okb g c || tw_nm[tw_ix g c]? == some (g, c)))) = true := by decide +kernel
theorem tw_okb_lt {g : Bool} {c : Nat} (h : tw_okb g c = true) : c < 37 := by
  simp [tw_okb] at h
  rcases h with h | ⟨-, h, -⟩
  · omega
  · exact h
theorem tw_ok {g : Bool} {c : Nat} (h : tw_okb g c = true) : tw_nm[tw_ix g c]? = some (g, c) := by
  have h1 := List.all_eq_true.mp tw_ok_all c (List.mem_range.mpr (Nat.lt_trans (tw_okb_lt h) (by decide)))
  have h2 := List.all_eq_true.mp h1 g (by cases g <;> simp)
  rw [h] at h2
  simpa using h2
theorem tw_nm_ix : ((List.range 47).all (fun i => match tw_nm[i]? with | some q => (tw_ix q.1 q.2 == i && Nat.blt q.2 50) | none => false)) = true := by decide +kernel
theorem tw_nm_len : tw_nm.length = 47 := by decide +kernel
theorem tw_nm_at {i : Nat} {q : Bool × Nat} (h : tw_nm[i]? = some q) : i < 47 ∧ tw_ix q.1 q.2 = i ∧ q.2 < 50 := by
  have hi : i < 47 := by rw [← tw_nm_len]; exact (List.getElem?_eq_some_iff.mp h).1
  have h1 := List.all_eq_true.mp tw_nm_ix i (List.mem_range.mpr hi)
  rw [h] at h1
  simp only [Bool.and_eq_true, beq_iff_eq] at h1
  exact ⟨hi, h1.1, Nat.blt_eq.mp h1.2⟩
theorem tw_ws_at (E : tw_E) (σ : tw_S) {g : Bool} {c : Nat} (h : tw_okb g c = true) : (tw_ws E σ)[tw_ix g c]? = some (tw_adr E g c, tw_cell E g c (σ g c)) := by
  unfold tw_ws
  rw [List.getElem?_map, tw_ok h]
  rfl
theorem tw_tys_at (E : tw_E) {g : Bool} {c : Nat} (h : tw_okb g c = true) : (tw_tys E)[tw_ix g c]? = some (E.2.1 (tw_ix g c), tw_tyOf c) := by
  unfold tw_tys
  rw [List.getElem?_map, tw_ok h]
  rfl
def tw_up (σ : tw_S) (g : Bool) (c : Nat) (f : Nat → Int32) : tw_S := fun g' c' => if g' = g ∧ c' = c then f else σ g' c'
theorem tw_ws_set (E : tw_E) (σ : tw_S) {g : Bool} {c : Nat} (f : Nat → Int32) (h : tw_okb g c = true) : (tw_ws E σ).set (tw_ix g c) (tw_adr E g c, tw_cell E g c f) = tw_ws E (tw_up σ g c f) := by
  apply List.ext_getElem?
  intro i
  by_cases hi : tw_ix g c = i
  · subst hi
    rw [tw_ws_at E (tw_up σ g c f) h, List.getElem?_set_self (List.getElem?_eq_some_iff.mp (tw_ws_at E σ h)).1]
    simp [tw_up]
  · rw [List.getElem?_set_ne hi]
    unfold tw_ws
    rw [List.getElem?_map, List.getElem?_map]
    cases hq : tw_nm[i]? with
    | none => rfl
    | some q =>
      have hn : ¬ (q.1 = g ∧ q.2 = c) := fun z => hi (by rw [← z.1, ← z.2]; exact (tw_nm_at hq).2.1)
      show some (tw_adr E q.1 q.2, tw_cell E q.1 q.2 (σ q.1 q.2)) = some (tw_adr E q.1 q.2, tw_cell E q.1 q.2 (tw_up σ g c f q.1 q.2))
      rw [show tw_up σ g c f q.1 q.2 = σ q.1 q.2 from if_neg hn]
/-- the cells that a method may change -/
def tw_A (E : tw_E) : Nat → Prop := fun q => ∃ k, k < 47 ∧ q = E.1 k
def tw_inj (E : tw_E) : Prop := ∀ i j, i < 47 → j < 47 → E.1 i = E.1 j → i = j
theorem tw_ws_adr {E : tw_E} {σ : tw_S} {i : Nat} {w : Nat × va_E} (h : (tw_ws E σ)[i]? = some w) : i < 47 ∧ w.1 = E.1 i := by
  unfold tw_ws at h
  rw [List.getElem?_map] at h
  cases hq : tw_nm[i]? with
  | none => rw [hq] at h; cases h
  | some q =>
    rw [hq] at h
    cases h
    obtain ⟨h1, h2, h3⟩ := tw_nm_at hq
    refine ⟨h1, ?_⟩
    show tw_adr E q.1 q.2 = _
    unfold tw_adr
    rw [if_pos h3, h2]
theorem tw_D {E : tw_E} (h : tw_inj E) (σ : tw_S) : va_D (tw_A E) (tw_ws E σ) := by
  refine ⟨fun i j u v hu hv e => ?_, fun k q hk => ⟨k, (tw_ws_adr hk).1, (tw_ws_adr hk).2⟩⟩
  have a := tw_ws_adr hu
  have b := tw_ws_adr hv
  exact h i j a.1 b.1 (by rw [← a.2, ← b.2]; exact e)
/-- the constants of the two enums -/
def tw_EN (E : tw_E) (U : State) (H : Heap) : Prop :=
  va_En "TwinHost$Access" "LTwinHost$Access;" ["FETCH", "LOAD", "STORE"] [("TwinHost$Access", "need", "I", [8, 2, 4]), ("TwinHost$Access", "outside", "I", [1, 5, 7]), ("TwinHost$Access", "pageFault", "I", [12, 13, 15])] E.2.2.1 (tw_A E) U H ∧
  va_En "TwinHost$Outcome" "LTwinHost$Outcome;" ["RETIRED", "TRAPPED", "STALLED"] [] E.2.2.2.1 (tw_A E) U H
theorem tw_EN.moved {E : tw_E} {u U : State} {H : Heap} (hvm : u.vm.Alike U.vm) (h : tw_EN E u H) : tw_EN E U H := ⟨va_En.moved hvm h.1, va_En.moved hvm h.2⟩
theorem tw_EN.kept {E : tw_E} {U : State} {H H1 : Heap} (h : tw_EN E U H) (hq : ∀ a : Nat, a < H.size → ¬ tw_A E a → H1[a]? = H[a]?) : tw_EN E U H1 := ⟨h.1.kept hq, h.2.kept hq⟩
-- locals
def tw_get : tw_L → Nat → Option tw_V
  | [], _ => none
  | v :: _, 0 => v
  | _ :: r, k + 1 => tw_get r k
def tw_set : tw_L → Nat → tw_V → tw_L
  | [], _, _ => []
  | _ :: r, 0, x => some x :: r
  | v :: r, k + 1, x => v :: tw_set r k x
def tw_lvf (E : tw_E) : Nat → tw_L → List (Nat × Value)
  | _, [] => []
  | k, none :: r => tw_lvf E (k + 1) r
  | k, some v :: r => (k, tw_c E v) :: tw_lvf E (k + 1) r
def tw_lv (E : tw_E) (lv : tw_L) : List (Nat × Value) := tw_lvf E 0 lv
theorem tw_get_mem (E : tw_E) : ∀ (lv : tw_L) (n i : Nat) (v : tw_V), tw_get lv i = some v → (n + i, tw_c E v) ∈ tw_lvf E n lv
  | [], _, _, _, h => by cases h
  | a :: r, n, 0, v, h => by
    have h1 : a = some v := h
    subst h1
    exact List.mem_cons_self
  | a :: r, n, k + 1, v, h => by
    have h1 := tw_get_mem E r (n + 1) k v h
    rw [show n + 1 + k = n + (k + 1) by omega] at h1
    cases a with
    | none => exact h1
    | some u => exact List.mem_cons_of_mem _ h1
theorem tw_lvf_ge (E : tw_E) : ∀ (lv : tw_L) (n : Nat) (q : Nat × Value), q ∈ tw_lvf E n lv → n ≤ q.1 ∧ q.2.category = 1
  | [], _, _, h => by cases h
  | none :: r, n, q, h => by
    have := tw_lvf_ge E r (n + 1) q h
    exact ⟨by omega, this.2⟩
  | some u :: r, n, q, h => by
    rcases List.mem_cons.mp h with h | h
    · subst h
      exact ⟨Nat.le_refl _, tw_cat E u⟩
    · have := tw_lvf_ge E r (n + 1) q h
      exact ⟨by omega, this.2⟩
theorem tw_set_mem (E : tw_E) (x : tw_V) : ∀ (lv : tw_L) (n k : Nat) (q : Nat × Value), q ∈ tw_lvf E n (tw_set lv k x) → q = (n + k, tw_c E x) ∨ (q ∈ tw_lvf E n lv ∧ ¬ q.1 = n + k)
  | [], _, _, _, h => by cases h
  | a :: r, n, 0, q, h => by
    have h0 : q ∈ (n, tw_c E x) :: tw_lvf E (n + 1) r := h
    rcases List.mem_cons.mp h0 with h1 | h1
    · exact Or.inl h1
    · have h2 := tw_lvf_ge E r (n + 1) q h1
      refine Or.inr ⟨?_, by omega⟩
      cases a with
      | none => exact h1
      | some u => exact List.mem_cons_of_mem _ h1
  | none :: r, n, k + 1, q, h => by
    rcases tw_set_mem E x r (n + 1) k q h with h | h
    · exact Or.inl (by rw [h]; congr 1; omega)
    · exact Or.inr ⟨h.1, by have := h.2; omega⟩
  | some u :: r, n, k + 1, q, h => by
    have h : q ∈ (n, tw_c E u) :: tw_lvf E (n + 1) (tw_set r k x) := h
    rcases List.mem_cons.mp h with h | h
    · subst h
      exact Or.inr ⟨List.mem_cons_self, by show ¬ n = n + (k + 1); omega⟩
    · rcases tw_set_mem E x r (n + 1) k q h with h | h
      · exact Or.inl (by rw [h]; congr 1; omega)
      · exact Or.inr ⟨List.mem_cons_of_mem _ h.1, by have := h.2; omega⟩
theorem tw_has {ls : Array Slot} {nL : Nat} {E : tw_E} {lv : tw_L} {k : Nat} {v : tw_V} (h : lv_has ls nL (tw_lv E lv)) (hg : tw_get lv k = some v) : ls[k]? = some (.val (tw_c E v)) := by
  have h1 := tw_get_mem E lv 0 k v hg
  rw [Nat.zero_add] at h1
  exact h.2.2 (k, tw_c E v) h1
/-- behind a store into local k -/
theorem tw_stored {ls : Array Slot} {nL : Nat} {E : tw_E} {lv : tw_L} {k : Nat} {v : tw_V} (h : lv_has ls nL ((k, tw_c E v) :: (tw_lv E lv).filter (fun q => !(q.1 == k) && !(q.1 + 1 == k && q.2.category == 2)))) : lv_has ls nL (tw_lv E (tw_set lv k v)) := by
  refine ⟨h.1, h.2.1, fun q hq => h.2.2 q ?_⟩
  rcases tw_set_mem E v lv 0 k q hq with hq | ⟨h1, h2⟩
  · rw [Nat.zero_add] at hq
    subst hq
    exact List.mem_cons_self
  · rw [Nat.zero_add] at h2
    refine List.mem_cons_of_mem _ (List.mem_filter.mpr ⟨h1, ?_⟩)
    simp [h2, (tw_lvf_ge E lv 0 q h1).2]
/-- behind a point that is set -/
def tw_pt (σ : tw_S) (g : Bool) (c j : Nat) (x : Int32) : tw_S := fun g' c' j' => if c' = c ∧ j' = j ∧ g' = g then x else σ g' c' j'
theorem tw_up_pt (σ : tw_S) (g : Bool) (c j : Nat) (x : Int32) : tw_up σ g c (upd (σ g c) j x) = tw_pt σ g c j x := by
  funext g' c' j'
  show (if g' = g ∧ c' = c then upd (σ g c) j x else σ g' c') j' = (if c' = c ∧ j' = j ∧ g' = g then x else σ g' c' j')
  by_cases h1 : g' = g ∧ c' = c
  · rw [if_pos h1]
    by_cases h2 : j' = j
    · rw [if_pos (⟨h1.2, h2, h1.1⟩ : c' = c ∧ j' = j ∧ g' = g)]
      exact if_pos h2
    · rw [if_neg (fun z : c' = c ∧ j' = j ∧ g' = g => h2 z.2.1), h1.1, h1.2]
      exact if_neg h2
  · rw [if_neg h1, if_neg (fun z : c' = c ∧ j' = j ∧ g' = g => h1 ⟨z.2.2, z.1⟩)]
/-- an index that is out of bounds -/
abbrev tw_out (i : Int32) (n : Nat) : Prop := i < 0 ∨ n ≤ i.toNatClampNeg
-- the instructions
def tw_ic (v : Int32) : tw_Op := fun next _ lv st σ => next lv (.inl v :: st) σ
def tw_il (k : Nat) : tw_Op := fun next _ lv st σ => match tw_get lv k with
  | some (.inl x) => next lv (.inl x :: st) σ
  | _ => none
def tw_al (k : Nat) : tw_Op := fun next _ lv st σ => match tw_get lv k with
  | some (.inr q) => next lv (.inr q :: st) σ
  | _ => none
def tw_is (k : Nat) : tw_Op := fun next _ lv st σ => match st with
  | .inl x :: st => next (tw_set lv k (.inl x)) st σ
  | _ => none
def tw_as (k : Nat) : tw_Op := fun next _ lv st σ => match st with
  | .inr q :: st => next (tw_set lv k (.inr q)) st σ
  | _ => none
def tw_inc (k : Nat) (n : Int32) : tw_Op := fun next _ lv st σ => match tw_get lv k with
  | some (.inl x) => next (tw_set lv k (.inl (x + n))) st σ
  | _ => none
def tw_bin (f : Int32 → Int32 → Int32) : tw_Op := fun next _ lv st σ => match st with
  | .inl y :: .inl x :: st => next lv (.inl (f x y) :: st) σ
  | _ => none
def tw_div : tw_Op := fun next _ lv st σ => match st with
  | .inl y :: .inl x :: st => if y = 0 then none else next lv (.inl (x / y) :: st) σ
  | _ => none
def tw_rem : tw_Op := fun next _ lv st σ => match st with
  | .inl y :: .inl x :: st => if y = 0 then none else next lv (.inl (x - x / y * y) :: st) σ
  | _ => none
def tw_neg : tw_Op := fun next _ lv st σ => match st with
  | .inl x :: st => next lv (.inl (-x) :: st) σ
  | _ => none
def tw_dup : tw_Op := fun next _ lv st σ => match st with
  | v :: st => next lv (v :: v :: st) σ
  | _ => none
def tw_pop : tw_Op := fun next _ lv st σ => match st with
  | _ :: st => next lv st σ
  | _ => none
def tw_dx1 : tw_Op := fun next _ lv st σ => match st with
  | a :: b :: st => next lv (a :: b :: a :: st) σ
  | _ => none
def tw_d2 : tw_Op := fun next _ lv st σ => match st with
  | a :: b :: st => next lv (a :: b :: a :: b :: st) σ
  | _ => none
def tw_jmp (t : Nat) : tw_Op := fun _ jump lv st σ => jump t lv st σ
def tw_ifeq (t : Nat) : tw_Op := fun next jump lv st σ => match st with
  | .inl x :: st => if x = 0 then jump t lv st σ else next lv st σ
  | _ => none
def tw_ifne (t : Nat) : tw_Op := fun next jump lv st σ => match st with
  | .inl x :: st => if x = 0 then next lv st σ else jump t lv st σ
  | _ => none
def tw_iflt (t : Nat) : tw_Op := fun next jump lv st σ => match st with
  | .inl x :: st => if x < 0 then jump t lv st σ else next lv st σ
  | _ => none
def tw_ifge (t : Nat) : tw_Op := fun next jump lv st σ => match st with
  | .inl x :: st => if 0 ≤ x then jump t lv st σ else next lv st σ
  | _ => none
def tw_ifgt (t : Nat) : tw_Op := fun next jump lv st σ => match st with
  | .inl x :: st => if 0 < x then jump t lv st σ else next lv st σ
  | _ => none
def tw_ifle (t : Nat) : tw_Op := fun next jump lv st σ => match st with
  | .inl x :: st => if x ≤ 0 then jump t lv st σ else next lv st σ
  | _ => none
def tw_ceq (t : Nat) : tw_Op := fun next jump lv st σ => match st with
  | .inl y :: .inl x :: st => if x = y then jump t lv st σ else next lv st σ
  | _ => none
def tw_cne (t : Nat) : tw_Op := fun next jump lv st σ => match st with
  | .inl y :: .inl x :: st => if x = y then next lv st σ else jump t lv st σ
  | _ => none
def tw_clt (t : Nat) : tw_Op := fun next jump lv st σ => match st with
  | .inl y :: .inl x :: st => if x < y then jump t lv st σ else next lv st σ
  | _ => none
def tw_cge (t : Nat) : tw_Op := fun next jump lv st σ => match st with
  | .inl y :: .inl x :: st => if y ≤ x then jump t lv st σ else next lv st σ
  | _ => none
def tw_cgt (t : Nat) : tw_Op := fun next jump lv st σ => match st with
  | .inl y :: .inl x :: st => if y < x then jump t lv st σ else next lv st σ
  | _ => none
def tw_cle (t : Nat) : tw_Op := fun next jump lv st σ => match st with
  | .inl y :: .inl x :: st => if x ≤ y then jump t lv st σ else next lv st σ
  | _ => none
/-- both are constants of one enum -/
def tw_enb (a b : Nat) : Bool := (Nat.ble 50 a && Nat.blt a 53 && (Nat.ble 50 b && Nat.blt b 53)) || (Nat.ble 60 a && Nat.blt a 63 && (Nat.ble 60 b && Nat.blt b 63))
def tw_aeq (t : Nat) : tw_Op := fun next jump lv st σ => match st with
  | .inr b :: .inr a :: st => match tw_enb a.2 b.2 with
    | true => match Nat.beq a.2 b.2 with
      | true => jump t lv st σ
      | false => next lv st σ
    | false => none
  | _ => none
def tw_ane (t : Nat) : tw_Op := fun next jump lv st σ => match st with
  | .inr b :: .inr a :: st => match tw_enb a.2 b.2 with
    | true => match Nat.beq a.2 b.2 with
      | true => next lv st σ
      | false => jump t lv st σ
    | false => none
  | _ => none
def tw_swr (jump : Nat → tw_K) (d : Nat) (x : Int32) (lv : tw_L) (st : List tw_V) (σ : tw_S) : List (Int32 × Nat) → Option tw_R
  | [] => jump d lv st σ
  | q :: r => if x = q.1 then jump q.2 lv st σ else tw_swr jump d x lv st σ r
def tw_sw (cs : List (Int32 × Nat)) (d : Nat) : tw_Op := fun _ jump lv st σ => match st with
  | .inl x :: st => tw_swr jump d x lv st σ cs
  | _ => none
def tw_gi (c j : Nat) : tw_Op := fun next _ lv st σ => match st with
  | .inr q :: st => match Nat.beq q.2 c && tw_okb q.1 c with
    | true => next lv (.inl (σ q.1 c j) :: st) σ
    | false => none
  | _ => none
def tw_gr (c c2 : Nat) : tw_Op := fun next _ lv st σ => match st with
  | .inr q :: st => match Nat.beq q.2 c && tw_okb q.1 c with
    | true => next lv (.inr (q.1, c2) :: st) σ
    | false => none
  | _ => none
def tw_pi (c j : Nat) : tw_Op := fun next _ lv st σ => match st with
  | .inl x :: .inr q :: st => match Nat.beq q.2 c && tw_okb q.1 c with
    | true => next lv st (tw_pt σ q.1 c j x)
    | false => none
  | _ => none
def tw_pz (c j : Nat) : tw_Op := fun next _ lv st σ => match st with
  | .inl x :: .inr q :: st => match Nat.beq q.2 c && tw_okb q.1 c with
    | true => if x = 0 ∨ x = 1 then next lv st (tw_pt σ q.1 c j x) else none
    | false => none
  | _ => none
def tw_ia : tw_Op := fun next _ lv st σ => match st with
  | .inl i :: .inr q :: st => match tw_lay q.2, tw_okb q.1 q.2 with
    | .inr (0, n), true => if tw_out i n then none else next lv (.inl (σ q.1 q.2 i.toNatClampNeg) :: st) σ
    | _, _ => none
  | _ => none
def tw_za : tw_Op := fun next _ lv st σ => match st with
  | .inl i :: .inr q :: st => match tw_lay q.2, tw_okb q.1 q.2 with
    | .inr (1, n), true => if tw_out i n then none else next lv (.inl (σ q.1 q.2 i.toNatClampNeg) :: st) σ
    | _, _ => none
  | _ => none
def tw_ga : tw_Op := fun next _ lv st σ => match st with
  | .inl i :: .inr q :: st => match Nat.beq q.2 21 && !q.1 with
    | true => if tw_out i 2 then none else next lv (.inr (i.toNatClampNeg == 1, 0) :: st) σ
    | false => none
  | _ => none
def tw_ias (a b : Nat) : tw_Op := fun next _ lv st σ => match st with
  | .inl x :: .inl i :: .inr q :: st => match tw_lay q.2, tw_okb q.1 q.2 && (Nat.ble a q.2 && Nat.blt q.2 b) with
    | .inr (0, n), true => if tw_out i n then none else next lv st (tw_pt σ q.1 q.2 i.toNatClampNeg x)
    | _, _ => none
  | _ => none
def tw_zas (a b : Nat) : tw_Op := fun next _ lv st σ => match st with
  | .inl x :: .inl i :: .inr q :: st => match tw_lay q.2, tw_okb q.1 q.2 && (Nat.ble a q.2 && Nat.blt q.2 b) with
    | .inr (1, n), true => if tw_out i n then none else if x = 0 ∨ x = 1 then next lv st (tw_pt σ q.1 q.2 i.toNatClampNeg x) else none
    | _, _ => none
  | _ => none
/-- a constant of an enum -/
def tw_en (c : Nat) : tw_Op := fun next _ lv st σ => next lv (.inr (false, c) :: st) σ
/-- the fields of Access: need, outside, pageFault -/
def tw_acc (j i : Nat) : Int32 := match j, i with
  | 0, 0 => 8 | 0, 1 => 2 | 0, 2 => 4
  | 1, 0 => 1 | 1, 1 => 5 | 1, 2 => 7
  | 2, 0 => 12 | 2, 1 => 13 | 2, 2 => 15
  | _, _ => 0
def tw_ge (j : Nat) : tw_Op := fun next _ lv st σ => match st with
  | .inr q :: st => match Nat.ble 50 q.2 && Nat.blt q.2 53 with
    | true => next lv (.inl (tw_acc j (q.2 - 50)) :: st) σ
    | false => none
  | _ => none
/-- the law's script: f and its length -/
def tw_sl (f : Nat → Int32) (n : Nat) : tw_Op := fun next _ lv st σ => match st with
  | .inl i :: .inr q :: st => match Nat.beq q.2 70 with
    | true => if tw_out i n then none else next lv (.inl (f i.toNatClampNeg) :: st) σ
    | false => none
  | _ => none
def tw_sn (n : Nat) : tw_Op := fun next _ lv st σ => match st with
  | .inr q :: st => match Nat.beq q.2 70 with
    | true => next lv (.inl (nI n) :: st) σ
    | false => none
  | _ => none
def tw_r0 : tw_Op := fun _ _ _ st σ => match st with
  | [] => some (none, σ)
  | _ => none
def tw_ri : tw_Op := fun _ _ _ st σ => match st with
  | [.inl v] => some (some (.inl v), σ)
  | _ => none
def tw_rz : tw_Op := fun _ _ _ st σ => match st with
  | [.inl v] => if v = 0 ∨ v = 1 then some (some (.inl v), σ) else none
  | _ => none
def tw_ra : tw_Op := fun _ _ _ st σ => match st with
  | [.inr q] => some (some (.inr q), σ)
  | _ => none
/-- behind a call -/
def tw_beh (next : tw_K) (lv : tw_L) (rest : List tw_V) : Option tw_R → Option tw_R
  | none => none
  | some ρ => next lv (ρ.1.toList ++ rest) ρ.2
/-- a call of a static method with n arguments -/
def tw_cs (n : Nat) (f : tw_Fn) : tw_Op := fun next _ lv st σ => match Nat.ble n st.length && Nat.ble (st.drop n).length 8 with
  | true => tw_beh next lv (st.drop n) (f (st.take n).reverse σ)
  | false => none
/-- a call of a method of component c with n arguments beside the receiver -/
def tw_cv (n c : Nat) (f : tw_Fn) : tw_Op := fun next _ lv st σ => match st.drop n with
  | .inr q :: rest => match Nat.ble rest.length 8 && (Nat.beq q.2 c && tw_okb q.1 c) with
    | true => tw_beh next lv rest (f (.inr q :: (st.take n).reverse) σ)
    | false => none
  | _ => none
-- a method
def tw_seek (t : Nat) : List (Nat × tw_Op) → List (Nat × tw_Op)
  | [] => []
  | q :: r => match Nat.beq q.1 t with
    | true => q :: r
    | false => tw_seek t r
def tw_run (full : List (Nat × tw_Op)) : Nat → List (Nat × tw_Op) → tw_K
  | 0, _ => fun _ _ _ => none
  | _ + 1, [] => fun _ _ _ => none
  | n + 1, q :: r => q.2 (tw_run full n r) (fun t => tw_run full n (tw_seek t full))
/-- the arguments as locals -/
def tw_args (nL : Nat) (vs : List tw_V) : tw_L := vs.map some ++ List.replicate (nL - vs.length) none
/-- a method of n arguments, with so many locals, with so much fuel -/
def tw_fn (n nL fuel : Nat) (pr : List (Nat × tw_Op)) : tw_Fn := fun vs σ => match Nat.beq vs.length n with
  | true => tw_run pr fuel pr (tw_args nL vs) [] σ
  | false => none
theorem tw_fn_get {n nL fuel : Nat} {pr : List (Nat × tw_Op)} {vs : List tw_V} {σ : tw_S} {ρ : tw_R} (h : tw_fn n nL fuel pr vs σ = some ρ) : tw_run pr fuel pr (tw_args nL vs) [] σ = some ρ := by
  unfold tw_fn at h
  cases hb : Nat.beq vs.length n with
  | true => rw [hb] at h; exact h
  | false => rw [hb] at h; cases h
theorem tw_fn_len {n nL fuel k : Nat} {pr : List (Nat × tw_Op)} (hk : n ≤ k) (vs : List tw_V) (σ : tw_S) (ρ : tw_R) (h : tw_fn n nL fuel pr vs σ = some ρ) : vs.length ≤ k := by
  unfold tw_fn at h
  cases hb : Nat.beq vs.length n with
  | true => rw [Nat.eq_of_beq_eq_true hb]; exact hk
  | false => rw [hb] at h; cases h
theorem tw_no {α : Type} {x : α} {P : Prop} (h : (none : Option α) = some x) : P := by cases h
end
section
/-- the links to private methods of nest mates -/
def tw_NW (s : State) : Prop := ∀ q ∈ tw_Ne, va_Nw (.methodLinkNest q.1 q.2.1 q.2.2.1 q.2.2.2) s
/-- what a walk of a method's body rests on -/
def tw_Cx (p : Program) (s : State) (m : MethodId) (args : Array Value) (meth : Method) (c : Code) (cc : ByteArray) (nL : Nat) (ret : Option FieldType) (own : String) (E : tw_E) (D : va_G) : Prop :=
  p.tables.exec = Jvm.exec ∧ c.code = cc ∧ c.maxLocals = nL ∧ meth.sig.returnType = ret ∧ meth.locks = false ∧ s.vm.findClass own = some m.cls ∧ (∀ w ∈ tw_Tb, w.before args s = true) ∧ va_K D tw_cl (tw_tys E) s ∧ tw_EN E s s.heap ∧ tw_inj E ∧ tw_NW s
/-- from pc, with these locals, this stack, this state, the machine comes to Q -/
def tw_G (p : Program) (l : Launch) (e : Env) (R : Room) (s : State) (m : MethodId) (args : Array Value) (below : List Frame) (meth : Method) (c : Code) (ce sl : Nat) (Q : State → Prop) (nL : Nat) (E : tw_E) (D : va_G) (pc : Nat) (lv : tw_L) (st : List tw_V) (σ : tw_S) : Prop :=
  ∀ (H : Heap) (locs : List Loc) (ls : Array Slot), va_P D tw_cl (tw_ws E σ) H → va_S (tw_A E) s.heap H locs → lv_has ls nL (tw_lv E lv) → W p l e R s m args below meth c H locs ce sl Q (F0 m pc ls (st.map (tw_c E)))
/-- the instruction at pc is what the Op says -/
def tw_Sd (p : Program) (l : Launch) (e : Env) (R : Room) (s : State) (m : MethodId) (args : Array Value) (below : List Frame) (meth : Method) (c : Code) (ce sl : Nat) (Q : State → Prop) (nL : Nat) (E : tw_E) (D : va_G) (ρ : tw_R) (pc pn : Nat) (o : tw_Op) : Prop :=
  ∀ (next : tw_K) (jump : Nat → tw_K), (∀ lv st σ, next lv st σ = some ρ → tw_G p l e R s m args below meth c ce sl Q nL E D pn lv st σ) → (∀ t lv st σ, jump t lv st σ = some ρ → tw_G p l e R s m args below meth c ce sl Q nL E D t lv st σ) → ∀ lv st σ, o next jump lv st σ = some ρ → tw_G p l e R s m args below meth c ce sl Q nL E D pc lv st σ
def tw_hd (r : List (Nat × tw_Op)) : Nat := match r with
  | [] => 0
  | q :: _ => q.1
def tw_Ok (p : Program) (l : Launch) (e : Env) (R : Room) (s : State) (m : MethodId) (args : Array Value) (below : List Frame) (meth : Method) (c : Code) (ce sl : Nat) (Q : State → Prop) (nL : Nat) (E : tw_E) (D : va_G) (ρ : tw_R) : List (Nat × tw_Op) → Prop
  | [] => True
  | q :: r => tw_Sd p l e R s m args below meth c ce sl Q nL E D ρ q.1 (tw_hd r) q.2 ∧ tw_Ok p l e R s m args below meth c ce sl Q nL E D ρ r
section TWS
variable {p : Program} {l : Launch} {e : Env} {R : Room} {s : State} {m : MethodId} {args : Array Value} {below : List Frame} {meth : Method} {c : Code} {ce sl : Nat} {Q : State → Prop} {cc : ByteArray} {nL : Nat} {ret : Option FieldType} {own : String} {E : tw_E} {D : va_G} {ρ : tw_R} {pc : Nat}
theorem tw_Ok.seek {t : Nat} : ∀ {l0 : List (Nat × tw_Op)}, tw_Ok p l e R s m args below meth c ce sl Q nL E D ρ l0 → tw_Ok p l e R s m args below meth c ce sl Q nL E D ρ (tw_seek t l0) ∧ ∀ q r, tw_seek t l0 = q :: r → q.1 = t
  | [], h => ⟨h, fun q r e => by cases e⟩
  | a :: r0, h => by
    unfold tw_seek
    cases hb : Nat.beq a.1 t with
    | true => exact ⟨h, fun q r e => by cases e; exact Nat.eq_of_beq_eq_true hb⟩
    | false => exact tw_Ok.seek (l0 := r0) h.2
/-- a method ends: its walk comes to Q -/
theorem tw_sound {full : List (Nat × tw_Op)} (hf : tw_Ok p l e R s m args below meth c ce sl Q nL E D ρ full) : ∀ (n : Nat) (l0 : List (Nat × tw_Op)), tw_Ok p l e R s m args below meth c ce sl Q nL E D ρ l0 → ∀ (lv : tw_L) (st : List tw_V) (σ : tw_S), tw_run full n l0 lv st σ = some ρ → tw_G p l e R s m args below meth c ce sl Q nL E D (tw_hd l0) lv st σ
  | 0, _, _, _, _, _, h => tw_no h
  | _ + 1, [], _, _, _, _, h => tw_no h
  | n + 1, q :: r, ho, lv, st, σ, h => by
    refine ho.1 _ _ (fun lv st σ h2 => tw_sound hf n r ho.2 lv st σ h2) (fun t lv st σ h2 => ?_) lv st σ h
    have h3 := tw_Ok.seek (t := t) hf
    have h4 := tw_sound hf n _ h3.1 lv st σ h2
    cases hs : tw_seek t full with
    | nil =>
      rw [hs] at h2
      cases n with
      | zero => exact tw_no h2
      | succ n => exact tw_no h2
    | cons a r1 =>
      rw [hs] at h4
      have h5 : a.1 = t := h3.2 a r1 hs
      rw [← h5]
      exact h4
theorem tw_pos {α : Type} {c : Prop} [Decidable c] {a b x : α} (h : (if c then a else b) = x) (z : c) : a = x := by rw [if_pos z] at h; exact h
theorem tw_ng {α : Type} {c : Prop} [Decidable c] {a b x : α} (h : (if c then a else b) = x) (z : ¬ c) : b = x := by rw [if_neg z] at h; exact h
theorem ts_iconst (hC : tw_Cx p s m args meth c cc nL ret own E D) {n : Int} {v : Int32} (hd : decode cc pc = .ok (.iconst n, 1)) (hv : Int32.ofInt n = v) : tw_Sd p l e R s m args below meth c ce sl Q nL E D ρ pc (pc + 1) (tw_ic v) := by
  intro next jump hn hj lv st σ h H locs ls hP hS hL
  exact lv_iconst hC.1 hC.2.1 hd hv (hn _ _ _ h H locs ls hP hS hL)
theorem ts_bipush (hC : tw_Cx p s m args meth c cc nL ret own E D) {n : Int} {v : Int32} (hd : decode cc pc = .ok (.bipush n, 2)) (hv : (Int8.ofInt n).toInt32 = v) : tw_Sd p l e R s m args below meth c ce sl Q nL E D ρ pc (pc + 2) (tw_ic v) := by
  intro next jump hn hj lv st σ h H locs ls hP hS hL
  exact lv_bipush hC.1 hC.2.1 hd hv (hn _ _ _ h H locs ls hP hS hL)
theorem ts_sipush (hC : tw_Cx p s m args meth c cc nL ret own E D) {n : Int} {v : Int32} (hd : decode cc pc = .ok (.sipush n, 3)) (hv : (Int16.ofInt n).toInt32 = v) : tw_Sd p l e R s m args below meth c ce sl Q nL E D ρ pc (pc + 3) (tw_ic v) := by
  intro next jump hn hj lv st σ h H locs ls hP hS hL
  exact lv_sipush hC.1 hC.2.1 hd hv (hn _ _ _ h H locs ls hP hS hL)
theorem ts_ldc (hC : tw_Cx p s m args meth c cc nL ret own E D) {idx : Nat} {v : Int32} (hw : Cond.constant own idx v ∈ tw_Tb) (hd : decode cc pc = .ok (.ldc idx, 2)) : tw_Sd p l e R s m args below meth c ce sl Q nL E D ρ pc (pc + 2) (tw_ic v) := by
  intro next jump hn hj lv st σ h H locs ls hP hS hL
  exact lv_ldc hC.1 hC.2.1 hC.2.2.2.2.2.1 (hC.2.2.2.2.2.2.1 _ hw) hd (hn _ _ _ h H locs ls hP hS hL)
theorem ts_iload_n (hC : tw_Cx p s m args meth c cc nL ret own E D) {k : Fin 4} {i : Nat} (hd : decode cc pc = .ok (.iload_n k, 1)) (hi : (k : Nat) = i) : tw_Sd p l e R s m args below meth c ce sl Q nL E D ρ pc (pc + 1) (tw_il i) := by
  intro next jump hn hj lv st σ h H locs ls hP hS hL
  unfold tw_il at h
  cases hg : tw_get lv i with
  | none => rw [hg] at h; exact tw_no h
  | some v =>
    rw [hg] at h
    rcases v with x | q
    · exact lv_iload_n hC.1 hC.2.1 hd hi (tw_has hL hg) (hn _ _ _ h H locs ls hP hS hL)
    · exact tw_no h
theorem ts_iload (hC : tw_Cx p s m args meth c cc nL ret own E D) {i : Nat} (hd : decode cc pc = .ok (.iload i, 2)) : tw_Sd p l e R s m args below meth c ce sl Q nL E D ρ pc (pc + 2) (tw_il i) := by
  intro next jump hn hj lv st σ h H locs ls hP hS hL
  unfold tw_il at h
  cases hg : tw_get lv i with
  | none => rw [hg] at h; exact tw_no h
  | some v =>
    rw [hg] at h
    rcases v with x | q
    · exact lv_iload hC.1 hC.2.1 hd (tw_has hL hg) (hn _ _ _ h H locs ls hP hS hL)
    · exact tw_no h
theorem ts_aload_n (hC : tw_Cx p s m args meth c cc nL ret own E D) {k : Fin 4} {i : Nat} (hd : decode cc pc = .ok (.aload_n k, 1)) (hi : (k : Nat) = i) : tw_Sd p l e R s m args below meth c ce sl Q nL E D ρ pc (pc + 1) (tw_al i) := by
  intro next jump hn hj lv st σ h H locs ls hP hS hL
  unfold tw_al at h
  cases hg : tw_get lv i with
  | none => rw [hg] at h; exact tw_no h
  | some v =>
    rw [hg] at h
    rcases v with x | q
    · exact tw_no h
    · exact lv_aload_n hC.1 hC.2.1 hd hi (tw_has hL hg) (hn _ _ _ h H locs ls hP hS hL)
theorem ts_aload (hC : tw_Cx p s m args meth c cc nL ret own E D) {i : Nat} (hd : decode cc pc = .ok (.aload i, 2)) : tw_Sd p l e R s m args below meth c ce sl Q nL E D ρ pc (pc + 2) (tw_al i) := by
  intro next jump hn hj lv st σ h H locs ls hP hS hL
  unfold tw_al at h
  cases hg : tw_get lv i with
  | none => rw [hg] at h; exact tw_no h
  | some v =>
    rw [hg] at h
    rcases v with x | q
    · exact tw_no h
    · exact lv_aload hC.1 hC.2.1 hd (tw_has hL hg) (hn _ _ _ h H locs ls hP hS hL)
theorem ts_istore_n (hC : tw_Cx p s m args meth c cc nL ret own E D) {k : Fin 4} {i : Nat} (hd : decode cc pc = .ok (.istore_n k, 1)) (hi : (k : Nat) = i) (hn4 : i < nL) : tw_Sd p l e R s m args below meth c ce sl Q nL E D ρ pc (pc + 1) (tw_is i) := by
  intro next jump hn hj lv st σ h H locs ls hP hS hL
  rcases st with _ | ⟨x | q, st⟩
  · exact tw_no h
  · exact lv_istore_n hC.1 hC.2.1 hd hi hL hn4 rfl (fun ls1 h1 => hn _ _ _ h H locs ls1 hP hS (tw_stored h1))
  · exact tw_no h
theorem ts_istore (hC : tw_Cx p s m args meth c cc nL ret own E D) {i : Nat} (hd : decode cc pc = .ok (.istore i, 2)) (hn4 : i < nL) : tw_Sd p l e R s m args below meth c ce sl Q nL E D ρ pc (pc + 2) (tw_is i) := by
  intro next jump hn hj lv st σ h H locs ls hP hS hL
  rcases st with _ | ⟨x | q, st⟩
  · exact tw_no h
  · exact lv_istore hC.1 hC.2.1 hd hL hn4 rfl (fun ls1 h1 => hn _ _ _ h H locs ls1 hP hS (tw_stored h1))
  · exact tw_no h
theorem ts_astore_n (hC : tw_Cx p s m args meth c cc nL ret own E D) {k : Fin 4} {i : Nat} (hd : decode cc pc = .ok (.astore_n k, 1)) (hi : (k : Nat) = i) (hn4 : i < nL) : tw_Sd p l e R s m args below meth c ce sl Q nL E D ρ pc (pc + 1) (tw_as i) := by
  intro next jump hn hj lv st σ h H locs ls hP hS hL
  rcases st with _ | ⟨x | q, st⟩
  · exact tw_no h
  · exact tw_no h
  · exact lv_astore_n hC.1 hC.2.1 hd hi hL hn4 rfl (fun ls1 h1 => hn _ _ _ h H locs ls1 hP hS (tw_stored h1))
theorem ts_astore (hC : tw_Cx p s m args meth c cc nL ret own E D) {i : Nat} (hd : decode cc pc = .ok (.astore i, 2)) (hn4 : i < nL) : tw_Sd p l e R s m args below meth c ce sl Q nL E D ρ pc (pc + 2) (tw_as i) := by
  intro next jump hn hj lv st σ h H locs ls hP hS hL
  rcases st with _ | ⟨x | q, st⟩
  · exact tw_no h
  · exact tw_no h
  · exact lv_astore hC.1 hC.2.1 hd hL hn4 rfl (fun ls1 h1 => hn _ _ _ h H locs ls1 hP hS (tw_stored h1))
theorem ts_iinc (hC : tw_Cx p s m args meth c cc nL ret own E D) {i : Nat} {n : Int} {v : Int32} (hd : decode cc pc = .ok (.iinc i n, 3)) (hv : Int32.ofInt n = v) (hn4 : i < nL) : tw_Sd p l e R s m args below meth c ce sl Q nL E D ρ pc (pc + 3) (tw_inc i v) := by
  intro next jump hn hj lv st σ h H locs ls hP hS hL
  unfold tw_inc at h
  cases hg : tw_get lv i with
  | none => rw [hg] at h; exact tw_no h
  | some u =>
    rw [hg] at h
    rcases u with x | q
    · have hm := tw_get_mem E lv 0 i _ hg
      rw [Nat.zero_add] at hm
      obtain ⟨k, hk⟩ := List.mem_iff_getElem?.mp (hm : (i, tw_c E (.inl x)) ∈ tw_lv E lv)
      exact lv_iinc hC.1 hC.2.1 hd hL hk (v := x + v) (by rw [hv]) hn4 rfl (fun ls1 h1 => hn _ _ _ h H locs ls1 hP hS (tw_stored (v := .inl (x + v)) h1))
    · exact tw_no h
theorem ts_iadd (hC : tw_Cx p s m args meth c cc nL ret own E D) (hd : decode cc pc = .ok (.iadd, 1)) : tw_Sd p l e R s m args below meth c ce sl Q nL E D ρ pc (pc + 1) (tw_bin (· + ·)) := by
  intro next jump hn hj lv st σ h H locs ls hP hS hL
  rcases st with _ | ⟨y | q, _ | ⟨x | q2, st⟩⟩ <;> first | exact tw_no h | exact lv_iadd hC.1 hC.2.1 hd (hn _ _ _ h H locs ls hP hS hL)
theorem ts_isub (hC : tw_Cx p s m args meth c cc nL ret own E D) (hd : decode cc pc = .ok (.isub, 1)) : tw_Sd p l e R s m args below meth c ce sl Q nL E D ρ pc (pc + 1) (tw_bin (· - ·)) := by
  intro next jump hn hj lv st σ h H locs ls hP hS hL
  rcases st with _ | ⟨y | q, _ | ⟨x | q2, st⟩⟩ <;> first | exact tw_no h | exact lv_isub hC.1 hC.2.1 hd (hn _ _ _ h H locs ls hP hS hL)
theorem ts_imul (hC : tw_Cx p s m args meth c cc nL ret own E D) (hd : decode cc pc = .ok (.imul, 1)) : tw_Sd p l e R s m args below meth c ce sl Q nL E D ρ pc (pc + 1) (tw_bin (· * ·)) := by
  intro next jump hn hj lv st σ h H locs ls hP hS hL
  rcases st with _ | ⟨y | q, _ | ⟨x | q2, st⟩⟩ <;> first | exact tw_no h | exact lv_imul hC.1 hC.2.1 hd (hn _ _ _ h H locs ls hP hS hL)
theorem ts_iand (hC : tw_Cx p s m args meth c cc nL ret own E D) (hd : decode cc pc = .ok (.iand, 1)) : tw_Sd p l e R s m args below meth c ce sl Q nL E D ρ pc (pc + 1) (tw_bin (· &&& ·)) := by
  intro next jump hn hj lv st σ h H locs ls hP hS hL
  rcases st with _ | ⟨y | q, _ | ⟨x | q2, st⟩⟩ <;> first | exact tw_no h | exact lv_iand hC.1 hC.2.1 hd (hn _ _ _ h H locs ls hP hS hL)
theorem ts_ior (hC : tw_Cx p s m args meth c cc nL ret own E D) (hd : decode cc pc = .ok (.ior, 1)) : tw_Sd p l e R s m args below meth c ce sl Q nL E D ρ pc (pc + 1) (tw_bin (· ||| ·)) := by
  intro next jump hn hj lv st σ h H locs ls hP hS hL
  rcases st with _ | ⟨y | q, _ | ⟨x | q2, st⟩⟩ <;> first | exact tw_no h | exact lv_ior hC.1 hC.2.1 hd (hn _ _ _ h H locs ls hP hS hL)
theorem ts_ixor (hC : tw_Cx p s m args meth c cc nL ret own E D) (hd : decode cc pc = .ok (.ixor, 1)) : tw_Sd p l e R s m args below meth c ce sl Q nL E D ρ pc (pc + 1) (tw_bin (· ^^^ ·)) := by
  intro next jump hn hj lv st σ h H locs ls hP hS hL
  rcases st with _ | ⟨y | q, _ | ⟨x | q2, st⟩⟩ <;> first | exact tw_no h | exact lv_ixor hC.1 hC.2.1 hd (hn _ _ _ h H locs ls hP hS hL)
theorem ts_ishl (hC : tw_Cx p s m args meth c cc nL ret own E D) (hd : decode cc pc = .ok (.ishl, 1)) : tw_Sd p l e R s m args below meth c ce sl Q nL E D ρ pc (pc + 1) (tw_bin (fun x y => x <<< (y &&& 31))) := by
  intro next jump hn hj lv st σ h H locs ls hP hS hL
  rcases st with _ | ⟨y | q, _ | ⟨x | q2, st⟩⟩ <;> first | exact tw_no h | exact lv_ishl hC.1 hC.2.1 hd (hn _ _ _ h H locs ls hP hS hL)
theorem ts_ishr (hC : tw_Cx p s m args meth c cc nL ret own E D) (hd : decode cc pc = .ok (.ishr, 1)) : tw_Sd p l e R s m args below meth c ce sl Q nL E D ρ pc (pc + 1) (tw_bin (fun x y => x >>> (y &&& 31))) := by
  intro next jump hn hj lv st σ h H locs ls hP hS hL
  rcases st with _ | ⟨y | q, _ | ⟨x | q2, st⟩⟩ <;> first | exact tw_no h | exact lv_ishr hC.1 hC.2.1 hd (hn _ _ _ h H locs ls hP hS hL)
theorem ts_idiv (hC : tw_Cx p s m args meth c cc nL ret own E D) (hd : decode cc pc = .ok (.idiv, 1)) : tw_Sd p l e R s m args below meth c ce sl Q nL E D ρ pc (pc + 1) tw_div := by
  intro next jump hn hj lv st σ h H locs ls hP hS hL
  rcases st with _ | ⟨y | q, _ | ⟨x | q2, st⟩⟩ <;> first | exact tw_no h | skip
  have h1 : (if y = 0 then none else next lv (.inl (x / y) :: st) σ) = some ρ := h
  exact lv_idiv hC.1 hC.2.1 hd (fun z => tw_no (tw_pos h1 z)) (hn _ _ _ (tw_ng h1 (fun z => tw_no (tw_pos h1 z))) H locs ls hP hS hL)
theorem ts_irem (hC : tw_Cx p s m args meth c cc nL ret own E D) (hd : decode cc pc = .ok (.irem, 1)) : tw_Sd p l e R s m args below meth c ce sl Q nL E D ρ pc (pc + 1) tw_rem := by
  intro next jump hn hj lv st σ h H locs ls hP hS hL
  rcases st with _ | ⟨y | q, _ | ⟨x | q2, st⟩⟩ <;> first | exact tw_no h | skip
  have h1 : (if y = 0 then none else next lv (.inl (x - x / y * y) :: st) σ) = some ρ := h
  exact lv_irem hC.1 hC.2.1 hd (fun z => tw_no (tw_pos h1 z)) (hn _ _ _ (tw_ng h1 (fun z => tw_no (tw_pos h1 z))) H locs ls hP hS hL)
theorem ts_ineg (hC : tw_Cx p s m args meth c cc nL ret own E D) (hd : decode cc pc = .ok (.ineg, 1)) : tw_Sd p l e R s m args below meth c ce sl Q nL E D ρ pc (pc + 1) tw_neg := by
  intro next jump hn hj lv st σ h H locs ls hP hS hL
  rcases st with _ | ⟨x | q, st⟩ <;> first | exact tw_no h | exact lv_ineg hC.1 hC.2.1 hd (hn _ _ _ h H locs ls hP hS hL)
theorem ts_dup (hC : tw_Cx p s m args meth c cc nL ret own E D) (hd : decode cc pc = .ok (.dup, 1)) : tw_Sd p l e R s m args below meth c ce sl Q nL E D ρ pc (pc + 1) tw_dup := by
  intro next jump hn hj lv st σ h H locs ls hP hS hL
  rcases st with _ | ⟨x, st⟩
  · exact tw_no h
  · exact lv_dup hC.1 hC.2.1 hd (tw_cat E x) (hn _ _ _ h H locs ls hP hS hL)
theorem ts_pop (hC : tw_Cx p s m args meth c cc nL ret own E D) (hd : decode cc pc = .ok (.pop, 1)) : tw_Sd p l e R s m args below meth c ce sl Q nL E D ρ pc (pc + 1) tw_pop := by
  intro next jump hn hj lv st σ h H locs ls hP hS hL
  rcases st with _ | ⟨x, st⟩
  · exact tw_no h
  · exact lv_pop hC.1 hC.2.1 hd (tw_cat E x) (hn _ _ _ h H locs ls hP hS hL)
theorem ts_dup_x1 (hC : tw_Cx p s m args meth c cc nL ret own E D) (hd : decode cc pc = .ok (.dup_x1, 1)) : tw_Sd p l e R s m args below meth c ce sl Q nL E D ρ pc (pc + 1) tw_dx1 := by
  intro next jump hn hj lv st σ h H locs ls hP hS hL
  rcases st with _ | ⟨x, _ | ⟨y, st⟩⟩
  · exact tw_no h
  · exact tw_no h
  · exact lv_dup_x1 hC.1 hC.2.1 hd (tw_cat E x) (tw_cat E y) (hn _ _ _ h H locs ls hP hS hL)
theorem ts_dup2 (hC : tw_Cx p s m args meth c cc nL ret own E D) (hd : decode cc pc = .ok (.dup2, 1)) : tw_Sd p l e R s m args below meth c ce sl Q nL E D ρ pc (pc + 1) tw_d2 := by
  intro next jump hn hj lv st σ h H locs ls hP hS hL
  rcases st with _ | ⟨x, _ | ⟨y, st⟩⟩
  · exact tw_no h
  · exact tw_no h
  · exact lv_dup2_11 hC.1 hC.2.1 hd (tw_cat E x) (tw_cat E y) (hn _ _ _ h H locs ls hP hS hL)
theorem ts_goto (hC : tw_Cx p s m args meth c cc nL ret own E D) {off : Int} {tgt : Nat} (hd : decode cc pc = .ok (.goto off, 3)) (ht : (pc : Int) + off = (tgt : Int)) {pn : Nat} : tw_Sd p l e R s m args below meth c ce sl Q nL E D ρ pc pn (tw_jmp tgt) := by
  intro next jump hn hj lv st σ h H locs ls hP hS hL
  exact lv_goto hC.1 hC.2.1 hd ht (hj _ _ _ _ h H locs ls hP hS hL)
theorem ts_ifeq (hC : tw_Cx p s m args meth c cc nL ret own E D) {off : Int} {tgt : Nat} (hd : decode cc pc = .ok (.ifCond .eq off, 3)) (ht : (pc : Int) + off = (tgt : Int)) : tw_Sd p l e R s m args below meth c ce sl Q nL E D ρ pc (pc + 3) (tw_ifeq tgt) := by
  intro next jump hn hj lv st σ h H locs ls hP hS hL
  rcases st with _ | ⟨x | q, st⟩ <;> first | exact tw_no h | skip
  have h1 : (if x = 0 then jump tgt lv st σ else next lv st σ) = some ρ := h
  exact lv_if_eq hC.1 hC.2.1 hd ht (fun z => hj _ _ _ _ (tw_pos h1 z) H locs ls hP hS hL) (fun z => hn _ _ _ (tw_ng h1 z) H locs ls hP hS hL)
theorem ts_ceq (hC : tw_Cx p s m args meth c cc nL ret own E D) {off : Int} {tgt : Nat} (hd : decode cc pc = .ok (.if_icmp .eq off, 3)) (ht : (pc : Int) + off = (tgt : Int)) : tw_Sd p l e R s m args below meth c ce sl Q nL E D ρ pc (pc + 3) (tw_ceq tgt) := by
  intro next jump hn hj lv st σ h H locs ls hP hS hL
  rcases st with _ | ⟨y | q, _ | ⟨x | q2, st⟩⟩ <;> first | exact tw_no h | skip
  have h1 : (if x = y then jump tgt lv st σ else next lv st σ) = some ρ := h
  exact lv_icmp_eq hC.1 hC.2.1 hd ht (fun z => hj _ _ _ _ (tw_pos h1 z) H locs ls hP hS hL) (fun z => hn _ _ _ (tw_ng h1 z) H locs ls hP hS hL)
theorem ts_ifne (hC : tw_Cx p s m args meth c cc nL ret own E D) {off : Int} {tgt : Nat} (hd : decode cc pc = .ok (.ifCond .ne off, 3)) (ht : (pc : Int) + off = (tgt : Int)) : tw_Sd p l e R s m args below meth c ce sl Q nL E D ρ pc (pc + 3) (tw_ifne tgt) := by
  intro next jump hn hj lv st σ h H locs ls hP hS hL
  rcases st with _ | ⟨x | q, st⟩ <;> first | exact tw_no h | skip
  have h1 : (if x = 0 then next lv st σ else jump tgt lv st σ) = some ρ := h
  exact lv_if_ne hC.1 hC.2.1 hd ht (fun z => hj _ _ _ _ (tw_ng h1 z) H locs ls hP hS hL) (fun z => hn _ _ _ (tw_pos h1 z) H locs ls hP hS hL)
theorem ts_cne (hC : tw_Cx p s m args meth c cc nL ret own E D) {off : Int} {tgt : Nat} (hd : decode cc pc = .ok (.if_icmp .ne off, 3)) (ht : (pc : Int) + off = (tgt : Int)) : tw_Sd p l e R s m args below meth c ce sl Q nL E D ρ pc (pc + 3) (tw_cne tgt) := by
  intro next jump hn hj lv st σ h H locs ls hP hS hL
  rcases st with _ | ⟨y | q, _ | ⟨x | q2, st⟩⟩ <;> first | exact tw_no h | skip
  have h1 : (if x = y then next lv st σ else jump tgt lv st σ) = some ρ := h
  exact lv_icmp_ne hC.1 hC.2.1 hd ht (fun z => hj _ _ _ _ (tw_ng h1 z) H locs ls hP hS hL) (fun z => hn _ _ _ (tw_pos h1 z) H locs ls hP hS hL)
theorem ts_iflt (hC : tw_Cx p s m args meth c cc nL ret own E D) {off : Int} {tgt : Nat} (hd : decode cc pc = .ok (.ifCond .lt off, 3)) (ht : (pc : Int) + off = (tgt : Int)) : tw_Sd p l e R s m args below meth c ce sl Q nL E D ρ pc (pc + 3) (tw_iflt tgt) := by
  intro next jump hn hj lv st σ h H locs ls hP hS hL
  rcases st with _ | ⟨x | q, st⟩ <;> first | exact tw_no h | skip
  have h1 : (if x < 0 then jump tgt lv st σ else next lv st σ) = some ρ := h
  exact lv_if_lt hC.1 hC.2.1 hd ht (fun z => hj _ _ _ _ (tw_pos h1 z) H locs ls hP hS hL) (fun z => hn _ _ _ (tw_ng h1 z) H locs ls hP hS hL)
theorem ts_clt (hC : tw_Cx p s m args meth c cc nL ret own E D) {off : Int} {tgt : Nat} (hd : decode cc pc = .ok (.if_icmp .lt off, 3)) (ht : (pc : Int) + off = (tgt : Int)) : tw_Sd p l e R s m args below meth c ce sl Q nL E D ρ pc (pc + 3) (tw_clt tgt) := by
  intro next jump hn hj lv st σ h H locs ls hP hS hL
  rcases st with _ | ⟨y | q, _ | ⟨x | q2, st⟩⟩ <;> first | exact tw_no h | skip
  have h1 : (if x < y then jump tgt lv st σ else next lv st σ) = some ρ := h
  exact lv_icmp_lt hC.1 hC.2.1 hd ht (fun z => hj _ _ _ _ (tw_pos h1 z) H locs ls hP hS hL) (fun z => hn _ _ _ (tw_ng h1 z) H locs ls hP hS hL)
theorem ts_ifge (hC : tw_Cx p s m args meth c cc nL ret own E D) {off : Int} {tgt : Nat} (hd : decode cc pc = .ok (.ifCond .ge off, 3)) (ht : (pc : Int) + off = (tgt : Int)) : tw_Sd p l e R s m args below meth c ce sl Q nL E D ρ pc (pc + 3) (tw_ifge tgt) := by
  intro next jump hn hj lv st σ h H locs ls hP hS hL
  rcases st with _ | ⟨x | q, st⟩ <;> first | exact tw_no h | skip
  have h1 : (if 0 ≤ x then jump tgt lv st σ else next lv st σ) = some ρ := h
  exact lv_if_ge hC.1 hC.2.1 hd ht (fun z => hj _ _ _ _ (tw_pos h1 z) H locs ls hP hS hL) (fun z => hn _ _ _ (tw_ng h1 z) H locs ls hP hS hL)
theorem ts_cge (hC : tw_Cx p s m args meth c cc nL ret own E D) {off : Int} {tgt : Nat} (hd : decode cc pc = .ok (.if_icmp .ge off, 3)) (ht : (pc : Int) + off = (tgt : Int)) : tw_Sd p l e R s m args below meth c ce sl Q nL E D ρ pc (pc + 3) (tw_cge tgt) := by
  intro next jump hn hj lv st σ h H locs ls hP hS hL
  rcases st with _ | ⟨y | q, _ | ⟨x | q2, st⟩⟩ <;> first | exact tw_no h | skip
  have h1 : (if y ≤ x then jump tgt lv st σ else next lv st σ) = some ρ := h
  exact lv_icmp_ge hC.1 hC.2.1 hd ht (fun z => hj _ _ _ _ (tw_pos h1 z) H locs ls hP hS hL) (fun z => hn _ _ _ (tw_ng h1 z) H locs ls hP hS hL)
theorem ts_ifgt (hC : tw_Cx p s m args meth c cc nL ret own E D) {off : Int} {tgt : Nat} (hd : decode cc pc = .ok (.ifCond .gt off, 3)) (ht : (pc : Int) + off = (tgt : Int)) : tw_Sd p l e R s m args below meth c ce sl Q nL E D ρ pc (pc + 3) (tw_ifgt tgt) := by
  intro next jump hn hj lv st σ h H locs ls hP hS hL
  rcases st with _ | ⟨x | q, st⟩ <;> first | exact tw_no h | skip
  have h1 : (if 0 < x then jump tgt lv st σ else next lv st σ) = some ρ := h
  exact lv_if_gt hC.1 hC.2.1 hd ht (fun z => hj _ _ _ _ (tw_pos h1 z) H locs ls hP hS hL) (fun z => hn _ _ _ (tw_ng h1 z) H locs ls hP hS hL)
theorem ts_cgt (hC : tw_Cx p s m args meth c cc nL ret own E D) {off : Int} {tgt : Nat} (hd : decode cc pc = .ok (.if_icmp .gt off, 3)) (ht : (pc : Int) + off = (tgt : Int)) : tw_Sd p l e R s m args below meth c ce sl Q nL E D ρ pc (pc + 3) (tw_cgt tgt) := by
  intro next jump hn hj lv st σ h H locs ls hP hS hL
  rcases st with _ | ⟨y | q, _ | ⟨x | q2, st⟩⟩ <;> first | exact tw_no h | skip
  have h1 : (if y < x then jump tgt lv st σ else next lv st σ) = some ρ := h
  exact lv_icmp_gt hC.1 hC.2.1 hd ht (fun z => hj _ _ _ _ (tw_pos h1 z) H locs ls hP hS hL) (fun z => hn _ _ _ (tw_ng h1 z) H locs ls hP hS hL)
theorem ts_ifle (hC : tw_Cx p s m args meth c cc nL ret own E D) {off : Int} {tgt : Nat} (hd : decode cc pc = .ok (.ifCond .le off, 3)) (ht : (pc : Int) + off = (tgt : Int)) : tw_Sd p l e R s m args below meth c ce sl Q nL E D ρ pc (pc + 3) (tw_ifle tgt) := by
  intro next jump hn hj lv st σ h H locs ls hP hS hL
  rcases st with _ | ⟨x | q, st⟩ <;> first | exact tw_no h | skip
  have h1 : (if x ≤ 0 then jump tgt lv st σ else next lv st σ) = some ρ := h
  exact lv_if_le hC.1 hC.2.1 hd ht (fun z => hj _ _ _ _ (tw_pos h1 z) H locs ls hP hS hL) (fun z => hn _ _ _ (tw_ng h1 z) H locs ls hP hS hL)
theorem ts_cle (hC : tw_Cx p s m args meth c cc nL ret own E D) {off : Int} {tgt : Nat} (hd : decode cc pc = .ok (.if_icmp .le off, 3)) (ht : (pc : Int) + off = (tgt : Int)) : tw_Sd p l e R s m args below meth c ce sl Q nL E D ρ pc (pc + 3) (tw_cle tgt) := by
  intro next jump hn hj lv st σ h H locs ls hP hS hL
  rcases st with _ | ⟨y | q, _ | ⟨x | q2, st⟩⟩ <;> first | exact tw_no h | skip
  have h1 : (if x ≤ y then jump tgt lv st σ else next lv st σ) = some ρ := h
  exact lv_icmp_le hC.1 hC.2.1 hd ht (fun z => hj _ _ _ _ (tw_pos h1 z) H locs ls hP hS hL) (fun z => hn _ _ _ (tw_ng h1 z) H locs ls hP hS hL)
theorem tw_en_adr (hE : tw_EN E s s.heap) {g1 g2 : Bool} {a b : Nat} (h : tw_enb a b = true) : tw_adr E g1 a = tw_adr E g2 b ↔ a = b := by
  simp only [tw_enb, Bool.or_eq_true, Bool.and_eq_true, Nat.ble_eq, Nat.blt_eq] at h
  constructor
  · intro e
    rcases h with ⟨⟨a1, a2⟩, b1, b2⟩ | ⟨⟨a1, a2⟩, b1, b2⟩
    · unfold tw_adr at e
      rw [if_neg (by omega), if_pos (by omega), if_neg (by omega), if_pos (by omega)] at e
      have := hE.1.2 (a - 50) (b - 50) (by show a - 50 < 3; omega) (by show b - 50 < 3; omega) e
      omega
    · unfold tw_adr at e
      rw [if_neg (by omega), if_neg (by omega), if_pos (by omega), if_neg (by omega), if_neg (by omega), if_pos (by omega)] at e
      have := hE.2.2 (a - 60) (b - 60) (by show a - 60 < 3; omega) (by show b - 60 < 3; omega) e
      omega
  · intro e
    subst e
    unfold tw_adr
    rw [if_neg (by omega), if_neg (c := a < 50) (by omega)]
theorem ts_aeq (hC : tw_Cx p s m args meth c cc nL ret own E D) {off : Int} {tgt : Nat} (hd : decode cc pc = .ok (.if_acmp .eq off, 3)) (ht : (pc : Int) + off = (tgt : Int)) : tw_Sd p l e R s m args below meth c ce sl Q nL E D ρ pc (pc + 3) (tw_aeq tgt) := by
  intro next jump hn hj lv st σ h H locs ls hP hS hL
  rcases st with _ | ⟨y | q, _ | ⟨x | q2, st⟩⟩
  · exact tw_no h
  · exact tw_no h
  · exact tw_no h
  · exact tw_no h
  · exact tw_no h
  · exact tw_no h
  · unfold tw_aeq at h
    dsimp only at h
    cases hen : tw_enb q2.2 q.2 with
    | false => rw [hen] at h; exact tw_no h
    | true =>
      rw [hen] at h
      dsimp only at h
      have adr := tw_en_adr (g1 := q2.1) (g2 := q.1) hC.2.2.2.2.2.2.2.2.1 hen
      cases hb : Nat.beq q2.2 q.2 with
      | true => rw [hb] at h; exact lv_acmp_eq (rx := some (tw_adr E q2.1 q2.2)) (ry := some (tw_adr E q.1 q.2)) hC.1 hC.2.1 hd ht (fun _ => hj _ _ _ _ h H locs ls hP hS hL) (fun z => absurd (congrArg some (adr.mpr (Nat.eq_of_beq_eq_true hb))) z)
      | false => rw [hb] at h; exact lv_acmp_eq (rx := some (tw_adr E q2.1 q2.2)) (ry := some (tw_adr E q.1 q.2)) hC.1 hC.2.1 hd ht (fun z => absurd (adr.mp (Option.some.inj z)) (Nat.ne_of_beq_eq_false hb)) (fun _ => hn _ _ _ h H locs ls hP hS hL)
theorem ts_ane (hC : tw_Cx p s m args meth c cc nL ret own E D) {off : Int} {tgt : Nat} (hd : decode cc pc = .ok (.if_acmp .ne off, 3)) (ht : (pc : Int) + off = (tgt : Int)) : tw_Sd p l e R s m args below meth c ce sl Q nL E D ρ pc (pc + 3) (tw_ane tgt) := by
  intro next jump hn hj lv st σ h H locs ls hP hS hL
  rcases st with _ | ⟨y | q, _ | ⟨x | q2, st⟩⟩
  · exact tw_no h
  · exact tw_no h
  · exact tw_no h
  · exact tw_no h
  · exact tw_no h
  · exact tw_no h
  · unfold tw_ane at h
    dsimp only at h
    cases hen : tw_enb q2.2 q.2 with
    | false => rw [hen] at h; exact tw_no h
    | true =>
      rw [hen] at h
      dsimp only at h
      have adr := tw_en_adr (g1 := q2.1) (g2 := q.1) hC.2.2.2.2.2.2.2.2.1 hen
      cases hb : Nat.beq q2.2 q.2 with
      | true => rw [hb] at h; exact lv_acmp_ne (rx := some (tw_adr E q2.1 q2.2)) (ry := some (tw_adr E q.1 q.2)) hC.1 hC.2.1 hd ht (fun z => absurd (congrArg some (adr.mpr (Nat.eq_of_beq_eq_true hb))) z) (fun _ => hn _ _ _ h H locs ls hP hS hL)
      | false => rw [hb] at h; exact lv_acmp_ne (rx := some (tw_adr E q2.1 q2.2)) (ry := some (tw_adr E q.1 q.2)) hC.1 hC.2.1 hd ht (fun _ => hj _ _ _ _ h H locs ls hP hS hL) (fun z => absurd (adr.mp (Option.some.inj z)) (Nat.ne_of_beq_eq_false hb))
end TWS
end
section
/-- where a switch goes -/
def tw_tg (d : Nat) (x : Int32) : List (Int32 × Nat) → Nat
  | [] => d
  | q :: r => if x = q.1 then q.2 else tw_tg d x r
theorem tw_swr_tg {jump : Nat → tw_K} {d : Nat} {x : Int32} {lv : tw_L} {st : List tw_V} {σ : tw_S} {ρ : tw_R} : ∀ (cs : List (Int32 × Nat)), tw_swr jump d x lv st σ cs = some ρ → jump (tw_tg d x cs) lv st σ = some ρ
  | [], h => h
  | q :: r, h => by
    unfold tw_swr at h
    unfold tw_tg
    by_cases hq : x = q.1
    · rw [if_pos hq] at h ⊢; exact h
    · rw [if_neg hq] at h ⊢; exact tw_swr_tg r h
theorem tw_tg_out {d : Nat} {x : Int32} {lo hi : Int} (hx : x.toInt < lo ∨ hi < x.toInt) : ∀ (cs : List (Int32 × Nat)), cs.all (fun q => decide (lo ≤ q.1.toInt ∧ q.1.toInt ≤ hi)) = true → tw_tg d x cs = d
  | [], _ => rfl
  | q :: r, h => by
    rw [List.all_cons, Bool.and_eq_true] at h
    have hq := of_decide_eq_true h.1
    unfold tw_tg
    rw [if_neg (fun z => by rw [z] at hx; omega)]
    exact tw_tg_out hx r h.2
section TWS2
variable {p : Program} {l : Launch} {e : Env} {R : Room} {s : State} {m : MethodId} {args : Array Value} {below : List Frame} {meth : Method} {c : Code} {ce sl : Nat} {Q : State → Prop} {cc : ByteArray} {nL : Nat} {ret : Option FieldType} {own : String} {E : tw_E} {D : va_G} {ρ : tw_R} {pc : Nat}
theorem ts_table (hC : tw_Cx p s m args meth c cc nL ret own E D) {dflt lo hi : Int} {offs : Array Int} {len d n : Nat} (cs : List (Int32 × Nat)) (hd : decode cc pc = .ok (.tableswitch dflt lo hi offs, len)) (hdf : (pc : Int) + dflt = (d : Int)) (hn0 : hi = lo + n) (hcs : cs.all (fun q => decide (lo ≤ q.1.toInt ∧ q.1.toInt ≤ hi)) = true)
    (hof : ((List.range (n + 1)).all (fun k => match offs[k]? with | some o => decide ((pc : Int) + o = (tw_tg d (Int32.ofInt (lo + k)) cs : Nat)) | none => false)) = true) {pn : Nat} : tw_Sd p l e R s m args below meth c ce sl Q nL E D ρ pc pn (tw_sw cs d) := by
  intro next jump hn hj lv st σ h H locs ls hP hS hL
  rcases st with _ | ⟨x | q, st⟩
  · exact tw_no h
  · have hg := hj _ _ _ _ (tw_swr_tg cs h) H locs ls hP hS hL
    by_cases ho : x.toInt < lo ∨ hi < x.toInt
    · rw [tw_tg_out ho cs hcs] at hg
      exact lv_tableOut hC.1 hC.2.1 hd ho hdf hg
    · have h1 : ¬ x.toInt < lo := fun z => ho (Or.inl z)
      have h2 : ¬ hi < x.toInt := fun z => ho (Or.inr z)
      have hk : (x.toInt - lo).toNat < n + 1 := by omega
      have h3 := List.all_eq_true.mp hof _ (List.mem_range.mpr hk)
      have hxx : Int32.ofInt (lo + ((x.toInt - lo).toNat : Nat)) = x := by
        rw [show lo + ((x.toInt - lo).toNat : Nat) = x.toInt by omega]
        exact Int32.ofInt_toInt x
      cases hoo : offs[(x.toInt - lo).toNat]? with
      | none => rw [hoo] at h3; cases h3
      | some o =>
        rw [hoo] at h3
        have h4 := of_decide_eq_true h3
        rw [hxx] at h4
        exact lv_tableIn hC.1 hC.2.1 hd h1 h2 hoo h4 hg
  · exact tw_no h
theorem tw_look {d : Nat} {dflt : Int} {x : Int32} (hdf : (pc : Int) + dflt = (d : Int)) : ∀ (ps : List (Int × Int)) (cs : List (Int32 × Nat)), ps.length = cs.length → ((ps.zip cs).all (fun q => decide (q.2.1.toInt = q.1.1 ∧ (pc : Int) + q.1.2 = (q.2.2 : Nat)))) = true → (pc : Int) + Op.lookupswitch.offset ps dflt x.toInt = (tw_tg d x cs : Nat)
  | [], [], _, _ => by
    unfold tw_tg
    rw [show Op.lookupswitch.offset [] dflt x.toInt = dflt from rfl]
    exact hdf
  | [], _ :: _, h, _ => by simp at h
  | _ :: _, [], h, _ => by simp at h
  | a :: ps, b :: cs, hl, h => by
    rw [List.zip_cons_cons, List.all_cons, Bool.and_eq_true] at h
    have h1 := of_decide_eq_true h.1
    obtain ⟨a1, a2⟩ := a
    obtain ⟨b1, b2⟩ := b
    dsimp only at h1
    unfold tw_tg
    by_cases hq : x = b1
    · rw [if_pos hq, Op.lookupswitch.offset_cons, if_pos (by rw [hq]; exact h1.1.symm)]
      exact h1.2
    · rw [if_neg hq, lv_osw hq h1.1]
      exact tw_look hdf ps cs (by simpa using hl) h.2
theorem ts_lookup (hC : tw_Cx p s m args meth c cc nL ret own E D) {dflt : Int} {ps : Array (Int × Int)} {len d : Nat} (cs : List (Int32 × Nat)) (hd : decode cc pc = .ok (.lookupswitch dflt ps, len)) (hp : (ps.toList.zip (ps.toList.drop 1)).all (fun (a, next) => a.1 < next.1) = true) (hdf : (pc : Int) + dflt = (d : Int)) (hln : ps.toList.length = cs.length) (hof : ((ps.toList.zip cs).all (fun q => decide (q.2.1.toInt = q.1.1 ∧ (pc : Int) + q.1.2 = (q.2.2 : Nat)))) = true) {pn : Nat} : tw_Sd p l e R s m args below meth c ce sl Q nL E D ρ pc pn (tw_sw cs d) := by
  intro next jump hn hj lv st σ h H locs ls hP hS hL
  rcases st with _ | ⟨x | q, st⟩
  · exact tw_no h
  · exact lv_lookup hC.1 hC.2.1 hd hp rfl (tw_look hdf ps.toList cs hln hof) (hj _ _ _ _ (tw_swr_tg cs h) H locs ls hP hS hL)
  · exact tw_no h
theorem tw_cell_o {g : Bool} {k ci : Nat} {fds : List (Option Nat)} (h : tw_lay k = .inl (ci, fds)) (f : Nat → Int32) : tw_cell E g k f = .inr (ci, tw_fvs E g f 0 fds) := by
  unfold tw_cell
  rw [h]
theorem tw_cell_i {g : Bool} {k n : Nat} (h : tw_lay k = .inr (0, n)) (f : Nat → Int32) : tw_cell E g k f = .inl (E.2.1 (tw_ix g k), n, .inl f) := by
  unfold tw_cell
  rw [h]
  rfl
theorem tw_cell_z {g : Bool} {k n : Nat} (h : tw_lay k = .inr (1, n)) (f : Nat → Int32) : tw_cell E g k f = .inl (E.2.1 (tw_ix g k), n, .inl f) := by
  unfold tw_cell
  rw [h]
  rfl
theorem tw_ty_i {k n : Nat} (h : tw_lay k = .inr (0, n)) : tw_tyOf k = .int := by
  unfold tw_tyOf
  rw [if_neg (fun z => by rw [z] at h; cases h), if_neg (fun z => by rw [z] at h; cases h), if_neg (fun z => by rw [z] at h; cases h)]
theorem tw_ty_z {k n : Nat} (h : tw_lay k = .inr (1, n)) (hk : k = 27 ∨ k = 34) : tw_tyOf k = .boolean := by
  rcases hk with rfl | rfl <;> rfl
theorem tw_lay_z {k n : Nat} (hk : k < 37) (h : tw_lay k = .inr (1, n)) : k = 27 ∨ k = 34 := by
  have key : ∀ k, k < 37 → (match tw_lay k with | .inr (1, _) => (k == 27 || k == 34) | _ => true) = true := by decide +kernel
  have h1 := key k hk
  rw [h] at h1
  simpa using h1
/-- a receiver's name -/
theorem tw_rc {g : Bool} {k k' : Nat} (h : (Nat.beq k' k && tw_okb g k) = true) : k' = k ∧ tw_okb g k = true := by
  rw [Bool.and_eq_true] at h
  exact ⟨Nat.eq_of_beq_eq_true h.1, h.2⟩
theorem ts_gi (hC : tw_Cx p s m args meth c cc nL ret own E D) {k j ci N idx : Nat} {C : String} {T : u_T} {fds : List (Option Nat)} (hlay : tw_lay k = .inl (ci, fds)) (hf : fds[j]? = some none) (hcl : tw_cl[ci]? = some (C, T, N)) (hjN : j < N) (hin : ∀ w ∈ u_ws C T N, w ∈ tw_Tb) (hlink : Cond.fieldLink own idx C (T j).2.1 (T j).2.2.1 ∈ tw_Tb) (hT : (T j).1 = C) (hd : decode cc pc = .ok (.getfield idx, 3)) : tw_Sd p l e R s m args below meth c ce sl Q nL E D ρ pc (pc + 3) (tw_gi k j) := by
  obtain ⟨hx, hb, hml, hr, hlk, hown, hts, hK, hE, hinj, hNW⟩ := hC
  intro next jump hn hj lv st σ h H locs ls hP hS hL
  rcases st with _ | ⟨x | q, st⟩
  · exact tw_no h
  · exact tw_no h
  · unfold tw_gi at h
    dsimp only at h
    cases hq : (Nat.beq q.2 k && tw_okb q.1 k) with
    | false => rw [hq] at h; exact tw_no h
    | true =>
      rw [hq] at h
      obtain ⟨g, k'⟩ := q
      have hq : (Nat.beq k' k && tw_okb g k) = true := hq
      obtain ⟨e0, ho⟩ := tw_rc hq
      subst e0
      have hat := tw_ws_at E σ ho
      rw [tw_cell_o hlay] at hat
      have hv := tw_fvs_at E g (σ g k') fds 0 j none hf
      rw [Nat.zero_add] at hv
      exact va_get hx hb hts hin hown hK hP (tw_ix g k') hat hcl j hjN (hts _ hlink) (fun z hz => by rw [hT] at hz; exact hz) hv hd (hn _ _ _ h H locs ls hP hS hL)
theorem ts_gr (hC : tw_Cx p s m args meth c cc nL ret own E D) {k j ci N idx : Nat} {C : String} {T : u_T} {fds : List (Option Nat)} (hlay : tw_lay k = .inl (ci, fds)) {c2 : Nat} (hf : fds[j]? = some (some c2)) (hcl : tw_cl[ci]? = some (C, T, N)) (hjN : j < N) (hin : ∀ w ∈ u_ws C T N, w ∈ tw_Tb) (hlink : Cond.fieldLink own idx C (T j).2.1 (T j).2.2.1 ∈ tw_Tb) (hT : (T j).1 = C) (hd : decode cc pc = .ok (.getfield idx, 3)) : tw_Sd p l e R s m args below meth c ce sl Q nL E D ρ pc (pc + 3) (tw_gr k c2) := by
  obtain ⟨hx, hb, hml, hr, hlk, hown, hts, hK, hE, hinj, hNW⟩ := hC
  intro next jump hn hj lv st σ h H locs ls hP hS hL
  rcases st with _ | ⟨x | q, st⟩
  · exact tw_no h
  · exact tw_no h
  · unfold tw_gr at h
    dsimp only at h
    cases hq : (Nat.beq q.2 k && tw_okb q.1 k) with
    | false => rw [hq] at h; exact tw_no h
    | true =>
      rw [hq] at h
      obtain ⟨g, k'⟩ := q
      have hq : (Nat.beq k' k && tw_okb g k) = true := hq
      obtain ⟨e0, ho⟩ := tw_rc hq
      subst e0
      have hat := tw_ws_at E σ ho
      rw [tw_cell_o hlay] at hat
      have hv := tw_fvs_at E g (σ g k') fds 0 j (some c2) hf
      exact va_get hx hb hts hin hown hK hP (tw_ix g k') hat hcl j hjN (hts _ hlink) (fun z hz => by rw [hT] at hz; exact hz) hv hd (hn _ _ _ h H locs ls hP hS hL)
theorem tw_01 {x : Int32} {a : Option tw_R} {ρ : tw_R} (h : (if x = 0 ∨ x = 1 then a else none) = some ρ) : x = 0 ∨ x = 1 := by
  by_cases hx : x = 0 ∨ x = 1
  · exact hx
  · rw [if_neg hx] at h; cases h
theorem tw_ib {i : Int32} {n : Nat} {a : Option tw_R} {ρ : tw_R} (h : (if tw_out i n then none else a) = some ρ) : vp_in i n ∧ a = some ρ := by
  by_cases hx : tw_out i n
  · rw [if_pos hx] at h; cases h
  · rw [if_neg hx] at h; exact ⟨hx, h⟩
theorem tw_nz {x : Int32} (h : x = 0 ∨ x = 1) : narrow .boolean (.int x) = .int x := by
  rcases h with rfl | rfl <;> rfl
theorem tw_fz {x : Int32} (h : x = 0 ∨ x = 1) : fits .boolean (.int x) = true := by
  rcases h with rfl | rfl <;> rfl
theorem tw_vz {x : Int32} (h : x = 0 ∨ x = 1) : vp_nar .boolean x = x := by
  rcases h with rfl | rfl <;> rfl
theorem ts_pi (hC : tw_Cx p s m args meth c cc nL ret own E D) {k j ci N idx : Nat} {C : String} {T : u_T} {fds : List (Option Nat)} (hlay : tw_lay k = .inl (ci, fds)) (hf : fds[j]? = some none) (hcl : tw_cl[ci]? = some (C, T, N)) (hjN : j < N) (hin : ∀ w ∈ u_ws C T N, w ∈ tw_Tb) (hlink : Cond.fieldLink own idx C (T j).2.1 (T j).2.2.1 ∈ tw_Tb) (hT : (T j).1 = C) {ty0 : Nat → FieldType} (hty : ∀ k, k < N → parseFieldDescriptor (T k).2.2.1 = some (ty0 k)) (hnm : ∀ a, a < N → ∀ b, b < N → a ≠ b → (T a).2.1 ≠ (T b).2.1) (hfin : (T j).2.2.2 = false) (hd2 : parseFieldDescriptor (T j).2.2.1 = some .int) (hd : decode cc pc = .ok (.putfield idx, 3)) : tw_Sd p l e R s m args below meth c ce sl Q nL E D ρ pc (pc + 3) (tw_pi k j) := by
  obtain ⟨hx, hb, hml, hr, hlk, hown, hts, hK, hE, hinj, hNW⟩ := hC
  intro next jump hn hj lv st σ h H locs ls hP hS hL
  rcases st with _ | ⟨y | q0, _ | ⟨x | q, st⟩⟩
  · exact tw_no h
  · exact tw_no h
  · exact tw_no h
  · unfold tw_pi at h
    dsimp only at h
    cases hq : (Nat.beq q.2 k && tw_okb q.1 k) with
    | false => rw [hq] at h; exact tw_no h
    | true =>
      rw [hq] at h
      obtain ⟨g, k'⟩ := q
      have hq : (Nat.beq k' k && tw_okb g k) = true := hq
      obtain ⟨e0, ho⟩ := tw_rc hq
      subst e0
      have hat := tw_ws_at E σ ho
      rw [tw_cell_o hlay] at hat
      have hup0 := tw_fvs_up E g (σ g k') y fds 0 j hf
      rw [Nat.zero_add] at hup0
      have hup : (tw_fvs E g (σ g k') 0 fds).set j (tw_c E (.inl y)) = tw_fvs E g (upd (σ g k') j y) 0 fds := hup0
      have hlen : j < (tw_fvs E g (σ g k') 0 fds).length := by rw [tw_fvs_len]; exact (List.getElem?_eq_some_iff.mp hf).1
      refine va_put hx hb hts hin ty0 hty hnm hown hK hP (tw_D hinj σ) hS (tw_ix g k') hat hcl j hjN (hts _ hlink) (fun z hz => by rw [hT] at hz; exact hz) hfin hd2 rfl rfl hlen hd (fun H1 locs1 hP1 hD1 hS1 => ?_)
      rw [hup, ← tw_cell_o hlay, tw_ws_set E σ _ ho, tw_up_pt] at hP1
      exact hn _ _ _ h H1 locs1 ls hP1 hS1 hL
  · exact tw_no h
  · exact tw_no h
  · exact tw_no h
theorem ts_pz (hC : tw_Cx p s m args meth c cc nL ret own E D) {k j ci N idx : Nat} {C : String} {T : u_T} {fds : List (Option Nat)} (hlay : tw_lay k = .inl (ci, fds)) (hf : fds[j]? = some none) (hcl : tw_cl[ci]? = some (C, T, N)) (hjN : j < N) (hin : ∀ w ∈ u_ws C T N, w ∈ tw_Tb) (hlink : Cond.fieldLink own idx C (T j).2.1 (T j).2.2.1 ∈ tw_Tb) (hT : (T j).1 = C) {ty0 : Nat → FieldType} (hty : ∀ k, k < N → parseFieldDescriptor (T k).2.2.1 = some (ty0 k)) (hnm : ∀ a, a < N → ∀ b, b < N → a ≠ b → (T a).2.1 ≠ (T b).2.1) (hfin : (T j).2.2.2 = false) (hd2 : parseFieldDescriptor (T j).2.2.1 = some .boolean) (hd : decode cc pc = .ok (.putfield idx, 3)) : tw_Sd p l e R s m args below meth c ce sl Q nL E D ρ pc (pc + 3) (tw_pz k j) := by
  obtain ⟨hx, hb, hml, hr, hlk, hown, hts, hK, hE, hinj, hNW⟩ := hC
  intro next jump hn hj lv st σ h H locs ls hP hS hL
  rcases st with _ | ⟨y | q0, _ | ⟨x | q, st⟩⟩
  · exact tw_no h
  · exact tw_no h
  · exact tw_no h
  · unfold tw_pz at h
    dsimp only at h
    cases hq : (Nat.beq q.2 k && tw_okb q.1 k) with
    | false => rw [hq] at h; exact tw_no h
    | true =>
      rw [hq] at h
      obtain ⟨g, k'⟩ := q
      have hq : (Nat.beq k' k && tw_okb g k) = true := hq
      obtain ⟨e0, ho⟩ := tw_rc hq
      subst e0
      have hat := tw_ws_at E σ ho
      rw [tw_cell_o hlay] at hat
      have hup0 := tw_fvs_up E g (σ g k') y fds 0 j hf
      rw [Nat.zero_add] at hup0
      have hup : (tw_fvs E g (σ g k') 0 fds).set j (tw_c E (.inl y)) = tw_fvs E g (upd (σ g k') j y) 0 fds := hup0
      have hlen : j < (tw_fvs E g (σ g k') 0 fds).length := by rw [tw_fvs_len]; exact (List.getElem?_eq_some_iff.mp hf).1
      refine va_put hx hb hts hin ty0 hty hnm hown hK hP (tw_D hinj σ) hS (tw_ix g k') hat hcl j hjN (hts _ hlink) (fun z hz => by rw [hT] at hz; exact hz) hfin hd2 (tw_nz (tw_01 h)) (tw_fz (tw_01 h)) hlen hd (fun H1 locs1 hP1 hD1 hS1 => ?_)
      rw [hup, ← tw_cell_o hlay, tw_ws_set E σ _ ho, tw_up_pt] at hP1
      exact hn _ _ _ (tw_pos h (tw_01 h)) H1 locs1 ls hP1 hS1 hL
  · exact tw_no h
  · exact tw_no h
  · exact tw_no h
theorem ts_iaload (hC : tw_Cx p s m args meth c cc nL ret own E D) (hd : decode cc pc = .ok (.iaload, 1)) : tw_Sd p l e R s m args below meth c ce sl Q nL E D ρ pc (pc + 1) tw_ia := by
  obtain ⟨hx, hb, hml, hr, hlk, hown, hts, hK, hE, hinj, hNW⟩ := hC
  intro next jump hn hj lv st σ h H locs ls hP hS hL
  rcases st with _ | ⟨i | q0, _ | ⟨x | q, st⟩⟩
  · exact tw_no h
  · exact tw_no h
  · exact tw_no h
  · unfold tw_ia at h
    dsimp only at h
    split at h
    · rename_i n hl ho
      have hat := tw_ws_at E σ ho
      rw [tw_cell_i hl] at hat
      have hty := tw_tys_at E ho
      rw [tw_ty_i hl] at hty
      exact va_iald hx hb hK hP (tw_ix q.1 q.2) (tw_ix q.1 q.2) hat hty (tw_ib h).1 hd (hn _ _ _ (tw_ib h).2 H locs ls hP hS hL)
    · exact tw_no h
  · exact tw_no h
  · exact tw_no h
  · exact tw_no h
theorem ts_baload (hC : tw_Cx p s m args meth c cc nL ret own E D) (hd : decode cc pc = .ok (.baload, 1)) : tw_Sd p l e R s m args below meth c ce sl Q nL E D ρ pc (pc + 1) tw_za := by
  obtain ⟨hx, hb, hml, hr, hlk, hown, hts, hK, hE, hinj, hNW⟩ := hC
  intro next jump hn hj lv st σ h H locs ls hP hS hL
  rcases st with _ | ⟨i | q0, _ | ⟨x | q, st⟩⟩
  · exact tw_no h
  · exact tw_no h
  · exact tw_no h
  · unfold tw_za at h
    dsimp only at h
    split at h
    · rename_i n hl ho
      have hat := tw_ws_at E σ ho
      rw [tw_cell_z hl] at hat
      have hty := tw_tys_at E ho
      rw [tw_ty_z hl (tw_lay_z (tw_okb_lt ho) hl)] at hty
      exact va_zald hx hb hK hP (tw_ix q.1 q.2) (tw_ix q.1 q.2) hat hty (tw_ib h).1 hd (hn _ _ _ (tw_ib h).2 H locs ls hP hS hL)
    · exact tw_no h
  · exact tw_no h
  · exact tw_no h
  · exact tw_no h
theorem ts_aaload (hC : tw_Cx p s m args meth c cc nL ret own E D) (hd : decode cc pc = .ok (.aaload, 1)) : tw_Sd p l e R s m args below meth c ce sl Q nL E D ρ pc (pc + 1) tw_ga := by
  obtain ⟨hx, hb, hml, hr, hlk, hown, hts, hK, hE, hinj, hNW⟩ := hC
  intro next jump hn hj lv st σ h H locs ls hP hS hL
  rcases st with _ | ⟨i | q0, _ | ⟨x | q, st⟩⟩
  · exact tw_no h
  · exact tw_no h
  · exact tw_no h
  · unfold tw_ga at h
    dsimp only at h
    cases hq : (Nat.beq q.2 21 && !q.1) with
    | false => rw [hq] at h; exact tw_no h
    | true =>
      rw [hq] at h
      rw [Bool.and_eq_true] at hq
      obtain ⟨g, k⟩ := q
      have hk : k = 21 := Nat.eq_of_beq_eq_true hq.1
      have hg : g = false := by simpa using hq.2
      subst hk
      subst hg
      have hat := tw_ws_at E σ (g := false) (c := 21) rfl
      have hty := tw_tys_at E (g := false) (c := 21) rfl
      exact va_aldq (C := "TwinHost$Guest") (f := fun j => some (tw_adr E (j == 1) 0)) hx hb hK hP (tw_ix false 21) (tw_ix false 21) hat hty (tw_ib h).1 hd (hn _ _ _ (tw_ib h).2 H locs ls hP hS hL)
  · exact tw_no h
  · exact tw_no h
  · exact tw_no h
theorem ts_iastore (hC : tw_Cx p s m args meth c cc nL ret own E D) {a b : Nat} (hd : decode cc pc = .ok (.iastore, 1)) : tw_Sd p l e R s m args below meth c ce sl Q nL E D ρ pc (pc + 1) (tw_ias a b) := by
  obtain ⟨hx, hb, hml, hr, hlk, hown, hts, hK, hE, hinj, hNW⟩ := hC
  intro next jump hn hj lv st σ h H locs ls hP hS hL
  rcases st with _ | ⟨x | q0, _ | ⟨i | q1, _ | ⟨z | q, st⟩⟩⟩ <;> first | exact tw_no h | skip
  unfold tw_ias at h
  dsimp only at h
  split at h
  · rename_i n hl ho0
    rw [Bool.and_eq_true] at ho0
    have ho := ho0.1
    have hat := tw_ws_at E σ ho
    rw [tw_cell_i hl] at hat
    have hty := tw_tys_at E ho
    rw [tw_ty_i hl] at hty
    refine va_iast hx hb hK hP (tw_D hinj σ) hS (tw_ix q.1 q.2) (tw_ix q.1 q.2) hat hty (tw_ib h).1 hd (fun H1 locs1 hP1 hD1 hS1 => ?_)
    rw [← tw_cell_i hl, tw_ws_set E σ _ ho, tw_up_pt] at hP1
    exact hn _ _ _ (tw_ib h).2 H1 locs1 ls hP1 hS1 hL
  · exact tw_no h
theorem ts_bastore (hC : tw_Cx p s m args meth c cc nL ret own E D) {a b : Nat} (hd : decode cc pc = .ok (.bastore, 1)) : tw_Sd p l e R s m args below meth c ce sl Q nL E D ρ pc (pc + 1) (tw_zas a b) := by
  obtain ⟨hx, hb, hml, hr, hlk, hown, hts, hK, hE, hinj, hNW⟩ := hC
  intro next jump hn hj lv st σ h H locs ls hP hS hL
  rcases st with _ | ⟨x | q0, _ | ⟨i | q1, _ | ⟨z | q, st⟩⟩⟩ <;> first | exact tw_no h | skip
  unfold tw_zas at h
  dsimp only at h
  split at h
  · rename_i n hl ho0
    rw [Bool.and_eq_true] at ho0
    have ho := ho0.1
    have hat := tw_ws_at E σ ho
    rw [tw_cell_z hl] at hat
    have hty := tw_tys_at E ho
    rw [tw_ty_z hl (tw_lay_z (tw_okb_lt ho) hl)] at hty
    refine va_zast hx hb hK hP (tw_D hinj σ) hS (tw_ix q.1 q.2) (tw_ix q.1 q.2) hat hty (tw_ib h).1 hd (fun H1 locs1 hP1 hD1 hS1 => ?_)
    rw [tw_vz (tw_01 (tw_ib h).2), ← tw_cell_z hl, tw_ws_set E σ _ ho, tw_up_pt] at hP1
    exact hn _ _ _ (tw_pos (tw_ib h).2 (tw_01 (tw_ib h).2)) H1 locs1 ls hP1 hS1 hL
  · exact tw_no h
theorem ts_getA (hC : tw_Cx p s m args meth c cc nL ret own E D) {i idx : Nat} {nm : String} (hi : i < 3) (hnm : (["FETCH", "LOAD", "STORE"] : List String).getD i "" = nm) (hlink : Cond.fieldLink own idx "TwinHost$Access" nm "LTwinHost$Access;" ∈ tw_Tb) (hd : decode cc pc = .ok (.getstatic idx, 3)) : tw_Sd p l e R s m args below meth c ce sl Q nL E D ρ pc (pc + 3) (tw_en (50 + i)) := by
  obtain ⟨hx, hb, hml, hr, hlk, hown, hts, hK, hE, hinj, hNW⟩ := hC
  intro next jump hn hj lv st σ h H locs ls hP hS hL
  have hz := (hE.1.1 i hi).1
  rw [hnm] at hz
  refine va_gets hx hb hz hS hown (hts _ hlink) (fun _ z => z) hd ?_
  have hk := hn _ _ _ h H locs ls hP hS hL
  have ha : tw_adr E false (50 + i) = E.2.2.1 i := by
    unfold tw_adr
    rw [if_neg (by omega), if_pos (by omega), show 50 + i - 50 = i by omega]
  have hk2 : W p l e R s m args below meth c H locs ce sl Q (F0 m (pc + 3) ls (.ref (tw_adr E false (50 + i)) :: st.map (tw_c E))) := hk
  rw [ha] at hk2
  exact hk2
theorem ts_getO (hC : tw_Cx p s m args meth c cc nL ret own E D) {i idx : Nat} {nm : String} (hi : i < 3) (hnm : (["RETIRED", "TRAPPED", "STALLED"] : List String).getD i "" = nm) (hlink : Cond.fieldLink own idx "TwinHost$Outcome" nm "LTwinHost$Outcome;" ∈ tw_Tb) (hd : decode cc pc = .ok (.getstatic idx, 3)) : tw_Sd p l e R s m args below meth c ce sl Q nL E D ρ pc (pc + 3) (tw_en (60 + i)) := by
  obtain ⟨hx, hb, hml, hr, hlk, hown, hts, hK, hE, hinj, hNW⟩ := hC
  intro next jump hn hj lv st σ h H locs ls hP hS hL
  have hz := (hE.2.1 i hi).1
  rw [hnm] at hz
  refine va_gets hx hb hz hS hown (hts _ hlink) (fun _ z => z) hd ?_
  have hk := hn _ _ _ h H locs ls hP hS hL
  have ha : tw_adr E false (60 + i) = E.2.2.2.1 i := by
    unfold tw_adr
    rw [if_neg (by omega), if_neg (by omega), if_pos (by omega), show 60 + i - 60 = i by omega]
  have hk2 : W p l e R s m args below meth c H locs ce sl Q (F0 m (pc + 3) ls (.ref (tw_adr E false (60 + i)) :: st.map (tw_c E))) := hk
  rw [ha] at hk2
  exact hk2
theorem tw_acc_all : ((List.range 3).all (fun i => ([8, 2, 4] : List Int32).getD i 0 == tw_acc 0 i && (([1, 5, 7] : List Int32).getD i 0 == tw_acc 1 i && ([12, 13, 15] : List Int32).getD i 0 == tw_acc 2 i))) = true := by decide +kernel
theorem ts_ge (hC : tw_Cx p s m args meth c cc nL ret own E D) {j idx : Nat} {q0 : String × String × String × List Int32} (hq0 : q0 ∈ ([("TwinHost$Access", "need", "I", [8, 2, 4]), ("TwinHost$Access", "outside", "I", [1, 5, 7]), ("TwinHost$Access", "pageFault", "I", [12, 13, 15])] : List (String × String × String × List Int32))) (hv : ∀ i, i < 3 → q0.2.2.2.getD i 0 = tw_acc j i) (hq1 : q0.1 = "TwinHost$Access") (hlink : Cond.fieldLink own idx "TwinHost$Access" q0.2.1 q0.2.2.1 ∈ tw_Tb) (hd : decode cc pc = .ok (.getfield idx, 3)) : tw_Sd p l e R s m args below meth c ce sl Q nL E D ρ pc (pc + 3) (tw_ge j) := by
  obtain ⟨hx, hb, hml, hr, hlk, hown, hts, hK, hE, hinj, hNW⟩ := hC
  intro next jump hn hj lv st σ h H locs ls hP hS hL
  rcases st with _ | ⟨x | q, st⟩
  · exact tw_no h
  · exact tw_no h
  · unfold tw_ge at h
    dsimp only at h
    cases hq : (Nat.ble 50 q.2 && Nat.blt q.2 53) with
    | false => rw [hq] at h; exact tw_no h
    | true =>
      rw [hq] at h
      rw [Bool.and_eq_true] at hq
      have h1 : 50 ≤ q.2 := Nat.le_of_ble_eq_true hq.1
      have h2 : q.2 < 53 := Nat.blt_eq.mp hq.2
      have ha : tw_adr E q.1 q.2 = E.2.2.1 (q.2 - 50) := by
        unfold tw_adr
        rw [if_neg (by omega), if_pos (by omega)]
      have hk := va_getE hx hb hE.1 (i := q.2 - 50) (by show q.2 - 50 < 3; omega) hS hown hq0 (hts _ hlink) (fun z hz => by rw [hq1] at hz; exact hz) hd (by rw [hv _ (by omega)]; exact hn _ _ _ h H locs ls hP hS hL)
      rw [← ha] at hk
      exact hk
end TWS2
/-- a method's start and end in these words -/
def tw_Pi (E : tw_E) (D : va_G) (σ : tw_S) (U : State) : Prop := va_P D tw_cl (tw_ws E σ) U.heap ∧ va_K D tw_cl (tw_tys E) U ∧ tw_EN E U U.heap ∧ tw_NW U
def tw_Pc (E : tw_E) (D : va_G) (vs : List tw_V) (σ : tw_S) : Array Value → State → Prop := va_Pc (vs.map (tw_c E)) (tw_Pi E D σ)
def tw_Qc (E : tw_E) (D : va_G) (ρ : tw_R) : Array Value → State → Outcome → State → Prop := fun _ st oc t => (oc = .returned (ρ.1.map (tw_c E)) ∧ va_P D tw_cl (tw_ws E ρ.2) t.heap) ∧ va_F (tw_A E) st t
theorem tw_blind (E : tw_E) (D : va_G) (vs : List tw_V) (σ : tw_S) : FrameBlind (tw_Pc E D vs σ) := fun a U g mk q => by
  obtain ⟨q0, qP, qK, qE, qN⟩ := q
  exact ⟨q0, qP, va_K.moved (u := U) (U := U.calling g mk a) (Vm.Alike.refl U.vm) qK, tw_EN.moved (u := U) (U := U.calling g mk a) (Vm.Alike.refl U.vm) qE, fun z hz => va_Nw.same rfl (rfl : U.vm = (U.calling g mk a).vm) (qN z hz)⟩
def tw_rmd (d : Nat) : Room := { frames := d, cells := 0, slots := 0, locals := 40 * d }
/-- method y does what f says, with d frames below it at most -/
def tw_Con (y : MethodName) (cc : ByteArray) (maxL : Nat) (ret : Option FieldType) (d : Nat) (f : tw_Fn) : Prop := ∀ (l : Launch) (E : tw_E) (D : va_G), tw_inj E → ∀ (vs : List tw_V) (σ : tw_S) (ρ : tw_R), f vs σ = some ρ → Met l y (.code y cc maxL ret :: tw_Tb) (tw_rmd d) (tw_Pc E D vs σ) (tw_Qc E D ρ) 0 0 (tw_A E)
section TWS3
variable {p : Program} {l : Launch} {e : Env} {R : Room} {s : State} {m : MethodId} {args : Array Value} {below : List Frame} {meth : Method} {c : Code} {ce sl : Nat} {Q : State → Prop} {cc : ByteArray} {nL : Nat} {ret : Option FieldType} {own : String} {E : tw_E} {D : va_G} {ρ : tw_R} {pc : Nat}
theorem ts_vret (hC : tw_Cx p s m args meth c cc nL ret own E D) (hr0 : ret = none) (hd : decode cc pc = .ok (.return_, 1)) {pn : Nat} : tw_Sd p l e R s m args below meth c ce sl (MQ below (tw_Qc E D ρ) args s ce sl (tw_A E)) nL E D ρ pc pn tw_r0 := by
  obtain ⟨hx, hb, hml, hr, hlk, hown, hts, hK, hE, hinj, hNW⟩ := hC
  intro next jump hn hj lv st σ h H locs ls hP hS hL
  rcases st with _ | ⟨x, st⟩ <;> first | exact tw_no h | skip
  have h1 : some ((none : Option tw_V), σ) = some ρ := h
  obtain rfl := Option.some.inj h1
  exact W.vret hx hb (hr.trans hr0) (fun t ht hW => ⟨⟨rfl, by rw [ht]; exact hP⟩, hS.F ht⟩) hS.2.2 hd hlk
theorem ts_iret (hC : tw_Cx p s m args meth c cc nL ret own E D) (hr0 : ret = some .int) (hd : decode cc pc = .ok (.ireturn, 1)) {pn : Nat} : tw_Sd p l e R s m args below meth c ce sl (MQ below (tw_Qc E D ρ) args s ce sl (tw_A E)) nL E D ρ pc pn tw_ri := by
  obtain ⟨hx, hb, hml, hr, hlk, hown, hts, hK, hE, hinj, hNW⟩ := hC
  intro next jump hn hj lv st σ h H locs ls hP hS hL
  rcases st with _ | ⟨x | q, _ | ⟨y, st⟩⟩ <;> first | exact tw_no h | skip
  have h1 : some ((some (.inl x) : Option tw_V), σ) = some ρ := h
  obtain rfl := Option.some.inj h1
  exact W.iret hx hb (hr.trans hr0) (fun t ht hW => ⟨⟨rfl, by rw [ht]; exact hP⟩, hS.F ht⟩) hS.2.2 hd hlk
theorem ts_zret (hC : tw_Cx p s m args meth c cc nL ret own E D) (hr0 : ret = some .boolean) (hd : decode cc pc = .ok (.ireturn, 1)) {pn : Nat} : tw_Sd p l e R s m args below meth c ce sl (MQ below (tw_Qc E D ρ) args s ce sl (tw_A E)) nL E D ρ pc pn tw_rz := by
  obtain ⟨hx, hb, hml, hr, hlk, hown, hts, hK, hE, hinj, hNW⟩ := hC
  intro next jump hn hj lv st σ h H locs ls hP hS hL
  rcases st with _ | ⟨x | q, _ | ⟨y, st⟩⟩ <;> first | exact tw_no h | skip
  have h0 : (if x = 0 ∨ x = 1 then some (some (.inl x), σ) else none) = some ρ := h
  have hz := tw_01 h0
  have h1 := tw_pos h0 hz
  obtain rfl := Option.some.inj h1
  exact W.zret (ty := .boolean) hx hb (hr.trans hr0) (tw_nz hz) (fun t ht hW => ⟨⟨rfl, by rw [ht]; exact hP⟩, hS.F ht⟩) hS.2.2 hd hlk
theorem ts_aret (hC : tw_Cx p s m args meth c cc nL ret own E D) {n0 : String} (hr0 : ret = some (.object n0)) (hd : decode cc pc = .ok (.areturn, 1)) {pn : Nat} : tw_Sd p l e R s m args below meth c ce sl (MQ below (tw_Qc E D ρ) args s ce sl (tw_A E)) nL E D ρ pc pn tw_ra := by
  obtain ⟨hx, hb, hml, hr, hlk, hown, hts, hK, hE, hinj, hNW⟩ := hC
  intro next jump hn hj lv st σ h H locs ls hP hS hL
  rcases st with _ | ⟨x | q, _ | ⟨y, st⟩⟩ <;> first | exact tw_no h | skip
  have h1 : some ((some (.inr q) : Option tw_V), σ) = some ρ := h
  obtain rfl := Option.some.inj h1
  exact W.aret hx hb (hr.trans hr0) (Or.inl ⟨n0, rfl⟩) (Or.inr ⟨_, rfl⟩) (fun t ht hW => ⟨⟨rfl, by rw [ht]; exact hP⟩, hS.F ht⟩) hS.2.2 hd hlk
/-- behind a call -/
theorem tw_after {H : Heap} {locs : List Loc} {ls : Array Slot} {st0 rest : List Value} {a : Array Value} {ρ1 : tw_R} (hr : va_Run p l e R s m args below meth c H locs ce sl 0 0 (F0 m pc ls st0) rest (tw_Qc E D ρ1 a) (tw_A E)) (hS : va_S (tw_A E) s.heap H locs)
    (kk : ∀ (H1 : Heap) (locs1 : List Loc), va_P D tw_cl (tw_ws E ρ1.2) H1 → va_S (tw_A E) s.heap H1 locs1 → W p l e R s m args below meth c H1 locs1 ce sl Q (F0 m (pc + 3) ls ((ρ1.1.map (tw_c E)).toList ++ rest))) : W p l e R s m args below meth c H locs ce sl Q (F0 m pc ls st0) := by
  intro T hT X
  obtain ⟨v, st₀, t, T', L, h0, X', hL, e1, e2, ⟨⟨hv, hb⟩, hz, hk⟩, st⟩ := hr T hT X
  cases hv
  rw [h0] at hz hk
  obtain ⟨t2, a1, b1⟩ := kk T'.heap (locs ++ L) (by rw [e1]; exact hb)
    ⟨Nat.le_trans hS.1 (by rw [e1]; exact hz), fun q h1 h2 => by rw [e1, hk q (Nat.lt_of_lt_of_le h1 hS.1) h2]; exact hS.2.1 q h1 h2, fun q hq => by
      rcases List.mem_append.mp hq with h | h
      · exact hS.2.2 q h
      · exact hL q h⟩ T' rfl X'
  exact ⟨t2, st t2 a1, b1⟩
theorem tw_good : ∀ {y : MethodName} {cc2 : ByteArray} {maxL : Nat} {ret2 : Option FieldType}, Cond.code y cc2 maxL ret2 ∈ tw_Tb → GoodIn tw_Tb (.code y cc2 maxL ret2 :: tw_Tb) := fun hc w hw => by
  rcases List.mem_cons.mp hw with h | h
  · subst h; exact ⟨hc, Or.inl rfl⟩
  · exact ⟨h, tw_Tb_good w h⟩
theorem tw_pre {H : Heap} {locs : List Loc} {σ : tw_S} {vs : List tw_V} (hC : tw_Cx p s m args meth c cc nL ret own E D) (hP : va_P D tw_cl (tw_ws E σ) H) (hS : va_S (tw_A E) s.heap H locs) : PreS s H (tw_Pc E D vs σ) (vs.map (tw_c E)) :=
  ⟨tw_blind E D vs σ, fun U hU hW => ⟨rfl, by rw [hU]; exact hP, va_K.moved hW.alike hC.2.2.2.2.2.2.2.1, by rw [hU]; exact tw_EN.moved hW.alike (hC.2.2.2.2.2.2.2.2.1.kept hS.2.1), fun z hz => va_Nw.warmM hW (hC.2.2.2.2.2.2.2.2.2.2 z hz)⟩⟩
theorem tw_sum (E : tw_E) (st : List tw_V) : ((st.map (tw_c E)).map fun v => v.category).sum = st.length := by
  induction st with
  | nil => rfl
  | cons a r ih => rw [List.map_cons, List.map_cons, List.sum_cons, ih, tw_cat, List.length_cons]; omega
theorem tw_omap (E : tw_E) (r : Option tw_V) (rest : List tw_V) : (r.map (tw_c E)).toList ++ rest.map (tw_c E) = (r.toList ++ rest).map (tw_c E) := by
  cases r <;> simp
theorem ts_calls (hC : tw_Cx p s m args meth c cc nL ret own E D) {y : MethodName} {cc2 : ByteArray} {maxL n d idx : Nat} {ret2 : Option FieldType} {f : tw_Fn} (hM : tw_Con y cc2 maxL ret2 d f) (hcode : Cond.code y cc2 maxL ret2 ∈ tw_Tb) (hini : Cond.initialized y.cls ∈ tw_Tb) (hdd : y.cls ≠ "java/lang/invoke/MethodHandle" ∧ y.cls ≠ "java/lang/invoke/VarHandle" ∧ (parseMethodDescriptor y.desc).map (fun d => d.parameters.length) = some n) (hR : (tw_rmd d).frames + 1 ≤ R.frames ∧ 8 + (maxL + 11) + (tw_rmd d).locals ≤ R.locals) (hrm : ce ≤ R.cells ∧ sl ≤ R.slots) (hlk : Cond.methodLink own idx y ∈ tw_Tb) (hst : Cond.static y ∈ tw_Tb) (hd : decode cc pc = .ok (.invokestatic idx, 3)) : tw_Sd p l e R s m args below meth c ce sl Q nL E D ρ pc (pc + 3) (tw_cs n f) := by
  intro next jump hn hj lv st σ h H locs ls hP hS hL
  unfold tw_cs at h
  cases hq : (Nat.ble n st.length && Nat.ble (st.drop n).length 8) with
  | false => rw [hq] at h; exact tw_no h
  | true =>
    rw [hq] at h
    rw [Bool.and_eq_true] at hq
    have hlen : n ≤ st.length := Nat.le_of_ble_eq_true hq.1
    have hl8 : (st.drop n).length ≤ 8 := Nat.le_of_ble_eq_true hq.2
    have hstk : st.map (tw_c E) = (((st.take n).reverse).map (tw_c E)).reverse ++ (st.drop n).map (tw_c E) := by
      rw [← List.map_reverse, List.reverse_reverse, ← List.map_append, List.take_append_drop]
    cases hf : f (st.take n).reverse σ with
    | none => rw [hf] at h; exact tw_no h
    | some ρ1 =>
      rw [hf] at h
      refine tw_after (ρ1 := ρ1) (rest := (st.drop n).map (tw_c E)) (va_runS (As := ((st.take n).reverse).map (tw_c E)) ⟨hC.1, hC.2.1, hC.2.2.1, hC.2.2.2.2.2.1, hC.2.2.2.2.2.2.1⟩ (hM l E D hC.2.2.2.2.2.2.2.2.2.1 _ σ _ hf) ⟨callB_of n hC.2.2.2.2.2.2.1 (tw_good hcode) rfl rfl rfl (hC.2.2.2.2.2.2.1 _ hini) (hC.2.2.2.2.2.2.1 _ hlk) hdd hR, hC.2.2.2.2.2.2.1 _ hst⟩ (tw_pre hC hP hS) rfl (by simp [hlen]) hL.1 hstk (lv_room (by rw [tw_sum]; exact hl8)) hd hrm) hS (fun H1 locs1 hP1 hS1 => ?_)
      rw [tw_omap]
      exact hn _ _ _ h H1 locs1 ls hP1 hS1 hL
theorem ts_callsN (hC : tw_Cx p s m args meth c cc nL ret own E D) {y : MethodName} {cc2 : ByteArray} {maxL n d idx : Nat} {ret2 : Option FieldType} {f : tw_Fn} (hM : tw_Con y cc2 maxL ret2 d f) (hcode : Cond.code y cc2 maxL ret2 ∈ tw_Tb) (hini : Cond.initialized y.cls ∈ tw_Tb) (hdd : y.cls ≠ "java/lang/invoke/MethodHandle" ∧ y.cls ≠ "java/lang/invoke/VarHandle" ∧ (parseMethodDescriptor y.desc).map (fun d => d.parameters.length) = some n) (hR : (tw_rmd d).frames + 1 ≤ R.frames ∧ 8 + (maxL + 11) + (tw_rmd d).locals ≤ R.locals) (hrm : ce ≤ R.cells ∧ sl ≤ R.slots) {host : String} (hlk : (own, idx, y, host) ∈ tw_Ne) (hst : Cond.static y ∈ tw_Tb) (hd : decode cc pc = .ok (.invokestatic idx, 3)) : tw_Sd p l e R s m args below meth c ce sl Q nL E D ρ pc (pc + 3) (tw_cs n f) := by
  intro next jump hn hj lv st σ h H locs ls hP hS hL
  unfold tw_cs at h
  cases hq : (Nat.ble n st.length && Nat.ble (st.drop n).length 8) with
  | false => rw [hq] at h; exact tw_no h
  | true =>
    rw [hq] at h
    rw [Bool.and_eq_true] at hq
    have hlen : n ≤ st.length := Nat.le_of_ble_eq_true hq.1
    have hl8 : (st.drop n).length ≤ 8 := Nat.le_of_ble_eq_true hq.2
    have hstk : st.map (tw_c E) = (((st.take n).reverse).map (tw_c E)).reverse ++ (st.drop n).map (tw_c E) := by
      rw [← List.map_reverse, List.reverse_reverse, ← List.map_append, List.take_append_drop]
    cases hf : f (st.take n).reverse σ with
    | none => rw [hf] at h; exact tw_no h
    | some ρ1 =>
      rw [hf] at h
      refine tw_after (ρ1 := ρ1) (rest := (st.drop n).map (tw_c E)) (va_runSN (host := host) (As := ((st.take n).reverse).map (tw_c E)) ⟨hC.1, hC.2.1, hC.2.2.1, hC.2.2.2.2.2.1, hC.2.2.2.2.2.2.1⟩ (hM l E D hC.2.2.2.2.2.2.2.2.2.1 _ σ _ hf) ⟨va_cnB n hC.2.2.2.2.2.2.1 (tw_good hcode) rfl rfl rfl (hC.2.2.2.2.2.2.2.2.2.2 _ hlk) (hC.2.2.2.2.2.2.1 _ hini) hdd hR, hC.2.2.2.2.2.2.1 _ hst, trivial⟩ (tw_pre hC hP hS) rfl (by simp [hlen]) hL.1 hstk (lv_room (by rw [tw_sum]; exact hl8)) hd hrm) hS (fun H1 locs1 hP1 hS1 => ?_)
      rw [tw_omap]
      exact hn _ _ _ h H1 locs1 ls hP1 hS1 hL
theorem ts_callv (hC : tw_Cx p s m args meth c cc nL ret own E D) {y : MethodName} {cc2 : ByteArray} {maxL n d idx : Nat} {ret2 : Option FieldType} {f : tw_Fn} (hM : tw_Con y cc2 maxL ret2 d f) (hcode : Cond.code y cc2 maxL ret2 ∈ tw_Tb) (hini : Cond.initialized y.cls ∈ tw_Tb) (hdd : y.cls ≠ "java/lang/invoke/MethodHandle" ∧ y.cls ≠ "java/lang/invoke/VarHandle" ∧ (parseMethodDescriptor y.desc).map (fun d => d.parameters.length) = some n) (hR : (tw_rmd d).frames + 1 ≤ R.frames ∧ 8 + (maxL + 11) + (tw_rmd d).locals ≤ R.locals) (hrm : ce ≤ R.cells ∧ sl ≤ R.slots) (hlk : Cond.methodLink own idx y ∈ tw_Tb) {k ci : Nat} {C : String} {T : u_T} {N : Nat} {fds : List (Option Nat)} (hlay : tw_lay k = .inl (ci, fds)) (hcl : tw_cl[ci]? = some (C, T, N)) (hinst : Cond.instanceMethod y ∈ tw_Tb) (hsel : Cond.selects C y y ∈ tw_Tb) (hd : decode cc pc = .ok (.invokevirtual idx, 3)) : tw_Sd p l e R s m args below meth c ce sl Q nL E D ρ pc (pc + 3) (tw_cv n k f) := by
  intro next jump hn hj lv st σ h H locs ls hP hS hL
  unfold tw_cv at h
  cases hdr : st.drop n with
  | nil => rw [hdr] at h; exact tw_no h
  | cons v rest =>
    rw [hdr] at h
    rcases v with x | q
    · exact tw_no h
    · dsimp only at h
      cases hq : (Nat.ble rest.length 8 && (Nat.beq q.2 k && tw_okb q.1 k)) with
      | false => rw [hq] at h; exact tw_no h
      | true =>
        rw [hq] at h
        rw [Bool.and_eq_true] at hq
        obtain ⟨g, k'⟩ := q
        have hq2 : (Nat.beq k' k && tw_okb g k) = true := hq.2
        obtain ⟨e0, ho⟩ := tw_rc hq2
        subst e0
        have hl8 : rest.length ≤ 8 := Nat.le_of_ble_eq_true hq.1
        have hlen : n ≤ st.length := by
          by_cases hz : n ≤ st.length
          · exact hz
          · rw [List.drop_eq_nil_of_le (by omega)] at hdr; cases hdr
        have hstk : st.map (tw_c E) = (((st.take n).reverse).map (tw_c E)).reverse ++ .ref (tw_adr E g k') :: rest.map (tw_c E) := by
          rw [← List.map_reverse, List.reverse_reverse]
          have h9 : st = st.take n ++ .inr (g, k') :: rest := by rw [← hdr, List.take_append_drop]
          conv => lhs; rw [h9]
          rw [List.map_append]
          rfl
        have hat := tw_ws_at E σ ho
        rw [tw_cell_o hlay] at hat
        have hpre := tw_pre (vs := .inr (g, k') :: (st.take n).reverse) hC hP hS
        cases hf : f (.inr (g, k') :: (st.take n).reverse) σ with
        | none => rw [hf] at h; exact tw_no h
        | some ρ1 =>
        rw [hf] at h
        refine tw_after (ρ1 := ρ1) (rest := rest.map (tw_c E)) (va_runV (C := C) (b := tw_adr E g k') (As := ((st.take n).reverse).map (tw_c E)) ⟨hC.1, hC.2.1, hC.2.2.1, hC.2.2.2.2.2.1, hC.2.2.2.2.2.2.1⟩ (hM l E D hC.2.2.2.2.2.2.2.2.2.1 _ σ _ hf) ⟨callB_of n hC.2.2.2.2.2.2.1 (tw_good hcode) rfl rfl rfl (hC.2.2.2.2.2.2.1 _ hini) (hC.2.2.2.2.2.2.1 _ hlk) hdd hR, hC.2.2.2.2.2.2.1 _ hinst, hC.2.2.2.2.2.2.1 _ hsel⟩ ⟨hpre.1, va_recv hC.2.2.2.2.2.2.2.1 hP hcl hat, hpre.2⟩ rfl (by simp [hlen]) hL.1 hstk (lv_room (by rw [tw_sum]; exact hl8)) hd hrm) hS (fun H1 locs1 hP1 hS1 => ?_)
        rw [tw_omap]
        exact hn _ _ _ h H1 locs1 ls hP1 hS1 hL
theorem ts_callvN (hC : tw_Cx p s m args meth c cc nL ret own E D) {y : MethodName} {cc2 : ByteArray} {maxL n d idx : Nat} {ret2 : Option FieldType} {f : tw_Fn} (hM : tw_Con y cc2 maxL ret2 d f) (hcode : Cond.code y cc2 maxL ret2 ∈ tw_Tb) (hini : Cond.initialized y.cls ∈ tw_Tb) (hdd : y.cls ≠ "java/lang/invoke/MethodHandle" ∧ y.cls ≠ "java/lang/invoke/VarHandle" ∧ (parseMethodDescriptor y.desc).map (fun d => d.parameters.length) = some n) (hR : (tw_rmd d).frames + 1 ≤ R.frames ∧ 8 + (maxL + 11) + (tw_rmd d).locals ≤ R.locals) (hrm : ce ≤ R.cells ∧ sl ≤ R.slots) {host : String} (hlk : (own, idx, y, host) ∈ tw_Ne) {k ci : Nat} {C : String} {T : u_T} {N : Nat} {fds : List (Option Nat)} (hlay : tw_lay k = .inl (ci, fds)) (hcl : tw_cl[ci]? = some (C, T, N)) (hinst : Cond.instanceMethod y ∈ tw_Tb) (hsel : Cond.selects C y y ∈ tw_Tb) (hd : decode cc pc = .ok (.invokevirtual idx, 3)) : tw_Sd p l e R s m args below meth c ce sl Q nL E D ρ pc (pc + 3) (tw_cv n k f) := by
  intro next jump hn hj lv st σ h H locs ls hP hS hL
  unfold tw_cv at h
  cases hdr : st.drop n with
  | nil => rw [hdr] at h; exact tw_no h
  | cons v rest =>
    rw [hdr] at h
    rcases v with x | q
    · exact tw_no h
    · dsimp only at h
      cases hq : (Nat.ble rest.length 8 && (Nat.beq q.2 k && tw_okb q.1 k)) with
      | false => rw [hq] at h; exact tw_no h
      | true =>
        rw [hq] at h
        rw [Bool.and_eq_true] at hq
        obtain ⟨g, k'⟩ := q
        have hq2 : (Nat.beq k' k && tw_okb g k) = true := hq.2
        obtain ⟨e0, ho⟩ := tw_rc hq2
        subst e0
        have hl8 : rest.length ≤ 8 := Nat.le_of_ble_eq_true hq.1
        have hlen : n ≤ st.length := by
          by_cases hz : n ≤ st.length
          · exact hz
          · rw [List.drop_eq_nil_of_le (by omega)] at hdr; cases hdr
        have hstk : st.map (tw_c E) = (((st.take n).reverse).map (tw_c E)).reverse ++ .ref (tw_adr E g k') :: rest.map (tw_c E) := by
          rw [← List.map_reverse, List.reverse_reverse]
          have h9 : st = st.take n ++ .inr (g, k') :: rest := by rw [← hdr, List.take_append_drop]
          conv => lhs; rw [h9]
          rw [List.map_append]
          rfl
        have hat := tw_ws_at E σ ho
        rw [tw_cell_o hlay] at hat
        have hpre := tw_pre (vs := .inr (g, k') :: (st.take n).reverse) hC hP hS
        cases hf : f (.inr (g, k') :: (st.take n).reverse) σ with
        | none => rw [hf] at h; exact tw_no h
        | some ρ1 =>
        rw [hf] at h
        refine tw_after (ρ1 := ρ1) (rest := rest.map (tw_c E)) (va_runVN (host := host) (C := C) (b := tw_adr E g k') (As := ((st.take n).reverse).map (tw_c E)) ⟨hC.1, hC.2.1, hC.2.2.1, hC.2.2.2.2.2.1, hC.2.2.2.2.2.2.1⟩ (hM l E D hC.2.2.2.2.2.2.2.2.2.1 _ σ _ hf) ⟨va_cnB n hC.2.2.2.2.2.2.1 (tw_good hcode) rfl rfl rfl (hC.2.2.2.2.2.2.2.2.2.2 _ hlk) (hC.2.2.2.2.2.2.1 _ hini) hdd hR, hC.2.2.2.2.2.2.1 _ hinst, hC.2.2.2.2.2.2.1 _ hsel⟩ ⟨hpre.1, va_recv hC.2.2.2.2.2.2.2.1 hP hcl hat, hpre.2⟩ rfl (by simp [hlen]) hL.1 hstk (lv_room (by rw [tw_sum]; exact hl8)) hd hrm) hS (fun H1 locs1 hP1 hS1 => ?_)
        rw [tw_omap]
        exact hn _ _ _ h H1 locs1 ls hP1 hS1 hL
end TWS3
theorem tw_lvnone (E : tw_E) : ∀ (n k : Nat), tw_lvf E k (List.replicate n none) = []
  | 0, _ => rfl
  | n + 1, k => tw_lvnone E n (k + 1)
theorem tw_lvargs (E : tw_E) (n : Nat) : ∀ (vs : List tw_V) (k : Nat), lv_args k (vs.map (tw_c E)) = tw_lvf E k (vs.map some ++ List.replicate n none)
  | [], k => (tw_lvnone E n k).symm
  | v :: r, k => by
    have h := tw_cat E v
    show (k, tw_c E v) :: lv_args (if (tw_c E v).category = 2 then k + 2 else k + 1) (r.map (tw_c E)) = (k, tw_c E v) :: tw_lvf E (k + 1) (r.map some ++ List.replicate n none)
    rw [h, if_neg (by decide), tw_lvargs E n r (k + 1)]
theorem tw_lgsl (E : tw_E) : ∀ (vs : List tw_V), (lg_sl (vs.map (tw_c E))).length = vs.length
  | [] => rfl
  | v :: r => by
    have ih := tw_lgsl E r
    have e : lg_sl ((v :: r).map (tw_c E)) = Slot.val (tw_c E v) :: lg_sl (r.map (tw_c E)) := by
      rcases v with x | q <;> rfl
    rw [e, List.length_cons, ih, List.length_cons]
/-- a method whose walk is good from its entry keeps its contract -/
theorem tw_met {y : MethodName} {cc : ByteArray} {maxL : Nat} {ret : Option FieldType} {d : Nat} {f : tw_Fn} (hy : plainName y.cls = true) (hlen : ∀ vs σ ρ, f vs σ = some ρ → vs.length ≤ maxL)
    (hw : ∀ (p : Program) (l : Launch) (e : Env) (s : State) (m : MethodId) (args : Array Value) (below : List Frame) (meth : Method) (c : Code) (E : tw_E) (D : va_G) (vs : List tw_V) (σ : tw_S) (ρ : tw_R), tw_Cx p s m args meth c cc maxL ret y.cls E D → f vs σ = some ρ → tw_G p l e (tw_rmd d) s m args below meth c 0 0 (MQ below (tw_Qc E D ρ) args s 0 0 (tw_A E)) maxL E D 0 (tw_args maxL vs) [] σ) : tw_Con y cc maxL ret d f := by
  intro l E D hinj vs σ ρ hsp
  refine Met.ofW (cc := cc) (maxL := maxL) (ret := ret) hy rfl ?_
  intro p e s m args below meth c s₁ B hml hv
  obtain ⟨rfl, hP, hK, hE, hNW⟩ := hv
  have hts := atoms_spec (ws := .code y cc maxL ret :: tw_Tb) B.pre
  have hC : tw_Cx p s m ((vs.map (tw_c E)).toArray) meth c cc maxL ret y.cls E D := ⟨B.exec, B.bytes, hml, B.returns, B.notSynchronized, findClass_of_methodNamed B.named, fun w h => hts w (List.mem_cons_of_mem _ h), hK, hE, hinj, hNW⟩
  have hl := lv_entry (vs.map (tw_c E)) (n := maxL) (by rw [tw_lgsl]; exact hlen vs σ ρ hsp)
  rw [lg_entry_eq]
  rw [tw_lvargs E (maxL - vs.length)] at hl
  exact hw p l e s m _ below meth c E D vs σ ρ hC hsp s.heap [] _ hP va_S.rf hl
end
section
-- TwinHost$Controls.exists(I)Z: 9 instructions, depth 0, calls 
theorem d_Co_exists_0 : decode b_Co_exists 0 = .ok (.iload_n 0, 1) := by decide +kernel
theorem d_Co_exists_1 : decode b_Co_exists 1 = .ok (.ifCond .lt 13, 3) := by decide +kernel
theorem d_Co_exists_4 : decode b_Co_exists 4 = .ok (.iload_n 0, 1) := by decide +kernel
theorem d_Co_exists_5 : decode b_Co_exists 5 = .ok (.bipush 12, 2) := by decide +kernel
theorem d_Co_exists_7 : decode b_Co_exists 7 = .ok (.if_icmp .ge 7, 3) := by decide +kernel
theorem d_Co_exists_10 : decode b_Co_exists 10 = .ok (.iconst 1, 1) := by decide +kernel
theorem d_Co_exists_11 : decode b_Co_exists 11 = .ok (.goto 4, 3) := by decide +kernel
theorem d_Co_exists_14 : decode b_Co_exists 14 = .ok (.iconst 0, 1) := by decide +kernel
theorem d_Co_exists_15 : decode b_Co_exists 15 = .ok (.ireturn, 1) := by decide +kernel
def pr_Co_exists : List (Nat × tw_Op) := [(0, tw_il 0), (1, tw_iflt 14), (4, tw_il 0), (5, tw_ic (12)), (7, tw_cge 14), (10, tw_ic 1), (11, tw_jmp 15), (14, tw_ic 0), (15, tw_rz)]
set_option maxRecDepth 100000 in
set_option maxHeartbeats 4000000 in
theorem ok_Co_exists {p : Program} {l : Launch} {e : Env} {s : State} {m : MethodId} {args : Array Value} {below : List Frame} {meth : Method} {c : Code} {E : tw_E} {D : va_G} {ρ : tw_R} (hC : tw_Cx p s m args meth c b_Co_exists 1 (some .boolean) "TwinHost$Controls" E D) : tw_Ok p l e (tw_rmd 0) s m args below meth c 0 0 (MQ below (tw_Qc E D ρ) args s 0 0 (tw_A E)) 1 E D ρ pr_Co_exists :=
  ⟨ts_iload_n hC d_Co_exists_0 rfl,
   ts_iflt hC d_Co_exists_1 (by decide),
   ts_iload_n hC d_Co_exists_4 rfl,
   ts_bipush hC d_Co_exists_5 (by decide),
   ts_cge hC d_Co_exists_7 (by decide),
   ts_iconst hC d_Co_exists_10 (by decide),
   ts_goto hC d_Co_exists_11 (by decide),
   ts_iconst hC d_Co_exists_14 (by decide),
   ts_zret hC rfl d_Co_exists_15,
   trivial⟩
def fn_Co_exists : tw_Fn := tw_fn 1 1 11 pr_Co_exists
theorem con_Co_exists : tw_Con y_Co_exists b_Co_exists 1 (some .boolean) 0 fn_Co_exists := tw_met (by decide +kernel) (tw_fn_len (n := 1) (by decide)) (fun p l e s m args below meth c E D vs σ ρ hC h => tw_sound (ok_Co_exists hC) 11 pr_Co_exists (ok_Co_exists hC) _ _ _ (tw_fn_get h))

-- TwinHost$Controls.isOn(I)Z: 11 instructions, depth 0, calls 
theorem d_Co_isOn_0 : decode b_Co_isOn 0 = .ok (.aload_n 0, 1) := by decide +kernel
theorem d_Co_isOn_1 : decode b_Co_isOn 1 = .ok (.getfield 9, 3) := by decide +kernel
theorem d_Co_isOn_4 : decode b_Co_isOn 4 = .ok (.iconst 0, 1) := by decide +kernel
theorem d_Co_isOn_5 : decode b_Co_isOn 5 = .ok (.iaload, 1) := by decide +kernel
theorem d_Co_isOn_6 : decode b_Co_isOn 6 = .ok (.iload_n 1, 1) := by decide +kernel
theorem d_Co_isOn_7 : decode b_Co_isOn 7 = .ok (.iand, 1) := by decide +kernel
theorem d_Co_isOn_8 : decode b_Co_isOn 8 = .ok (.ifCond .eq 7, 3) := by decide +kernel
theorem d_Co_isOn_11 : decode b_Co_isOn 11 = .ok (.iconst 1, 1) := by decide +kernel
theorem d_Co_isOn_12 : decode b_Co_isOn 12 = .ok (.goto 4, 3) := by decide +kernel
theorem d_Co_isOn_15 : decode b_Co_isOn 15 = .ok (.iconst 0, 1) := by decide +kernel
theorem d_Co_isOn_16 : decode b_Co_isOn 16 = .ok (.ireturn, 1) := by decide +kernel
def pr_Co_isOn : List (Nat × tw_Op) := [(0, tw_al 0), (1, tw_gr 4 5), (4, tw_ic 0), (5, tw_ia), (6, tw_il 1), (7, tw_bin (· &&& ·)), (8, tw_ifeq 15), (11, tw_ic 1), (12, tw_jmp 16), (15, tw_ic 0), (16, tw_rz)]
set_option maxRecDepth 100000 in
set_option maxHeartbeats 4000000 in
theorem ok_Co_isOn {p : Program} {l : Launch} {e : Env} {s : State} {m : MethodId} {args : Array Value} {below : List Frame} {meth : Method} {c : Code} {E : tw_E} {D : va_G} {ρ : tw_R} (hC : tw_Cx p s m args meth c b_Co_isOn 2 (some .boolean) "TwinHost$Controls" E D) : tw_Ok p l e (tw_rmd 0) s m args below meth c 0 0 (MQ below (tw_Qc E D ρ) args s 0 0 (tw_A E)) 2 E D ρ pr_Co_isOn :=
  ⟨ts_aload_n hC d_Co_isOn_0 rfl,
   ts_gr (j := 0) (C := R_Co) (T := T_Co) hC rfl rfl rfl (by decide) u_Co wd_75 rfl d_Co_isOn_1,
   ts_iconst hC d_Co_isOn_4 (by decide),
   ts_iaload hC d_Co_isOn_5,
   ts_iload_n hC d_Co_isOn_6 rfl,
   ts_iand hC d_Co_isOn_7,
   ts_ifeq hC d_Co_isOn_8 (by decide),
   ts_iconst hC d_Co_isOn_11 (by decide),
   ts_goto hC d_Co_isOn_12 (by decide),
   ts_iconst hC d_Co_isOn_15 (by decide),
   ts_zret hC rfl d_Co_isOn_16,
   trivial⟩
def fn_Co_isOn : tw_Fn := tw_fn 2 2 13 pr_Co_isOn
theorem con_Co_isOn : tw_Con y_Co_isOn b_Co_isOn 2 (some .boolean) 0 fn_Co_isOn := tw_met (by decide +kernel) (tw_fn_len (n := 2) (by decide)) (fun p l e s m args below meth c E D vs σ ρ hC h => tw_sound (ok_Co_isOn hC) 13 pr_Co_isOn (ok_Co_isOn hC) _ _ _ (tw_fn_get h))

-- TwinHost$Controls.keptBits(I)I: 10 instructions, depth 0, calls 
theorem d_Co_keptBits_0 : decode b_Co_keptBits 0 = .ok (.iload_n 0, 1) := by decide +kernel
theorem d_Co_keptBits_1 : decode b_Co_keptBits 1 = .ok (.lookupswitch 44 #[(0, 35), (6, 38), (7, 42)], 35) := by decide +kernel
theorem d_Co_keptBits_36 : decode b_Co_keptBits 36 = .ok (.bipush 15, 2) := by decide +kernel
theorem d_Co_keptBits_38 : decode b_Co_keptBits 38 = .ok (.ireturn, 1) := by decide +kernel
theorem d_Co_keptBits_39 : decode b_Co_keptBits 39 = .ok (.sipush 143, 3) := by decide +kernel
theorem d_Co_keptBits_42 : decode b_Co_keptBits 42 = .ok (.ireturn, 1) := by decide +kernel
theorem d_Co_keptBits_43 : decode b_Co_keptBits 43 = .ok (.iconst 3, 1) := by decide +kernel
theorem d_Co_keptBits_44 : decode b_Co_keptBits 44 = .ok (.ireturn, 1) := by decide +kernel
theorem d_Co_keptBits_45 : decode b_Co_keptBits 45 = .ok (.iconst (-1), 1) := by decide +kernel
theorem d_Co_keptBits_46 : decode b_Co_keptBits 46 = .ok (.ireturn, 1) := by decide +kernel
def pr_Co_keptBits : List (Nat × tw_Op) := [(0, tw_il 0), (1, tw_sw [(0, 36), (6, 39), (7, 43)] 45), (36, tw_ic (15)), (38, tw_ri), (39, tw_ic (143)), (42, tw_ri), (43, tw_ic 3), (44, tw_ri), (45, tw_ic (-1)), (46, tw_ri)]
set_option maxRecDepth 100000 in
set_option maxHeartbeats 4000000 in
theorem ok_Co_keptBits {p : Program} {l : Launch} {e : Env} {s : State} {m : MethodId} {args : Array Value} {below : List Frame} {meth : Method} {c : Code} {E : tw_E} {D : va_G} {ρ : tw_R} (hC : tw_Cx p s m args meth c b_Co_keptBits 1 (some .int) "TwinHost$Controls" E D) : tw_Ok p l e (tw_rmd 0) s m args below meth c 0 0 (MQ below (tw_Qc E D ρ) args s 0 0 (tw_A E)) 1 E D ρ pr_Co_keptBits :=
  ⟨ts_iload_n hC d_Co_keptBits_0 rfl,
   ts_lookup hC _ d_Co_keptBits_1 (by decide +kernel) (by decide) rfl (by decide +kernel),
   ts_bipush hC d_Co_keptBits_36 (by decide),
   ts_iret hC rfl d_Co_keptBits_38,
   ts_sipush hC d_Co_keptBits_39 (by decide),
   ts_iret hC rfl d_Co_keptBits_42,
   ts_iconst hC d_Co_keptBits_43 (by decide),
   ts_iret hC rfl d_Co_keptBits_44,
   ts_iconst hC d_Co_keptBits_45 (by decide),
   ts_iret hC rfl d_Co_keptBits_46,
   trivial⟩
def fn_Co_keptBits : tw_Fn := tw_fn 1 1 12 pr_Co_keptBits
theorem con_Co_keptBits : tw_Con y_Co_keptBits b_Co_keptBits 1 (some .int) 0 fn_Co_keptBits := tw_met (by decide +kernel) (tw_fn_len (n := 1) (by decide)) (fun p l e s m args below meth c E D vs σ ρ hC h => tw_sound (ok_Co_keptBits hC) 12 pr_Co_keptBits (ok_Co_keptBits hC) _ _ _ (tw_fn_get h))

-- TwinHost$Controls.translates()Z: 11 instructions, depth 0, calls 
theorem d_Co_translates_0 : decode b_Co_translates 0 = .ok (.aload_n 0, 1) := by decide +kernel
theorem d_Co_translates_1 : decode b_Co_translates 1 = .ok (.getfield 9, 3) := by decide +kernel
theorem d_Co_translates_4 : decode b_Co_translates 4 = .ok (.bipush 6, 2) := by decide +kernel
theorem d_Co_translates_6 : decode b_Co_translates 6 = .ok (.iaload, 1) := by decide +kernel
theorem d_Co_translates_7 : decode b_Co_translates 7 = .ok (.sipush 128, 3) := by decide +kernel
theorem d_Co_translates_10 : decode b_Co_translates 10 = .ok (.iand, 1) := by decide +kernel
theorem d_Co_translates_11 : decode b_Co_translates 11 = .ok (.ifCond .eq 7, 3) := by decide +kernel
theorem d_Co_translates_14 : decode b_Co_translates 14 = .ok (.iconst 1, 1) := by decide +kernel
theorem d_Co_translates_15 : decode b_Co_translates 15 = .ok (.goto 4, 3) := by decide +kernel
theorem d_Co_translates_18 : decode b_Co_translates 18 = .ok (.iconst 0, 1) := by decide +kernel
theorem d_Co_translates_19 : decode b_Co_translates 19 = .ok (.ireturn, 1) := by decide +kernel
def pr_Co_translates : List (Nat × tw_Op) := [(0, tw_al 0), (1, tw_gr 4 5), (4, tw_ic (6)), (6, tw_ia), (7, tw_ic (128)), (10, tw_bin (· &&& ·)), (11, tw_ifeq 18), (14, tw_ic 1), (15, tw_jmp 19), (18, tw_ic 0), (19, tw_rz)]
set_option maxRecDepth 100000 in
set_option maxHeartbeats 4000000 in
theorem ok_Co_translates {p : Program} {l : Launch} {e : Env} {s : State} {m : MethodId} {args : Array Value} {below : List Frame} {meth : Method} {c : Code} {E : tw_E} {D : va_G} {ρ : tw_R} (hC : tw_Cx p s m args meth c b_Co_translates 1 (some .boolean) "TwinHost$Controls" E D) : tw_Ok p l e (tw_rmd 0) s m args below meth c 0 0 (MQ below (tw_Qc E D ρ) args s 0 0 (tw_A E)) 1 E D ρ pr_Co_translates :=
  ⟨ts_aload_n hC d_Co_translates_0 rfl,
   ts_gr (j := 0) (C := R_Co) (T := T_Co) hC rfl rfl rfl (by decide) u_Co wd_75 rfl d_Co_translates_1,
   ts_bipush hC d_Co_translates_4 (by decide),
   ts_iaload hC d_Co_translates_6,
   ts_sipush hC d_Co_translates_7 (by decide),
   ts_iand hC d_Co_translates_10,
   ts_ifeq hC d_Co_translates_11 (by decide),
   ts_iconst hC d_Co_translates_14 (by decide),
   ts_goto hC d_Co_translates_15 (by decide),
   ts_iconst hC d_Co_translates_18 (by decide),
   ts_zret hC rfl d_Co_translates_19,
   trivial⟩
def fn_Co_translates : tw_Fn := tw_fn 1 1 13 pr_Co_translates
theorem con_Co_translates : tw_Con y_Co_translates b_Co_translates 1 (some .boolean) 0 fn_Co_translates := tw_met (by decide +kernel) (tw_fn_len (n := 1) (by decide)) (fun p l e s m args below meth c E D vs σ ρ hC h => tw_sound (ok_Co_translates hC) 13 pr_Co_translates (ok_Co_translates hC) _ _ _ (tw_fn_get h))

-- TwinHost$Entry.allows(ILTwinHost$Access;ZZ)Z: 30 instructions, depth 0, calls 
theorem d_En_allows_0 : decode b_En_allows 0 = .ok (.iload_n 0, 1) := by decide +kernel
theorem d_En_allows_1 : decode b_En_allows 1 = .ok (.aload_n 1, 1) := by decide +kernel
theorem d_En_allows_2 : decode b_En_allows 2 = .ok (.getfield 9, 3) := by decide +kernel
theorem d_En_allows_5 : decode b_En_allows 5 = .ok (.iand, 1) := by decide +kernel
theorem d_En_allows_6 : decode b_En_allows 6 = .ok (.ifCond .ne 5, 3) := by decide +kernel
theorem d_En_allows_9 : decode b_En_allows 9 = .ok (.iconst 0, 1) := by decide +kernel
theorem d_En_allows_10 : decode b_En_allows 10 = .ok (.ireturn, 1) := by decide +kernel
theorem d_En_allows_11 : decode b_En_allows 11 = .ok (.iload_n 0, 1) := by decide +kernel
theorem d_En_allows_12 : decode b_En_allows 12 = .ok (.bipush 16, 2) := by decide +kernel
theorem d_En_allows_14 : decode b_En_allows 14 = .ok (.iand, 1) := by decide +kernel
theorem d_En_allows_15 : decode b_En_allows 15 = .ok (.ifCond .eq 7, 3) := by decide +kernel
theorem d_En_allows_18 : decode b_En_allows 18 = .ok (.iconst 1, 1) := by decide +kernel
theorem d_En_allows_19 : decode b_En_allows 19 = .ok (.goto 4, 3) := by decide +kernel
theorem d_En_allows_22 : decode b_En_allows 22 = .ok (.iconst 0, 1) := by decide +kernel
theorem d_En_allows_23 : decode b_En_allows 23 = .ok (.istore 4, 2) := by decide +kernel
theorem d_En_allows_25 : decode b_En_allows 25 = .ok (.iload_n 2, 1) := by decide +kernel
theorem d_En_allows_26 : decode b_En_allows 26 = .ok (.ifCond .eq 6, 3) := by decide +kernel
theorem d_En_allows_29 : decode b_En_allows 29 = .ok (.iload 4, 2) := by decide +kernel
theorem d_En_allows_31 : decode b_En_allows 31 = .ok (.ireturn, 1) := by decide +kernel
theorem d_En_allows_32 : decode b_En_allows 32 = .ok (.iload 4, 2) := by decide +kernel
theorem d_En_allows_34 : decode b_En_allows 34 = .ok (.ifCond .eq 14, 3) := by decide +kernel
theorem d_En_allows_37 : decode b_En_allows 37 = .ok (.iload_n 3, 1) := by decide +kernel
theorem d_En_allows_38 : decode b_En_allows 38 = .ok (.ifCond .eq 14, 3) := by decide +kernel
theorem d_En_allows_41 : decode b_En_allows 41 = .ok (.aload_n 1, 1) := by decide +kernel
theorem d_En_allows_42 : decode b_En_allows 42 = .ok (.getstatic 15, 3) := by decide +kernel
theorem d_En_allows_45 : decode b_En_allows 45 = .ok (.if_acmp .eq 7, 3) := by decide +kernel
theorem d_En_allows_48 : decode b_En_allows 48 = .ok (.iconst 1, 1) := by decide +kernel
theorem d_En_allows_49 : decode b_En_allows 49 = .ok (.goto 4, 3) := by decide +kernel
theorem d_En_allows_52 : decode b_En_allows 52 = .ok (.iconst 0, 1) := by decide +kernel
theorem d_En_allows_53 : decode b_En_allows 53 = .ok (.ireturn, 1) := by decide +kernel
def pr_En_allows : List (Nat × tw_Op) := [(0, tw_il 0), (1, tw_al 1), (2, tw_ge 0), (5, tw_bin (· &&& ·)), (6, tw_ifne 11), (9, tw_ic 0), (10, tw_rz), (11, tw_il 0), (12, tw_ic (16)), (14, tw_bin (· &&& ·)), (15, tw_ifeq 22), (18, tw_ic 1), (19, tw_jmp 23), (22, tw_ic 0), (23, tw_is 4), (25, tw_il 2), (26, tw_ifeq 32), (29, tw_il 4), (31, tw_rz), (32, tw_il 4), (34, tw_ifeq 48), (37, tw_il 3), (38, tw_ifeq 52), (41, tw_al 1), (42, tw_en 50), (45, tw_aeq 52), (48, tw_ic 1), (49, tw_jmp 53), (52, tw_ic 0), (53, tw_rz)]
set_option maxRecDepth 100000 in
set_option maxHeartbeats 4000000 in
theorem ok_En_allows {p : Program} {l : Launch} {e : Env} {s : State} {m : MethodId} {args : Array Value} {below : List Frame} {meth : Method} {c : Code} {E : tw_E} {D : va_G} {ρ : tw_R} (hC : tw_Cx p s m args meth c b_En_allows 5 (some .boolean) "TwinHost$Entry" E D) : tw_Ok p l e (tw_rmd 0) s m args below meth c 0 0 (MQ below (tw_Qc E D ρ) args s 0 0 (tw_A E)) 5 E D ρ pr_En_allows :=
  ⟨ts_iload_n hC d_En_allows_0 rfl,
   ts_aload_n hC d_En_allows_1 rfl,
   ts_ge (q0 := ("TwinHost$Access", "need", "I", [8, 2, 4])) hC (by decide) (by decide) rfl wd_683 d_En_allows_2,
   ts_iand hC d_En_allows_5,
   ts_ifne hC d_En_allows_6 (by decide),
   ts_iconst hC d_En_allows_9 (by decide),
   ts_zret hC rfl d_En_allows_10,
   ts_iload_n hC d_En_allows_11 rfl,
   ts_bipush hC d_En_allows_12 (by decide),
   ts_iand hC d_En_allows_14,
   ts_ifeq hC d_En_allows_15 (by decide),
   ts_iconst hC d_En_allows_18 (by decide),
   ts_goto hC d_En_allows_19 (by decide),
   ts_iconst hC d_En_allows_22 (by decide),
   ts_istore hC d_En_allows_23 (by decide),
   ts_iload_n hC d_En_allows_25 rfl,
   ts_ifeq hC d_En_allows_26 (by decide),
   ts_iload hC d_En_allows_29,
   ts_zret hC rfl d_En_allows_31,
   ts_iload hC d_En_allows_32,
   ts_ifeq hC d_En_allows_34 (by decide),
   ts_iload_n hC d_En_allows_37 rfl,
   ts_ifeq hC d_En_allows_38 (by decide),
   ts_aload_n hC d_En_allows_41 rfl,
   ts_getA (i := 0) hC (by decide) rfl wd_324 d_En_allows_42,
   ts_aeq hC d_En_allows_45 (by decide),
   ts_iconst hC d_En_allows_48 (by decide),
   ts_goto hC d_En_allows_49 (by decide),
   ts_iconst hC d_En_allows_52 (by decide),
   ts_zret hC rfl d_En_allows_53,
   trivial⟩
def fn_En_allows : tw_Fn := tw_fn 4 5 32 pr_En_allows
theorem con_En_allows : tw_Con y_En_allows b_En_allows 5 (some .boolean) 0 fn_En_allows := tw_met (by decide +kernel) (tw_fn_len (n := 4) (by decide)) (fun p l e s m args below meth c E D vs σ ρ hC h => tw_sound (ok_En_allows hC) 32 pr_En_allows (ok_En_allows hC) _ _ _ (tw_fn_get h))

-- TwinHost$Entry.isBroken(I)Z: 13 instructions, depth 0, calls 
theorem d_En_isBroken_0 : decode b_En_isBroken 0 = .ok (.iload_n 0, 1) := by decide +kernel
theorem d_En_isBroken_1 : decode b_En_isBroken 1 = .ok (.iconst 1, 1) := by decide +kernel
theorem d_En_isBroken_2 : decode b_En_isBroken 2 = .ok (.iand, 1) := by decide +kernel
theorem d_En_isBroken_3 : decode b_En_isBroken 3 = .ok (.ifCond .eq 11, 3) := by decide +kernel
theorem d_En_isBroken_6 : decode b_En_isBroken 6 = .ok (.iload_n 0, 1) := by decide +kernel
theorem d_En_isBroken_7 : decode b_En_isBroken 7 = .ok (.bipush 6, 2) := by decide +kernel
theorem d_En_isBroken_9 : decode b_En_isBroken 9 = .ok (.iand, 1) := by decide +kernel
theorem d_En_isBroken_10 : decode b_En_isBroken 10 = .ok (.iconst 4, 1) := by decide +kernel
theorem d_En_isBroken_11 : decode b_En_isBroken 11 = .ok (.if_icmp .ne 7, 3) := by decide +kernel
theorem d_En_isBroken_14 : decode b_En_isBroken 14 = .ok (.iconst 1, 1) := by decide +kernel
theorem d_En_isBroken_15 : decode b_En_isBroken 15 = .ok (.goto 4, 3) := by decide +kernel
theorem d_En_isBroken_18 : decode b_En_isBroken 18 = .ok (.iconst 0, 1) := by decide +kernel
theorem d_En_isBroken_19 : decode b_En_isBroken 19 = .ok (.ireturn, 1) := by decide +kernel
def pr_En_isBroken : List (Nat × tw_Op) := [(0, tw_il 0), (1, tw_ic 1), (2, tw_bin (· &&& ·)), (3, tw_ifeq 14), (6, tw_il 0), (7, tw_ic (6)), (9, tw_bin (· &&& ·)), (10, tw_ic 4), (11, tw_cne 18), (14, tw_ic 1), (15, tw_jmp 19), (18, tw_ic 0), (19, tw_rz)]
set_option maxRecDepth 100000 in
set_option maxHeartbeats 4000000 in
theorem ok_En_isBroken {p : Program} {l : Launch} {e : Env} {s : State} {m : MethodId} {args : Array Value} {below : List Frame} {meth : Method} {c : Code} {E : tw_E} {D : va_G} {ρ : tw_R} (hC : tw_Cx p s m args meth c b_En_isBroken 1 (some .boolean) "TwinHost$Entry" E D) : tw_Ok p l e (tw_rmd 0) s m args below meth c 0 0 (MQ below (tw_Qc E D ρ) args s 0 0 (tw_A E)) 1 E D ρ pr_En_isBroken :=
  ⟨ts_iload_n hC d_En_isBroken_0 rfl,
   ts_iconst hC d_En_isBroken_1 (by decide),
   ts_iand hC d_En_isBroken_2,
   ts_ifeq hC d_En_isBroken_3 (by decide),
   ts_iload_n hC d_En_isBroken_6 rfl,
   ts_bipush hC d_En_isBroken_7 (by decide),
   ts_iand hC d_En_isBroken_9,
   ts_iconst hC d_En_isBroken_10 (by decide),
   ts_cne hC d_En_isBroken_11 (by decide),
   ts_iconst hC d_En_isBroken_14 (by decide),
   ts_goto hC d_En_isBroken_15 (by decide),
   ts_iconst hC d_En_isBroken_18 (by decide),
   ts_zret hC rfl d_En_isBroken_19,
   trivial⟩
def fn_En_isBroken : tw_Fn := tw_fn 1 1 15 pr_En_isBroken
theorem con_En_isBroken : tw_Con y_En_isBroken b_En_isBroken 1 (some .boolean) 0 fn_En_isBroken := tw_met (by decide +kernel) (tw_fn_len (n := 1) (by decide)) (fun p l e s m args below meth c E D vs σ ρ hC h => tw_sound (ok_En_isBroken hC) 15 pr_En_isBroken (ok_En_isBroken hC) _ _ _ (tw_fn_get h))

-- TwinHost$Entry.isLeaf(I)Z: 8 instructions, depth 0, calls 
theorem d_En_isLeaf_0 : decode b_En_isLeaf 0 = .ok (.iload_n 0, 1) := by decide +kernel
theorem d_En_isLeaf_1 : decode b_En_isLeaf 1 = .ok (.bipush 10, 2) := by decide +kernel
theorem d_En_isLeaf_3 : decode b_En_isLeaf 3 = .ok (.iand, 1) := by decide +kernel
theorem d_En_isLeaf_4 : decode b_En_isLeaf 4 = .ok (.ifCond .eq 7, 3) := by decide +kernel
theorem d_En_isLeaf_7 : decode b_En_isLeaf 7 = .ok (.iconst 1, 1) := by decide +kernel
theorem d_En_isLeaf_8 : decode b_En_isLeaf 8 = .ok (.goto 4, 3) := by decide +kernel
theorem d_En_isLeaf_11 : decode b_En_isLeaf 11 = .ok (.iconst 0, 1) := by decide +kernel
theorem d_En_isLeaf_12 : decode b_En_isLeaf 12 = .ok (.ireturn, 1) := by decide +kernel
def pr_En_isLeaf : List (Nat × tw_Op) := [(0, tw_il 0), (1, tw_ic (10)), (3, tw_bin (· &&& ·)), (4, tw_ifeq 11), (7, tw_ic 1), (8, tw_jmp 12), (11, tw_ic 0), (12, tw_rz)]
set_option maxRecDepth 100000 in
set_option maxHeartbeats 4000000 in
theorem ok_En_isLeaf {p : Program} {l : Launch} {e : Env} {s : State} {m : MethodId} {args : Array Value} {below : List Frame} {meth : Method} {c : Code} {E : tw_E} {D : va_G} {ρ : tw_R} (hC : tw_Cx p s m args meth c b_En_isLeaf 1 (some .boolean) "TwinHost$Entry" E D) : tw_Ok p l e (tw_rmd 0) s m args below meth c 0 0 (MQ below (tw_Qc E D ρ) args s 0 0 (tw_A E)) 1 E D ρ pr_En_isLeaf :=
  ⟨ts_iload_n hC d_En_isLeaf_0 rfl,
   ts_bipush hC d_En_isLeaf_1 (by decide),
   ts_iand hC d_En_isLeaf_3,
   ts_ifeq hC d_En_isLeaf_4 (by decide),
   ts_iconst hC d_En_isLeaf_7 (by decide),
   ts_goto hC d_En_isLeaf_8 (by decide),
   ts_iconst hC d_En_isLeaf_11 (by decide),
   ts_zret hC rfl d_En_isLeaf_12,
   trivial⟩
def fn_En_isLeaf : tw_Fn := tw_fn 1 1 10 pr_En_isLeaf
theorem con_En_isLeaf : tw_Con y_En_isLeaf b_En_isLeaf 1 (some .boolean) 0 fn_En_isLeaf := tw_met (by decide +kernel) (tw_fn_len (n := 1) (by decide)) (fun p l e s m args below meth c E D vs σ ρ hC h => tw_sound (ok_En_isLeaf hC) 10 pr_En_isLeaf (ok_En_isLeaf hC) _ _ _ (tw_fn_get h))

-- TwinHost$Entry.pageNumber(I)I: 6 instructions, depth 0, calls 
theorem d_En_pageNumber_0 : decode b_En_pageNumber 0 = .ok (.iload_n 0, 1) := by decide +kernel
theorem d_En_pageNumber_1 : decode b_En_pageNumber 1 = .ok (.bipush 8, 2) := by decide +kernel
theorem d_En_pageNumber_3 : decode b_En_pageNumber 3 = .ok (.ishr, 1) := by decide +kernel
theorem d_En_pageNumber_4 : decode b_En_pageNumber 4 = .ok (.bipush 15, 2) := by decide +kernel
theorem d_En_pageNumber_6 : decode b_En_pageNumber 6 = .ok (.iand, 1) := by decide +kernel
theorem d_En_pageNumber_7 : decode b_En_pageNumber 7 = .ok (.ireturn, 1) := by decide +kernel
def pr_En_pageNumber : List (Nat × tw_Op) := [(0, tw_il 0), (1, tw_ic (8)), (3, tw_bin (fun x y => x >>> (y &&& 31))), (4, tw_ic (15)), (6, tw_bin (· &&& ·)), (7, tw_ri)]
set_option maxRecDepth 100000 in
set_option maxHeartbeats 4000000 in
theorem ok_En_pageNumber {p : Program} {l : Launch} {e : Env} {s : State} {m : MethodId} {args : Array Value} {below : List Frame} {meth : Method} {c : Code} {E : tw_E} {D : va_G} {ρ : tw_R} (hC : tw_Cx p s m args meth c b_En_pageNumber 1 (some .int) "TwinHost$Entry" E D) : tw_Ok p l e (tw_rmd 0) s m args below meth c 0 0 (MQ below (tw_Qc E D ρ) args s 0 0 (tw_A E)) 1 E D ρ pr_En_pageNumber :=
  ⟨ts_iload_n hC d_En_pageNumber_0 rfl,
   ts_bipush hC d_En_pageNumber_1 (by decide),
   ts_ishr hC d_En_pageNumber_3,
   ts_bipush hC d_En_pageNumber_4 (by decide),
   ts_iand hC d_En_pageNumber_6,
   ts_iret hC rfl d_En_pageNumber_7,
   trivial⟩
def fn_En_pageNumber : tw_Fn := tw_fn 1 1 8 pr_En_pageNumber
theorem con_En_pageNumber : tw_Con y_En_pageNumber b_En_pageNumber 1 (some .int) 0 fn_En_pageNumber := tw_met (by decide +kernel) (tw_fn_len (n := 1) (by decide)) (fun p l e s m args below meth c E D vs σ ρ hC h => tw_sound (ok_En_pageNumber hC) 8 pr_En_pageNumber (ok_En_pageNumber hC) _ _ _ (tw_fn_get h))

-- TwinHost$Guest.changed(III)I: 14 instructions, depth 0, calls 
theorem d_Gu_changed_0 : decode b_Gu_changed 0 = .ok (.iload_n 0, 1) := by decide +kernel
theorem d_Gu_changed_1 : decode b_Gu_changed 1 = .ok (.lookupswitch 37 #[(20, 27), (21, 31)], 27) := by decide +kernel
theorem d_Gu_changed_28 : decode b_Gu_changed 28 = .ok (.iload_n 1, 1) := by decide +kernel
theorem d_Gu_changed_29 : decode b_Gu_changed 29 = .ok (.iload_n 2, 1) := by decide +kernel
theorem d_Gu_changed_30 : decode b_Gu_changed 30 = .ok (.ior, 1) := by decide +kernel
theorem d_Gu_changed_31 : decode b_Gu_changed 31 = .ok (.ireturn, 1) := by decide +kernel
theorem d_Gu_changed_32 : decode b_Gu_changed 32 = .ok (.iload_n 1, 1) := by decide +kernel
theorem d_Gu_changed_33 : decode b_Gu_changed 33 = .ok (.iload_n 2, 1) := by decide +kernel
theorem d_Gu_changed_34 : decode b_Gu_changed 34 = .ok (.iconst (-1), 1) := by decide +kernel
theorem d_Gu_changed_35 : decode b_Gu_changed 35 = .ok (.ixor, 1) := by decide +kernel
theorem d_Gu_changed_36 : decode b_Gu_changed 36 = .ok (.iand, 1) := by decide +kernel
theorem d_Gu_changed_37 : decode b_Gu_changed 37 = .ok (.ireturn, 1) := by decide +kernel
theorem d_Gu_changed_38 : decode b_Gu_changed 38 = .ok (.iload_n 2, 1) := by decide +kernel
theorem d_Gu_changed_39 : decode b_Gu_changed 39 = .ok (.ireturn, 1) := by decide +kernel
def pr_Gu_changed : List (Nat × tw_Op) := [(0, tw_il 0), (1, tw_sw [(20, 28), (21, 32)] 38), (28, tw_il 1), (29, tw_il 2), (30, tw_bin (· ||| ·)), (31, tw_ri), (32, tw_il 1), (33, tw_il 2), (34, tw_ic (-1)), (35, tw_bin (· ^^^ ·)), (36, tw_bin (· &&& ·)), (37, tw_ri), (38, tw_il 2), (39, tw_ri)]
set_option maxRecDepth 100000 in
set_option maxHeartbeats 4000000 in
theorem ok_Gu_changed {p : Program} {l : Launch} {e : Env} {s : State} {m : MethodId} {args : Array Value} {below : List Frame} {meth : Method} {c : Code} {E : tw_E} {D : va_G} {ρ : tw_R} (hC : tw_Cx p s m args meth c b_Gu_changed 3 (some .int) "TwinHost$Guest" E D) : tw_Ok p l e (tw_rmd 0) s m args below meth c 0 0 (MQ below (tw_Qc E D ρ) args s 0 0 (tw_A E)) 3 E D ρ pr_Gu_changed :=
  ⟨ts_iload_n hC d_Gu_changed_0 rfl,
   ts_lookup hC _ d_Gu_changed_1 (by decide +kernel) (by decide) rfl (by decide +kernel),
   ts_iload_n hC d_Gu_changed_28 rfl,
   ts_iload_n hC d_Gu_changed_29 rfl,
   ts_ior hC d_Gu_changed_30,
   ts_iret hC rfl d_Gu_changed_31,
   ts_iload_n hC d_Gu_changed_32 rfl,
   ts_iload_n hC d_Gu_changed_33 rfl,
   ts_iconst hC d_Gu_changed_34 (by decide),
   ts_ixor hC d_Gu_changed_35,
   ts_iand hC d_Gu_changed_36,
   ts_iret hC rfl d_Gu_changed_37,
   ts_iload_n hC d_Gu_changed_38 rfl,
   ts_iret hC rfl d_Gu_changed_39,
   trivial⟩
def fn_Gu_changed : tw_Fn := tw_fn 3 3 16 pr_Gu_changed
theorem con_Gu_changed : tw_Con y_Gu_changed b_Gu_changed 3 (some .int) 0 fn_Gu_changed := tw_met (by decide +kernel) (tw_fn_len (n := 3) (by decide)) (fun p l e s m args below meth c E D vs σ ρ hC h => tw_sound (ok_Gu_changed hC) 16 pr_Gu_changed (ok_Gu_changed hC) _ _ _ (tw_fn_get h))

-- TwinHost$Guest.compute(IIII)I: 49 instructions, depth 0, calls 
theorem d_Gu_compute_0 : decode b_Gu_compute 0 = .ok (.iload_n 0, 1) := by decide +kernel
theorem d_Gu_compute_1 : decode b_Gu_compute 1 = .ok (.tableswitch 100 0 8 #[51, 55, 59, 63, 67, 71, 75, 86, 93], 51) := by decide +kernel
theorem d_Gu_compute_52 : decode b_Gu_compute 52 = .ok (.iload_n 1, 1) := by decide +kernel
theorem d_Gu_compute_53 : decode b_Gu_compute 53 = .ok (.iload_n 3, 1) := by decide +kernel
theorem d_Gu_compute_54 : decode b_Gu_compute 54 = .ok (.iadd, 1) := by decide +kernel
theorem d_Gu_compute_55 : decode b_Gu_compute 55 = .ok (.ireturn, 1) := by decide +kernel
theorem d_Gu_compute_56 : decode b_Gu_compute 56 = .ok (.iload_n 1, 1) := by decide +kernel
theorem d_Gu_compute_57 : decode b_Gu_compute 57 = .ok (.iload_n 2, 1) := by decide +kernel
theorem d_Gu_compute_58 : decode b_Gu_compute 58 = .ok (.iadd, 1) := by decide +kernel
theorem d_Gu_compute_59 : decode b_Gu_compute 59 = .ok (.ireturn, 1) := by decide +kernel
theorem d_Gu_compute_60 : decode b_Gu_compute 60 = .ok (.iload_n 1, 1) := by decide +kernel
theorem d_Gu_compute_61 : decode b_Gu_compute 61 = .ok (.iload_n 2, 1) := by decide +kernel
theorem d_Gu_compute_62 : decode b_Gu_compute 62 = .ok (.isub, 1) := by decide +kernel
theorem d_Gu_compute_63 : decode b_Gu_compute 63 = .ok (.ireturn, 1) := by decide +kernel
theorem d_Gu_compute_64 : decode b_Gu_compute 64 = .ok (.iload_n 1, 1) := by decide +kernel
theorem d_Gu_compute_65 : decode b_Gu_compute 65 = .ok (.iload_n 2, 1) := by decide +kernel
theorem d_Gu_compute_66 : decode b_Gu_compute 66 = .ok (.iand, 1) := by decide +kernel
theorem d_Gu_compute_67 : decode b_Gu_compute 67 = .ok (.ireturn, 1) := by decide +kernel
theorem d_Gu_compute_68 : decode b_Gu_compute 68 = .ok (.iload_n 1, 1) := by decide +kernel
theorem d_Gu_compute_69 : decode b_Gu_compute 69 = .ok (.iload_n 2, 1) := by decide +kernel
theorem d_Gu_compute_70 : decode b_Gu_compute 70 = .ok (.ior, 1) := by decide +kernel
theorem d_Gu_compute_71 : decode b_Gu_compute 71 = .ok (.ireturn, 1) := by decide +kernel
theorem d_Gu_compute_72 : decode b_Gu_compute 72 = .ok (.iload_n 1, 1) := by decide +kernel
theorem d_Gu_compute_73 : decode b_Gu_compute 73 = .ok (.iload_n 2, 1) := by decide +kernel
theorem d_Gu_compute_74 : decode b_Gu_compute 74 = .ok (.ixor, 1) := by decide +kernel
theorem d_Gu_compute_75 : decode b_Gu_compute 75 = .ok (.ireturn, 1) := by decide +kernel
theorem d_Gu_compute_76 : decode b_Gu_compute 76 = .ok (.iload_n 1, 1) := by decide +kernel
theorem d_Gu_compute_77 : decode b_Gu_compute 77 = .ok (.iload_n 2, 1) := by decide +kernel
theorem d_Gu_compute_78 : decode b_Gu_compute 78 = .ok (.if_icmp .ge 7, 3) := by decide +kernel
theorem d_Gu_compute_81 : decode b_Gu_compute 81 = .ok (.iconst 1, 1) := by decide +kernel
theorem d_Gu_compute_82 : decode b_Gu_compute 82 = .ok (.goto 4, 3) := by decide +kernel
theorem d_Gu_compute_85 : decode b_Gu_compute 85 = .ok (.iconst 0, 1) := by decide +kernel
theorem d_Gu_compute_86 : decode b_Gu_compute 86 = .ok (.ireturn, 1) := by decide +kernel
theorem d_Gu_compute_87 : decode b_Gu_compute 87 = .ok (.iload_n 1, 1) := by decide +kernel
theorem d_Gu_compute_88 : decode b_Gu_compute 88 = .ok (.iload_n 2, 1) := by decide +kernel
theorem d_Gu_compute_89 : decode b_Gu_compute 89 = .ok (.bipush 31, 2) := by decide +kernel
theorem d_Gu_compute_91 : decode b_Gu_compute 91 = .ok (.iand, 1) := by decide +kernel
theorem d_Gu_compute_92 : decode b_Gu_compute 92 = .ok (.ishl, 1) := by decide +kernel
theorem d_Gu_compute_93 : decode b_Gu_compute 93 = .ok (.ireturn, 1) := by decide +kernel
theorem d_Gu_compute_94 : decode b_Gu_compute 94 = .ok (.iload_n 1, 1) := by decide +kernel
theorem d_Gu_compute_95 : decode b_Gu_compute 95 = .ok (.iload_n 2, 1) := by decide +kernel
theorem d_Gu_compute_96 : decode b_Gu_compute 96 = .ok (.bipush 31, 2) := by decide +kernel
theorem d_Gu_compute_98 : decode b_Gu_compute 98 = .ok (.iand, 1) := by decide +kernel
theorem d_Gu_compute_99 : decode b_Gu_compute 99 = .ok (.ishr, 1) := by decide +kernel
theorem d_Gu_compute_100 : decode b_Gu_compute 100 = .ok (.ireturn, 1) := by decide +kernel
theorem d_Gu_compute_101 : decode b_Gu_compute 101 = .ok (.iload_n 3, 1) := by decide +kernel
theorem d_Gu_compute_102 : decode b_Gu_compute 102 = .ok (.bipush 16, 2) := by decide +kernel
theorem d_Gu_compute_104 : decode b_Gu_compute 104 = .ok (.ishl, 1) := by decide +kernel
theorem d_Gu_compute_105 : decode b_Gu_compute 105 = .ok (.ireturn, 1) := by decide +kernel
def pr_Gu_compute : List (Nat × tw_Op) := [(0, tw_il 0), (1, tw_sw [(0, 52), (1, 56), (2, 60), (3, 64), (4, 68), (5, 72), (6, 76), (7, 87), (8, 94)] 101), (52, tw_il 1), (53, tw_il 3), (54, tw_bin (· + ·)), (55, tw_ri), (56, tw_il 1), (57, tw_il 2), (58, tw_bin (· + ·)), (59, tw_ri), (60, tw_il 1), (61, tw_il 2), (62, tw_bin (· - ·)), (63, tw_ri), (64, tw_il 1), (65, tw_il 2), (66, tw_bin (· &&& ·)), (67, tw_ri), (68, tw_il 1), (69, tw_il 2), (70, tw_bin (· ||| ·)), (71, tw_ri), (72, tw_il 1), (73, tw_il 2), (74, tw_bin (· ^^^ ·)), (75, tw_ri), (76, tw_il 1), (77, tw_il 2), (78, tw_cge 85), (81, tw_ic 1), (82, tw_jmp 86), (85, tw_ic 0), (86, tw_ri), (87, tw_il 1), (88, tw_il 2), (89, tw_ic (31)), (91, tw_bin (· &&& ·)), (92, tw_bin (fun x y => x <<< (y &&& 31))), (93, tw_ri), (94, tw_il 1), (95, tw_il 2), (96, tw_ic (31)), (98, tw_bin (· &&& ·)), (99, tw_bin (fun x y => x >>> (y &&& 31))), (100, tw_ri), (101, tw_il 3), (102, tw_ic (16)), (104, tw_bin (fun x y => x <<< (y &&& 31))), (105, tw_ri)]
set_option maxRecDepth 100000 in
set_option maxHeartbeats 4000000 in
theorem ok_Gu_compute {p : Program} {l : Launch} {e : Env} {s : State} {m : MethodId} {args : Array Value} {below : List Frame} {meth : Method} {c : Code} {E : tw_E} {D : va_G} {ρ : tw_R} (hC : tw_Cx p s m args meth c b_Gu_compute 4 (some .int) "TwinHost$Guest" E D) : tw_Ok p l e (tw_rmd 0) s m args below meth c 0 0 (MQ below (tw_Qc E D ρ) args s 0 0 (tw_A E)) 4 E D ρ pr_Gu_compute :=
  ⟨ts_iload_n hC d_Gu_compute_0 rfl,
   ts_table (n := 8) hC _ d_Gu_compute_1 (by decide) (by decide) (by decide +kernel) (by decide +kernel),
   ts_iload_n hC d_Gu_compute_52 rfl,
   ts_iload_n hC d_Gu_compute_53 rfl,
   ts_iadd hC d_Gu_compute_54,
   ts_iret hC rfl d_Gu_compute_55,
   ts_iload_n hC d_Gu_compute_56 rfl,
   ts_iload_n hC d_Gu_compute_57 rfl,
   ts_iadd hC d_Gu_compute_58,
   ts_iret hC rfl d_Gu_compute_59,
   ts_iload_n hC d_Gu_compute_60 rfl,
   ts_iload_n hC d_Gu_compute_61 rfl,
   ts_isub hC d_Gu_compute_62,
   ts_iret hC rfl d_Gu_compute_63,
   ts_iload_n hC d_Gu_compute_64 rfl,
   ts_iload_n hC d_Gu_compute_65 rfl,
   ts_iand hC d_Gu_compute_66,
   ts_iret hC rfl d_Gu_compute_67,
   ts_iload_n hC d_Gu_compute_68 rfl,
   ts_iload_n hC d_Gu_compute_69 rfl,
   ts_ior hC d_Gu_compute_70,
   ts_iret hC rfl d_Gu_compute_71,
   ts_iload_n hC d_Gu_compute_72 rfl,
   ts_iload_n hC d_Gu_compute_73 rfl,
   ts_ixor hC d_Gu_compute_74,
   ts_iret hC rfl d_Gu_compute_75,
   ts_iload_n hC d_Gu_compute_76 rfl,
   ts_iload_n hC d_Gu_compute_77 rfl,
   ts_cge hC d_Gu_compute_78 (by decide),
   ts_iconst hC d_Gu_compute_81 (by decide),
   ts_goto hC d_Gu_compute_82 (by decide),
   ts_iconst hC d_Gu_compute_85 (by decide),
   ts_iret hC rfl d_Gu_compute_86,
   ts_iload_n hC d_Gu_compute_87 rfl,
   ts_iload_n hC d_Gu_compute_88 rfl,
   ts_bipush hC d_Gu_compute_89 (by decide),
   ts_iand hC d_Gu_compute_91,
   ts_ishl hC d_Gu_compute_92,
   ts_iret hC rfl d_Gu_compute_93,
   ts_iload_n hC d_Gu_compute_94 rfl,
   ts_iload_n hC d_Gu_compute_95 rfl,
   ts_bipush hC d_Gu_compute_96 (by decide),
   ts_iand hC d_Gu_compute_98,
   ts_ishr hC d_Gu_compute_99,
   ts_iret hC rfl d_Gu_compute_100,
   ts_iload_n hC d_Gu_compute_101 rfl,
   ts_bipush hC d_Gu_compute_102 (by decide),
   ts_ishl hC d_Gu_compute_104,
   ts_iret hC rfl d_Gu_compute_105,
   trivial⟩
def fn_Gu_compute : tw_Fn := tw_fn 4 4 51 pr_Gu_compute
theorem con_Gu_compute : tw_Con y_Gu_compute b_Gu_compute 4 (some .int) 0 fn_Gu_compute := tw_met (by decide +kernel) (tw_fn_len (n := 4) (by decide)) (fun p l e s m args below meth c E D vs σ ρ hC h => tw_sound (ok_Gu_compute hC) 51 pr_Gu_compute (ok_Gu_compute hC) _ _ _ (tw_fn_get h))

-- TwinHost$Guest.retireAt(I)LTwinHost$Outcome;: 14 instructions, depth 0, calls 
theorem d_Gu_retireAt_0 : decode b_Gu_retireAt 0 = .ok (.aload_n 0, 1) := by decide +kernel
theorem d_Gu_retireAt_1 : decode b_Gu_retireAt 1 = .ok (.getfield 26, 3) := by decide +kernel
theorem d_Gu_retireAt_4 : decode b_Gu_retireAt 4 = .ok (.getfield 123, 3) := by decide +kernel
theorem d_Gu_retireAt_7 : decode b_Gu_retireAt 7 = .ok (.bipush 10, 2) := by decide +kernel
theorem d_Gu_retireAt_9 : decode b_Gu_retireAt 9 = .ok (.dup2, 1) := by decide +kernel
theorem d_Gu_retireAt_10 : decode b_Gu_retireAt 10 = .ok (.iaload, 1) := by decide +kernel
theorem d_Gu_retireAt_11 : decode b_Gu_retireAt 11 = .ok (.iconst 1, 1) := by decide +kernel
theorem d_Gu_retireAt_12 : decode b_Gu_retireAt 12 = .ok (.iadd, 1) := by decide +kernel
theorem d_Gu_retireAt_13 : decode b_Gu_retireAt 13 = .ok (.iastore, 1) := by decide +kernel
theorem d_Gu_retireAt_14 : decode b_Gu_retireAt 14 = .ok (.aload_n 0, 1) := by decide +kernel
theorem d_Gu_retireAt_15 : decode b_Gu_retireAt 15 = .ok (.iload_n 1, 1) := by decide +kernel
theorem d_Gu_retireAt_16 : decode b_Gu_retireAt 16 = .ok (.putfield 62, 3) := by decide +kernel
theorem d_Gu_retireAt_19 : decode b_Gu_retireAt 19 = .ok (.getstatic 155, 3) := by decide +kernel
theorem d_Gu_retireAt_22 : decode b_Gu_retireAt 22 = .ok (.areturn, 1) := by decide +kernel
def pr_Gu_retireAt : List (Nat × tw_Op) := [(0, tw_al 0), (1, tw_gr 0 4), (4, tw_gr 4 5), (7, tw_ic (10)), (9, tw_d2), (10, tw_ia), (11, tw_ic 1), (12, tw_bin (· + ·)), (13, tw_ias 0 22), (14, tw_al 0), (15, tw_il 1), (16, tw_pi 0 6), (19, tw_en 60), (22, tw_ra)]
set_option maxRecDepth 100000 in
set_option maxHeartbeats 4000000 in
theorem ok_Gu_retireAt {p : Program} {l : Launch} {e : Env} {s : State} {m : MethodId} {args : Array Value} {below : List Frame} {meth : Method} {c : Code} {E : tw_E} {D : va_G} {ρ : tw_R} (hC : tw_Cx p s m args meth c b_Gu_retireAt 2 (some (.object "TwinHost$Outcome")) "TwinHost$Guest" E D) : tw_Ok p l e (tw_rmd 0) s m args below meth c 0 0 (MQ below (tw_Qc E D ρ) args s 0 0 (tw_A E)) 2 E D ρ pr_Gu_retireAt :=
  ⟨ts_aload_n hC d_Gu_retireAt_0 rfl,
   ts_gr (j := 3) (C := R_Gu) (T := T_Gu) hC rfl rfl rfl (by decide) u_Gu wd_138 rfl d_Gu_retireAt_1,
   ts_gr (j := 0) (C := R_Co) (T := T_Co) hC rfl rfl rfl (by decide) u_Co wd_76 rfl d_Gu_retireAt_4,
   ts_bipush hC d_Gu_retireAt_7 (by decide),
   ts_dup2 hC d_Gu_retireAt_9,
   ts_iaload hC d_Gu_retireAt_10,
   ts_iconst hC d_Gu_retireAt_11 (by decide),
   ts_iadd hC d_Gu_retireAt_12,
   ts_iastore hC d_Gu_retireAt_13,
   ts_aload_n hC d_Gu_retireAt_14 rfl,
   ts_iload_n hC d_Gu_retireAt_15 rfl,
   ts_pi (j := 6) (C := R_Gu) (T := T_Gu) hC rfl rfl rfl (by decide) u_Gu wd_143 rfl t_Gu_ok n_Gu rfl (by decide +kernel) d_Gu_retireAt_16,
   ts_getO (i := 0) hC (by decide) rfl wd_369 d_Gu_retireAt_19,
   ts_aret hC rfl d_Gu_retireAt_22,
   trivial⟩
def fn_Gu_retireAt : tw_Fn := tw_fn 2 2 16 pr_Gu_retireAt
theorem con_Gu_retireAt : tw_Con y_Gu_retireAt b_Gu_retireAt 2 (some (.object "TwinHost$Outcome")) 0 fn_Gu_retireAt := tw_met (by decide +kernel) (tw_fn_len (n := 2) (by decide)) (fun p l e s m args below meth c E D vs σ ρ hC h => tw_sound (ok_Gu_retireAt hC) 16 pr_Gu_retireAt (ok_Gu_retireAt hC) _ _ _ (tw_fn_get h))

-- TwinHost$Guest.setRegister(II)V: 8 instructions, depth 0, calls 
theorem d_Gu_setRegister_0 : decode b_Gu_setRegister 0 = .ok (.iload_n 1, 1) := by decide +kernel
theorem d_Gu_setRegister_1 : decode b_Gu_setRegister 1 = .ok (.ifCond .eq 10, 3) := by decide +kernel
theorem d_Gu_setRegister_4 : decode b_Gu_setRegister 4 = .ok (.aload_n 0, 1) := by decide +kernel
theorem d_Gu_setRegister_5 : decode b_Gu_setRegister 5 = .ok (.getfield 15, 3) := by decide +kernel
theorem d_Gu_setRegister_8 : decode b_Gu_setRegister 8 = .ok (.iload_n 1, 1) := by decide +kernel
theorem d_Gu_setRegister_9 : decode b_Gu_setRegister 9 = .ok (.iload_n 2, 1) := by decide +kernel
theorem d_Gu_setRegister_10 : decode b_Gu_setRegister 10 = .ok (.iastore, 1) := by decide +kernel
theorem d_Gu_setRegister_11 : decode b_Gu_setRegister 11 = .ok (.return_, 1) := by decide +kernel
def pr_Gu_setRegister : List (Nat × tw_Op) := [(0, tw_il 1), (1, tw_ifeq 11), (4, tw_al 0), (5, tw_gr 0 2), (8, tw_il 1), (9, tw_il 2), (10, tw_ias 0 22), (11, tw_r0)]
set_option maxRecDepth 100000 in
set_option maxHeartbeats 4000000 in
theorem ok_Gu_setRegister {p : Program} {l : Launch} {e : Env} {s : State} {m : MethodId} {args : Array Value} {below : List Frame} {meth : Method} {c : Code} {E : tw_E} {D : va_G} {ρ : tw_R} (hC : tw_Cx p s m args meth c b_Gu_setRegister 3 none "TwinHost$Guest" E D) : tw_Ok p l e (tw_rmd 0) s m args below meth c 0 0 (MQ below (tw_Qc E D ρ) args s 0 0 (tw_A E)) 3 E D ρ pr_Gu_setRegister :=
  ⟨ts_iload_n hC d_Gu_setRegister_0 rfl,
   ts_ifeq hC d_Gu_setRegister_1 (by decide),
   ts_aload_n hC d_Gu_setRegister_4 rfl,
   ts_gr (j := 1) (C := R_Gu) (T := T_Gu) hC rfl rfl rfl (by decide) u_Gu wd_134 rfl d_Gu_setRegister_5,
   ts_iload_n hC d_Gu_setRegister_8 rfl,
   ts_iload_n hC d_Gu_setRegister_9 rfl,
   ts_iastore hC d_Gu_setRegister_10,
   ts_vret hC rfl d_Gu_setRegister_11,
   trivial⟩
def fn_Gu_setRegister : tw_Fn := tw_fn 3 3 10 pr_Gu_setRegister
theorem con_Gu_setRegister : tw_Con y_Gu_setRegister b_Gu_setRegister 3 none 0 fn_Gu_setRegister := tw_met (by decide +kernel) (tw_fn_len (n := 3) (by decide)) (fun p l e s m args below meth c E D vs σ ρ hC h => tw_sound (ok_Gu_setRegister hC) 10 pr_Gu_setRegister (ok_Gu_setRegister hC) _ _ _ (tw_fn_get h))

-- TwinHost$Inputs.append(II)Z: 26 instructions, depth 0, calls 
theorem d_In_append_0 : decode b_In_append 0 = .ok (.aload_n 0, 1) := by decide +kernel
theorem d_In_append_1 : decode b_In_append 1 = .ok (.getfield 16, 3) := by decide +kernel
theorem d_In_append_4 : decode b_In_append 4 = .ok (.bipush 6, 2) := by decide +kernel
theorem d_In_append_6 : decode b_In_append 6 = .ok (.if_icmp .lt 5, 3) := by decide +kernel
theorem d_In_append_9 : decode b_In_append 9 = .ok (.iconst 0, 1) := by decide +kernel
theorem d_In_append_10 : decode b_In_append 10 = .ok (.ireturn, 1) := by decide +kernel
theorem d_In_append_11 : decode b_In_append 11 = .ok (.aload_n 0, 1) := by decide +kernel
theorem d_In_append_12 : decode b_In_append 12 = .ok (.getfield 9, 3) := by decide +kernel
theorem d_In_append_15 : decode b_In_append 15 = .ok (.aload_n 0, 1) := by decide +kernel
theorem d_In_append_16 : decode b_In_append 16 = .ok (.getfield 16, 3) := by decide +kernel
theorem d_In_append_19 : decode b_In_append 19 = .ok (.iload_n 1, 1) := by decide +kernel
theorem d_In_append_20 : decode b_In_append 20 = .ok (.iastore, 1) := by decide +kernel
theorem d_In_append_21 : decode b_In_append 21 = .ok (.aload_n 0, 1) := by decide +kernel
theorem d_In_append_22 : decode b_In_append 22 = .ok (.getfield 13, 3) := by decide +kernel
theorem d_In_append_25 : decode b_In_append 25 = .ok (.aload_n 0, 1) := by decide +kernel
theorem d_In_append_26 : decode b_In_append 26 = .ok (.getfield 16, 3) := by decide +kernel
theorem d_In_append_29 : decode b_In_append 29 = .ok (.iload_n 2, 1) := by decide +kernel
theorem d_In_append_30 : decode b_In_append 30 = .ok (.iastore, 1) := by decide +kernel
theorem d_In_append_31 : decode b_In_append 31 = .ok (.aload_n 0, 1) := by decide +kernel
theorem d_In_append_32 : decode b_In_append 32 = .ok (.dup, 1) := by decide +kernel
theorem d_In_append_33 : decode b_In_append 33 = .ok (.getfield 16, 3) := by decide +kernel
theorem d_In_append_36 : decode b_In_append 36 = .ok (.iconst 1, 1) := by decide +kernel
theorem d_In_append_37 : decode b_In_append 37 = .ok (.iadd, 1) := by decide +kernel
theorem d_In_append_38 : decode b_In_append 38 = .ok (.putfield 16, 3) := by decide +kernel
theorem d_In_append_41 : decode b_In_append 41 = .ok (.iconst 1, 1) := by decide +kernel
theorem d_In_append_42 : decode b_In_append 42 = .ok (.ireturn, 1) := by decide +kernel
def pr_In_append : List (Nat × tw_Op) := [(0, tw_al 0), (1, tw_gi 6 2), (4, tw_ic (6)), (6, tw_clt 11), (9, tw_ic 0), (10, tw_rz), (11, tw_al 0), (12, tw_gr 6 7), (15, tw_al 0), (16, tw_gi 6 2), (19, tw_il 1), (20, tw_ias 0 22), (21, tw_al 0), (22, tw_gr 6 8), (25, tw_al 0), (26, tw_gi 6 2), (29, tw_il 2), (30, tw_ias 0 22), (31, tw_al 0), (32, tw_dup), (33, tw_gi 6 2), (36, tw_ic 1), (37, tw_bin (· + ·)), (38, tw_pi 6 2), (41, tw_ic 1), (42, tw_rz)]
set_option maxRecDepth 100000 in
set_option maxHeartbeats 4000000 in
theorem ok_In_append {p : Program} {l : Launch} {e : Env} {s : State} {m : MethodId} {args : Array Value} {below : List Frame} {meth : Method} {c : Code} {E : tw_E} {D : va_G} {ρ : tw_R} (hC : tw_Cx p s m args meth c b_In_append 3 (some .boolean) "TwinHost$Inputs" E D) : tw_Ok p l e (tw_rmd 0) s m args below meth c 0 0 (MQ below (tw_Qc E D ρ) args s 0 0 (tw_A E)) 3 E D ρ pr_In_append :=
  ⟨ts_aload_n hC d_In_append_0 rfl,
   ts_gi (j := 2) (C := R_In) (T := T_In) hC rfl rfl rfl (by decide) u_In wd_65 rfl d_In_append_1,
   ts_bipush hC d_In_append_4 (by decide),
   ts_clt hC d_In_append_6 (by decide),
   ts_iconst hC d_In_append_9 (by decide),
   ts_zret hC rfl d_In_append_10,
   ts_aload_n hC d_In_append_11 rfl,
   ts_gr (j := 0) (C := R_In) (T := T_In) hC rfl rfl rfl (by decide) u_In wd_62 rfl d_In_append_12,
   ts_aload_n hC d_In_append_15 rfl,
   ts_gi (j := 2) (C := R_In) (T := T_In) hC rfl rfl rfl (by decide) u_In wd_65 rfl d_In_append_16,
   ts_iload_n hC d_In_append_19 rfl,
   ts_iastore hC d_In_append_20,
   ts_aload_n hC d_In_append_21 rfl,
   ts_gr (j := 1) (C := R_In) (T := T_In) hC rfl rfl rfl (by decide) u_In wd_63 rfl d_In_append_22,
   ts_aload_n hC d_In_append_25 rfl,
   ts_gi (j := 2) (C := R_In) (T := T_In) hC rfl rfl rfl (by decide) u_In wd_65 rfl d_In_append_26,
   ts_iload_n hC d_In_append_29 rfl,
   ts_iastore hC d_In_append_30,
   ts_aload_n hC d_In_append_31 rfl,
   ts_dup hC d_In_append_32,
   ts_gi (j := 2) (C := R_In) (T := T_In) hC rfl rfl rfl (by decide) u_In wd_65 rfl d_In_append_33,
   ts_iconst hC d_In_append_36 (by decide),
   ts_iadd hC d_In_append_37,
   ts_pi (j := 2) (C := R_In) (T := T_In) hC rfl rfl rfl (by decide) u_In wd_65 rfl t_In_ok n_In rfl (by decide +kernel) d_In_append_38,
   ts_iconst hC d_In_append_41 (by decide),
   ts_zret hC rfl d_In_append_42,
   trivial⟩
def fn_In_append : tw_Fn := tw_fn 3 3 28 pr_In_append
theorem con_In_append : tw_Con y_In_append b_In_append 3 (some .boolean) 0 fn_In_append := tw_met (by decide +kernel) (tw_fn_len (n := 3) (by decide)) (fun p l e s m args below meth c E D vs σ ρ hC h => tw_sound (ok_In_append hC) 28 pr_In_append (ok_In_append hC) _ _ _ (tw_fn_get h))

-- TwinHost$Inputs.isThere(I)Z: 13 instructions, depth 0, calls 
theorem d_In_isThere_0 : decode b_In_isThere 0 = .ok (.aload_n 0, 1) := by decide +kernel
theorem d_In_isThere_1 : decode b_In_isThere 1 = .ok (.getfield 16, 3) := by decide +kernel
theorem d_In_isThere_4 : decode b_In_isThere 4 = .ok (.ifCond .le 17, 3) := by decide +kernel
theorem d_In_isThere_7 : decode b_In_isThere 7 = .ok (.aload_n 0, 1) := by decide +kernel
theorem d_In_isThere_8 : decode b_In_isThere 8 = .ok (.getfield 9, 3) := by decide +kernel
theorem d_In_isThere_11 : decode b_In_isThere 11 = .ok (.iconst 0, 1) := by decide +kernel
theorem d_In_isThere_12 : decode b_In_isThere 12 = .ok (.iaload, 1) := by decide +kernel
theorem d_In_isThere_13 : decode b_In_isThere 13 = .ok (.iload_n 1, 1) := by decide +kernel
theorem d_In_isThere_14 : decode b_In_isThere 14 = .ok (.if_icmp .gt 7, 3) := by decide +kernel
theorem d_In_isThere_17 : decode b_In_isThere 17 = .ok (.iconst 1, 1) := by decide +kernel
theorem d_In_isThere_18 : decode b_In_isThere 18 = .ok (.goto 4, 3) := by decide +kernel
theorem d_In_isThere_21 : decode b_In_isThere 21 = .ok (.iconst 0, 1) := by decide +kernel
theorem d_In_isThere_22 : decode b_In_isThere 22 = .ok (.ireturn, 1) := by decide +kernel
def pr_In_isThere : List (Nat × tw_Op) := [(0, tw_al 0), (1, tw_gi 6 2), (4, tw_ifle 21), (7, tw_al 0), (8, tw_gr 6 7), (11, tw_ic 0), (12, tw_ia), (13, tw_il 1), (14, tw_cgt 21), (17, tw_ic 1), (18, tw_jmp 22), (21, tw_ic 0), (22, tw_rz)]
set_option maxRecDepth 100000 in
set_option maxHeartbeats 4000000 in
theorem ok_In_isThere {p : Program} {l : Launch} {e : Env} {s : State} {m : MethodId} {args : Array Value} {below : List Frame} {meth : Method} {c : Code} {E : tw_E} {D : va_G} {ρ : tw_R} (hC : tw_Cx p s m args meth c b_In_isThere 2 (some .boolean) "TwinHost$Inputs" E D) : tw_Ok p l e (tw_rmd 0) s m args below meth c 0 0 (MQ below (tw_Qc E D ρ) args s 0 0 (tw_A E)) 2 E D ρ pr_In_isThere :=
  ⟨ts_aload_n hC d_In_isThere_0 rfl,
   ts_gi (j := 2) (C := R_In) (T := T_In) hC rfl rfl rfl (by decide) u_In wd_65 rfl d_In_isThere_1,
   ts_ifle hC d_In_isThere_4 (by decide),
   ts_aload_n hC d_In_isThere_7 rfl,
   ts_gr (j := 0) (C := R_In) (T := T_In) hC rfl rfl rfl (by decide) u_In wd_62 rfl d_In_isThere_8,
   ts_iconst hC d_In_isThere_11 (by decide),
   ts_iaload hC d_In_isThere_12,
   ts_iload_n hC d_In_isThere_13 rfl,
   ts_cgt hC d_In_isThere_14 (by decide),
   ts_iconst hC d_In_isThere_17 (by decide),
   ts_goto hC d_In_isThere_18 (by decide),
   ts_iconst hC d_In_isThere_21 (by decide),
   ts_zret hC rfl d_In_isThere_22,
   trivial⟩
def fn_In_isThere : tw_Fn := tw_fn 2 2 15 pr_In_isThere
theorem con_In_isThere : tw_Con y_In_isThere b_In_isThere 2 (some .boolean) 0 fn_In_isThere := tw_met (by decide +kernel) (tw_fn_len (n := 2) (by decide)) (fun p l e s m args below meth c E D vs σ ρ hC h => tw_sound (ok_In_isThere hC) 15 pr_In_isThere (ok_In_isThere hC) _ _ _ (tw_fn_get h))

-- TwinHost$Inputs.removeFirst()V: 39 instructions, depth 0, calls 
theorem d_In_removeFirst_0 : decode b_In_removeFirst 0 = .ok (.aload_n 0, 1) := by decide +kernel
theorem d_In_removeFirst_1 : decode b_In_removeFirst 1 = .ok (.getfield 16, 3) := by decide +kernel
theorem d_In_removeFirst_4 : decode b_In_removeFirst 4 = .ok (.ifCond .ne 4, 3) := by decide +kernel
theorem d_In_removeFirst_7 : decode b_In_removeFirst 7 = .ok (.return_, 1) := by decide +kernel
theorem d_In_removeFirst_8 : decode b_In_removeFirst 8 = .ok (.aload_n 0, 1) := by decide +kernel
theorem d_In_removeFirst_9 : decode b_In_removeFirst 9 = .ok (.dup, 1) := by decide +kernel
theorem d_In_removeFirst_10 : decode b_In_removeFirst 10 = .ok (.getfield 16, 3) := by decide +kernel
theorem d_In_removeFirst_13 : decode b_In_removeFirst 13 = .ok (.iconst 1, 1) := by decide +kernel
theorem d_In_removeFirst_14 : decode b_In_removeFirst 14 = .ok (.isub, 1) := by decide +kernel
theorem d_In_removeFirst_15 : decode b_In_removeFirst 15 = .ok (.putfield 16, 3) := by decide +kernel
theorem d_In_removeFirst_18 : decode b_In_removeFirst 18 = .ok (.iconst 0, 1) := by decide +kernel
theorem d_In_removeFirst_19 : decode b_In_removeFirst 19 = .ok (.istore_n 1, 1) := by decide +kernel
theorem d_In_removeFirst_20 : decode b_In_removeFirst 20 = .ok (.iload_n 1, 1) := by decide +kernel
theorem d_In_removeFirst_21 : decode b_In_removeFirst 21 = .ok (.aload_n 0, 1) := by decide +kernel
theorem d_In_removeFirst_22 : decode b_In_removeFirst 22 = .ok (.getfield 16, 3) := by decide +kernel
theorem d_In_removeFirst_25 : decode b_In_removeFirst 25 = .ok (.if_icmp .ge 37, 3) := by decide +kernel
theorem d_In_removeFirst_28 : decode b_In_removeFirst 28 = .ok (.aload_n 0, 1) := by decide +kernel
theorem d_In_removeFirst_29 : decode b_In_removeFirst 29 = .ok (.getfield 9, 3) := by decide +kernel
theorem d_In_removeFirst_32 : decode b_In_removeFirst 32 = .ok (.iload_n 1, 1) := by decide +kernel
theorem d_In_removeFirst_33 : decode b_In_removeFirst 33 = .ok (.aload_n 0, 1) := by decide +kernel
theorem d_In_removeFirst_34 : decode b_In_removeFirst 34 = .ok (.getfield 9, 3) := by decide +kernel
theorem d_In_removeFirst_37 : decode b_In_removeFirst 37 = .ok (.iload_n 1, 1) := by decide +kernel
theorem d_In_removeFirst_38 : decode b_In_removeFirst 38 = .ok (.iconst 1, 1) := by decide +kernel
theorem d_In_removeFirst_39 : decode b_In_removeFirst 39 = .ok (.iadd, 1) := by decide +kernel
theorem d_In_removeFirst_40 : decode b_In_removeFirst 40 = .ok (.iaload, 1) := by decide +kernel
theorem d_In_removeFirst_41 : decode b_In_removeFirst 41 = .ok (.iastore, 1) := by decide +kernel
theorem d_In_removeFirst_42 : decode b_In_removeFirst 42 = .ok (.aload_n 0, 1) := by decide +kernel
theorem d_In_removeFirst_43 : decode b_In_removeFirst 43 = .ok (.getfield 13, 3) := by decide +kernel
theorem d_In_removeFirst_46 : decode b_In_removeFirst 46 = .ok (.iload_n 1, 1) := by decide +kernel
theorem d_In_removeFirst_47 : decode b_In_removeFirst 47 = .ok (.aload_n 0, 1) := by decide +kernel
theorem d_In_removeFirst_48 : decode b_In_removeFirst 48 = .ok (.getfield 13, 3) := by decide +kernel
theorem d_In_removeFirst_51 : decode b_In_removeFirst 51 = .ok (.iload_n 1, 1) := by decide +kernel
theorem d_In_removeFirst_52 : decode b_In_removeFirst 52 = .ok (.iconst 1, 1) := by decide +kernel
theorem d_In_removeFirst_53 : decode b_In_removeFirst 53 = .ok (.iadd, 1) := by decide +kernel
theorem d_In_removeFirst_54 : decode b_In_removeFirst 54 = .ok (.iaload, 1) := by decide +kernel
theorem d_In_removeFirst_55 : decode b_In_removeFirst 55 = .ok (.iastore, 1) := by decide +kernel
theorem d_In_removeFirst_56 : decode b_In_removeFirst 56 = .ok (.iinc 1 1, 3) := by decide +kernel
theorem d_In_removeFirst_59 : decode b_In_removeFirst 59 = .ok (.goto (-39), 3) := by decide +kernel
theorem d_In_removeFirst_62 : decode b_In_removeFirst 62 = .ok (.return_, 1) := by decide +kernel
def pr_In_removeFirst : List (Nat × tw_Op) := [(0, tw_al 0), (1, tw_gi 6 2), (4, tw_ifne 8), (7, tw_r0), (8, tw_al 0), (9, tw_dup), (10, tw_gi 6 2), (13, tw_ic 1), (14, tw_bin (· - ·)), (15, tw_pi 6 2), (18, tw_ic 0), (19, tw_is 1), (20, tw_il 1), (21, tw_al 0), (22, tw_gi 6 2), (25, tw_cge 62), (28, tw_al 0), (29, tw_gr 6 7), (32, tw_il 1), (33, tw_al 0), (34, tw_gr 6 7), (37, tw_il 1), (38, tw_ic 1), (39, tw_bin (· + ·)), (40, tw_ia), (41, tw_ias 0 22), (42, tw_al 0), (43, tw_gr 6 8), (46, tw_il 1), (47, tw_al 0), (48, tw_gr 6 8), (51, tw_il 1), (52, tw_ic 1), (53, tw_bin (· + ·)), (54, tw_ia), (55, tw_ias 0 22), (56, tw_inc 1 (1)), (59, tw_jmp 20), (62, tw_r0)]
set_option maxRecDepth 100000 in
set_option maxHeartbeats 4000000 in
theorem ok_In_removeFirst {p : Program} {l : Launch} {e : Env} {s : State} {m : MethodId} {args : Array Value} {below : List Frame} {meth : Method} {c : Code} {E : tw_E} {D : va_G} {ρ : tw_R} (hC : tw_Cx p s m args meth c b_In_removeFirst 2 none "TwinHost$Inputs" E D) : tw_Ok p l e (tw_rmd 0) s m args below meth c 0 0 (MQ below (tw_Qc E D ρ) args s 0 0 (tw_A E)) 2 E D ρ pr_In_removeFirst :=
  ⟨ts_aload_n hC d_In_removeFirst_0 rfl,
   ts_gi (j := 2) (C := R_In) (T := T_In) hC rfl rfl rfl (by decide) u_In wd_65 rfl d_In_removeFirst_1,
   ts_ifne hC d_In_removeFirst_4 (by decide),
   ts_vret hC rfl d_In_removeFirst_7,
   ts_aload_n hC d_In_removeFirst_8 rfl,
   ts_dup hC d_In_removeFirst_9,
   ts_gi (j := 2) (C := R_In) (T := T_In) hC rfl rfl rfl (by decide) u_In wd_65 rfl d_In_removeFirst_10,
   ts_iconst hC d_In_removeFirst_13 (by decide),
   ts_isub hC d_In_removeFirst_14,
   ts_pi (j := 2) (C := R_In) (T := T_In) hC rfl rfl rfl (by decide) u_In wd_65 rfl t_In_ok n_In rfl (by decide +kernel) d_In_removeFirst_15,
   ts_iconst hC d_In_removeFirst_18 (by decide),
   ts_istore_n hC d_In_removeFirst_19 rfl (by decide),
   ts_iload_n hC d_In_removeFirst_20 rfl,
   ts_aload_n hC d_In_removeFirst_21 rfl,
   ts_gi (j := 2) (C := R_In) (T := T_In) hC rfl rfl rfl (by decide) u_In wd_65 rfl d_In_removeFirst_22,
   ts_cge hC d_In_removeFirst_25 (by decide),
   ts_aload_n hC d_In_removeFirst_28 rfl,
   ts_gr (j := 0) (C := R_In) (T := T_In) hC rfl rfl rfl (by decide) u_In wd_62 rfl d_In_removeFirst_29,
   ts_iload_n hC d_In_removeFirst_32 rfl,
   ts_aload_n hC d_In_removeFirst_33 rfl,
   ts_gr (j := 0) (C := R_In) (T := T_In) hC rfl rfl rfl (by decide) u_In wd_62 rfl d_In_removeFirst_34,
   ts_iload_n hC d_In_removeFirst_37 rfl,
   ts_iconst hC d_In_removeFirst_38 (by decide),
   ts_iadd hC d_In_removeFirst_39,
   ts_iaload hC d_In_removeFirst_40,
   ts_iastore hC d_In_removeFirst_41,
   ts_aload_n hC d_In_removeFirst_42 rfl,
   ts_gr (j := 1) (C := R_In) (T := T_In) hC rfl rfl rfl (by decide) u_In wd_63 rfl d_In_removeFirst_43,
   ts_iload_n hC d_In_removeFirst_46 rfl,
   ts_aload_n hC d_In_removeFirst_47 rfl,
   ts_gr (j := 1) (C := R_In) (T := T_In) hC rfl rfl rfl (by decide) u_In wd_63 rfl d_In_removeFirst_48,
   ts_iload_n hC d_In_removeFirst_51 rfl,
   ts_iconst hC d_In_removeFirst_52 (by decide),
   ts_iadd hC d_In_removeFirst_53,
   ts_iaload hC d_In_removeFirst_54,
   ts_iastore hC d_In_removeFirst_55,
   ts_iinc hC d_In_removeFirst_56 (by decide) (by decide),
   ts_goto hC d_In_removeFirst_59 (by decide),
   ts_vret hC rfl d_In_removeFirst_62,
   trivial⟩
def fn_In_removeFirst : tw_Fn := tw_fn 1 2 400 pr_In_removeFirst
theorem con_In_removeFirst : tw_Con y_In_removeFirst b_In_removeFirst 2 none 0 fn_In_removeFirst := tw_met (by decide +kernel) (tw_fn_len (n := 1) (by decide)) (fun p l e s m args below meth c E D vs σ ρ hC h => tw_sound (ok_In_removeFirst hC) 400 pr_In_removeFirst (ok_In_removeFirst hC) _ _ _ (tw_fn_get h))

-- TwinHost$Shadows.clear()V: 13 instructions, depth 0, calls 
theorem d_Sh_clear_0 : decode b_Sh_clear 0 = .ok (.iconst 0, 1) := by decide +kernel
theorem d_Sh_clear_1 : decode b_Sh_clear 1 = .ok (.istore_n 1, 1) := by decide +kernel
theorem d_Sh_clear_2 : decode b_Sh_clear 2 = .ok (.iload_n 1, 1) := by decide +kernel
theorem d_Sh_clear_3 : decode b_Sh_clear 3 = .ok (.bipush 16, 2) := by decide +kernel
theorem d_Sh_clear_5 : decode b_Sh_clear 5 = .ok (.if_icmp .ge 16, 3) := by decide +kernel
theorem d_Sh_clear_8 : decode b_Sh_clear 8 = .ok (.aload_n 0, 1) := by decide +kernel
theorem d_Sh_clear_9 : decode b_Sh_clear 9 = .ok (.getfield 9, 3) := by decide +kernel
theorem d_Sh_clear_12 : decode b_Sh_clear 12 = .ok (.iload_n 1, 1) := by decide +kernel
theorem d_Sh_clear_13 : decode b_Sh_clear 13 = .ok (.iconst (-1), 1) := by decide +kernel
theorem d_Sh_clear_14 : decode b_Sh_clear 14 = .ok (.iastore, 1) := by decide +kernel
theorem d_Sh_clear_15 : decode b_Sh_clear 15 = .ok (.iinc 1 1, 3) := by decide +kernel
theorem d_Sh_clear_18 : decode b_Sh_clear 18 = .ok (.goto (-16), 3) := by decide +kernel
theorem d_Sh_clear_21 : decode b_Sh_clear 21 = .ok (.return_, 1) := by decide +kernel
def pr_Sh_clear : List (Nat × tw_Op) := [(0, tw_ic 0), (1, tw_is 1), (2, tw_il 1), (3, tw_ic (16)), (5, tw_cge 21), (8, tw_al 0), (9, tw_gr 9 10), (12, tw_il 1), (13, tw_ic (-1)), (14, tw_ias 0 22), (15, tw_inc 1 (1)), (18, tw_jmp 2), (21, tw_r0)]
set_option maxRecDepth 100000 in
set_option maxHeartbeats 4000000 in
theorem ok_Sh_clear {p : Program} {l : Launch} {e : Env} {s : State} {m : MethodId} {args : Array Value} {below : List Frame} {meth : Method} {c : Code} {E : tw_E} {D : va_G} {ρ : tw_R} (hC : tw_Cx p s m args meth c b_Sh_clear 2 none "TwinHost$Shadows" E D) : tw_Ok p l e (tw_rmd 0) s m args below meth c 0 0 (MQ below (tw_Qc E D ρ) args s 0 0 (tw_A E)) 2 E D ρ pr_Sh_clear :=
  ⟨ts_iconst hC d_Sh_clear_0 (by decide),
   ts_istore_n hC d_Sh_clear_1 rfl (by decide),
   ts_iload_n hC d_Sh_clear_2 rfl,
   ts_bipush hC d_Sh_clear_3 (by decide),
   ts_cge hC d_Sh_clear_5 (by decide),
   ts_aload_n hC d_Sh_clear_8 rfl,
   ts_gr (j := 0) (C := R_Sh) (T := T_Sh) hC rfl rfl rfl (by decide) u_Sh wd_94 rfl d_Sh_clear_9,
   ts_iload_n hC d_Sh_clear_12 rfl,
   ts_iconst hC d_Sh_clear_13 (by decide),
   ts_iastore hC d_Sh_clear_14,
   ts_iinc hC d_Sh_clear_15 (by decide) (by decide),
   ts_goto hC d_Sh_clear_18 (by decide),
   ts_vret hC rfl d_Sh_clear_21,
   trivial⟩
def fn_Sh_clear : tw_Fn := tw_fn 1 2 400 pr_Sh_clear
theorem con_Sh_clear : tw_Con y_Sh_clear b_Sh_clear 2 none 0 fn_Sh_clear := tw_met (by decide +kernel) (tw_fn_len (n := 1) (by decide)) (fun p l e s m args below meth c E D vs σ ρ hC h => tw_sound (ok_Sh_clear hC) 400 pr_Sh_clear (ok_Sh_clear hC) _ _ _ (tw_fn_get h))

-- TwinHost$Shadows.describe(I)I: 35 instructions, depth 0, calls 
theorem d_Sh_describe_0 : decode b_Sh_describe 0 = .ok (.aload_n 0, 1) := by decide +kernel
theorem d_Sh_describe_1 : decode b_Sh_describe 1 = .ok (.getfield 9, 3) := by decide +kernel
theorem d_Sh_describe_4 : decode b_Sh_describe 4 = .ok (.iload_n 1, 1) := by decide +kernel
theorem d_Sh_describe_5 : decode b_Sh_describe 5 = .ok (.iaload, 1) := by decide +kernel
theorem d_Sh_describe_6 : decode b_Sh_describe 6 = .ok (.iconst (-1), 1) := by decide +kernel
theorem d_Sh_describe_7 : decode b_Sh_describe 7 = .ok (.if_icmp .ne 5, 3) := by decide +kernel
theorem d_Sh_describe_10 : decode b_Sh_describe 10 = .ok (.iconst (-1), 1) := by decide +kernel
theorem d_Sh_describe_11 : decode b_Sh_describe 11 = .ok (.ireturn, 1) := by decide +kernel
theorem d_Sh_describe_12 : decode b_Sh_describe 12 = .ok (.aload_n 0, 1) := by decide +kernel
theorem d_Sh_describe_13 : decode b_Sh_describe 13 = .ok (.getfield 15, 3) := by decide +kernel
theorem d_Sh_describe_16 : decode b_Sh_describe 16 = .ok (.iload_n 1, 1) := by decide +kernel
theorem d_Sh_describe_17 : decode b_Sh_describe 17 = .ok (.iaload, 1) := by decide +kernel
theorem d_Sh_describe_18 : decode b_Sh_describe 18 = .ok (.bipush (-65), 2) := by decide +kernel
theorem d_Sh_describe_20 : decode b_Sh_describe 20 = .ok (.iand, 1) := by decide +kernel
theorem d_Sh_describe_21 : decode b_Sh_describe 21 = .ok (.istore_n 2, 1) := by decide +kernel
theorem d_Sh_describe_22 : decode b_Sh_describe 22 = .ok (.aload_n 0, 1) := by decide +kernel
theorem d_Sh_describe_23 : decode b_Sh_describe 23 = .ok (.getfield 9, 3) := by decide +kernel
theorem d_Sh_describe_26 : decode b_Sh_describe 26 = .ok (.iload_n 1, 1) := by decide +kernel
theorem d_Sh_describe_27 : decode b_Sh_describe 27 = .ok (.iaload, 1) := by decide +kernel
theorem d_Sh_describe_28 : decode b_Sh_describe 28 = .ok (.bipush 8, 2) := by decide +kernel
theorem d_Sh_describe_30 : decode b_Sh_describe 30 = .ok (.iload_n 2, 1) := by decide +kernel
theorem d_Sh_describe_31 : decode b_Sh_describe 31 = .ok (.imul, 1) := by decide +kernel
theorem d_Sh_describe_32 : decode b_Sh_describe 32 = .ok (.iadd, 1) := by decide +kernel
theorem d_Sh_describe_33 : decode b_Sh_describe 33 = .ok (.aload_n 0, 1) := by decide +kernel
theorem d_Sh_describe_34 : decode b_Sh_describe 34 = .ok (.getfield 15, 3) := by decide +kernel
theorem d_Sh_describe_37 : decode b_Sh_describe 37 = .ok (.iload_n 1, 1) := by decide +kernel
theorem d_Sh_describe_38 : decode b_Sh_describe 38 = .ok (.iaload, 1) := by decide +kernel
theorem d_Sh_describe_39 : decode b_Sh_describe 39 = .ok (.bipush 64, 2) := by decide +kernel
theorem d_Sh_describe_41 : decode b_Sh_describe 41 = .ok (.iand, 1) := by decide +kernel
theorem d_Sh_describe_42 : decode b_Sh_describe 42 = .ok (.ifCond .eq 9, 3) := by decide +kernel
theorem d_Sh_describe_45 : decode b_Sh_describe 45 = .ok (.sipush 512, 3) := by decide +kernel
theorem d_Sh_describe_48 : decode b_Sh_describe 48 = .ok (.goto 4, 3) := by decide +kernel
theorem d_Sh_describe_51 : decode b_Sh_describe 51 = .ok (.iconst 0, 1) := by decide +kernel
theorem d_Sh_describe_52 : decode b_Sh_describe 52 = .ok (.iadd, 1) := by decide +kernel
theorem d_Sh_describe_53 : decode b_Sh_describe 53 = .ok (.ireturn, 1) := by decide +kernel
def pr_Sh_describe : List (Nat × tw_Op) := [(0, tw_al 0), (1, tw_gr 9 10), (4, tw_il 1), (5, tw_ia), (6, tw_ic (-1)), (7, tw_cne 12), (10, tw_ic (-1)), (11, tw_ri), (12, tw_al 0), (13, tw_gr 9 11), (16, tw_il 1), (17, tw_ia), (18, tw_ic (-65)), (20, tw_bin (· &&& ·)), (21, tw_is 2), (22, tw_al 0), (23, tw_gr 9 10), (26, tw_il 1), (27, tw_ia), (28, tw_ic (8)), (30, tw_il 2), (31, tw_bin (· * ·)), (32, tw_bin (· + ·)), (33, tw_al 0), (34, tw_gr 9 11), (37, tw_il 1), (38, tw_ia), (39, tw_ic (64)), (41, tw_bin (· &&& ·)), (42, tw_ifeq 51), (45, tw_ic (512)), (48, tw_jmp 52), (51, tw_ic 0), (52, tw_bin (· + ·)), (53, tw_ri)]
set_option maxRecDepth 100000 in
set_option maxHeartbeats 4000000 in
theorem ok_Sh_describe {p : Program} {l : Launch} {e : Env} {s : State} {m : MethodId} {args : Array Value} {below : List Frame} {meth : Method} {c : Code} {E : tw_E} {D : va_G} {ρ : tw_R} (hC : tw_Cx p s m args meth c b_Sh_describe 3 (some .int) "TwinHost$Shadows" E D) : tw_Ok p l e (tw_rmd 0) s m args below meth c 0 0 (MQ below (tw_Qc E D ρ) args s 0 0 (tw_A E)) 3 E D ρ pr_Sh_describe :=
  ⟨ts_aload_n hC d_Sh_describe_0 rfl,
   ts_gr (j := 0) (C := R_Sh) (T := T_Sh) hC rfl rfl rfl (by decide) u_Sh wd_94 rfl d_Sh_describe_1,
   ts_iload_n hC d_Sh_describe_4 rfl,
   ts_iaload hC d_Sh_describe_5,
   ts_iconst hC d_Sh_describe_6 (by decide),
   ts_cne hC d_Sh_describe_7 (by decide),
   ts_iconst hC d_Sh_describe_10 (by decide),
   ts_iret hC rfl d_Sh_describe_11,
   ts_aload_n hC d_Sh_describe_12 rfl,
   ts_gr (j := 1) (C := R_Sh) (T := T_Sh) hC rfl rfl rfl (by decide) u_Sh wd_96 rfl d_Sh_describe_13,
   ts_iload_n hC d_Sh_describe_16 rfl,
   ts_iaload hC d_Sh_describe_17,
   ts_bipush hC d_Sh_describe_18 (by decide),
   ts_iand hC d_Sh_describe_20,
   ts_istore_n hC d_Sh_describe_21 rfl (by decide),
   ts_aload_n hC d_Sh_describe_22 rfl,
   ts_gr (j := 0) (C := R_Sh) (T := T_Sh) hC rfl rfl rfl (by decide) u_Sh wd_94 rfl d_Sh_describe_23,
   ts_iload_n hC d_Sh_describe_26 rfl,
   ts_iaload hC d_Sh_describe_27,
   ts_bipush hC d_Sh_describe_28 (by decide),
   ts_iload_n hC d_Sh_describe_30 rfl,
   ts_imul hC d_Sh_describe_31,
   ts_iadd hC d_Sh_describe_32,
   ts_aload_n hC d_Sh_describe_33 rfl,
   ts_gr (j := 1) (C := R_Sh) (T := T_Sh) hC rfl rfl rfl (by decide) u_Sh wd_96 rfl d_Sh_describe_34,
   ts_iload_n hC d_Sh_describe_37 rfl,
   ts_iaload hC d_Sh_describe_38,
   ts_bipush hC d_Sh_describe_39 (by decide),
   ts_iand hC d_Sh_describe_41,
   ts_ifeq hC d_Sh_describe_42 (by decide),
   ts_sipush hC d_Sh_describe_45 (by decide),
   ts_goto hC d_Sh_describe_48 (by decide),
   ts_iconst hC d_Sh_describe_51 (by decide),
   ts_iadd hC d_Sh_describe_52,
   ts_iret hC rfl d_Sh_describe_53,
   trivial⟩
def fn_Sh_describe : tw_Fn := tw_fn 2 3 37 pr_Sh_describe
theorem con_Sh_describe : tw_Con y_Sh_describe b_Sh_describe 3 (some .int) 0 fn_Sh_describe := tw_met (by decide +kernel) (tw_fn_len (n := 2) (by decide)) (fun p l e s m args below meth c E D vs σ ρ hC h => tw_sound (ok_Sh_describe hC) 37 pr_Sh_describe (ok_Sh_describe hC) _ _ _ (tw_fn_get h))

-- TwinHost$Shadows.dropThoseOf(I)I: 35 instructions, depth 0, calls 
theorem d_Sh_dropThoseOf_0 : decode b_Sh_dropThoseOf 0 = .ok (.iconst 0, 1) := by decide +kernel
theorem d_Sh_dropThoseOf_1 : decode b_Sh_dropThoseOf 1 = .ok (.istore_n 2, 1) := by decide +kernel
theorem d_Sh_dropThoseOf_2 : decode b_Sh_dropThoseOf 2 = .ok (.iconst 0, 1) := by decide +kernel
theorem d_Sh_dropThoseOf_3 : decode b_Sh_dropThoseOf 3 = .ok (.istore_n 3, 1) := by decide +kernel
theorem d_Sh_dropThoseOf_4 : decode b_Sh_dropThoseOf 4 = .ok (.iload_n 3, 1) := by decide +kernel
theorem d_Sh_dropThoseOf_5 : decode b_Sh_dropThoseOf 5 = .ok (.bipush 16, 2) := by decide +kernel
theorem d_Sh_dropThoseOf_7 : decode b_Sh_dropThoseOf 7 = .ok (.if_icmp .ge 49, 3) := by decide +kernel
theorem d_Sh_dropThoseOf_10 : decode b_Sh_dropThoseOf 10 = .ok (.aload_n 0, 1) := by decide +kernel
theorem d_Sh_dropThoseOf_11 : decode b_Sh_dropThoseOf 11 = .ok (.getfield 9, 3) := by decide +kernel
theorem d_Sh_dropThoseOf_14 : decode b_Sh_dropThoseOf 14 = .ok (.iload_n 3, 1) := by decide +kernel
theorem d_Sh_dropThoseOf_15 : decode b_Sh_dropThoseOf 15 = .ok (.iaload, 1) := by decide +kernel
theorem d_Sh_dropThoseOf_16 : decode b_Sh_dropThoseOf 16 = .ok (.iconst (-1), 1) := by decide +kernel
theorem d_Sh_dropThoseOf_17 : decode b_Sh_dropThoseOf 17 = .ok (.if_icmp .eq 33, 3) := by decide +kernel
theorem d_Sh_dropThoseOf_20 : decode b_Sh_dropThoseOf 20 = .ok (.aload_n 0, 1) := by decide +kernel
theorem d_Sh_dropThoseOf_21 : decode b_Sh_dropThoseOf 21 = .ok (.getfield 18, 3) := by decide +kernel
theorem d_Sh_dropThoseOf_24 : decode b_Sh_dropThoseOf 24 = .ok (.iload_n 3, 1) := by decide +kernel
theorem d_Sh_dropThoseOf_25 : decode b_Sh_dropThoseOf 25 = .ok (.iaload, 1) := by decide +kernel
theorem d_Sh_dropThoseOf_26 : decode b_Sh_dropThoseOf 26 = .ok (.iload_n 1, 1) := by decide +kernel
theorem d_Sh_dropThoseOf_27 : decode b_Sh_dropThoseOf 27 = .ok (.if_icmp .eq 13, 3) := by decide +kernel
theorem d_Sh_dropThoseOf_30 : decode b_Sh_dropThoseOf 30 = .ok (.aload_n 0, 1) := by decide +kernel
theorem d_Sh_dropThoseOf_31 : decode b_Sh_dropThoseOf 31 = .ok (.getfield 21, 3) := by decide +kernel
theorem d_Sh_dropThoseOf_34 : decode b_Sh_dropThoseOf 34 = .ok (.iload_n 3, 1) := by decide +kernel
theorem d_Sh_dropThoseOf_35 : decode b_Sh_dropThoseOf 35 = .ok (.iaload, 1) := by decide +kernel
theorem d_Sh_dropThoseOf_36 : decode b_Sh_dropThoseOf 36 = .ok (.iload_n 1, 1) := by decide +kernel
theorem d_Sh_dropThoseOf_37 : decode b_Sh_dropThoseOf 37 = .ok (.if_icmp .ne 13, 3) := by decide +kernel
theorem d_Sh_dropThoseOf_40 : decode b_Sh_dropThoseOf 40 = .ok (.aload_n 0, 1) := by decide +kernel
theorem d_Sh_dropThoseOf_41 : decode b_Sh_dropThoseOf 41 = .ok (.getfield 9, 3) := by decide +kernel
theorem d_Sh_dropThoseOf_44 : decode b_Sh_dropThoseOf 44 = .ok (.iload_n 3, 1) := by decide +kernel
theorem d_Sh_dropThoseOf_45 : decode b_Sh_dropThoseOf 45 = .ok (.iconst (-1), 1) := by decide +kernel
theorem d_Sh_dropThoseOf_46 : decode b_Sh_dropThoseOf 46 = .ok (.iastore, 1) := by decide +kernel
theorem d_Sh_dropThoseOf_47 : decode b_Sh_dropThoseOf 47 = .ok (.iinc 2 1, 3) := by decide +kernel
theorem d_Sh_dropThoseOf_50 : decode b_Sh_dropThoseOf 50 = .ok (.iinc 3 1, 3) := by decide +kernel
theorem d_Sh_dropThoseOf_53 : decode b_Sh_dropThoseOf 53 = .ok (.goto (-49), 3) := by decide +kernel
theorem d_Sh_dropThoseOf_56 : decode b_Sh_dropThoseOf 56 = .ok (.iload_n 2, 1) := by decide +kernel
theorem d_Sh_dropThoseOf_57 : decode b_Sh_dropThoseOf 57 = .ok (.ireturn, 1) := by decide +kernel
def pr_Sh_dropThoseOf : List (Nat × tw_Op) := [(0, tw_ic 0), (1, tw_is 2), (2, tw_ic 0), (3, tw_is 3), (4, tw_il 3), (5, tw_ic (16)), (7, tw_cge 56), (10, tw_al 0), (11, tw_gr 9 10), (14, tw_il 3), (15, tw_ia), (16, tw_ic (-1)), (17, tw_ceq 50), (20, tw_al 0), (21, tw_gr 9 12), (24, tw_il 3), (25, tw_ia), (26, tw_il 1), (27, tw_ceq 40), (30, tw_al 0), (31, tw_gr 9 13), (34, tw_il 3), (35, tw_ia), (36, tw_il 1), (37, tw_cne 50), (40, tw_al 0), (41, tw_gr 9 10), (44, tw_il 3), (45, tw_ic (-1)), (46, tw_ias 0 22), (47, tw_inc 2 (1)), (50, tw_inc 3 (1)), (53, tw_jmp 4), (56, tw_il 2), (57, tw_ri)]
set_option maxRecDepth 100000 in
set_option maxHeartbeats 4000000 in
theorem ok_Sh_dropThoseOf {p : Program} {l : Launch} {e : Env} {s : State} {m : MethodId} {args : Array Value} {below : List Frame} {meth : Method} {c : Code} {E : tw_E} {D : va_G} {ρ : tw_R} (hC : tw_Cx p s m args meth c b_Sh_dropThoseOf 4 (some .int) "TwinHost$Shadows" E D) : tw_Ok p l e (tw_rmd 0) s m args below meth c 0 0 (MQ below (tw_Qc E D ρ) args s 0 0 (tw_A E)) 4 E D ρ pr_Sh_dropThoseOf :=
  ⟨ts_iconst hC d_Sh_dropThoseOf_0 (by decide),
   ts_istore_n hC d_Sh_dropThoseOf_1 rfl (by decide),
   ts_iconst hC d_Sh_dropThoseOf_2 (by decide),
   ts_istore_n hC d_Sh_dropThoseOf_3 rfl (by decide),
   ts_iload_n hC d_Sh_dropThoseOf_4 rfl,
   ts_bipush hC d_Sh_dropThoseOf_5 (by decide),
   ts_cge hC d_Sh_dropThoseOf_7 (by decide),
   ts_aload_n hC d_Sh_dropThoseOf_10 rfl,
   ts_gr (j := 0) (C := R_Sh) (T := T_Sh) hC rfl rfl rfl (by decide) u_Sh wd_94 rfl d_Sh_dropThoseOf_11,
   ts_iload_n hC d_Sh_dropThoseOf_14 rfl,
   ts_iaload hC d_Sh_dropThoseOf_15,
   ts_iconst hC d_Sh_dropThoseOf_16 (by decide),
   ts_ceq hC d_Sh_dropThoseOf_17 (by decide),
   ts_aload_n hC d_Sh_dropThoseOf_20 rfl,
   ts_gr (j := 2) (C := R_Sh) (T := T_Sh) hC rfl rfl rfl (by decide) u_Sh wd_97 rfl d_Sh_dropThoseOf_21,
   ts_iload_n hC d_Sh_dropThoseOf_24 rfl,
   ts_iaload hC d_Sh_dropThoseOf_25,
   ts_iload_n hC d_Sh_dropThoseOf_26 rfl,
   ts_ceq hC d_Sh_dropThoseOf_27 (by decide),
   ts_aload_n hC d_Sh_dropThoseOf_30 rfl,
   ts_gr (j := 3) (C := R_Sh) (T := T_Sh) hC rfl rfl rfl (by decide) u_Sh wd_98 rfl d_Sh_dropThoseOf_31,
   ts_iload_n hC d_Sh_dropThoseOf_34 rfl,
   ts_iaload hC d_Sh_dropThoseOf_35,
   ts_iload_n hC d_Sh_dropThoseOf_36 rfl,
   ts_cne hC d_Sh_dropThoseOf_37 (by decide),
   ts_aload_n hC d_Sh_dropThoseOf_40 rfl,
   ts_gr (j := 0) (C := R_Sh) (T := T_Sh) hC rfl rfl rfl (by decide) u_Sh wd_94 rfl d_Sh_dropThoseOf_41,
   ts_iload_n hC d_Sh_dropThoseOf_44 rfl,
   ts_iconst hC d_Sh_dropThoseOf_45 (by decide),
   ts_iastore hC d_Sh_dropThoseOf_46,
   ts_iinc hC d_Sh_dropThoseOf_47 (by decide) (by decide),
   ts_iinc hC d_Sh_dropThoseOf_50 (by decide) (by decide),
   ts_goto hC d_Sh_dropThoseOf_53 (by decide),
   ts_iload_n hC d_Sh_dropThoseOf_56 rfl,
   ts_iret hC rfl d_Sh_dropThoseOf_57,
   trivial⟩
def fn_Sh_dropThoseOf : tw_Fn := tw_fn 2 4 1200 pr_Sh_dropThoseOf
theorem con_Sh_dropThoseOf : tw_Con y_Sh_dropThoseOf b_Sh_dropThoseOf 4 (some .int) 0 fn_Sh_dropThoseOf := tw_met (by decide +kernel) (tw_fn_len (n := 2) (by decide)) (fun p l e s m args below meth c E D vs σ ρ hC h => tw_sound (ok_Sh_dropThoseOf hC) 1200 pr_Sh_dropThoseOf (ok_Sh_dropThoseOf hC) _ _ _ (tw_fn_get h))

-- TwinHost$Shadows.isIn(II)Z: 12 instructions, depth 0, calls 
theorem d_Sh_isIn_0 : decode b_Sh_isIn 0 = .ok (.iload_n 0, 1) := by decide +kernel
theorem d_Sh_isIn_1 : decode b_Sh_isIn 1 = .ok (.iconst (-1), 1) := by decide +kernel
theorem d_Sh_isIn_2 : decode b_Sh_isIn 2 = .ok (.if_icmp .eq 14, 3) := by decide +kernel
theorem d_Sh_isIn_5 : decode b_Sh_isIn 5 = .ok (.iload_n 0, 1) := by decide +kernel
theorem d_Sh_isIn_6 : decode b_Sh_isIn 6 = .ok (.iconst 4, 1) := by decide +kernel
theorem d_Sh_isIn_7 : decode b_Sh_isIn 7 = .ok (.ishr, 1) := by decide +kernel
theorem d_Sh_isIn_8 : decode b_Sh_isIn 8 = .ok (.iload_n 1, 1) := by decide +kernel
theorem d_Sh_isIn_9 : decode b_Sh_isIn 9 = .ok (.if_icmp .ne 7, 3) := by decide +kernel
theorem d_Sh_isIn_12 : decode b_Sh_isIn 12 = .ok (.iconst 1, 1) := by decide +kernel
theorem d_Sh_isIn_13 : decode b_Sh_isIn 13 = .ok (.goto 4, 3) := by decide +kernel
theorem d_Sh_isIn_16 : decode b_Sh_isIn 16 = .ok (.iconst 0, 1) := by decide +kernel
theorem d_Sh_isIn_17 : decode b_Sh_isIn 17 = .ok (.ireturn, 1) := by decide +kernel
def pr_Sh_isIn : List (Nat × tw_Op) := [(0, tw_il 0), (1, tw_ic (-1)), (2, tw_ceq 16), (5, tw_il 0), (6, tw_ic 4), (7, tw_bin (fun x y => x >>> (y &&& 31))), (8, tw_il 1), (9, tw_cne 16), (12, tw_ic 1), (13, tw_jmp 17), (16, tw_ic 0), (17, tw_rz)]
set_option maxRecDepth 100000 in
set_option maxHeartbeats 4000000 in
theorem ok_Sh_isIn {p : Program} {l : Launch} {e : Env} {s : State} {m : MethodId} {args : Array Value} {below : List Frame} {meth : Method} {c : Code} {E : tw_E} {D : va_G} {ρ : tw_R} (hC : tw_Cx p s m args meth c b_Sh_isIn 2 (some .boolean) "TwinHost$Shadows" E D) : tw_Ok p l e (tw_rmd 0) s m args below meth c 0 0 (MQ below (tw_Qc E D ρ) args s 0 0 (tw_A E)) 2 E D ρ pr_Sh_isIn :=
  ⟨ts_iload_n hC d_Sh_isIn_0 rfl,
   ts_iconst hC d_Sh_isIn_1 (by decide),
   ts_ceq hC d_Sh_isIn_2 (by decide),
   ts_iload_n hC d_Sh_isIn_5 rfl,
   ts_iconst hC d_Sh_isIn_6 (by decide),
   ts_ishr hC d_Sh_isIn_7,
   ts_iload_n hC d_Sh_isIn_8 rfl,
   ts_cne hC d_Sh_isIn_9 (by decide),
   ts_iconst hC d_Sh_isIn_12 (by decide),
   ts_goto hC d_Sh_isIn_13 (by decide),
   ts_iconst hC d_Sh_isIn_16 (by decide),
   ts_zret hC rfl d_Sh_isIn_17,
   trivial⟩
def fn_Sh_isIn : tw_Fn := tw_fn 2 2 14 pr_Sh_isIn
theorem con_Sh_isIn : tw_Con y_Sh_isIn b_Sh_isIn 2 (some .boolean) 0 fn_Sh_isIn := tw_met (by decide +kernel) (tw_fn_len (n := 2) (by decide)) (fun p l e s m args below meth c E D vs σ ρ hC h => tw_sound (ok_Sh_isIn hC) 14 pr_Sh_isIn (ok_Sh_isIn hC) _ _ _ (tw_fn_get h))

-- TwinHost$Shadows.put(IILTwinHost$Walk;)V: 26 instructions, depth 0, calls 
theorem d_Sh_put_0 : decode b_Sh_put 0 = .ok (.aload_n 0, 1) := by decide +kernel
theorem d_Sh_put_1 : decode b_Sh_put 1 = .ok (.getfield 9, 3) := by decide +kernel
theorem d_Sh_put_4 : decode b_Sh_put 4 = .ok (.iload_n 1, 1) := by decide +kernel
theorem d_Sh_put_5 : decode b_Sh_put 5 = .ok (.aload_n 3, 1) := by decide +kernel
theorem d_Sh_put_6 : decode b_Sh_put 6 = .ok (.getfield 27, 3) := by decide +kernel
theorem d_Sh_put_9 : decode b_Sh_put 9 = .ok (.iastore, 1) := by decide +kernel
theorem d_Sh_put_10 : decode b_Sh_put 10 = .ok (.aload_n 0, 1) := by decide +kernel
theorem d_Sh_put_11 : decode b_Sh_put 11 = .ok (.getfield 15, 3) := by decide +kernel
theorem d_Sh_put_14 : decode b_Sh_put 14 = .ok (.iload_n 1, 1) := by decide +kernel
theorem d_Sh_put_15 : decode b_Sh_put 15 = .ok (.iload_n 2, 1) := by decide +kernel
theorem d_Sh_put_16 : decode b_Sh_put 16 = .ok (.bipush 94, 2) := by decide +kernel
theorem d_Sh_put_18 : decode b_Sh_put 18 = .ok (.iand, 1) := by decide +kernel
theorem d_Sh_put_19 : decode b_Sh_put 19 = .ok (.iastore, 1) := by decide +kernel
theorem d_Sh_put_20 : decode b_Sh_put 20 = .ok (.aload_n 0, 1) := by decide +kernel
theorem d_Sh_put_21 : decode b_Sh_put 21 = .ok (.getfield 18, 3) := by decide +kernel
theorem d_Sh_put_24 : decode b_Sh_put 24 = .ok (.iload_n 1, 1) := by decide +kernel
theorem d_Sh_put_25 : decode b_Sh_put 25 = .ok (.aload_n 3, 1) := by decide +kernel
theorem d_Sh_put_26 : decode b_Sh_put 26 = .ok (.getfield 35, 3) := by decide +kernel
theorem d_Sh_put_29 : decode b_Sh_put 29 = .ok (.iastore, 1) := by decide +kernel
theorem d_Sh_put_30 : decode b_Sh_put 30 = .ok (.aload_n 0, 1) := by decide +kernel
theorem d_Sh_put_31 : decode b_Sh_put 31 = .ok (.getfield 21, 3) := by decide +kernel
theorem d_Sh_put_34 : decode b_Sh_put 34 = .ok (.iload_n 1, 1) := by decide +kernel
theorem d_Sh_put_35 : decode b_Sh_put 35 = .ok (.aload_n 3, 1) := by decide +kernel
theorem d_Sh_put_36 : decode b_Sh_put 36 = .ok (.getfield 38, 3) := by decide +kernel
theorem d_Sh_put_39 : decode b_Sh_put 39 = .ok (.iastore, 1) := by decide +kernel
theorem d_Sh_put_40 : decode b_Sh_put 40 = .ok (.return_, 1) := by decide +kernel
def pr_Sh_put : List (Nat × tw_Op) := [(0, tw_al 0), (1, tw_gr 9 10), (4, tw_il 1), (5, tw_al 3), (6, tw_gi 14 3), (9, tw_ias 0 22), (10, tw_al 0), (11, tw_gr 9 11), (14, tw_il 1), (15, tw_il 2), (16, tw_ic (94)), (18, tw_bin (· &&& ·)), (19, tw_ias 0 22), (20, tw_al 0), (21, tw_gr 9 12), (24, tw_il 1), (25, tw_al 3), (26, tw_gi 14 0), (29, tw_ias 0 22), (30, tw_al 0), (31, tw_gr 9 13), (34, tw_il 1), (35, tw_al 3), (36, tw_gi 14 1), (39, tw_ias 0 22), (40, tw_r0)]
set_option maxRecDepth 100000 in
set_option maxHeartbeats 4000000 in
theorem ok_Sh_put {p : Program} {l : Launch} {e : Env} {s : State} {m : MethodId} {args : Array Value} {below : List Frame} {meth : Method} {c : Code} {E : tw_E} {D : va_G} {ρ : tw_R} (hC : tw_Cx p s m args meth c b_Sh_put 4 none "TwinHost$Shadows" E D) : tw_Ok p l e (tw_rmd 0) s m args below meth c 0 0 (MQ below (tw_Qc E D ρ) args s 0 0 (tw_A E)) 4 E D ρ pr_Sh_put :=
  ⟨ts_aload_n hC d_Sh_put_0 rfl,
   ts_gr (j := 0) (C := R_Sh) (T := T_Sh) hC rfl rfl rfl (by decide) u_Sh wd_94 rfl d_Sh_put_1,
   ts_iload_n hC d_Sh_put_4 rfl,
   ts_aload_n hC d_Sh_put_5 rfl,
   ts_gi (j := 3) (C := R_Wa) (T := T_Wa) hC rfl rfl rfl (by decide) u_Wa wd_121 rfl d_Sh_put_6,
   ts_iastore hC d_Sh_put_9,
   ts_aload_n hC d_Sh_put_10 rfl,
   ts_gr (j := 1) (C := R_Sh) (T := T_Sh) hC rfl rfl rfl (by decide) u_Sh wd_96 rfl d_Sh_put_11,
   ts_iload_n hC d_Sh_put_14 rfl,
   ts_iload_n hC d_Sh_put_15 rfl,
   ts_bipush hC d_Sh_put_16 (by decide),
   ts_iand hC d_Sh_put_18,
   ts_iastore hC d_Sh_put_19,
   ts_aload_n hC d_Sh_put_20 rfl,
   ts_gr (j := 2) (C := R_Sh) (T := T_Sh) hC rfl rfl rfl (by decide) u_Sh wd_97 rfl d_Sh_put_21,
   ts_iload_n hC d_Sh_put_24 rfl,
   ts_aload_n hC d_Sh_put_25 rfl,
   ts_gi (j := 0) (C := R_Wa) (T := T_Wa) hC rfl rfl rfl (by decide) u_Wa wd_115 rfl d_Sh_put_26,
   ts_iastore hC d_Sh_put_29,
   ts_aload_n hC d_Sh_put_30 rfl,
   ts_gr (j := 3) (C := R_Sh) (T := T_Sh) hC rfl rfl rfl (by decide) u_Sh wd_98 rfl d_Sh_put_31,
   ts_iload_n hC d_Sh_put_34 rfl,
   ts_aload_n hC d_Sh_put_35 rfl,
   ts_gi (j := 1) (C := R_Wa) (T := T_Wa) hC rfl rfl rfl (by decide) u_Wa wd_117 rfl d_Sh_put_36,
   ts_iastore hC d_Sh_put_39,
   ts_vret hC rfl d_Sh_put_40,
   trivial⟩
def fn_Sh_put : tw_Fn := tw_fn 4 4 28 pr_Sh_put
theorem con_Sh_put : tw_Con y_Sh_put b_Sh_put 4 none 0 fn_Sh_put := tw_met (by decide +kernel) (tw_fn_len (n := 4) (by decide)) (fun p l e s m args below meth c E D vs σ ρ hC h => tw_sound (ok_Sh_put hC) 28 pr_Sh_put (ok_Sh_put hC) _ _ _ (tw_fn_get h))

-- TwinHost.isGuest(I)Z: 9 instructions, depth 0, calls 
theorem d_TH_isGuest_0 : decode b_TH_isGuest 0 = .ok (.iload_n 0, 1) := by decide +kernel
theorem d_TH_isGuest_1 : decode b_TH_isGuest 1 = .ok (.ifCond .lt 12, 3) := by decide +kernel
theorem d_TH_isGuest_4 : decode b_TH_isGuest 4 = .ok (.iload_n 0, 1) := by decide +kernel
theorem d_TH_isGuest_5 : decode b_TH_isGuest 5 = .ok (.iconst 2, 1) := by decide +kernel
theorem d_TH_isGuest_6 : decode b_TH_isGuest 6 = .ok (.if_icmp .ge 7, 3) := by decide +kernel
theorem d_TH_isGuest_9 : decode b_TH_isGuest 9 = .ok (.iconst 1, 1) := by decide +kernel
theorem d_TH_isGuest_10 : decode b_TH_isGuest 10 = .ok (.goto 4, 3) := by decide +kernel
theorem d_TH_isGuest_13 : decode b_TH_isGuest 13 = .ok (.iconst 0, 1) := by decide +kernel
theorem d_TH_isGuest_14 : decode b_TH_isGuest 14 = .ok (.ireturn, 1) := by decide +kernel
def pr_TH_isGuest : List (Nat × tw_Op) := [(0, tw_il 0), (1, tw_iflt 13), (4, tw_il 0), (5, tw_ic 2), (6, tw_cge 13), (9, tw_ic 1), (10, tw_jmp 14), (13, tw_ic 0), (14, tw_rz)]
set_option maxRecDepth 100000 in
set_option maxHeartbeats 4000000 in
theorem ok_TH_isGuest {p : Program} {l : Launch} {e : Env} {s : State} {m : MethodId} {args : Array Value} {below : List Frame} {meth : Method} {c : Code} {E : tw_E} {D : va_G} {ρ : tw_R} (hC : tw_Cx p s m args meth c b_TH_isGuest 1 (some .boolean) "TwinHost" E D) : tw_Ok p l e (tw_rmd 0) s m args below meth c 0 0 (MQ below (tw_Qc E D ρ) args s 0 0 (tw_A E)) 1 E D ρ pr_TH_isGuest :=
  ⟨ts_iload_n hC d_TH_isGuest_0 rfl,
   ts_iflt hC d_TH_isGuest_1 (by decide),
   ts_iload_n hC d_TH_isGuest_4 rfl,
   ts_iconst hC d_TH_isGuest_5 (by decide),
   ts_cge hC d_TH_isGuest_6 (by decide),
   ts_iconst hC d_TH_isGuest_9 (by decide),
   ts_goto hC d_TH_isGuest_10 (by decide),
   ts_iconst hC d_TH_isGuest_13 (by decide),
   ts_zret hC rfl d_TH_isGuest_14,
   trivial⟩
def fn_TH_isGuest : tw_Fn := tw_fn 1 1 11 pr_TH_isGuest
theorem con_TH_isGuest : tw_Con y_TH_isGuest b_TH_isGuest 1 (some .boolean) 0 fn_TH_isGuest := tw_met (by decide +kernel) (tw_fn_len (n := 1) (by decide)) (fun p l e s m args below meth c E D vs σ ρ hC h => tw_sound (ok_TH_isGuest hC) 11 pr_TH_isGuest (ok_TH_isGuest hC) _ _ _ (tw_fn_get h))

-- TwinHost.isRegister(I)Z: 9 instructions, depth 0, calls 
theorem d_TH_isRegister_0 : decode b_TH_isRegister 0 = .ok (.iload_n 0, 1) := by decide +kernel
theorem d_TH_isRegister_1 : decode b_TH_isRegister 1 = .ok (.ifCond .lt 13, 3) := by decide +kernel
theorem d_TH_isRegister_4 : decode b_TH_isRegister 4 = .ok (.iload_n 0, 1) := by decide +kernel
theorem d_TH_isRegister_5 : decode b_TH_isRegister 5 = .ok (.bipush 8, 2) := by decide +kernel
theorem d_TH_isRegister_7 : decode b_TH_isRegister 7 = .ok (.if_icmp .ge 7, 3) := by decide +kernel
theorem d_TH_isRegister_10 : decode b_TH_isRegister 10 = .ok (.iconst 1, 1) := by decide +kernel
theorem d_TH_isRegister_11 : decode b_TH_isRegister 11 = .ok (.goto 4, 3) := by decide +kernel
theorem d_TH_isRegister_14 : decode b_TH_isRegister 14 = .ok (.iconst 0, 1) := by decide +kernel
theorem d_TH_isRegister_15 : decode b_TH_isRegister 15 = .ok (.ireturn, 1) := by decide +kernel
def pr_TH_isRegister : List (Nat × tw_Op) := [(0, tw_il 0), (1, tw_iflt 14), (4, tw_il 0), (5, tw_ic (8)), (7, tw_cge 14), (10, tw_ic 1), (11, tw_jmp 15), (14, tw_ic 0), (15, tw_rz)]
set_option maxRecDepth 100000 in
set_option maxHeartbeats 4000000 in
theorem ok_TH_isRegister {p : Program} {l : Launch} {e : Env} {s : State} {m : MethodId} {args : Array Value} {below : List Frame} {meth : Method} {c : Code} {E : tw_E} {D : va_G} {ρ : tw_R} (hC : tw_Cx p s m args meth c b_TH_isRegister 1 (some .boolean) "TwinHost" E D) : tw_Ok p l e (tw_rmd 0) s m args below meth c 0 0 (MQ below (tw_Qc E D ρ) args s 0 0 (tw_A E)) 1 E D ρ pr_TH_isRegister :=
  ⟨ts_iload_n hC d_TH_isRegister_0 rfl,
   ts_iflt hC d_TH_isRegister_1 (by decide),
   ts_iload_n hC d_TH_isRegister_4 rfl,
   ts_bipush hC d_TH_isRegister_5 (by decide),
   ts_cge hC d_TH_isRegister_7 (by decide),
   ts_iconst hC d_TH_isRegister_10 (by decide),
   ts_goto hC d_TH_isRegister_11 (by decide),
   ts_iconst hC d_TH_isRegister_14 (by decide),
   ts_zret hC rfl d_TH_isRegister_15,
   trivial⟩
def fn_TH_isRegister : tw_Fn := tw_fn 1 1 11 pr_TH_isRegister
theorem con_TH_isRegister : tw_Con y_TH_isRegister b_TH_isRegister 1 (some .boolean) 0 fn_TH_isRegister := tw_met (by decide +kernel) (tw_fn_len (n := 1) (by decide)) (fun p l e s m args below meth c E D vs σ ρ hC h => tw_sound (ok_TH_isRegister hC) 11 pr_TH_isRegister (ok_TH_isRegister hC) _ _ _ (tw_fn_get h))

-- TwinHost.isWord(I)Z: 9 instructions, depth 0, calls 
theorem d_TH_isWord_0 : decode b_TH_isWord 0 = .ok (.iload_n 0, 1) := by decide +kernel
theorem d_TH_isWord_1 : decode b_TH_isWord 1 = .ok (.ifCond .lt 14, 3) := by decide +kernel
theorem d_TH_isWord_4 : decode b_TH_isWord 4 = .ok (.iload_n 0, 1) := by decide +kernel
theorem d_TH_isWord_5 : decode b_TH_isWord 5 = .ok (.sipush 128, 3) := by decide +kernel
theorem d_TH_isWord_8 : decode b_TH_isWord 8 = .ok (.if_icmp .ge 7, 3) := by decide +kernel
theorem d_TH_isWord_11 : decode b_TH_isWord 11 = .ok (.iconst 1, 1) := by decide +kernel
theorem d_TH_isWord_12 : decode b_TH_isWord 12 = .ok (.goto 4, 3) := by decide +kernel
theorem d_TH_isWord_15 : decode b_TH_isWord 15 = .ok (.iconst 0, 1) := by decide +kernel
theorem d_TH_isWord_16 : decode b_TH_isWord 16 = .ok (.ireturn, 1) := by decide +kernel
def pr_TH_isWord : List (Nat × tw_Op) := [(0, tw_il 0), (1, tw_iflt 15), (4, tw_il 0), (5, tw_ic (128)), (8, tw_cge 15), (11, tw_ic 1), (12, tw_jmp 16), (15, tw_ic 0), (16, tw_rz)]
set_option maxRecDepth 100000 in
set_option maxHeartbeats 4000000 in
theorem ok_TH_isWord {p : Program} {l : Launch} {e : Env} {s : State} {m : MethodId} {args : Array Value} {below : List Frame} {meth : Method} {c : Code} {E : tw_E} {D : va_G} {ρ : tw_R} (hC : tw_Cx p s m args meth c b_TH_isWord 1 (some .boolean) "TwinHost" E D) : tw_Ok p l e (tw_rmd 0) s m args below meth c 0 0 (MQ below (tw_Qc E D ρ) args s 0 0 (tw_A E)) 1 E D ρ pr_TH_isWord :=
  ⟨ts_iload_n hC d_TH_isWord_0 rfl,
   ts_iflt hC d_TH_isWord_1 (by decide),
   ts_iload_n hC d_TH_isWord_4 rfl,
   ts_sipush hC d_TH_isWord_5 (by decide),
   ts_cge hC d_TH_isWord_8 (by decide),
   ts_iconst hC d_TH_isWord_11 (by decide),
   ts_goto hC d_TH_isWord_12 (by decide),
   ts_iconst hC d_TH_isWord_15 (by decide),
   ts_zret hC rfl d_TH_isWord_16,
   trivial⟩
def fn_TH_isWord : tw_Fn := tw_fn 1 1 11 pr_TH_isWord
theorem con_TH_isWord : tw_Con y_TH_isWord b_TH_isWord 1 (some .boolean) 0 fn_TH_isWord := tw_met (by decide +kernel) (tw_fn_len (n := 1) (by decide)) (fun p l e s m args below meth c E D vs σ ρ hC h => tw_sound (ok_TH_isWord hC) 11 pr_TH_isWord (ok_TH_isWord hC) _ _ _ (tw_fn_get h))

-- TwinHost.passTurnAfter(LTwinHost$Outcome;)V: 37 instructions, depth 0, calls 
theorem d_TH_passTurnAfter_0 : decode b_TH_passTurnAfter 0 = .ok (.aload_n 0, 1) := by decide +kernel
theorem d_TH_passTurnAfter_1 : decode b_TH_passTurnAfter 1 = .ok (.dup, 1) := by decide +kernel
theorem d_TH_passTurnAfter_2 : decode b_TH_passTurnAfter 2 = .ok (.getfield 115, 3) := by decide +kernel
theorem d_TH_passTurnAfter_5 : decode b_TH_passTurnAfter 5 = .ok (.iconst 1, 1) := by decide +kernel
theorem d_TH_passTurnAfter_6 : decode b_TH_passTurnAfter 6 = .ok (.iadd, 1) := by decide +kernel
theorem d_TH_passTurnAfter_7 : decode b_TH_passTurnAfter 7 = .ok (.putfield 115, 3) := by decide +kernel
theorem d_TH_passTurnAfter_10 : decode b_TH_passTurnAfter 10 = .ok (.aload_n 0, 1) := by decide +kernel
theorem d_TH_passTurnAfter_11 : decode b_TH_passTurnAfter 11 = .ok (.getfield 115, 3) := by decide +kernel
theorem d_TH_passTurnAfter_14 : decode b_TH_passTurnAfter 14 = .ok (.aload_n 0, 1) := by decide +kernel
theorem d_TH_passTurnAfter_15 : decode b_TH_passTurnAfter 15 = .ok (.getfield 9, 3) := by decide +kernel
theorem d_TH_passTurnAfter_18 : decode b_TH_passTurnAfter 18 = .ok (.if_icmp .ge 11, 3) := by decide +kernel
theorem d_TH_passTurnAfter_21 : decode b_TH_passTurnAfter 21 = .ok (.aload_n 1, 1) := by decide +kernel
theorem d_TH_passTurnAfter_22 : decode b_TH_passTurnAfter 22 = .ok (.getstatic 118, 3) := by decide +kernel
theorem d_TH_passTurnAfter_25 : decode b_TH_passTurnAfter 25 = .ok (.if_acmp .eq 4, 3) := by decide +kernel
theorem d_TH_passTurnAfter_28 : decode b_TH_passTurnAfter 28 = .ok (.return_, 1) := by decide +kernel
theorem d_TH_passTurnAfter_29 : decode b_TH_passTurnAfter 29 = .ok (.aload_n 0, 1) := by decide +kernel
theorem d_TH_passTurnAfter_30 : decode b_TH_passTurnAfter 30 = .ok (.getfield 16, 3) := by decide +kernel
theorem d_TH_passTurnAfter_33 : decode b_TH_passTurnAfter 33 = .ok (.aload_n 0, 1) := by decide +kernel
theorem d_TH_passTurnAfter_34 : decode b_TH_passTurnAfter 34 = .ok (.getfield 81, 3) := by decide +kernel
theorem d_TH_passTurnAfter_37 : decode b_TH_passTurnAfter 37 = .ok (.aaload, 1) := by decide +kernel
theorem d_TH_passTurnAfter_38 : decode b_TH_passTurnAfter 38 = .ok (.getfield 112, 3) := by decide +kernel
theorem d_TH_passTurnAfter_41 : decode b_TH_passTurnAfter 41 = .ok (.bipush 7, 2) := by decide +kernel
theorem d_TH_passTurnAfter_43 : decode b_TH_passTurnAfter 43 = .ok (.dup2, 1) := by decide +kernel
theorem d_TH_passTurnAfter_44 : decode b_TH_passTurnAfter 44 = .ok (.iaload, 1) := by decide +kernel
theorem d_TH_passTurnAfter_45 : decode b_TH_passTurnAfter 45 = .ok (.iconst 1, 1) := by decide +kernel
theorem d_TH_passTurnAfter_46 : decode b_TH_passTurnAfter 46 = .ok (.iadd, 1) := by decide +kernel
theorem d_TH_passTurnAfter_47 : decode b_TH_passTurnAfter 47 = .ok (.iastore, 1) := by decide +kernel
theorem d_TH_passTurnAfter_48 : decode b_TH_passTurnAfter 48 = .ok (.aload_n 0, 1) := by decide +kernel
theorem d_TH_passTurnAfter_49 : decode b_TH_passTurnAfter 49 = .ok (.iconst 1, 1) := by decide +kernel
theorem d_TH_passTurnAfter_50 : decode b_TH_passTurnAfter 50 = .ok (.aload_n 0, 1) := by decide +kernel
theorem d_TH_passTurnAfter_51 : decode b_TH_passTurnAfter 51 = .ok (.getfield 81, 3) := by decide +kernel
theorem d_TH_passTurnAfter_54 : decode b_TH_passTurnAfter 54 = .ok (.isub, 1) := by decide +kernel
theorem d_TH_passTurnAfter_55 : decode b_TH_passTurnAfter 55 = .ok (.putfield 81, 3) := by decide +kernel
theorem d_TH_passTurnAfter_58 : decode b_TH_passTurnAfter 58 = .ok (.aload_n 0, 1) := by decide +kernel
theorem d_TH_passTurnAfter_59 : decode b_TH_passTurnAfter 59 = .ok (.iconst 0, 1) := by decide +kernel
theorem d_TH_passTurnAfter_60 : decode b_TH_passTurnAfter 60 = .ok (.putfield 115, 3) := by decide +kernel
theorem d_TH_passTurnAfter_63 : decode b_TH_passTurnAfter 63 = .ok (.return_, 1) := by decide +kernel
def pr_TH_passTurnAfter : List (Nat × tw_Op) := [(0, tw_al 0), (1, tw_dup), (2, tw_gi 20 3), (5, tw_ic 1), (6, tw_bin (· + ·)), (7, tw_pi 20 3), (10, tw_al 0), (11, tw_gi 20 3), (14, tw_al 0), (15, tw_gi 20 1), (18, tw_cge 29), (21, tw_al 1), (22, tw_en 62), (25, tw_aeq 29), (28, tw_r0), (29, tw_al 0), (30, tw_gr 20 21), (33, tw_al 0), (34, tw_gi 20 2), (37, tw_ga), (38, tw_gr 0 3), (41, tw_ic (7)), (43, tw_d2), (44, tw_ia), (45, tw_ic 1), (46, tw_bin (· + ·)), (47, tw_ias 0 22), (48, tw_al 0), (49, tw_ic 1), (50, tw_al 0), (51, tw_gi 20 2), (54, tw_bin (· - ·)), (55, tw_pi 20 2), (58, tw_al 0), (59, tw_ic 0), (60, tw_pi 20 3), (63, tw_r0)]
set_option maxRecDepth 100000 in
set_option maxHeartbeats 4000000 in
theorem ok_TH_passTurnAfter {p : Program} {l : Launch} {e : Env} {s : State} {m : MethodId} {args : Array Value} {below : List Frame} {meth : Method} {c : Code} {E : tw_E} {D : va_G} {ρ : tw_R} (hC : tw_Cx p s m args meth c b_TH_passTurnAfter 2 none "TwinHost" E D) : tw_Ok p l e (tw_rmd 0) s m args below meth c 0 0 (MQ below (tw_Qc E D ρ) args s 0 0 (tw_A E)) 2 E D ρ pr_TH_passTurnAfter :=
  ⟨ts_aload_n hC d_TH_passTurnAfter_0 rfl,
   ts_dup hC d_TH_passTurnAfter_1,
   ts_gi (j := 3) (C := R_TH) (T := T_TH) hC rfl rfl rfl (by decide) u_TH wd_167 rfl d_TH_passTurnAfter_2,
   ts_iconst hC d_TH_passTurnAfter_5 (by decide),
   ts_iadd hC d_TH_passTurnAfter_6,
   ts_pi (j := 3) (C := R_TH) (T := T_TH) hC rfl rfl rfl (by decide) u_TH wd_167 rfl t_TH_ok n_TH rfl (by decide +kernel) d_TH_passTurnAfter_7,
   ts_aload_n hC d_TH_passTurnAfter_10 rfl,
   ts_gi (j := 3) (C := R_TH) (T := T_TH) hC rfl rfl rfl (by decide) u_TH wd_167 rfl d_TH_passTurnAfter_11,
   ts_aload_n hC d_TH_passTurnAfter_14 rfl,
   ts_gi (j := 1) (C := R_TH) (T := T_TH) hC rfl rfl rfl (by decide) u_TH wd_165 rfl d_TH_passTurnAfter_15,
   ts_cge hC d_TH_passTurnAfter_18 (by decide),
   ts_aload_n hC d_TH_passTurnAfter_21 rfl,
   ts_getO (i := 2) hC (by decide) rfl wd_424 d_TH_passTurnAfter_22,
   ts_aeq hC d_TH_passTurnAfter_25 (by decide),
   ts_vret hC rfl d_TH_passTurnAfter_28,
   ts_aload_n hC d_TH_passTurnAfter_29 rfl,
   ts_gr (j := 0) (C := R_TH) (T := T_TH) hC rfl rfl rfl (by decide) u_TH wd_164 rfl d_TH_passTurnAfter_30,
   ts_aload_n hC d_TH_passTurnAfter_33 rfl,
   ts_gi (j := 2) (C := R_TH) (T := T_TH) hC rfl rfl rfl (by decide) u_TH wd_166 rfl d_TH_passTurnAfter_34,
   ts_aaload hC d_TH_passTurnAfter_37,
   ts_gr (j := 2) (C := R_Gu) (T := T_Gu) hC rfl rfl rfl (by decide) u_Gu wd_137 rfl d_TH_passTurnAfter_38,
   ts_bipush hC d_TH_passTurnAfter_41 (by decide),
   ts_dup2 hC d_TH_passTurnAfter_43,
   ts_iaload hC d_TH_passTurnAfter_44,
   ts_iconst hC d_TH_passTurnAfter_45 (by decide),
   ts_iadd hC d_TH_passTurnAfter_46,
   ts_iastore hC d_TH_passTurnAfter_47,
   ts_aload_n hC d_TH_passTurnAfter_48 rfl,
   ts_iconst hC d_TH_passTurnAfter_49 (by decide),
   ts_aload_n hC d_TH_passTurnAfter_50 rfl,
   ts_gi (j := 2) (C := R_TH) (T := T_TH) hC rfl rfl rfl (by decide) u_TH wd_166 rfl d_TH_passTurnAfter_51,
   ts_isub hC d_TH_passTurnAfter_54,
   ts_pi (j := 2) (C := R_TH) (T := T_TH) hC rfl rfl rfl (by decide) u_TH wd_166 rfl t_TH_ok n_TH rfl (by decide +kernel) d_TH_passTurnAfter_55,
   ts_aload_n hC d_TH_passTurnAfter_58 rfl,
   ts_iconst hC d_TH_passTurnAfter_59 (by decide),
   ts_pi (j := 3) (C := R_TH) (T := T_TH) hC rfl rfl rfl (by decide) u_TH wd_167 rfl t_TH_ok n_TH rfl (by decide +kernel) d_TH_passTurnAfter_60,
   ts_vret hC rfl d_TH_passTurnAfter_63,
   trivial⟩
def fn_TH_passTurnAfter : tw_Fn := tw_fn 2 2 39 pr_TH_passTurnAfter
theorem con_TH_passTurnAfter : tw_Con y_TH_passTurnAfter b_TH_passTurnAfter 2 none 0 fn_TH_passTurnAfter := tw_met (by decide +kernel) (tw_fn_len (n := 2) (by decide)) (fun p l e s m args below meth c E D vs σ ρ hC h => tw_sound (ok_TH_passTurnAfter hC) 39 pr_TH_passTurnAfter (ok_TH_passTurnAfter hC) _ _ _ (tw_fn_get h))

-- TwinHost.turn()I: 3 instructions, depth 0, calls 
theorem d_TH_turn_0 : decode b_TH_turn 0 = .ok (.aload_n 0, 1) := by decide +kernel
theorem d_TH_turn_1 : decode b_TH_turn 1 = .ok (.getfield 81, 3) := by decide +kernel
theorem d_TH_turn_4 : decode b_TH_turn 4 = .ok (.ireturn, 1) := by decide +kernel
def pr_TH_turn : List (Nat × tw_Op) := [(0, tw_al 0), (1, tw_gi 20 2), (4, tw_ri)]
set_option maxRecDepth 100000 in
set_option maxHeartbeats 4000000 in
theorem ok_TH_turn {p : Program} {l : Launch} {e : Env} {s : State} {m : MethodId} {args : Array Value} {below : List Frame} {meth : Method} {c : Code} {E : tw_E} {D : va_G} {ρ : tw_R} (hC : tw_Cx p s m args meth c b_TH_turn 1 (some .int) "TwinHost" E D) : tw_Ok p l e (tw_rmd 0) s m args below meth c 0 0 (MQ below (tw_Qc E D ρ) args s 0 0 (tw_A E)) 1 E D ρ pr_TH_turn :=
  ⟨ts_aload_n hC d_TH_turn_0 rfl,
   ts_gi (j := 2) (C := R_TH) (T := T_TH) hC rfl rfl rfl (by decide) u_TH wd_166 rfl d_TH_turn_1,
   ts_iret hC rfl d_TH_turn_4,
   trivial⟩
def fn_TH_turn : tw_Fn := tw_fn 1 1 5 pr_TH_turn
theorem con_TH_turn : tw_Con y_TH_turn b_TH_turn 1 (some .int) 0 fn_TH_turn := tw_met (by decide +kernel) (tw_fn_len (n := 1) (by decide)) (fun p l e s m args below meth c E D vs σ ρ hC h => tw_sound (ok_TH_turn hC) 5 pr_TH_turn (ok_TH_turn hC) _ _ _ (tw_fn_get h))
end
section
-- TwinHost$Controls.enterTrap(IIIZ)V: 42 instructions, depth 1, calls Co_isOn
theorem d_Co_enterTrap_0 : decode b_Co_enterTrap 0 = .ok (.aload_n 0, 1) := by decide +kernel
theorem d_Co_enterTrap_1 : decode b_Co_enterTrap 1 = .ok (.getfield 9, 3) := by decide +kernel
theorem d_Co_enterTrap_4 : decode b_Co_enterTrap 4 = .ok (.iconst 3, 1) := by decide +kernel
theorem d_Co_enterTrap_5 : decode b_Co_enterTrap 5 = .ok (.iload_n 1, 1) := by decide +kernel
theorem d_Co_enterTrap_6 : decode b_Co_enterTrap 6 = .ok (.iastore, 1) := by decide +kernel
theorem d_Co_enterTrap_7 : decode b_Co_enterTrap 7 = .ok (.aload_n 0, 1) := by decide +kernel
theorem d_Co_enterTrap_8 : decode b_Co_enterTrap 8 = .ok (.getfield 9, 3) := by decide +kernel
theorem d_Co_enterTrap_11 : decode b_Co_enterTrap 11 = .ok (.iconst 4, 1) := by decide +kernel
theorem d_Co_enterTrap_12 : decode b_Co_enterTrap 12 = .ok (.iload_n 2, 1) := by decide +kernel
theorem d_Co_enterTrap_13 : decode b_Co_enterTrap 13 = .ok (.iastore, 1) := by decide +kernel
theorem d_Co_enterTrap_14 : decode b_Co_enterTrap 14 = .ok (.aload_n 0, 1) := by decide +kernel
theorem d_Co_enterTrap_15 : decode b_Co_enterTrap 15 = .ok (.getfield 9, 3) := by decide +kernel
theorem d_Co_enterTrap_18 : decode b_Co_enterTrap 18 = .ok (.iconst 2, 1) := by decide +kernel
theorem d_Co_enterTrap_19 : decode b_Co_enterTrap 19 = .ok (.iload_n 3, 1) := by decide +kernel
theorem d_Co_enterTrap_20 : decode b_Co_enterTrap 20 = .ok (.iastore, 1) := by decide +kernel
theorem d_Co_enterTrap_21 : decode b_Co_enterTrap 21 = .ok (.aload_n 0, 1) := by decide +kernel
theorem d_Co_enterTrap_22 : decode b_Co_enterTrap 22 = .ok (.iconst 1, 1) := by decide +kernel
theorem d_Co_enterTrap_23 : decode b_Co_enterTrap 23 = .ok (.invokevirtual 43, 3) := by decide +kernel
theorem d_Co_enterTrap_26 : decode b_Co_enterTrap 26 = .ok (.ifCond .eq 7, 3) := by decide +kernel
theorem d_Co_enterTrap_29 : decode b_Co_enterTrap 29 = .ok (.iconst 2, 1) := by decide +kernel
theorem d_Co_enterTrap_30 : decode b_Co_enterTrap 30 = .ok (.goto 4, 3) := by decide +kernel
theorem d_Co_enterTrap_33 : decode b_Co_enterTrap 33 = .ok (.iconst 0, 1) := by decide +kernel
theorem d_Co_enterTrap_34 : decode b_Co_enterTrap 34 = .ok (.iload 4, 2) := by decide +kernel
theorem d_Co_enterTrap_36 : decode b_Co_enterTrap 36 = .ok (.ifCond .eq 7, 3) := by decide +kernel
theorem d_Co_enterTrap_39 : decode b_Co_enterTrap 39 = .ok (.iconst 0, 1) := by decide +kernel
theorem d_Co_enterTrap_40 : decode b_Co_enterTrap 40 = .ok (.goto 4, 3) := by decide +kernel
theorem d_Co_enterTrap_43 : decode b_Co_enterTrap 43 = .ok (.iconst 4, 1) := by decide +kernel
theorem d_Co_enterTrap_44 : decode b_Co_enterTrap 44 = .ok (.ior, 1) := by decide +kernel
theorem d_Co_enterTrap_45 : decode b_Co_enterTrap 45 = .ok (.istore 5, 2) := by decide +kernel
theorem d_Co_enterTrap_47 : decode b_Co_enterTrap 47 = .ok (.aload_n 0, 1) := by decide +kernel
theorem d_Co_enterTrap_48 : decode b_Co_enterTrap 48 = .ok (.getfield 9, 3) := by decide +kernel
theorem d_Co_enterTrap_51 : decode b_Co_enterTrap 51 = .ok (.iconst 0, 1) := by decide +kernel
theorem d_Co_enterTrap_52 : decode b_Co_enterTrap 52 = .ok (.aload_n 0, 1) := by decide +kernel
theorem d_Co_enterTrap_53 : decode b_Co_enterTrap 53 = .ok (.getfield 9, 3) := by decide +kernel
theorem d_Co_enterTrap_56 : decode b_Co_enterTrap 56 = .ok (.iconst 0, 1) := by decide +kernel
theorem d_Co_enterTrap_57 : decode b_Co_enterTrap 57 = .ok (.iaload, 1) := by decide +kernel
theorem d_Co_enterTrap_58 : decode b_Co_enterTrap 58 = .ok (.bipush 8, 2) := by decide +kernel
theorem d_Co_enterTrap_60 : decode b_Co_enterTrap 60 = .ok (.iand, 1) := by decide +kernel
theorem d_Co_enterTrap_61 : decode b_Co_enterTrap 61 = .ok (.iload 5, 2) := by decide +kernel
theorem d_Co_enterTrap_63 : decode b_Co_enterTrap 63 = .ok (.ior, 1) := by decide +kernel
theorem d_Co_enterTrap_64 : decode b_Co_enterTrap 64 = .ok (.iastore, 1) := by decide +kernel
theorem d_Co_enterTrap_65 : decode b_Co_enterTrap 65 = .ok (.return_, 1) := by decide +kernel
def pr_Co_enterTrap : List (Nat × tw_Op) := [(0, tw_al 0), (1, tw_gr 4 5), (4, tw_ic 3), (5, tw_il 1), (6, tw_ias 0 22), (7, tw_al 0), (8, tw_gr 4 5), (11, tw_ic 4), (12, tw_il 2), (13, tw_ias 0 22), (14, tw_al 0), (15, tw_gr 4 5), (18, tw_ic 2), (19, tw_il 3), (20, tw_ias 0 22), (21, tw_al 0), (22, tw_ic 1), (23, tw_cv 1 4 fn_Co_isOn), (26, tw_ifeq 33), (29, tw_ic 2), (30, tw_jmp 34), (33, tw_ic 0), (34, tw_il 4), (36, tw_ifeq 43), (39, tw_ic 0), (40, tw_jmp 44), (43, tw_ic 4), (44, tw_bin (· ||| ·)), (45, tw_is 5), (47, tw_al 0), (48, tw_gr 4 5), (51, tw_ic 0), (52, tw_al 0), (53, tw_gr 4 5), (56, tw_ic 0), (57, tw_ia), (58, tw_ic (8)), (60, tw_bin (· &&& ·)), (61, tw_il 5), (63, tw_bin (· ||| ·)), (64, tw_ias 0 22), (65, tw_r0)]
set_option maxRecDepth 100000 in
set_option maxHeartbeats 4000000 in
theorem ok_Co_enterTrap {p : Program} {l : Launch} {e : Env} {s : State} {m : MethodId} {args : Array Value} {below : List Frame} {meth : Method} {c : Code} {E : tw_E} {D : va_G} {ρ : tw_R} (hC : tw_Cx p s m args meth c b_Co_enterTrap 6 none "TwinHost$Controls" E D) : tw_Ok p l e (tw_rmd 1) s m args below meth c 0 0 (MQ below (tw_Qc E D ρ) args s 0 0 (tw_A E)) 6 E D ρ pr_Co_enterTrap :=
  ⟨ts_aload_n hC d_Co_enterTrap_0 rfl,
   ts_gr (j := 0) (C := R_Co) (T := T_Co) hC rfl rfl rfl (by decide) u_Co wd_75 rfl d_Co_enterTrap_1,
   ts_iconst hC d_Co_enterTrap_4 (by decide),
   ts_iload_n hC d_Co_enterTrap_5 rfl,
   ts_iastore hC d_Co_enterTrap_6,
   ts_aload_n hC d_Co_enterTrap_7 rfl,
   ts_gr (j := 0) (C := R_Co) (T := T_Co) hC rfl rfl rfl (by decide) u_Co wd_75 rfl d_Co_enterTrap_8,
   ts_iconst hC d_Co_enterTrap_11 (by decide),
   ts_iload_n hC d_Co_enterTrap_12 rfl,
   ts_iastore hC d_Co_enterTrap_13,
   ts_aload_n hC d_Co_enterTrap_14 rfl,
   ts_gr (j := 0) (C := R_Co) (T := T_Co) hC rfl rfl rfl (by decide) u_Co wd_75 rfl d_Co_enterTrap_15,
   ts_iconst hC d_Co_enterTrap_18 (by decide),
   ts_iload_n hC d_Co_enterTrap_19 rfl,
   ts_iastore hC d_Co_enterTrap_20,
   ts_aload_n hC d_Co_enterTrap_21 rfl,
   ts_iconst hC d_Co_enterTrap_22 (by decide),
   ts_callv (C := R_Co) (T := T_Co) hC con_Co_isOn wd_292 wd_26 (by decide +kernel) ⟨by decide, by decide⟩ ⟨Nat.zero_le _, Nat.zero_le _⟩ wd_303 rfl rfl wd_290 wd_291 d_Co_enterTrap_23,
   ts_ifeq hC d_Co_enterTrap_26 (by decide),
   ts_iconst hC d_Co_enterTrap_29 (by decide),
   ts_goto hC d_Co_enterTrap_30 (by decide),
   ts_iconst hC d_Co_enterTrap_33 (by decide),
   ts_iload hC d_Co_enterTrap_34,
   ts_ifeq hC d_Co_enterTrap_36 (by decide),
   ts_iconst hC d_Co_enterTrap_39 (by decide),
   ts_goto hC d_Co_enterTrap_40 (by decide),
   ts_iconst hC d_Co_enterTrap_43 (by decide),
   ts_ior hC d_Co_enterTrap_44,
   ts_istore hC d_Co_enterTrap_45 (by decide),
   ts_aload_n hC d_Co_enterTrap_47 rfl,
   ts_gr (j := 0) (C := R_Co) (T := T_Co) hC rfl rfl rfl (by decide) u_Co wd_75 rfl d_Co_enterTrap_48,
   ts_iconst hC d_Co_enterTrap_51 (by decide),
   ts_aload_n hC d_Co_enterTrap_52 rfl,
   ts_gr (j := 0) (C := R_Co) (T := T_Co) hC rfl rfl rfl (by decide) u_Co wd_75 rfl d_Co_enterTrap_53,
   ts_iconst hC d_Co_enterTrap_56 (by decide),
   ts_iaload hC d_Co_enterTrap_57,
   ts_bipush hC d_Co_enterTrap_58 (by decide),
   ts_iand hC d_Co_enterTrap_60,
   ts_iload hC d_Co_enterTrap_61,
   ts_ior hC d_Co_enterTrap_63,
   ts_iastore hC d_Co_enterTrap_64,
   ts_vret hC rfl d_Co_enterTrap_65,
   trivial⟩
def fn_Co_enterTrap : tw_Fn := tw_fn 5 6 44 pr_Co_enterTrap
theorem con_Co_enterTrap : tw_Con y_Co_enterTrap b_Co_enterTrap 6 none 1 fn_Co_enterTrap := tw_met (by decide +kernel) (tw_fn_len (n := 5) (by decide)) (fun p l e s m args below meth c E D vs σ ρ hC h => tw_sound (ok_Co_enterTrap hC) 44 pr_Co_enterTrap (ok_Co_enterTrap hC) _ _ _ (tw_fn_get h))

-- TwinHost$Controls.isStoredTo(I)Z: 16 instructions, depth 1, calls Co_exists
theorem d_Co_isStoredTo_0 : decode b_Co_isStoredTo 0 = .ok (.iload_n 0, 1) := by decide +kernel
theorem d_Co_isStoredTo_1 : decode b_Co_isStoredTo 1 = .ok (.invokestatic 21, 3) := by decide +kernel
theorem d_Co_isStoredTo_4 : decode b_Co_isStoredTo 4 = .ok (.ifCond .eq 25, 3) := by decide +kernel
theorem d_Co_isStoredTo_7 : decode b_Co_isStoredTo 7 = .ok (.iload_n 0, 1) := by decide +kernel
theorem d_Co_isStoredTo_8 : decode b_Co_isStoredTo 8 = .ok (.bipush 8, 2) := by decide +kernel
theorem d_Co_isStoredTo_10 : decode b_Co_isStoredTo 10 = .ok (.if_icmp .eq 19, 3) := by decide +kernel
theorem d_Co_isStoredTo_13 : decode b_Co_isStoredTo 13 = .ok (.iload_n 0, 1) := by decide +kernel
theorem d_Co_isStoredTo_14 : decode b_Co_isStoredTo 14 = .ok (.bipush 10, 2) := by decide +kernel
theorem d_Co_isStoredTo_16 : decode b_Co_isStoredTo 16 = .ok (.if_icmp .eq 13, 3) := by decide +kernel
theorem d_Co_isStoredTo_19 : decode b_Co_isStoredTo 19 = .ok (.iload_n 0, 1) := by decide +kernel
theorem d_Co_isStoredTo_20 : decode b_Co_isStoredTo 20 = .ok (.bipush 11, 2) := by decide +kernel
theorem d_Co_isStoredTo_22 : decode b_Co_isStoredTo 22 = .ok (.if_icmp .eq 7, 3) := by decide +kernel
theorem d_Co_isStoredTo_25 : decode b_Co_isStoredTo 25 = .ok (.iconst 1, 1) := by decide +kernel
theorem d_Co_isStoredTo_26 : decode b_Co_isStoredTo 26 = .ok (.goto 4, 3) := by decide +kernel
theorem d_Co_isStoredTo_29 : decode b_Co_isStoredTo 29 = .ok (.iconst 0, 1) := by decide +kernel
theorem d_Co_isStoredTo_30 : decode b_Co_isStoredTo 30 = .ok (.ireturn, 1) := by decide +kernel
def pr_Co_isStoredTo : List (Nat × tw_Op) := [(0, tw_il 0), (1, tw_cs 1 fn_Co_exists), (4, tw_ifeq 29), (7, tw_il 0), (8, tw_ic (8)), (10, tw_ceq 29), (13, tw_il 0), (14, tw_ic (10)), (16, tw_ceq 29), (19, tw_il 0), (20, tw_ic (11)), (22, tw_ceq 29), (25, tw_ic 1), (26, tw_jmp 30), (29, tw_ic 0), (30, tw_rz)]
set_option maxRecDepth 100000 in
set_option maxHeartbeats 4000000 in
theorem ok_Co_isStoredTo {p : Program} {l : Launch} {e : Env} {s : State} {m : MethodId} {args : Array Value} {below : List Frame} {meth : Method} {c : Code} {E : tw_E} {D : va_G} {ρ : tw_R} (hC : tw_Cx p s m args meth c b_Co_isStoredTo 1 (some .boolean) "TwinHost$Controls" E D) : tw_Ok p l e (tw_rmd 1) s m args below meth c 0 0 (MQ below (tw_Qc E D ρ) args s 0 0 (tw_A E)) 1 E D ρ pr_Co_isStoredTo :=
  ⟨ts_iload_n hC d_Co_isStoredTo_0 rfl,
   ts_calls hC con_Co_exists wd_223 wd_26 (by decide +kernel) ⟨by decide, by decide⟩ ⟨Nat.zero_le _, Nat.zero_le _⟩ wd_221 wd_222 d_Co_isStoredTo_1,
   ts_ifeq hC d_Co_isStoredTo_4 (by decide),
   ts_iload_n hC d_Co_isStoredTo_7 rfl,
   ts_bipush hC d_Co_isStoredTo_8 (by decide),
   ts_ceq hC d_Co_isStoredTo_10 (by decide),
   ts_iload_n hC d_Co_isStoredTo_13 rfl,
   ts_bipush hC d_Co_isStoredTo_14 (by decide),
   ts_ceq hC d_Co_isStoredTo_16 (by decide),
   ts_iload_n hC d_Co_isStoredTo_19 rfl,
   ts_bipush hC d_Co_isStoredTo_20 (by decide),
   ts_ceq hC d_Co_isStoredTo_22 (by decide),
   ts_iconst hC d_Co_isStoredTo_25 (by decide),
   ts_goto hC d_Co_isStoredTo_26 (by decide),
   ts_iconst hC d_Co_isStoredTo_29 (by decide),
   ts_zret hC rfl d_Co_isStoredTo_30,
   trivial⟩
def fn_Co_isStoredTo : tw_Fn := tw_fn 1 1 18 pr_Co_isStoredTo
theorem con_Co_isStoredTo : tw_Con y_Co_isStoredTo b_Co_isStoredTo 1 (some .boolean) 1 fn_Co_isStoredTo := tw_met (by decide +kernel) (tw_fn_len (n := 1) (by decide)) (fun p l e s m args below meth c E D vs σ ρ hC h => tw_sound (ok_Co_isStoredTo hC) 18 pr_Co_isStoredTo (ok_Co_isStoredTo hC) _ _ _ (tw_fn_get h))

-- TwinHost$Controls.leaveTrap()Z: 32 instructions, depth 1, calls Co_isOn
theorem d_Co_leaveTrap_0 : decode b_Co_leaveTrap 0 = .ok (.aload_n 0, 1) := by decide +kernel
theorem d_Co_leaveTrap_1 : decode b_Co_leaveTrap 1 = .ok (.iconst 4, 1) := by decide +kernel
theorem d_Co_leaveTrap_2 : decode b_Co_leaveTrap 2 = .ok (.invokevirtual 43, 3) := by decide +kernel
theorem d_Co_leaveTrap_5 : decode b_Co_leaveTrap 5 = .ok (.ifCond .ne 7, 3) := by decide +kernel
theorem d_Co_leaveTrap_8 : decode b_Co_leaveTrap 8 = .ok (.iconst 1, 1) := by decide +kernel
theorem d_Co_leaveTrap_9 : decode b_Co_leaveTrap 9 = .ok (.goto 4, 3) := by decide +kernel
theorem d_Co_leaveTrap_12 : decode b_Co_leaveTrap 12 = .ok (.iconst 0, 1) := by decide +kernel
theorem d_Co_leaveTrap_13 : decode b_Co_leaveTrap 13 = .ok (.istore_n 1, 1) := by decide +kernel
theorem d_Co_leaveTrap_14 : decode b_Co_leaveTrap 14 = .ok (.aload_n 0, 1) := by decide +kernel
theorem d_Co_leaveTrap_15 : decode b_Co_leaveTrap 15 = .ok (.iconst 2, 1) := by decide +kernel
theorem d_Co_leaveTrap_16 : decode b_Co_leaveTrap 16 = .ok (.invokevirtual 43, 3) := by decide +kernel
theorem d_Co_leaveTrap_19 : decode b_Co_leaveTrap 19 = .ok (.ifCond .eq 7, 3) := by decide +kernel
theorem d_Co_leaveTrap_22 : decode b_Co_leaveTrap 22 = .ok (.iconst 1, 1) := by decide +kernel
theorem d_Co_leaveTrap_23 : decode b_Co_leaveTrap 23 = .ok (.goto 4, 3) := by decide +kernel
theorem d_Co_leaveTrap_26 : decode b_Co_leaveTrap 26 = .ok (.iconst 0, 1) := by decide +kernel
theorem d_Co_leaveTrap_27 : decode b_Co_leaveTrap 27 = .ok (.istore_n 2, 1) := by decide +kernel
theorem d_Co_leaveTrap_28 : decode b_Co_leaveTrap 28 = .ok (.aload_n 0, 1) := by decide +kernel
theorem d_Co_leaveTrap_29 : decode b_Co_leaveTrap 29 = .ok (.getfield 9, 3) := by decide +kernel
theorem d_Co_leaveTrap_32 : decode b_Co_leaveTrap 32 = .ok (.iconst 0, 1) := by decide +kernel
theorem d_Co_leaveTrap_33 : decode b_Co_leaveTrap 33 = .ok (.aload_n 0, 1) := by decide +kernel
theorem d_Co_leaveTrap_34 : decode b_Co_leaveTrap 34 = .ok (.getfield 9, 3) := by decide +kernel
theorem d_Co_leaveTrap_37 : decode b_Co_leaveTrap 37 = .ok (.iconst 0, 1) := by decide +kernel
theorem d_Co_leaveTrap_38 : decode b_Co_leaveTrap 38 = .ok (.iaload, 1) := by decide +kernel
theorem d_Co_leaveTrap_39 : decode b_Co_leaveTrap 39 = .ok (.bipush 8, 2) := by decide +kernel
theorem d_Co_leaveTrap_41 : decode b_Co_leaveTrap 41 = .ok (.iand, 1) := by decide +kernel
theorem d_Co_leaveTrap_42 : decode b_Co_leaveTrap 42 = .ok (.iconst 2, 1) := by decide +kernel
theorem d_Co_leaveTrap_43 : decode b_Co_leaveTrap 43 = .ok (.ior, 1) := by decide +kernel
theorem d_Co_leaveTrap_44 : decode b_Co_leaveTrap 44 = .ok (.iload_n 2, 1) := by decide +kernel
theorem d_Co_leaveTrap_45 : decode b_Co_leaveTrap 45 = .ok (.ior, 1) := by decide +kernel
theorem d_Co_leaveTrap_46 : decode b_Co_leaveTrap 46 = .ok (.iastore, 1) := by decide +kernel
theorem d_Co_leaveTrap_47 : decode b_Co_leaveTrap 47 = .ok (.iload_n 1, 1) := by decide +kernel
theorem d_Co_leaveTrap_48 : decode b_Co_leaveTrap 48 = .ok (.ireturn, 1) := by decide +kernel
def pr_Co_leaveTrap : List (Nat × tw_Op) := [(0, tw_al 0), (1, tw_ic 4), (2, tw_cv 1 4 fn_Co_isOn), (5, tw_ifne 12), (8, tw_ic 1), (9, tw_jmp 13), (12, tw_ic 0), (13, tw_is 1), (14, tw_al 0), (15, tw_ic 2), (16, tw_cv 1 4 fn_Co_isOn), (19, tw_ifeq 26), (22, tw_ic 1), (23, tw_jmp 27), (26, tw_ic 0), (27, tw_is 2), (28, tw_al 0), (29, tw_gr 4 5), (32, tw_ic 0), (33, tw_al 0), (34, tw_gr 4 5), (37, tw_ic 0), (38, tw_ia), (39, tw_ic (8)), (41, tw_bin (· &&& ·)), (42, tw_ic 2), (43, tw_bin (· ||| ·)), (44, tw_il 2), (45, tw_bin (· ||| ·)), (46, tw_ias 0 22), (47, tw_il 1), (48, tw_rz)]
set_option maxRecDepth 100000 in
set_option maxHeartbeats 4000000 in
theorem ok_Co_leaveTrap {p : Program} {l : Launch} {e : Env} {s : State} {m : MethodId} {args : Array Value} {below : List Frame} {meth : Method} {c : Code} {E : tw_E} {D : va_G} {ρ : tw_R} (hC : tw_Cx p s m args meth c b_Co_leaveTrap 3 (some .boolean) "TwinHost$Controls" E D) : tw_Ok p l e (tw_rmd 1) s m args below meth c 0 0 (MQ below (tw_Qc E D ρ) args s 0 0 (tw_A E)) 3 E D ρ pr_Co_leaveTrap :=
  ⟨ts_aload_n hC d_Co_leaveTrap_0 rfl,
   ts_iconst hC d_Co_leaveTrap_1 (by decide),
   ts_callv (C := R_Co) (T := T_Co) hC con_Co_isOn wd_292 wd_26 (by decide +kernel) ⟨by decide, by decide⟩ ⟨Nat.zero_le _, Nat.zero_le _⟩ wd_303 rfl rfl wd_290 wd_291 d_Co_leaveTrap_2,
   ts_ifne hC d_Co_leaveTrap_5 (by decide),
   ts_iconst hC d_Co_leaveTrap_8 (by decide),
   ts_goto hC d_Co_leaveTrap_9 (by decide),
   ts_iconst hC d_Co_leaveTrap_12 (by decide),
   ts_istore_n hC d_Co_leaveTrap_13 rfl (by decide),
   ts_aload_n hC d_Co_leaveTrap_14 rfl,
   ts_iconst hC d_Co_leaveTrap_15 (by decide),
   ts_callv (C := R_Co) (T := T_Co) hC con_Co_isOn wd_292 wd_26 (by decide +kernel) ⟨by decide, by decide⟩ ⟨Nat.zero_le _, Nat.zero_le _⟩ wd_303 rfl rfl wd_290 wd_291 d_Co_leaveTrap_16,
   ts_ifeq hC d_Co_leaveTrap_19 (by decide),
   ts_iconst hC d_Co_leaveTrap_22 (by decide),
   ts_goto hC d_Co_leaveTrap_23 (by decide),
   ts_iconst hC d_Co_leaveTrap_26 (by decide),
   ts_istore_n hC d_Co_leaveTrap_27 rfl (by decide),
   ts_aload_n hC d_Co_leaveTrap_28 rfl,
   ts_gr (j := 0) (C := R_Co) (T := T_Co) hC rfl rfl rfl (by decide) u_Co wd_75 rfl d_Co_leaveTrap_29,
   ts_iconst hC d_Co_leaveTrap_32 (by decide),
   ts_aload_n hC d_Co_leaveTrap_33 rfl,
   ts_gr (j := 0) (C := R_Co) (T := T_Co) hC rfl rfl rfl (by decide) u_Co wd_75 rfl d_Co_leaveTrap_34,
   ts_iconst hC d_Co_leaveTrap_37 (by decide),
   ts_iaload hC d_Co_leaveTrap_38,
   ts_bipush hC d_Co_leaveTrap_39 (by decide),
   ts_iand hC d_Co_leaveTrap_41,
   ts_iconst hC d_Co_leaveTrap_42 (by decide),
   ts_ior hC d_Co_leaveTrap_43,
   ts_iload_n hC d_Co_leaveTrap_44 rfl,
   ts_ior hC d_Co_leaveTrap_45,
   ts_iastore hC d_Co_leaveTrap_46,
   ts_iload_n hC d_Co_leaveTrap_47 rfl,
   ts_zret hC rfl d_Co_leaveTrap_48,
   trivial⟩
def fn_Co_leaveTrap : tw_Fn := tw_fn 1 3 34 pr_Co_leaveTrap
theorem con_Co_leaveTrap : tw_Con y_Co_leaveTrap b_Co_leaveTrap 3 (some .boolean) 1 fn_Co_leaveTrap := tw_met (by decide +kernel) (tw_fn_len (n := 1) (by decide)) (fun p l e s m args below meth c E D vs σ ρ hC h => tw_sound (ok_Co_leaveTrap hC) 34 pr_Co_leaveTrap (ok_Co_leaveTrap hC) _ _ _ (tw_fn_get h))

-- TwinHost$Controls.pendingBits()I: 27 instructions, depth 1, calls In_isThere
theorem d_Co_pendingBits_0 : decode b_Co_pendingBits 0 = .ok (.aload_n 0, 1) := by decide +kernel
theorem d_Co_pendingBits_1 : decode b_Co_pendingBits 1 = .ok (.getfield 9, 3) := by decide +kernel
theorem d_Co_pendingBits_4 : decode b_Co_pendingBits 4 = .ok (.bipush 10, 2) := by decide +kernel
theorem d_Co_pendingBits_6 : decode b_Co_pendingBits 6 = .ok (.iaload, 1) := by decide +kernel
theorem d_Co_pendingBits_7 : decode b_Co_pendingBits 7 = .ok (.aload_n 0, 1) := by decide +kernel
theorem d_Co_pendingBits_8 : decode b_Co_pendingBits 8 = .ok (.getfield 9, 3) := by decide +kernel
theorem d_Co_pendingBits_11 : decode b_Co_pendingBits 11 = .ok (.bipush 9, 2) := by decide +kernel
theorem d_Co_pendingBits_13 : decode b_Co_pendingBits 13 = .ok (.iaload, 1) := by decide +kernel
theorem d_Co_pendingBits_14 : decode b_Co_pendingBits 14 = .ok (.if_icmp .lt 7, 3) := by decide +kernel
theorem d_Co_pendingBits_17 : decode b_Co_pendingBits 17 = .ok (.iconst 1, 1) := by decide +kernel
theorem d_Co_pendingBits_18 : decode b_Co_pendingBits 18 = .ok (.goto 4, 3) := by decide +kernel
theorem d_Co_pendingBits_21 : decode b_Co_pendingBits 21 = .ok (.iconst 0, 1) := by decide +kernel
theorem d_Co_pendingBits_22 : decode b_Co_pendingBits 22 = .ok (.istore_n 1, 1) := by decide +kernel
theorem d_Co_pendingBits_23 : decode b_Co_pendingBits 23 = .ok (.aload_n 0, 1) := by decide +kernel
theorem d_Co_pendingBits_24 : decode b_Co_pendingBits 24 = .ok (.getfield 16, 3) := by decide +kernel
theorem d_Co_pendingBits_27 : decode b_Co_pendingBits 27 = .ok (.aload_n 0, 1) := by decide +kernel
theorem d_Co_pendingBits_28 : decode b_Co_pendingBits 28 = .ok (.getfield 9, 3) := by decide +kernel
theorem d_Co_pendingBits_31 : decode b_Co_pendingBits 31 = .ok (.bipush 10, 2) := by decide +kernel
theorem d_Co_pendingBits_33 : decode b_Co_pendingBits 33 = .ok (.iaload, 1) := by decide +kernel
theorem d_Co_pendingBits_34 : decode b_Co_pendingBits 34 = .ok (.invokevirtual 29, 3) := by decide +kernel
theorem d_Co_pendingBits_37 : decode b_Co_pendingBits 37 = .ok (.ifCond .eq 9, 3) := by decide +kernel
theorem d_Co_pendingBits_40 : decode b_Co_pendingBits 40 = .ok (.iload_n 1, 1) := by decide +kernel
theorem d_Co_pendingBits_41 : decode b_Co_pendingBits 41 = .ok (.iconst 2, 1) := by decide +kernel
theorem d_Co_pendingBits_42 : decode b_Co_pendingBits 42 = .ok (.ior, 1) := by decide +kernel
theorem d_Co_pendingBits_43 : decode b_Co_pendingBits 43 = .ok (.goto 4, 3) := by decide +kernel
theorem d_Co_pendingBits_46 : decode b_Co_pendingBits 46 = .ok (.iload_n 1, 1) := by decide +kernel
theorem d_Co_pendingBits_47 : decode b_Co_pendingBits 47 = .ok (.ireturn, 1) := by decide +kernel
def pr_Co_pendingBits : List (Nat × tw_Op) := [(0, tw_al 0), (1, tw_gr 4 5), (4, tw_ic (10)), (6, tw_ia), (7, tw_al 0), (8, tw_gr 4 5), (11, tw_ic (9)), (13, tw_ia), (14, tw_clt 21), (17, tw_ic 1), (18, tw_jmp 22), (21, tw_ic 0), (22, tw_is 1), (23, tw_al 0), (24, tw_gr 4 6), (27, tw_al 0), (28, tw_gr 4 5), (31, tw_ic (10)), (33, tw_ia), (34, tw_cv 1 6 fn_In_isThere), (37, tw_ifeq 46), (40, tw_il 1), (41, tw_ic 2), (42, tw_bin (· ||| ·)), (43, tw_jmp 47), (46, tw_il 1), (47, tw_ri)]
set_option maxRecDepth 100000 in
set_option maxHeartbeats 4000000 in
theorem ok_Co_pendingBits {p : Program} {l : Launch} {e : Env} {s : State} {m : MethodId} {args : Array Value} {below : List Frame} {meth : Method} {c : Code} {E : tw_E} {D : va_G} {ρ : tw_R} (hC : tw_Cx p s m args meth c b_Co_pendingBits 2 (some .int) "TwinHost$Controls" E D) : tw_Ok p l e (tw_rmd 1) s m args below meth c 0 0 (MQ below (tw_Qc E D ρ) args s 0 0 (tw_A E)) 2 E D ρ pr_Co_pendingBits :=
  ⟨ts_aload_n hC d_Co_pendingBits_0 rfl,
   ts_gr (j := 0) (C := R_Co) (T := T_Co) hC rfl rfl rfl (by decide) u_Co wd_75 rfl d_Co_pendingBits_1,
   ts_bipush hC d_Co_pendingBits_4 (by decide),
   ts_iaload hC d_Co_pendingBits_6,
   ts_aload_n hC d_Co_pendingBits_7 rfl,
   ts_gr (j := 0) (C := R_Co) (T := T_Co) hC rfl rfl rfl (by decide) u_Co wd_75 rfl d_Co_pendingBits_8,
   ts_bipush hC d_Co_pendingBits_11 (by decide),
   ts_iaload hC d_Co_pendingBits_13,
   ts_clt hC d_Co_pendingBits_14 (by decide),
   ts_iconst hC d_Co_pendingBits_17 (by decide),
   ts_goto hC d_Co_pendingBits_18 (by decide),
   ts_iconst hC d_Co_pendingBits_21 (by decide),
   ts_istore_n hC d_Co_pendingBits_22 rfl (by decide),
   ts_aload_n hC d_Co_pendingBits_23 rfl,
   ts_gr (j := 1) (C := R_Co) (T := T_Co) hC rfl rfl rfl (by decide) u_Co wd_77 rfl d_Co_pendingBits_24,
   ts_aload_n hC d_Co_pendingBits_27 rfl,
   ts_gr (j := 0) (C := R_Co) (T := T_Co) hC rfl rfl rfl (by decide) u_Co wd_75 rfl d_Co_pendingBits_28,
   ts_bipush hC d_Co_pendingBits_31 (by decide),
   ts_iaload hC d_Co_pendingBits_33,
   ts_callv (C := R_In) (T := T_In) hC con_In_isThere wd_256 wd_27 (by decide +kernel) ⟨by decide, by decide⟩ ⟨Nat.zero_le _, Nat.zero_le _⟩ wd_253 rfl rfl wd_254 wd_255 d_Co_pendingBits_34,
   ts_ifeq hC d_Co_pendingBits_37 (by decide),
   ts_iload_n hC d_Co_pendingBits_40 rfl,
   ts_iconst hC d_Co_pendingBits_41 (by decide),
   ts_ior hC d_Co_pendingBits_42,
   ts_goto hC d_Co_pendingBits_43 (by decide),
   ts_iload_n hC d_Co_pendingBits_46 rfl,
   ts_iret hC rfl d_Co_pendingBits_47,
   trivial⟩
def fn_Co_pendingBits : tw_Fn := tw_fn 1 2 29 pr_Co_pendingBits
theorem con_Co_pendingBits : tw_Con y_Co_pendingBits b_Co_pendingBits 2 (some .int) 1 fn_Co_pendingBits := tw_met (by decide +kernel) (tw_fn_len (n := 1) (by decide)) (fun p l e s m args below meth c E D vs σ ρ hC h => tw_sound (ok_Co_pendingBits hC) 29 pr_Co_pendingBits (ok_Co_pendingBits hC) _ _ _ (tw_fn_get h))

-- TwinHost$Controls.put(II)V: 9 instructions, depth 1, calls Co_keptBits
theorem d_Co_put_0 : decode b_Co_put 0 = .ok (.aload_n 0, 1) := by decide +kernel
theorem d_Co_put_1 : decode b_Co_put 1 = .ok (.getfield 9, 3) := by decide +kernel
theorem d_Co_put_4 : decode b_Co_put 4 = .ok (.iload_n 1, 1) := by decide +kernel
theorem d_Co_put_5 : decode b_Co_put 5 = .ok (.iload_n 2, 1) := by decide +kernel
theorem d_Co_put_6 : decode b_Co_put 6 = .ok (.iload_n 1, 1) := by decide +kernel
theorem d_Co_put_7 : decode b_Co_put 7 = .ok (.invokestatic 40, 3) := by decide +kernel
theorem d_Co_put_10 : decode b_Co_put 10 = .ok (.iand, 1) := by decide +kernel
theorem d_Co_put_11 : decode b_Co_put 11 = .ok (.iastore, 1) := by decide +kernel
theorem d_Co_put_12 : decode b_Co_put 12 = .ok (.return_, 1) := by decide +kernel
def pr_Co_put : List (Nat × tw_Op) := [(0, tw_al 0), (1, tw_gr 4 5), (4, tw_il 1), (5, tw_il 2), (6, tw_il 1), (7, tw_cs 1 fn_Co_keptBits), (10, tw_bin (· &&& ·)), (11, tw_ias 0 22), (12, tw_r0)]
set_option maxRecDepth 100000 in
set_option maxHeartbeats 4000000 in
theorem ok_Co_put {p : Program} {l : Launch} {e : Env} {s : State} {m : MethodId} {args : Array Value} {below : List Frame} {meth : Method} {c : Code} {E : tw_E} {D : va_G} {ρ : tw_R} (hC : tw_Cx p s m args meth c b_Co_put 3 none "TwinHost$Controls" E D) : tw_Ok p l e (tw_rmd 1) s m args below meth c 0 0 (MQ below (tw_Qc E D ρ) args s 0 0 (tw_A E)) 3 E D ρ pr_Co_put :=
  ⟨ts_aload_n hC d_Co_put_0 rfl,
   ts_gr (j := 0) (C := R_Co) (T := T_Co) hC rfl rfl rfl (by decide) u_Co wd_75 rfl d_Co_put_1,
   ts_iload_n hC d_Co_put_4 rfl,
   ts_iload_n hC d_Co_put_5 rfl,
   ts_iload_n hC d_Co_put_6 rfl,
   ts_calls hC con_Co_keptBits wd_234 wd_26 (by decide +kernel) ⟨by decide, by decide⟩ ⟨Nat.zero_le _, Nat.zero_le _⟩ wd_232 wd_233 d_Co_put_7,
   ts_iand hC d_Co_put_10,
   ts_iastore hC d_Co_put_11,
   ts_vret hC rfl d_Co_put_12,
   trivial⟩
def fn_Co_put : tw_Fn := tw_fn 3 3 11 pr_Co_put
theorem con_Co_put : tw_Con y_Co_put b_Co_put 3 none 1 fn_Co_put := tw_met (by decide +kernel) (tw_fn_len (n := 3) (by decide)) (fun p l e s m args below meth c E D vs σ ρ hC h => tw_sound (ok_Co_put hC) 11 pr_Co_put (ok_Co_put hC) _ _ _ (tw_fn_get h))

-- TwinHost$Guest.fill(ILTwinHost$Access;)I: 61 instructions, depth 1, calls Co_isOn En_allows Sh_put
theorem d_Gu_fill_0 : decode b_Gu_fill 0 = .ok (.aload_n 0, 1) := by decide +kernel
theorem d_Gu_fill_1 : decode b_Gu_fill 1 = .ok (.getfield 9, 3) := by decide +kernel
theorem d_Gu_fill_4 : decode b_Gu_fill 4 = .ok (.aload_n 0, 1) := by decide +kernel
theorem d_Gu_fill_5 : decode b_Gu_fill 5 = .ok (.getfield 40, 3) := by decide +kernel
theorem d_Gu_fill_8 : decode b_Gu_fill 8 = .ok (.getfield 191, 3) := by decide +kernel
theorem d_Gu_fill_11 : decode b_Gu_fill 11 = .ok (.iaload, 1) := by decide +kernel
theorem d_Gu_fill_12 : decode b_Gu_fill 12 = .ok (.istore_n 3, 1) := by decide +kernel
theorem d_Gu_fill_13 : decode b_Gu_fill 13 = .ok (.iload_n 3, 1) := by decide +kernel
theorem d_Gu_fill_14 : decode b_Gu_fill 14 = .ok (.aload_n 2, 1) := by decide +kernel
theorem d_Gu_fill_15 : decode b_Gu_fill 15 = .ok (.aload_n 0, 1) := by decide +kernel
theorem d_Gu_fill_16 : decode b_Gu_fill 16 = .ok (.getfield 48, 3) := by decide +kernel
theorem d_Gu_fill_19 : decode b_Gu_fill 19 = .ok (.aload_n 0, 1) := by decide +kernel
theorem d_Gu_fill_20 : decode b_Gu_fill 20 = .ok (.getfield 26, 3) := by decide +kernel
theorem d_Gu_fill_23 : decode b_Gu_fill 23 = .ok (.bipush 8, 2) := by decide +kernel
theorem d_Gu_fill_25 : decode b_Gu_fill 25 = .ok (.invokevirtual 52, 3) := by decide +kernel
theorem d_Gu_fill_28 : decode b_Gu_fill 28 = .ok (.invokestatic 194, 3) := by decide +kernel
theorem d_Gu_fill_31 : decode b_Gu_fill 31 = .ok (.ifCond .ne 8, 3) := by decide +kernel
theorem d_Gu_fill_34 : decode b_Gu_fill 34 = .ok (.aload_n 2, 1) := by decide +kernel
theorem d_Gu_fill_35 : decode b_Gu_fill 35 = .ok (.getfield 174, 3) := by decide +kernel
theorem d_Gu_fill_38 : decode b_Gu_fill 38 = .ok (.ireturn, 1) := by decide +kernel
theorem d_Gu_fill_39 : decode b_Gu_fill 39 = .ok (.aload_n 0, 1) := by decide +kernel
theorem d_Gu_fill_40 : decode b_Gu_fill 40 = .ok (.getfield 40, 3) := by decide +kernel
theorem d_Gu_fill_43 : decode b_Gu_fill 43 = .ok (.getfield 199, 3) := by decide +kernel
theorem d_Gu_fill_46 : decode b_Gu_fill 46 = .ok (.bipush 8, 2) := by decide +kernel
theorem d_Gu_fill_48 : decode b_Gu_fill 48 = .ok (.if_icmp .lt 8, 3) := by decide +kernel
theorem d_Gu_fill_51 : decode b_Gu_fill 51 = .ok (.aload_n 2, 1) := by decide +kernel
theorem d_Gu_fill_52 : decode b_Gu_fill 52 = .ok (.getfield 171, 3) := by decide +kernel
theorem d_Gu_fill_55 : decode b_Gu_fill 55 = .ok (.ireturn, 1) := by decide +kernel
theorem d_Gu_fill_56 : decode b_Gu_fill 56 = .ok (.iload_n 3, 1) := by decide +kernel
theorem d_Gu_fill_57 : decode b_Gu_fill 57 = .ok (.aload_n 2, 1) := by decide +kernel
theorem d_Gu_fill_58 : decode b_Gu_fill 58 = .ok (.getstatic 109, 3) := by decide +kernel
theorem d_Gu_fill_61 : decode b_Gu_fill 61 = .ok (.if_acmp .ne 8, 3) := by decide +kernel
theorem d_Gu_fill_64 : decode b_Gu_fill 64 = .ok (.bipush 96, 2) := by decide +kernel
theorem d_Gu_fill_66 : decode b_Gu_fill 66 = .ok (.goto 5, 3) := by decide +kernel
theorem d_Gu_fill_69 : decode b_Gu_fill 69 = .ok (.bipush 32, 2) := by decide +kernel
theorem d_Gu_fill_71 : decode b_Gu_fill 71 = .ok (.ior, 1) := by decide +kernel
theorem d_Gu_fill_72 : decode b_Gu_fill 72 = .ok (.istore_n 3, 1) := by decide +kernel
theorem d_Gu_fill_73 : decode b_Gu_fill 73 = .ok (.aload_n 0, 1) := by decide +kernel
theorem d_Gu_fill_74 : decode b_Gu_fill 74 = .ok (.getfield 9, 3) := by decide +kernel
theorem d_Gu_fill_77 : decode b_Gu_fill 77 = .ok (.aload_n 0, 1) := by decide +kernel
theorem d_Gu_fill_78 : decode b_Gu_fill 78 = .ok (.getfield 40, 3) := by decide +kernel
theorem d_Gu_fill_81 : decode b_Gu_fill 81 = .ok (.getfield 191, 3) := by decide +kernel
theorem d_Gu_fill_84 : decode b_Gu_fill 84 = .ok (.iload_n 3, 1) := by decide +kernel
theorem d_Gu_fill_85 : decode b_Gu_fill 85 = .ok (.iastore, 1) := by decide +kernel
theorem d_Gu_fill_86 : decode b_Gu_fill 86 = .ok (.aload_n 0, 1) := by decide +kernel
theorem d_Gu_fill_87 : decode b_Gu_fill 87 = .ok (.getfield 33, 3) := by decide +kernel
theorem d_Gu_fill_90 : decode b_Gu_fill 90 = .ok (.iload_n 1, 1) := by decide +kernel
theorem d_Gu_fill_91 : decode b_Gu_fill 91 = .ok (.iload_n 3, 1) := by decide +kernel
theorem d_Gu_fill_92 : decode b_Gu_fill 92 = .ok (.aload_n 0, 1) := by decide +kernel
theorem d_Gu_fill_93 : decode b_Gu_fill 93 = .ok (.getfield 40, 3) := by decide +kernel
theorem d_Gu_fill_96 : decode b_Gu_fill 96 = .ok (.invokevirtual 202, 3) := by decide +kernel
theorem d_Gu_fill_99 : decode b_Gu_fill 99 = .ok (.aload_n 0, 1) := by decide +kernel
theorem d_Gu_fill_100 : decode b_Gu_fill 100 = .ok (.getfield 20, 3) := by decide +kernel
theorem d_Gu_fill_103 : decode b_Gu_fill 103 = .ok (.iconst 1, 1) := by decide +kernel
theorem d_Gu_fill_104 : decode b_Gu_fill 104 = .ok (.dup2, 1) := by decide +kernel
theorem d_Gu_fill_105 : decode b_Gu_fill 105 = .ok (.iaload, 1) := by decide +kernel
theorem d_Gu_fill_106 : decode b_Gu_fill 106 = .ok (.iconst 1, 1) := by decide +kernel
theorem d_Gu_fill_107 : decode b_Gu_fill 107 = .ok (.iadd, 1) := by decide +kernel
theorem d_Gu_fill_108 : decode b_Gu_fill 108 = .ok (.iastore, 1) := by decide +kernel
theorem d_Gu_fill_109 : decode b_Gu_fill 109 = .ok (.iconst 0, 1) := by decide +kernel
theorem d_Gu_fill_110 : decode b_Gu_fill 110 = .ok (.ireturn, 1) := by decide +kernel
def pr_Gu_fill : List (Nat × tw_Op) := [(0, tw_al 0), (1, tw_gr 0 1), (4, tw_al 0), (5, tw_gr 0 14), (8, tw_gi 14 2), (11, tw_ia), (12, tw_is 3), (13, tw_il 3), (14, tw_al 2), (15, tw_al 0), (16, tw_gi 0 7), (19, tw_al 0), (20, tw_gr 0 4), (23, tw_ic (8)), (25, tw_cv 1 4 fn_Co_isOn), (28, tw_cs 4 fn_En_allows), (31, tw_ifne 39), (34, tw_al 2), (35, tw_ge 2), (38, tw_ri), (39, tw_al 0), (40, tw_gr 0 14), (43, tw_gi 14 3), (46, tw_ic (8)), (48, tw_clt 56), (51, tw_al 2), (52, tw_ge 1), (55, tw_ri), (56, tw_il 3), (57, tw_al 2), (58, tw_en 52), (61, tw_ane 69), (64, tw_ic (96)), (66, tw_jmp 71), (69, tw_ic (32)), (71, tw_bin (· ||| ·)), (72, tw_is 3), (73, tw_al 0), (74, tw_gr 0 1), (77, tw_al 0), (78, tw_gr 0 14), (81, tw_gi 14 2), (84, tw_il 3), (85, tw_ias 0 22), (86, tw_al 0), (87, tw_gr 0 9), (90, tw_il 1), (91, tw_il 3), (92, tw_al 0), (93, tw_gr 0 14), (96, tw_cv 3 9 fn_Sh_put), (99, tw_al 0), (100, tw_gr 0 3), (103, tw_ic 1), (104, tw_d2), (105, tw_ia), (106, tw_ic 1), (107, tw_bin (· + ·)), (108, tw_ias 0 22), (109, tw_ic 0), (110, tw_ri)]
set_option maxRecDepth 100000 in
set_option maxHeartbeats 4000000 in
theorem ok_Gu_fill {p : Program} {l : Launch} {e : Env} {s : State} {m : MethodId} {args : Array Value} {below : List Frame} {meth : Method} {c : Code} {E : tw_E} {D : va_G} {ρ : tw_R} (hC : tw_Cx p s m args meth c b_Gu_fill 4 (some .int) "TwinHost$Guest" E D) : tw_Ok p l e (tw_rmd 1) s m args below meth c 0 0 (MQ below (tw_Qc E D ρ) args s 0 0 (tw_A E)) 4 E D ρ pr_Gu_fill :=
  ⟨ts_aload_n hC d_Gu_fill_0 rfl,
   ts_gr (j := 0) (C := R_Gu) (T := T_Gu) hC rfl rfl rfl (by decide) u_Gu wd_132 rfl d_Gu_fill_1,
   ts_aload_n hC d_Gu_fill_4 rfl,
   ts_gr (j := 5) (C := R_Gu) (T := T_Gu) hC rfl rfl rfl (by decide) u_Gu wd_142 rfl d_Gu_fill_5,
   ts_gi (j := 2) (C := R_Wa) (T := T_Wa) hC rfl rfl rfl (by decide) u_Wa wd_119 rfl d_Gu_fill_8,
   ts_iaload hC d_Gu_fill_11,
   ts_istore_n hC d_Gu_fill_12 rfl (by decide),
   ts_iload_n hC d_Gu_fill_13 rfl,
   ts_aload_n hC d_Gu_fill_14 rfl,
   ts_aload_n hC d_Gu_fill_15 rfl,
   ts_gi (j := 7) (C := R_Gu) (T := T_Gu) hC rfl rfl rfl (by decide) u_Gu wd_145 rfl d_Gu_fill_16,
   ts_aload_n hC d_Gu_fill_19 rfl,
   ts_gr (j := 3) (C := R_Gu) (T := T_Gu) hC rfl rfl rfl (by decide) u_Gu wd_138 rfl d_Gu_fill_20,
   ts_bipush hC d_Gu_fill_23 (by decide),
   ts_callv (C := R_Co) (T := T_Co) hC con_Co_isOn wd_292 wd_26 (by decide +kernel) ⟨by decide, by decide⟩ ⟨Nat.zero_le _, Nat.zero_le _⟩ wd_289 rfl rfl wd_290 wd_291 d_Gu_fill_25,
   ts_calls hC con_En_allows wd_323 wd_34 (by decide +kernel) ⟨by decide, by decide⟩ ⟨Nat.zero_le _, Nat.zero_le _⟩ wd_344 wd_322 d_Gu_fill_28,
   ts_ifne hC d_Gu_fill_31 (by decide),
   ts_aload_n hC d_Gu_fill_34 rfl,
   ts_ge (q0 := ("TwinHost$Access", "pageFault", "I", [12, 13, 15])) hC (by decide) (by decide) rfl wd_682 d_Gu_fill_35,
   ts_iret hC rfl d_Gu_fill_38,
   ts_aload_n hC d_Gu_fill_39 rfl,
   ts_gr (j := 5) (C := R_Gu) (T := T_Gu) hC rfl rfl rfl (by decide) u_Gu wd_142 rfl d_Gu_fill_40,
   ts_gi (j := 3) (C := R_Wa) (T := T_Wa) hC rfl rfl rfl (by decide) u_Wa wd_122 rfl d_Gu_fill_43,
   ts_bipush hC d_Gu_fill_46 (by decide),
   ts_clt hC d_Gu_fill_48 (by decide),
   ts_aload_n hC d_Gu_fill_51 rfl,
   ts_ge (q0 := ("TwinHost$Access", "outside", "I", [1, 5, 7])) hC (by decide) (by decide) rfl wd_681 d_Gu_fill_52,
   ts_iret hC rfl d_Gu_fill_55,
   ts_iload_n hC d_Gu_fill_56 rfl,
   ts_aload_n hC d_Gu_fill_57 rfl,
   ts_getA (i := 2) hC (by decide) rfl wd_345 d_Gu_fill_58,
   ts_ane hC d_Gu_fill_61 (by decide),
   ts_bipush hC d_Gu_fill_64 (by decide),
   ts_goto hC d_Gu_fill_66 (by decide),
   ts_bipush hC d_Gu_fill_69 (by decide),
   ts_ior hC d_Gu_fill_71,
   ts_istore_n hC d_Gu_fill_72 rfl (by decide),
   ts_aload_n hC d_Gu_fill_73 rfl,
   ts_gr (j := 0) (C := R_Gu) (T := T_Gu) hC rfl rfl rfl (by decide) u_Gu wd_132 rfl d_Gu_fill_74,
   ts_aload_n hC d_Gu_fill_77 rfl,
   ts_gr (j := 5) (C := R_Gu) (T := T_Gu) hC rfl rfl rfl (by decide) u_Gu wd_142 rfl d_Gu_fill_78,
   ts_gi (j := 2) (C := R_Wa) (T := T_Wa) hC rfl rfl rfl (by decide) u_Wa wd_119 rfl d_Gu_fill_81,
   ts_iload_n hC d_Gu_fill_84 rfl,
   ts_iastore hC d_Gu_fill_85,
   ts_aload_n hC d_Gu_fill_86 rfl,
   ts_gr (j := 4) (C := R_Gu) (T := T_Gu) hC rfl rfl rfl (by decide) u_Gu wd_140 rfl d_Gu_fill_87,
   ts_iload_n hC d_Gu_fill_90 rfl,
   ts_iload_n hC d_Gu_fill_91 rfl,
   ts_aload_n hC d_Gu_fill_92 rfl,
   ts_gr (j := 5) (C := R_Gu) (T := T_Gu) hC rfl rfl rfl (by decide) u_Gu wd_142 rfl d_Gu_fill_93,
   ts_callv (C := R_Sh) (T := T_Sh) hC con_Sh_put wd_349 wd_28 (by decide +kernel) ⟨by decide, by decide⟩ ⟨Nat.zero_le _, Nat.zero_le _⟩ wd_346 rfl rfl wd_347 wd_348 d_Gu_fill_96,
   ts_aload_n hC d_Gu_fill_99 rfl,
   ts_gr (j := 2) (C := R_Gu) (T := T_Gu) hC rfl rfl rfl (by decide) u_Gu wd_136 rfl d_Gu_fill_100,
   ts_iconst hC d_Gu_fill_103 (by decide),
   ts_dup2 hC d_Gu_fill_104,
   ts_iaload hC d_Gu_fill_105,
   ts_iconst hC d_Gu_fill_106 (by decide),
   ts_iadd hC d_Gu_fill_107,
   ts_iastore hC d_Gu_fill_108,
   ts_iconst hC d_Gu_fill_109 (by decide),
   ts_iret hC rfl d_Gu_fill_110,
   trivial⟩
def fn_Gu_fill : tw_Fn := tw_fn 3 4 63 pr_Gu_fill
theorem con_Gu_fill : tw_Con y_Gu_fill b_Gu_fill 4 (some .int) 1 fn_Gu_fill := tw_met (by decide +kernel) (tw_fn_len (n := 3) (by decide)) (fun p l e s m args below meth c E D vs σ ρ hC h => tw_sound (ok_Gu_fill hC) 63 pr_Gu_fill (ok_Gu_fill hC) _ _ _ (tw_fn_get h))

-- TwinHost$Guest.flush()V: 12 instructions, depth 1, calls Sh_clear
theorem d_Gu_flush_0 : decode b_Gu_flush 0 = .ok (.aload_n 0, 1) := by decide +kernel
theorem d_Gu_flush_1 : decode b_Gu_flush 1 = .ok (.getfield 33, 3) := by decide +kernel
theorem d_Gu_flush_4 : decode b_Gu_flush 4 = .ok (.invokevirtual 211, 3) := by decide +kernel
theorem d_Gu_flush_7 : decode b_Gu_flush 7 = .ok (.aload_n 0, 1) := by decide +kernel
theorem d_Gu_flush_8 : decode b_Gu_flush 8 = .ok (.getfield 20, 3) := by decide +kernel
theorem d_Gu_flush_11 : decode b_Gu_flush 11 = .ok (.iconst 5, 1) := by decide +kernel
theorem d_Gu_flush_12 : decode b_Gu_flush 12 = .ok (.dup2, 1) := by decide +kernel
theorem d_Gu_flush_13 : decode b_Gu_flush 13 = .ok (.iaload, 1) := by decide +kernel
theorem d_Gu_flush_14 : decode b_Gu_flush 14 = .ok (.iconst 1, 1) := by decide +kernel
theorem d_Gu_flush_15 : decode b_Gu_flush 15 = .ok (.iadd, 1) := by decide +kernel
theorem d_Gu_flush_16 : decode b_Gu_flush 16 = .ok (.iastore, 1) := by decide +kernel
theorem d_Gu_flush_17 : decode b_Gu_flush 17 = .ok (.return_, 1) := by decide +kernel
def pr_Gu_flush : List (Nat × tw_Op) := [(0, tw_al 0), (1, tw_gr 0 9), (4, tw_cv 0 9 fn_Sh_clear), (7, tw_al 0), (8, tw_gr 0 3), (11, tw_ic 5), (12, tw_d2), (13, tw_ia), (14, tw_ic 1), (15, tw_bin (· + ·)), (16, tw_ias 0 22), (17, tw_r0)]
set_option maxRecDepth 100000 in
set_option maxHeartbeats 4000000 in
theorem ok_Gu_flush {p : Program} {l : Launch} {e : Env} {s : State} {m : MethodId} {args : Array Value} {below : List Frame} {meth : Method} {c : Code} {E : tw_E} {D : va_G} {ρ : tw_R} (hC : tw_Cx p s m args meth c b_Gu_flush 1 none "TwinHost$Guest" E D) : tw_Ok p l e (tw_rmd 1) s m args below meth c 0 0 (MQ below (tw_Qc E D ρ) args s 0 0 (tw_A E)) 1 E D ρ pr_Gu_flush :=
  ⟨ts_aload_n hC d_Gu_flush_0 rfl,
   ts_gr (j := 4) (C := R_Gu) (T := T_Gu) hC rfl rfl rfl (by decide) u_Gu wd_140 rfl d_Gu_flush_1,
   ts_callv (C := R_Sh) (T := T_Sh) hC con_Sh_clear wd_93 wd_28 (by decide +kernel) ⟨by decide, by decide⟩ ⟨Nat.zero_le _, Nat.zero_le _⟩ wd_239 rfl rfl wd_91 wd_92 d_Gu_flush_4,
   ts_aload_n hC d_Gu_flush_7 rfl,
   ts_gr (j := 2) (C := R_Gu) (T := T_Gu) hC rfl rfl rfl (by decide) u_Gu wd_136 rfl d_Gu_flush_8,
   ts_iconst hC d_Gu_flush_11 (by decide),
   ts_dup2 hC d_Gu_flush_12,
   ts_iaload hC d_Gu_flush_13,
   ts_iconst hC d_Gu_flush_14 (by decide),
   ts_iadd hC d_Gu_flush_15,
   ts_iastore hC d_Gu_flush_16,
   ts_vret hC rfl d_Gu_flush_17,
   trivial⟩
def fn_Gu_flush : tw_Fn := tw_fn 1 1 14 pr_Gu_flush
theorem con_Gu_flush : tw_Con y_Gu_flush b_Gu_flush 1 none 1 fn_Gu_flush := tw_met (by decide +kernel) (tw_fn_len (n := 1) (by decide)) (fun p l e s m args below meth c E D vs σ ρ hC h => tw_sound (ok_Gu_flush hC) 14 pr_Gu_flush (ok_Gu_flush hC) _ _ _ (tw_fn_get h))

-- TwinHost$Guest.link(II)LTwinHost$Outcome;: 11 instructions, depth 1, calls Gu_setRegister Gu_retireAt
theorem d_Gu_link_0 : decode b_Gu_link 0 = .ok (.aload_n 0, 1) := by decide +kernel
theorem d_Gu_link_1 : decode b_Gu_link 1 = .ok (.iload_n 1, 1) := by decide +kernel
theorem d_Gu_link_2 : decode b_Gu_link 2 = .ok (.aload_n 0, 1) := by decide +kernel
theorem d_Gu_link_3 : decode b_Gu_link 3 = .ok (.getfield 62, 3) := by decide +kernel
theorem d_Gu_link_6 : decode b_Gu_link 6 = .ok (.iconst 1, 1) := by decide +kernel
theorem d_Gu_link_7 : decode b_Gu_link 7 = .ok (.iadd, 1) := by decide +kernel
theorem d_Gu_link_8 : decode b_Gu_link 8 = .ok (.invokevirtual 102, 3) := by decide +kernel
theorem d_Gu_link_11 : decode b_Gu_link 11 = .ok (.aload_n 0, 1) := by decide +kernel
theorem d_Gu_link_12 : decode b_Gu_link 12 = .ok (.iload_n 2, 1) := by decide +kernel
theorem d_Gu_link_13 : decode b_Gu_link 13 = .ok (.invokevirtual 92, 3) := by decide +kernel
theorem d_Gu_link_16 : decode b_Gu_link 16 = .ok (.areturn, 1) := by decide +kernel
def pr_Gu_link : List (Nat × tw_Op) := [(0, tw_al 0), (1, tw_il 1), (2, tw_al 0), (3, tw_gi 0 6), (6, tw_ic 1), (7, tw_bin (· + ·)), (8, tw_cv 2 0 fn_Gu_setRegister), (11, tw_al 0), (12, tw_il 2), (13, tw_cv 1 0 fn_Gu_retireAt), (16, tw_ra)]
set_option maxRecDepth 100000 in
set_option maxHeartbeats 4000000 in
theorem ok_Gu_link {p : Program} {l : Launch} {e : Env} {s : State} {m : MethodId} {args : Array Value} {below : List Frame} {meth : Method} {c : Code} {E : tw_E} {D : va_G} {ρ : tw_R} (hC : tw_Cx p s m args meth c b_Gu_link 3 (some (.object "TwinHost$Outcome")) "TwinHost$Guest" E D) : tw_Ok p l e (tw_rmd 1) s m args below meth c 0 0 (MQ below (tw_Qc E D ρ) args s 0 0 (tw_A E)) 3 E D ρ pr_Gu_link :=
  ⟨ts_aload_n hC d_Gu_link_0 rfl,
   ts_iload_n hC d_Gu_link_1 rfl,
   ts_aload_n hC d_Gu_link_2 rfl,
   ts_gi (j := 6) (C := R_Gu) (T := T_Gu) hC rfl rfl rfl (by decide) u_Gu wd_143 rfl d_Gu_link_3,
   ts_iconst hC d_Gu_link_6 (by decide),
   ts_iadd hC d_Gu_link_7,
   ts_callv (C := R_Gu) (T := T_Gu) hC con_Gu_setRegister wd_209 wd_25 (by decide +kernel) ⟨by decide, by decide⟩ ⟨Nat.zero_le _, Nat.zero_le _⟩ wd_364 rfl rfl wd_207 wd_208 d_Gu_link_8,
   ts_aload_n hC d_Gu_link_11 rfl,
   ts_iload_n hC d_Gu_link_12 rfl,
   ts_callv (C := R_Gu) (T := T_Gu) hC con_Gu_retireAt wd_368 wd_25 (by decide +kernel) ⟨by decide, by decide⟩ ⟨Nat.zero_le _, Nat.zero_le _⟩ wd_365 rfl rfl wd_366 wd_367 d_Gu_link_13,
   ts_aret hC rfl d_Gu_link_16,
   trivial⟩
def fn_Gu_link : tw_Fn := tw_fn 3 3 13 pr_Gu_link
theorem con_Gu_link : tw_Con y_Gu_link b_Gu_link 3 (some (.object "TwinHost$Outcome")) 1 fn_Gu_link := tw_met (by decide +kernel) (tw_fn_len (n := 3) (by decide)) (fun p l e s m args below meth c E D vs σ ρ hC h => tw_sound (ok_Gu_link hC) 13 pr_Gu_link (ok_Gu_link hC) _ _ _ (tw_fn_get h))

-- TwinHost$Guest.overwrite(II)I: 23 instructions, depth 1, calls Sh_dropThoseOf
theorem d_Gu_overwrite_0 : decode b_Gu_overwrite 0 = .ok (.aload_n 0, 1) := by decide +kernel
theorem d_Gu_overwrite_1 : decode b_Gu_overwrite 1 = .ok (.getfield 9, 3) := by decide +kernel
theorem d_Gu_overwrite_4 : decode b_Gu_overwrite 4 = .ok (.iload_n 1, 1) := by decide +kernel
theorem d_Gu_overwrite_5 : decode b_Gu_overwrite 5 = .ok (.iaload, 1) := by decide +kernel
theorem d_Gu_overwrite_6 : decode b_Gu_overwrite 6 = .ok (.istore_n 3, 1) := by decide +kernel
theorem d_Gu_overwrite_7 : decode b_Gu_overwrite 7 = .ok (.aload_n 0, 1) := by decide +kernel
theorem d_Gu_overwrite_8 : decode b_Gu_overwrite 8 = .ok (.getfield 9, 3) := by decide +kernel
theorem d_Gu_overwrite_11 : decode b_Gu_overwrite 11 = .ok (.iload_n 1, 1) := by decide +kernel
theorem d_Gu_overwrite_12 : decode b_Gu_overwrite 12 = .ok (.iload_n 2, 1) := by decide +kernel
theorem d_Gu_overwrite_13 : decode b_Gu_overwrite 13 = .ok (.iastore, 1) := by decide +kernel
theorem d_Gu_overwrite_14 : decode b_Gu_overwrite 14 = .ok (.aload_n 0, 1) := by decide +kernel
theorem d_Gu_overwrite_15 : decode b_Gu_overwrite 15 = .ok (.getfield 20, 3) := by decide +kernel
theorem d_Gu_overwrite_18 : decode b_Gu_overwrite 18 = .ok (.iconst 4, 1) := by decide +kernel
theorem d_Gu_overwrite_19 : decode b_Gu_overwrite 19 = .ok (.dup2, 1) := by decide +kernel
theorem d_Gu_overwrite_20 : decode b_Gu_overwrite 20 = .ok (.iaload, 1) := by decide +kernel
theorem d_Gu_overwrite_21 : decode b_Gu_overwrite 21 = .ok (.aload_n 0, 1) := by decide +kernel
theorem d_Gu_overwrite_22 : decode b_Gu_overwrite 22 = .ok (.getfield 33, 3) := by decide +kernel
theorem d_Gu_overwrite_25 : decode b_Gu_overwrite 25 = .ok (.iload_n 1, 1) := by decide +kernel
theorem d_Gu_overwrite_26 : decode b_Gu_overwrite 26 = .ok (.invokevirtual 206, 3) := by decide +kernel
theorem d_Gu_overwrite_29 : decode b_Gu_overwrite 29 = .ok (.iadd, 1) := by decide +kernel
theorem d_Gu_overwrite_30 : decode b_Gu_overwrite 30 = .ok (.iastore, 1) := by decide +kernel
theorem d_Gu_overwrite_31 : decode b_Gu_overwrite 31 = .ok (.iload_n 3, 1) := by decide +kernel
theorem d_Gu_overwrite_32 : decode b_Gu_overwrite 32 = .ok (.ireturn, 1) := by decide +kernel
def pr_Gu_overwrite : List (Nat × tw_Op) := [(0, tw_al 0), (1, tw_gr 0 1), (4, tw_il 1), (5, tw_ia), (6, tw_is 3), (7, tw_al 0), (8, tw_gr 0 1), (11, tw_il 1), (12, tw_il 2), (13, tw_ias 0 22), (14, tw_al 0), (15, tw_gr 0 3), (18, tw_ic 4), (19, tw_d2), (20, tw_ia), (21, tw_al 0), (22, tw_gr 0 9), (25, tw_il 1), (26, tw_cv 1 9 fn_Sh_dropThoseOf), (29, tw_bin (· + ·)), (30, tw_ias 0 22), (31, tw_il 3), (32, tw_ri)]
set_option maxRecDepth 100000 in
set_option maxHeartbeats 4000000 in
theorem ok_Gu_overwrite {p : Program} {l : Launch} {e : Env} {s : State} {m : MethodId} {args : Array Value} {below : List Frame} {meth : Method} {c : Code} {E : tw_E} {D : va_G} {ρ : tw_R} (hC : tw_Cx p s m args meth c b_Gu_overwrite 4 (some .int) "TwinHost$Guest" E D) : tw_Ok p l e (tw_rmd 1) s m args below meth c 0 0 (MQ below (tw_Qc E D ρ) args s 0 0 (tw_A E)) 4 E D ρ pr_Gu_overwrite :=
  ⟨ts_aload_n hC d_Gu_overwrite_0 rfl,
   ts_gr (j := 0) (C := R_Gu) (T := T_Gu) hC rfl rfl rfl (by decide) u_Gu wd_132 rfl d_Gu_overwrite_1,
   ts_iload_n hC d_Gu_overwrite_4 rfl,
   ts_iaload hC d_Gu_overwrite_5,
   ts_istore_n hC d_Gu_overwrite_6 rfl (by decide),
   ts_aload_n hC d_Gu_overwrite_7 rfl,
   ts_gr (j := 0) (C := R_Gu) (T := T_Gu) hC rfl rfl rfl (by decide) u_Gu wd_132 rfl d_Gu_overwrite_8,
   ts_iload_n hC d_Gu_overwrite_11 rfl,
   ts_iload_n hC d_Gu_overwrite_12 rfl,
   ts_iastore hC d_Gu_overwrite_13,
   ts_aload_n hC d_Gu_overwrite_14 rfl,
   ts_gr (j := 2) (C := R_Gu) (T := T_Gu) hC rfl rfl rfl (by decide) u_Gu wd_136 rfl d_Gu_overwrite_15,
   ts_iconst hC d_Gu_overwrite_18 (by decide),
   ts_dup2 hC d_Gu_overwrite_19,
   ts_iaload hC d_Gu_overwrite_20,
   ts_aload_n hC d_Gu_overwrite_21 rfl,
   ts_gr (j := 4) (C := R_Gu) (T := T_Gu) hC rfl rfl rfl (by decide) u_Gu wd_140 rfl d_Gu_overwrite_22,
   ts_iload_n hC d_Gu_overwrite_25 rfl,
   ts_callv (C := R_Sh) (T := T_Sh) hC con_Sh_dropThoseOf wd_194 wd_28 (by decide +kernel) ⟨by decide, by decide⟩ ⟨Nat.zero_le _, Nat.zero_le _⟩ wd_191 rfl rfl wd_192 wd_193 d_Gu_overwrite_26,
   ts_iadd hC d_Gu_overwrite_29,
   ts_iastore hC d_Gu_overwrite_30,
   ts_iload_n hC d_Gu_overwrite_31 rfl,
   ts_iret hC rfl d_Gu_overwrite_32,
   trivial⟩
def fn_Gu_overwrite : tw_Fn := tw_fn 3 4 25 pr_Gu_overwrite
theorem con_Gu_overwrite : tw_Con y_Gu_overwrite b_Gu_overwrite 4 (some .int) 1 fn_Gu_overwrite := tw_met (by decide +kernel) (tw_fn_len (n := 3) (by decide)) (fun p l e s m args below meth c E D vs σ ρ hC h => tw_sound (ok_Gu_overwrite hC) 25 pr_Gu_overwrite (ok_Gu_overwrite hC) _ _ _ (tw_fn_get h))

-- TwinHost$Shadows.isTraced(I)Z: 31 instructions, depth 1, calls Sh_isIn
theorem d_Sh_isTraced_0 : decode b_Sh_isTraced 0 = .ok (.iconst 0, 1) := by decide +kernel
theorem d_Sh_isTraced_1 : decode b_Sh_isTraced 1 = .ok (.istore_n 2, 1) := by decide +kernel
theorem d_Sh_isTraced_2 : decode b_Sh_isTraced 2 = .ok (.iload_n 2, 1) := by decide +kernel
theorem d_Sh_isTraced_3 : decode b_Sh_isTraced 3 = .ok (.bipush 16, 2) := by decide +kernel
theorem d_Sh_isTraced_5 : decode b_Sh_isTraced 5 = .ok (.if_icmp .ge 47, 3) := by decide +kernel
theorem d_Sh_isTraced_8 : decode b_Sh_isTraced 8 = .ok (.aload_n 0, 1) := by decide +kernel
theorem d_Sh_isTraced_9 : decode b_Sh_isTraced 9 = .ok (.getfield 9, 3) := by decide +kernel
theorem d_Sh_isTraced_12 : decode b_Sh_isTraced 12 = .ok (.iload_n 2, 1) := by decide +kernel
theorem d_Sh_isTraced_13 : decode b_Sh_isTraced 13 = .ok (.iaload, 1) := by decide +kernel
theorem d_Sh_isTraced_14 : decode b_Sh_isTraced 14 = .ok (.iconst (-1), 1) := by decide +kernel
theorem d_Sh_isTraced_15 : decode b_Sh_isTraced 15 = .ok (.if_icmp .eq 31, 3) := by decide +kernel
theorem d_Sh_isTraced_18 : decode b_Sh_isTraced 18 = .ok (.aload_n 0, 1) := by decide +kernel
theorem d_Sh_isTraced_19 : decode b_Sh_isTraced 19 = .ok (.getfield 18, 3) := by decide +kernel
theorem d_Sh_isTraced_22 : decode b_Sh_isTraced 22 = .ok (.iload_n 2, 1) := by decide +kernel
theorem d_Sh_isTraced_23 : decode b_Sh_isTraced 23 = .ok (.iaload, 1) := by decide +kernel
theorem d_Sh_isTraced_24 : decode b_Sh_isTraced 24 = .ok (.iload_n 1, 1) := by decide +kernel
theorem d_Sh_isTraced_25 : decode b_Sh_isTraced 25 = .ok (.invokestatic 51, 3) := by decide +kernel
theorem d_Sh_isTraced_28 : decode b_Sh_isTraced 28 = .ok (.ifCond .ne 16, 3) := by decide +kernel
theorem d_Sh_isTraced_31 : decode b_Sh_isTraced 31 = .ok (.aload_n 0, 1) := by decide +kernel
theorem d_Sh_isTraced_32 : decode b_Sh_isTraced 32 = .ok (.getfield 21, 3) := by decide +kernel
theorem d_Sh_isTraced_35 : decode b_Sh_isTraced 35 = .ok (.iload_n 2, 1) := by decide +kernel
theorem d_Sh_isTraced_36 : decode b_Sh_isTraced 36 = .ok (.iaload, 1) := by decide +kernel
theorem d_Sh_isTraced_37 : decode b_Sh_isTraced 37 = .ok (.iload_n 1, 1) := by decide +kernel
theorem d_Sh_isTraced_38 : decode b_Sh_isTraced 38 = .ok (.invokestatic 51, 3) := by decide +kernel
theorem d_Sh_isTraced_41 : decode b_Sh_isTraced 41 = .ok (.ifCond .eq 5, 3) := by decide +kernel
theorem d_Sh_isTraced_44 : decode b_Sh_isTraced 44 = .ok (.iconst 1, 1) := by decide +kernel
theorem d_Sh_isTraced_45 : decode b_Sh_isTraced 45 = .ok (.ireturn, 1) := by decide +kernel
theorem d_Sh_isTraced_46 : decode b_Sh_isTraced 46 = .ok (.iinc 2 1, 3) := by decide +kernel
theorem d_Sh_isTraced_49 : decode b_Sh_isTraced 49 = .ok (.goto (-47), 3) := by decide +kernel
theorem d_Sh_isTraced_52 : decode b_Sh_isTraced 52 = .ok (.iconst 0, 1) := by decide +kernel
theorem d_Sh_isTraced_53 : decode b_Sh_isTraced 53 = .ok (.ireturn, 1) := by decide +kernel
def pr_Sh_isTraced : List (Nat × tw_Op) := [(0, tw_ic 0), (1, tw_is 2), (2, tw_il 2), (3, tw_ic (16)), (5, tw_cge 52), (8, tw_al 0), (9, tw_gr 9 10), (12, tw_il 2), (13, tw_ia), (14, tw_ic (-1)), (15, tw_ceq 46), (18, tw_al 0), (19, tw_gr 9 12), (22, tw_il 2), (23, tw_ia), (24, tw_il 1), (25, tw_cs 2 fn_Sh_isIn), (28, tw_ifne 44), (31, tw_al 0), (32, tw_gr 9 13), (35, tw_il 2), (36, tw_ia), (37, tw_il 1), (38, tw_cs 2 fn_Sh_isIn), (41, tw_ifeq 46), (44, tw_ic 1), (45, tw_rz), (46, tw_inc 2 (1)), (49, tw_jmp 2), (52, tw_ic 0), (53, tw_rz)]
set_option maxRecDepth 100000 in
set_option maxHeartbeats 4000000 in
theorem ok_Sh_isTraced {p : Program} {l : Launch} {e : Env} {s : State} {m : MethodId} {args : Array Value} {below : List Frame} {meth : Method} {c : Code} {E : tw_E} {D : va_G} {ρ : tw_R} (hC : tw_Cx p s m args meth c b_Sh_isTraced 3 (some .boolean) "TwinHost$Shadows" E D) : tw_Ok p l e (tw_rmd 1) s m args below meth c 0 0 (MQ below (tw_Qc E D ρ) args s 0 0 (tw_A E)) 3 E D ρ pr_Sh_isTraced :=
  ⟨ts_iconst hC d_Sh_isTraced_0 (by decide),
   ts_istore_n hC d_Sh_isTraced_1 rfl (by decide),
   ts_iload_n hC d_Sh_isTraced_2 rfl,
   ts_bipush hC d_Sh_isTraced_3 (by decide),
   ts_cge hC d_Sh_isTraced_5 (by decide),
   ts_aload_n hC d_Sh_isTraced_8 rfl,
   ts_gr (j := 0) (C := R_Sh) (T := T_Sh) hC rfl rfl rfl (by decide) u_Sh wd_94 rfl d_Sh_isTraced_9,
   ts_iload_n hC d_Sh_isTraced_12 rfl,
   ts_iaload hC d_Sh_isTraced_13,
   ts_iconst hC d_Sh_isTraced_14 (by decide),
   ts_ceq hC d_Sh_isTraced_15 (by decide),
   ts_aload_n hC d_Sh_isTraced_18 rfl,
   ts_gr (j := 2) (C := R_Sh) (T := T_Sh) hC rfl rfl rfl (by decide) u_Sh wd_97 rfl d_Sh_isTraced_19,
   ts_iload_n hC d_Sh_isTraced_22 rfl,
   ts_iaload hC d_Sh_isTraced_23,
   ts_iload_n hC d_Sh_isTraced_24 rfl,
   ts_calls hC con_Sh_isIn wd_381 wd_28 (by decide +kernel) ⟨by decide, by decide⟩ ⟨Nat.zero_le _, Nat.zero_le _⟩ wd_379 wd_380 d_Sh_isTraced_25,
   ts_ifne hC d_Sh_isTraced_28 (by decide),
   ts_aload_n hC d_Sh_isTraced_31 rfl,
   ts_gr (j := 3) (C := R_Sh) (T := T_Sh) hC rfl rfl rfl (by decide) u_Sh wd_98 rfl d_Sh_isTraced_32,
   ts_iload_n hC d_Sh_isTraced_35 rfl,
   ts_iaload hC d_Sh_isTraced_36,
   ts_iload_n hC d_Sh_isTraced_37 rfl,
   ts_calls hC con_Sh_isIn wd_381 wd_28 (by decide +kernel) ⟨by decide, by decide⟩ ⟨Nat.zero_le _, Nat.zero_le _⟩ wd_379 wd_380 d_Sh_isTraced_38,
   ts_ifeq hC d_Sh_isTraced_41 (by decide),
   ts_iconst hC d_Sh_isTraced_44 (by decide),
   ts_zret hC rfl d_Sh_isTraced_45,
   ts_iinc hC d_Sh_isTraced_46 (by decide) (by decide),
   ts_goto hC d_Sh_isTraced_49 (by decide),
   ts_iconst hC d_Sh_isTraced_52 (by decide),
   ts_zret hC rfl d_Sh_isTraced_53,
   trivial⟩
def fn_Sh_isTraced : tw_Fn := tw_fn 2 3 1200 pr_Sh_isTraced
theorem con_Sh_isTraced : tw_Con y_Sh_isTraced b_Sh_isTraced 3 (some .boolean) 1 fn_Sh_isTraced := tw_met (by decide +kernel) (tw_fn_len (n := 2) (by decide)) (fun p l e s m args below meth c E D vs σ ρ hC h => tw_sound (ok_Sh_isTraced hC) 1200 pr_Sh_isTraced (ok_Sh_isTraced hC) _ _ _ (tw_fn_get h))

-- TwinHost$Shadows.letsThrough(ILTwinHost$Access;ZZ)Z: 31 instructions, depth 1, calls En_allows
theorem d_Sh_letsThrough_0 : decode b_Sh_letsThrough 0 = .ok (.aload_n 0, 1) := by decide +kernel
theorem d_Sh_letsThrough_1 : decode b_Sh_letsThrough 1 = .ok (.getfield 9, 3) := by decide +kernel
theorem d_Sh_letsThrough_4 : decode b_Sh_letsThrough 4 = .ok (.iload_n 1, 1) := by decide +kernel
theorem d_Sh_letsThrough_5 : decode b_Sh_letsThrough 5 = .ok (.iaload, 1) := by decide +kernel
theorem d_Sh_letsThrough_6 : decode b_Sh_letsThrough 6 = .ok (.iconst (-1), 1) := by decide +kernel
theorem d_Sh_letsThrough_7 : decode b_Sh_letsThrough 7 = .ok (.if_icmp .eq 19, 3) := by decide +kernel
theorem d_Sh_letsThrough_10 : decode b_Sh_letsThrough 10 = .ok (.aload_n 0, 1) := by decide +kernel
theorem d_Sh_letsThrough_11 : decode b_Sh_letsThrough 11 = .ok (.getfield 15, 3) := by decide +kernel
theorem d_Sh_letsThrough_14 : decode b_Sh_letsThrough 14 = .ok (.iload_n 1, 1) := by decide +kernel
theorem d_Sh_letsThrough_15 : decode b_Sh_letsThrough 15 = .ok (.iaload, 1) := by decide +kernel
theorem d_Sh_letsThrough_16 : decode b_Sh_letsThrough 16 = .ok (.aload_n 2, 1) := by decide +kernel
theorem d_Sh_letsThrough_17 : decode b_Sh_letsThrough 17 = .ok (.iload_n 3, 1) := by decide +kernel
theorem d_Sh_letsThrough_18 : decode b_Sh_letsThrough 18 = .ok (.iload 4, 2) := by decide +kernel
theorem d_Sh_letsThrough_20 : decode b_Sh_letsThrough 20 = .ok (.invokestatic 41, 3) := by decide +kernel
theorem d_Sh_letsThrough_23 : decode b_Sh_letsThrough 23 = .ok (.ifCond .ne 5, 3) := by decide +kernel
theorem d_Sh_letsThrough_26 : decode b_Sh_letsThrough 26 = .ok (.iconst 0, 1) := by decide +kernel
theorem d_Sh_letsThrough_27 : decode b_Sh_letsThrough 27 = .ok (.ireturn, 1) := by decide +kernel
theorem d_Sh_letsThrough_28 : decode b_Sh_letsThrough 28 = .ok (.aload_n 2, 1) := by decide +kernel
theorem d_Sh_letsThrough_29 : decode b_Sh_letsThrough 29 = .ok (.getstatic 45, 3) := by decide +kernel
theorem d_Sh_letsThrough_32 : decode b_Sh_letsThrough 32 = .ok (.if_acmp .ne 15, 3) := by decide +kernel
theorem d_Sh_letsThrough_35 : decode b_Sh_letsThrough 35 = .ok (.aload_n 0, 1) := by decide +kernel
theorem d_Sh_letsThrough_36 : decode b_Sh_letsThrough 36 = .ok (.getfield 15, 3) := by decide +kernel
theorem d_Sh_letsThrough_39 : decode b_Sh_letsThrough 39 = .ok (.iload_n 1, 1) := by decide +kernel
theorem d_Sh_letsThrough_40 : decode b_Sh_letsThrough 40 = .ok (.iaload, 1) := by decide +kernel
theorem d_Sh_letsThrough_41 : decode b_Sh_letsThrough 41 = .ok (.bipush 64, 2) := by decide +kernel
theorem d_Sh_letsThrough_43 : decode b_Sh_letsThrough 43 = .ok (.iand, 1) := by decide +kernel
theorem d_Sh_letsThrough_44 : decode b_Sh_letsThrough 44 = .ok (.ifCond .eq 7, 3) := by decide +kernel
theorem d_Sh_letsThrough_47 : decode b_Sh_letsThrough 47 = .ok (.iconst 1, 1) := by decide +kernel
theorem d_Sh_letsThrough_48 : decode b_Sh_letsThrough 48 = .ok (.goto 4, 3) := by decide +kernel
theorem d_Sh_letsThrough_51 : decode b_Sh_letsThrough 51 = .ok (.iconst 0, 1) := by decide +kernel
theorem d_Sh_letsThrough_52 : decode b_Sh_letsThrough 52 = .ok (.ireturn, 1) := by decide +kernel
def pr_Sh_letsThrough : List (Nat × tw_Op) := [(0, tw_al 0), (1, tw_gr 9 10), (4, tw_il 1), (5, tw_ia), (6, tw_ic (-1)), (7, tw_ceq 26), (10, tw_al 0), (11, tw_gr 9 11), (14, tw_il 1), (15, tw_ia), (16, tw_al 2), (17, tw_il 3), (18, tw_il 4), (20, tw_cs 4 fn_En_allows), (23, tw_ifne 28), (26, tw_ic 0), (27, tw_rz), (28, tw_al 2), (29, tw_en 52), (32, tw_ane 47), (35, tw_al 0), (36, tw_gr 9 11), (39, tw_il 1), (40, tw_ia), (41, tw_ic (64)), (43, tw_bin (· &&& ·)), (44, tw_ifeq 51), (47, tw_ic 1), (48, tw_jmp 52), (51, tw_ic 0), (52, tw_rz)]
set_option maxRecDepth 100000 in
set_option maxHeartbeats 4000000 in
theorem ok_Sh_letsThrough {p : Program} {l : Launch} {e : Env} {s : State} {m : MethodId} {args : Array Value} {below : List Frame} {meth : Method} {c : Code} {E : tw_E} {D : va_G} {ρ : tw_R} (hC : tw_Cx p s m args meth c b_Sh_letsThrough 5 (some .boolean) "TwinHost$Shadows" E D) : tw_Ok p l e (tw_rmd 1) s m args below meth c 0 0 (MQ below (tw_Qc E D ρ) args s 0 0 (tw_A E)) 5 E D ρ pr_Sh_letsThrough :=
  ⟨ts_aload_n hC d_Sh_letsThrough_0 rfl,
   ts_gr (j := 0) (C := R_Sh) (T := T_Sh) hC rfl rfl rfl (by decide) u_Sh wd_94 rfl d_Sh_letsThrough_1,
   ts_iload_n hC d_Sh_letsThrough_4 rfl,
   ts_iaload hC d_Sh_letsThrough_5,
   ts_iconst hC d_Sh_letsThrough_6 (by decide),
   ts_ceq hC d_Sh_letsThrough_7 (by decide),
   ts_aload_n hC d_Sh_letsThrough_10 rfl,
   ts_gr (j := 1) (C := R_Sh) (T := T_Sh) hC rfl rfl rfl (by decide) u_Sh wd_96 rfl d_Sh_letsThrough_11,
   ts_iload_n hC d_Sh_letsThrough_14 rfl,
   ts_iaload hC d_Sh_letsThrough_15,
   ts_aload_n hC d_Sh_letsThrough_16 rfl,
   ts_iload_n hC d_Sh_letsThrough_17 rfl,
   ts_iload hC d_Sh_letsThrough_18,
   ts_calls hC con_En_allows wd_323 wd_34 (by decide +kernel) ⟨by decide, by decide⟩ ⟨Nat.zero_le _, Nat.zero_le _⟩ wd_321 wd_322 d_Sh_letsThrough_20,
   ts_ifne hC d_Sh_letsThrough_23 (by decide),
   ts_iconst hC d_Sh_letsThrough_26 (by decide),
   ts_zret hC rfl d_Sh_letsThrough_27,
   ts_aload_n hC d_Sh_letsThrough_28 rfl,
   ts_getA (i := 2) hC (by decide) rfl wd_325 d_Sh_letsThrough_29,
   ts_ane hC d_Sh_letsThrough_32 (by decide),
   ts_aload_n hC d_Sh_letsThrough_35 rfl,
   ts_gr (j := 1) (C := R_Sh) (T := T_Sh) hC rfl rfl rfl (by decide) u_Sh wd_96 rfl d_Sh_letsThrough_36,
   ts_iload_n hC d_Sh_letsThrough_39 rfl,
   ts_iaload hC d_Sh_letsThrough_40,
   ts_bipush hC d_Sh_letsThrough_41 (by decide),
   ts_iand hC d_Sh_letsThrough_43,
   ts_ifeq hC d_Sh_letsThrough_44 (by decide),
   ts_iconst hC d_Sh_letsThrough_47 (by decide),
   ts_goto hC d_Sh_letsThrough_48 (by decide),
   ts_iconst hC d_Sh_letsThrough_51 (by decide),
   ts_zret hC rfl d_Sh_letsThrough_52,
   trivial⟩
def fn_Sh_letsThrough : tw_Fn := tw_fn 5 5 33 pr_Sh_letsThrough
theorem con_Sh_letsThrough : tw_Con y_Sh_letsThrough b_Sh_letsThrough 5 (some .boolean) 1 fn_Sh_letsThrough := tw_met (by decide +kernel) (tw_fn_len (n := 5) (by decide)) (fun p l e s m args below meth c E D vs σ ρ hC h => tw_sound (ok_Sh_letsThrough hC) 33 pr_Sh_letsThrough (ok_Sh_letsThrough hC) _ _ _ (tw_fn_get h))

-- TwinHost.count(II)I: 18 instructions, depth 1, calls TH_isGuest
theorem d_TH_count_0 : decode b_TH_count 0 = .ok (.iload_n 1, 1) := by decide +kernel
theorem d_TH_count_1 : decode b_TH_count 1 = .ok (.invokestatic 20, 3) := by decide +kernel
theorem d_TH_count_4 : decode b_TH_count 4 = .ok (.ifCond .eq 27, 3) := by decide +kernel
theorem d_TH_count_7 : decode b_TH_count 7 = .ok (.iload_n 2, 1) := by decide +kernel
theorem d_TH_count_8 : decode b_TH_count 8 = .ok (.ifCond .lt 23, 3) := by decide +kernel
theorem d_TH_count_11 : decode b_TH_count 11 = .ok (.iload_n 2, 1) := by decide +kernel
theorem d_TH_count_12 : decode b_TH_count 12 = .ok (.bipush 9, 2) := by decide +kernel
theorem d_TH_count_14 : decode b_TH_count 14 = .ok (.if_icmp .ge 17, 3) := by decide +kernel
theorem d_TH_count_17 : decode b_TH_count 17 = .ok (.aload_n 0, 1) := by decide +kernel
theorem d_TH_count_18 : decode b_TH_count 18 = .ok (.getfield 16, 3) := by decide +kernel
theorem d_TH_count_21 : decode b_TH_count 21 = .ok (.iload_n 1, 1) := by decide +kernel
theorem d_TH_count_22 : decode b_TH_count 22 = .ok (.aaload, 1) := by decide +kernel
theorem d_TH_count_23 : decode b_TH_count 23 = .ok (.getfield 112, 3) := by decide +kernel
theorem d_TH_count_26 : decode b_TH_count 26 = .ok (.iload_n 2, 1) := by decide +kernel
theorem d_TH_count_27 : decode b_TH_count 27 = .ok (.iaload, 1) := by decide +kernel
theorem d_TH_count_28 : decode b_TH_count 28 = .ok (.goto 4, 3) := by decide +kernel
theorem d_TH_count_31 : decode b_TH_count 31 = .ok (.iconst (-1), 1) := by decide +kernel
theorem d_TH_count_32 : decode b_TH_count 32 = .ok (.ireturn, 1) := by decide +kernel
def pr_TH_count : List (Nat × tw_Op) := [(0, tw_il 1), (1, tw_cs 1 fn_TH_isGuest), (4, tw_ifeq 31), (7, tw_il 2), (8, tw_iflt 31), (11, tw_il 2), (12, tw_ic (9)), (14, tw_cge 31), (17, tw_al 0), (18, tw_gr 20 21), (21, tw_il 1), (22, tw_ga), (23, tw_gr 0 3), (26, tw_il 2), (27, tw_ia), (28, tw_jmp 32), (31, tw_ic (-1)), (32, tw_ri)]
set_option maxRecDepth 100000 in
set_option maxHeartbeats 4000000 in
theorem ok_TH_count {p : Program} {l : Launch} {e : Env} {s : State} {m : MethodId} {args : Array Value} {below : List Frame} {meth : Method} {c : Code} {E : tw_E} {D : va_G} {ρ : tw_R} (hC : tw_Cx p s m args meth c b_TH_count 3 (some .int) "TwinHost" E D) : tw_Ok p l e (tw_rmd 1) s m args below meth c 0 0 (MQ below (tw_Qc E D ρ) args s 0 0 (tw_A E)) 3 E D ρ pr_TH_count :=
  ⟨ts_iload_n hC d_TH_count_0 rfl,
   ts_calls hC con_TH_isGuest wd_183 wd_24 (by decide +kernel) ⟨by decide, by decide⟩ ⟨Nat.zero_le _, Nat.zero_le _⟩ wd_181 wd_182 d_TH_count_1,
   ts_ifeq hC d_TH_count_4 (by decide),
   ts_iload_n hC d_TH_count_7 rfl,
   ts_iflt hC d_TH_count_8 (by decide),
   ts_iload_n hC d_TH_count_11 rfl,
   ts_bipush hC d_TH_count_12 (by decide),
   ts_cge hC d_TH_count_14 (by decide),
   ts_aload_n hC d_TH_count_17 rfl,
   ts_gr (j := 0) (C := R_TH) (T := T_TH) hC rfl rfl rfl (by decide) u_TH wd_164 rfl d_TH_count_18,
   ts_iload_n hC d_TH_count_21 rfl,
   ts_aaload hC d_TH_count_22,
   ts_gr (j := 2) (C := R_Gu) (T := T_Gu) hC rfl rfl rfl (by decide) u_Gu wd_137 rfl d_TH_count_23,
   ts_iload_n hC d_TH_count_26 rfl,
   ts_iaload hC d_TH_count_27,
   ts_goto hC d_TH_count_28 (by decide),
   ts_iconst hC d_TH_count_31 (by decide),
   ts_iret hC rfl d_TH_count_32,
   trivial⟩
def fn_TH_count : tw_Fn := tw_fn 3 3 20 pr_TH_count
theorem con_TH_count : tw_Con y_TH_count b_TH_count 3 (some .int) 1 fn_TH_count := tw_met (by decide +kernel) (tw_fn_len (n := 3) (by decide)) (fun p l e s m args below meth c E D vs σ ρ hC h => tw_sound (ok_TH_count hC) 20 pr_TH_count (ok_TH_count hC) _ _ _ (tw_fn_get h))

-- TwinHost.give(III)Z: 17 instructions, depth 1, calls TH_isGuest TH_isRegister Gu_setRegister
theorem d_TH_give_0 : decode b_TH_give 0 = .ok (.iload_n 1, 1) := by decide +kernel
theorem d_TH_give_1 : decode b_TH_give 1 = .ok (.invokestatic 20, 3) := by decide +kernel
theorem d_TH_give_4 : decode b_TH_give 4 = .ok (.ifCond .eq 10, 3) := by decide +kernel
theorem d_TH_give_7 : decode b_TH_give 7 = .ok (.iload_n 2, 1) := by decide +kernel
theorem d_TH_give_8 : decode b_TH_give 8 = .ok (.invokestatic 35, 3) := by decide +kernel
theorem d_TH_give_11 : decode b_TH_give 11 = .ok (.ifCond .ne 5, 3) := by decide +kernel
theorem d_TH_give_14 : decode b_TH_give 14 = .ok (.iconst 0, 1) := by decide +kernel
theorem d_TH_give_15 : decode b_TH_give 15 = .ok (.ireturn, 1) := by decide +kernel
theorem d_TH_give_16 : decode b_TH_give 16 = .ok (.aload_n 0, 1) := by decide +kernel
theorem d_TH_give_17 : decode b_TH_give 17 = .ok (.getfield 16, 3) := by decide +kernel
theorem d_TH_give_20 : decode b_TH_give 20 = .ok (.iload_n 1, 1) := by decide +kernel
theorem d_TH_give_21 : decode b_TH_give 21 = .ok (.aaload, 1) := by decide +kernel
theorem d_TH_give_22 : decode b_TH_give 22 = .ok (.iload_n 2, 1) := by decide +kernel
theorem d_TH_give_23 : decode b_TH_give 23 = .ok (.iload_n 3, 1) := by decide +kernel
theorem d_TH_give_24 : decode b_TH_give 24 = .ok (.invokevirtual 38, 3) := by decide +kernel
theorem d_TH_give_27 : decode b_TH_give 27 = .ok (.iconst 1, 1) := by decide +kernel
theorem d_TH_give_28 : decode b_TH_give 28 = .ok (.ireturn, 1) := by decide +kernel
def pr_TH_give : List (Nat × tw_Op) := [(0, tw_il 1), (1, tw_cs 1 fn_TH_isGuest), (4, tw_ifeq 14), (7, tw_il 2), (8, tw_cs 1 fn_TH_isRegister), (11, tw_ifne 16), (14, tw_ic 0), (15, tw_rz), (16, tw_al 0), (17, tw_gr 20 21), (20, tw_il 1), (21, tw_ga), (22, tw_il 2), (23, tw_il 3), (24, tw_cv 2 0 fn_Gu_setRegister), (27, tw_ic 1), (28, tw_rz)]
set_option maxRecDepth 100000 in
set_option maxHeartbeats 4000000 in
theorem ok_TH_give {p : Program} {l : Launch} {e : Env} {s : State} {m : MethodId} {args : Array Value} {below : List Frame} {meth : Method} {c : Code} {E : tw_E} {D : va_G} {ρ : tw_R} (hC : tw_Cx p s m args meth c b_TH_give 4 (some .boolean) "TwinHost" E D) : tw_Ok p l e (tw_rmd 1) s m args below meth c 0 0 (MQ below (tw_Qc E D ρ) args s 0 0 (tw_A E)) 4 E D ρ pr_TH_give :=
  ⟨ts_iload_n hC d_TH_give_0 rfl,
   ts_calls hC con_TH_isGuest wd_183 wd_24 (by decide +kernel) ⟨by decide, by decide⟩ ⟨Nat.zero_le _, Nat.zero_le _⟩ wd_181 wd_182 d_TH_give_1,
   ts_ifeq hC d_TH_give_4 (by decide),
   ts_iload_n hC d_TH_give_7 rfl,
   ts_calls hC con_TH_isRegister wd_205 wd_24 (by decide +kernel) ⟨by decide, by decide⟩ ⟨Nat.zero_le _, Nat.zero_le _⟩ wd_203 wd_204 d_TH_give_8,
   ts_ifne hC d_TH_give_11 (by decide),
   ts_iconst hC d_TH_give_14 (by decide),
   ts_zret hC rfl d_TH_give_15,
   ts_aload_n hC d_TH_give_16 rfl,
   ts_gr (j := 0) (C := R_TH) (T := T_TH) hC rfl rfl rfl (by decide) u_TH wd_164 rfl d_TH_give_17,
   ts_iload_n hC d_TH_give_20 rfl,
   ts_aaload hC d_TH_give_21,
   ts_iload_n hC d_TH_give_22 rfl,
   ts_iload_n hC d_TH_give_23 rfl,
   ts_callv (C := R_Gu) (T := T_Gu) hC con_Gu_setRegister wd_209 wd_25 (by decide +kernel) ⟨by decide, by decide⟩ ⟨Nat.zero_le _, Nat.zero_le _⟩ wd_206 rfl rfl wd_207 wd_208 d_TH_give_24,
   ts_iconst hC d_TH_give_27 (by decide),
   ts_zret hC rfl d_TH_give_28,
   trivial⟩
def fn_TH_give : tw_Fn := tw_fn 4 4 19 pr_TH_give
theorem con_TH_give : tw_Con y_TH_give b_TH_give 4 (some .boolean) 1 fn_TH_give := tw_met (by decide +kernel) (tw_fn_len (n := 4) (by decide)) (fun p l e s m args below meth c E D vs σ ρ hC h => tw_sound (ok_TH_give hC) 19 pr_TH_give (ok_TH_give hC) _ _ _ (tw_fn_get h))

-- TwinHost.input(III)Z: 19 instructions, depth 1, calls TH_isGuest In_append
theorem d_TH_input_0 : decode b_TH_input 0 = .ok (.iload_n 1, 1) := by decide +kernel
theorem d_TH_input_1 : decode b_TH_input 1 = .ok (.invokestatic 20, 3) := by decide +kernel
theorem d_TH_input_4 : decode b_TH_input 4 = .ok (.ifCond .eq 31, 3) := by decide +kernel
theorem d_TH_input_7 : decode b_TH_input 7 = .ok (.iload_n 2, 1) := by decide +kernel
theorem d_TH_input_8 : decode b_TH_input 8 = .ok (.ifCond .lt 27, 3) := by decide +kernel
theorem d_TH_input_11 : decode b_TH_input 11 = .ok (.aload_n 0, 1) := by decide +kernel
theorem d_TH_input_12 : decode b_TH_input 12 = .ok (.getfield 16, 3) := by decide +kernel
theorem d_TH_input_15 : decode b_TH_input 15 = .ok (.iload_n 1, 1) := by decide +kernel
theorem d_TH_input_16 : decode b_TH_input 16 = .ok (.aaload, 1) := by decide +kernel
theorem d_TH_input_17 : decode b_TH_input 17 = .ok (.getfield 56, 3) := by decide +kernel
theorem d_TH_input_20 : decode b_TH_input 20 = .ok (.getfield 71, 3) := by decide +kernel
theorem d_TH_input_23 : decode b_TH_input 23 = .ok (.iload_n 2, 1) := by decide +kernel
theorem d_TH_input_24 : decode b_TH_input 24 = .ok (.iload_n 3, 1) := by decide +kernel
theorem d_TH_input_25 : decode b_TH_input 25 = .ok (.invokevirtual 75, 3) := by decide +kernel
theorem d_TH_input_28 : decode b_TH_input 28 = .ok (.ifCond .eq 7, 3) := by decide +kernel
theorem d_TH_input_31 : decode b_TH_input 31 = .ok (.iconst 1, 1) := by decide +kernel
theorem d_TH_input_32 : decode b_TH_input 32 = .ok (.goto 4, 3) := by decide +kernel
theorem d_TH_input_35 : decode b_TH_input 35 = .ok (.iconst 0, 1) := by decide +kernel
theorem d_TH_input_36 : decode b_TH_input 36 = .ok (.ireturn, 1) := by decide +kernel
def pr_TH_input : List (Nat × tw_Op) := [(0, tw_il 1), (1, tw_cs 1 fn_TH_isGuest), (4, tw_ifeq 35), (7, tw_il 2), (8, tw_iflt 35), (11, tw_al 0), (12, tw_gr 20 21), (15, tw_il 1), (16, tw_ga), (17, tw_gr 0 4), (20, tw_gr 4 6), (23, tw_il 2), (24, tw_il 3), (25, tw_cv 2 6 fn_In_append), (28, tw_ifeq 35), (31, tw_ic 1), (32, tw_jmp 36), (35, tw_ic 0), (36, tw_rz)]
set_option maxRecDepth 100000 in
set_option maxHeartbeats 4000000 in
theorem ok_TH_input {p : Program} {l : Launch} {e : Env} {s : State} {m : MethodId} {args : Array Value} {below : List Frame} {meth : Method} {c : Code} {E : tw_E} {D : va_G} {ρ : tw_R} (hC : tw_Cx p s m args meth c b_TH_input 4 (some .boolean) "TwinHost" E D) : tw_Ok p l e (tw_rmd 1) s m args below meth c 0 0 (MQ below (tw_Qc E D ρ) args s 0 0 (tw_A E)) 4 E D ρ pr_TH_input :=
  ⟨ts_iload_n hC d_TH_input_0 rfl,
   ts_calls hC con_TH_isGuest wd_183 wd_24 (by decide +kernel) ⟨by decide, by decide⟩ ⟨Nat.zero_le _, Nat.zero_le _⟩ wd_181 wd_182 d_TH_input_1,
   ts_ifeq hC d_TH_input_4 (by decide),
   ts_iload_n hC d_TH_input_7 rfl,
   ts_iflt hC d_TH_input_8 (by decide),
   ts_aload_n hC d_TH_input_11 rfl,
   ts_gr (j := 0) (C := R_TH) (T := T_TH) hC rfl rfl rfl (by decide) u_TH wd_164 rfl d_TH_input_12,
   ts_iload_n hC d_TH_input_15 rfl,
   ts_aaload hC d_TH_input_16,
   ts_gr (j := 3) (C := R_Gu) (T := T_Gu) hC rfl rfl rfl (by decide) u_Gu wd_139 rfl d_TH_input_17,
   ts_gr (j := 1) (C := R_Co) (T := T_Co) hC rfl rfl rfl (by decide) u_Co wd_78 rfl d_TH_input_20,
   ts_iload_n hC d_TH_input_23 rfl,
   ts_iload_n hC d_TH_input_24 rfl,
   ts_callv (C := R_In) (T := T_In) hC con_In_append wd_276 wd_27 (by decide +kernel) ⟨by decide, by decide⟩ ⟨Nat.zero_le _, Nat.zero_le _⟩ wd_273 rfl rfl wd_274 wd_275 d_TH_input_25,
   ts_ifeq hC d_TH_input_28 (by decide),
   ts_iconst hC d_TH_input_31 (by decide),
   ts_goto hC d_TH_input_32 (by decide),
   ts_iconst hC d_TH_input_35 (by decide),
   ts_zret hC rfl d_TH_input_36,
   trivial⟩
def fn_TH_input : tw_Fn := tw_fn 4 4 21 pr_TH_input
theorem con_TH_input : tw_Con y_TH_input b_TH_input 4 (some .boolean) 1 fn_TH_input := tw_met (by decide +kernel) (tw_fn_len (n := 4) (by decide)) (fun p l e s m args below meth c E D vs σ ρ hC h => tw_sound (ok_TH_input hC) 21 pr_TH_input (ok_TH_input hC) _ _ _ (tw_fn_get h))

-- TwinHost.pc(I)I: 11 instructions, depth 1, calls TH_isGuest
theorem d_TH_pc_0 : decode b_TH_pc 0 = .ok (.iload_n 1, 1) := by decide +kernel
theorem d_TH_pc_1 : decode b_TH_pc 1 = .ok (.invokestatic 20, 3) := by decide +kernel
theorem d_TH_pc_4 : decode b_TH_pc 4 = .ok (.ifCond .eq 15, 3) := by decide +kernel
theorem d_TH_pc_7 : decode b_TH_pc 7 = .ok (.aload_n 0, 1) := by decide +kernel
theorem d_TH_pc_8 : decode b_TH_pc 8 = .ok (.getfield 16, 3) := by decide +kernel
theorem d_TH_pc_11 : decode b_TH_pc 11 = .ok (.iload_n 1, 1) := by decide +kernel
theorem d_TH_pc_12 : decode b_TH_pc 12 = .ok (.aaload, 1) := by decide +kernel
theorem d_TH_pc_13 : decode b_TH_pc 13 = .ok (.getfield 64, 3) := by decide +kernel
theorem d_TH_pc_16 : decode b_TH_pc 16 = .ok (.goto 4, 3) := by decide +kernel
theorem d_TH_pc_19 : decode b_TH_pc 19 = .ok (.iconst 0, 1) := by decide +kernel
theorem d_TH_pc_20 : decode b_TH_pc 20 = .ok (.ireturn, 1) := by decide +kernel
def pr_TH_pc : List (Nat × tw_Op) := [(0, tw_il 1), (1, tw_cs 1 fn_TH_isGuest), (4, tw_ifeq 19), (7, tw_al 0), (8, tw_gr 20 21), (11, tw_il 1), (12, tw_ga), (13, tw_gi 0 6), (16, tw_jmp 20), (19, tw_ic 0), (20, tw_ri)]
set_option maxRecDepth 100000 in
set_option maxHeartbeats 4000000 in
theorem ok_TH_pc {p : Program} {l : Launch} {e : Env} {s : State} {m : MethodId} {args : Array Value} {below : List Frame} {meth : Method} {c : Code} {E : tw_E} {D : va_G} {ρ : tw_R} (hC : tw_Cx p s m args meth c b_TH_pc 2 (some .int) "TwinHost" E D) : tw_Ok p l e (tw_rmd 1) s m args below meth c 0 0 (MQ below (tw_Qc E D ρ) args s 0 0 (tw_A E)) 2 E D ρ pr_TH_pc :=
  ⟨ts_iload_n hC d_TH_pc_0 rfl,
   ts_calls hC con_TH_isGuest wd_183 wd_24 (by decide +kernel) ⟨by decide, by decide⟩ ⟨Nat.zero_le _, Nat.zero_le _⟩ wd_181 wd_182 d_TH_pc_1,
   ts_ifeq hC d_TH_pc_4 (by decide),
   ts_aload_n hC d_TH_pc_7 rfl,
   ts_gr (j := 0) (C := R_TH) (T := T_TH) hC rfl rfl rfl (by decide) u_TH wd_164 rfl d_TH_pc_8,
   ts_iload_n hC d_TH_pc_11 rfl,
   ts_aaload hC d_TH_pc_12,
   ts_gi (j := 6) (C := R_Gu) (T := T_Gu) hC rfl rfl rfl (by decide) u_Gu wd_144 rfl d_TH_pc_13,
   ts_goto hC d_TH_pc_16 (by decide),
   ts_iconst hC d_TH_pc_19 (by decide),
   ts_iret hC rfl d_TH_pc_20,
   trivial⟩
def fn_TH_pc : tw_Fn := tw_fn 2 2 13 pr_TH_pc
theorem con_TH_pc : tw_Con y_TH_pc b_TH_pc 2 (some .int) 1 fn_TH_pc := tw_met (by decide +kernel) (tw_fn_len (n := 2) (by decide)) (fun p l e s m args below meth c E D vs σ ρ hC h => tw_sound (ok_TH_pc hC) 13 pr_TH_pc (ok_TH_pc hC) _ _ _ (tw_fn_get h))

-- TwinHost.peek(II)I: 16 instructions, depth 1, calls TH_isGuest TH_isWord
theorem d_TH_peek_0 : decode b_TH_peek 0 = .ok (.iload_n 1, 1) := by decide +kernel
theorem d_TH_peek_1 : decode b_TH_peek 1 = .ok (.invokestatic 20, 3) := by decide +kernel
theorem d_TH_peek_4 : decode b_TH_peek 4 = .ok (.ifCond .eq 24, 3) := by decide +kernel
theorem d_TH_peek_7 : decode b_TH_peek 7 = .ok (.iload_n 2, 1) := by decide +kernel
theorem d_TH_peek_8 : decode b_TH_peek 8 = .ok (.invokestatic 24, 3) := by decide +kernel
theorem d_TH_peek_11 : decode b_TH_peek 11 = .ok (.ifCond .eq 17, 3) := by decide +kernel
theorem d_TH_peek_14 : decode b_TH_peek 14 = .ok (.aload_n 0, 1) := by decide +kernel
theorem d_TH_peek_15 : decode b_TH_peek 15 = .ok (.getfield 16, 3) := by decide +kernel
theorem d_TH_peek_18 : decode b_TH_peek 18 = .ok (.iload_n 1, 1) := by decide +kernel
theorem d_TH_peek_19 : decode b_TH_peek 19 = .ok (.aaload, 1) := by decide +kernel
theorem d_TH_peek_20 : decode b_TH_peek 20 = .ok (.getfield 31, 3) := by decide +kernel
theorem d_TH_peek_23 : decode b_TH_peek 23 = .ok (.iload_n 2, 1) := by decide +kernel
theorem d_TH_peek_24 : decode b_TH_peek 24 = .ok (.iaload, 1) := by decide +kernel
theorem d_TH_peek_25 : decode b_TH_peek 25 = .ok (.goto 4, 3) := by decide +kernel
theorem d_TH_peek_28 : decode b_TH_peek 28 = .ok (.iconst 0, 1) := by decide +kernel
theorem d_TH_peek_29 : decode b_TH_peek 29 = .ok (.ireturn, 1) := by decide +kernel
def pr_TH_peek : List (Nat × tw_Op) := [(0, tw_il 1), (1, tw_cs 1 fn_TH_isGuest), (4, tw_ifeq 28), (7, tw_il 2), (8, tw_cs 1 fn_TH_isWord), (11, tw_ifeq 28), (14, tw_al 0), (15, tw_gr 20 21), (18, tw_il 1), (19, tw_ga), (20, tw_gr 0 1), (23, tw_il 2), (24, tw_ia), (25, tw_jmp 29), (28, tw_ic 0), (29, tw_ri)]
set_option maxRecDepth 100000 in
set_option maxHeartbeats 4000000 in
theorem ok_TH_peek {p : Program} {l : Launch} {e : Env} {s : State} {m : MethodId} {args : Array Value} {below : List Frame} {meth : Method} {c : Code} {E : tw_E} {D : va_G} {ρ : tw_R} (hC : tw_Cx p s m args meth c b_TH_peek 3 (some .int) "TwinHost" E D) : tw_Ok p l e (tw_rmd 1) s m args below meth c 0 0 (MQ below (tw_Qc E D ρ) args s 0 0 (tw_A E)) 3 E D ρ pr_TH_peek :=
  ⟨ts_iload_n hC d_TH_peek_0 rfl,
   ts_calls hC con_TH_isGuest wd_183 wd_24 (by decide +kernel) ⟨by decide, by decide⟩ ⟨Nat.zero_le _, Nat.zero_le _⟩ wd_181 wd_182 d_TH_peek_1,
   ts_ifeq hC d_TH_peek_4 (by decide),
   ts_iload_n hC d_TH_peek_7 rfl,
   ts_calls hC con_TH_isWord wd_186 wd_24 (by decide +kernel) ⟨by decide, by decide⟩ ⟨Nat.zero_le _, Nat.zero_le _⟩ wd_184 wd_185 d_TH_peek_8,
   ts_ifeq hC d_TH_peek_11 (by decide),
   ts_aload_n hC d_TH_peek_14 rfl,
   ts_gr (j := 0) (C := R_TH) (T := T_TH) hC rfl rfl rfl (by decide) u_TH wd_164 rfl d_TH_peek_15,
   ts_iload_n hC d_TH_peek_18 rfl,
   ts_aaload hC d_TH_peek_19,
   ts_gr (j := 0) (C := R_Gu) (T := T_Gu) hC rfl rfl rfl (by decide) u_Gu wd_133 rfl d_TH_peek_20,
   ts_iload_n hC d_TH_peek_23 rfl,
   ts_iaload hC d_TH_peek_24,
   ts_goto hC d_TH_peek_25 (by decide),
   ts_iconst hC d_TH_peek_28 (by decide),
   ts_iret hC rfl d_TH_peek_29,
   trivial⟩
def fn_TH_peek : tw_Fn := tw_fn 3 3 18 pr_TH_peek
theorem con_TH_peek : tw_Con y_TH_peek b_TH_peek 3 (some .int) 1 fn_TH_peek := tw_met (by decide +kernel) (tw_fn_len (n := 3) (by decide)) (fun p l e s m args below meth c E D vs σ ρ hC h => tw_sound (ok_TH_peek hC) 18 pr_TH_peek (ok_TH_peek hC) _ _ _ (tw_fn_get h))

-- TwinHost.place(IIZ)Z: 19 instructions, depth 1, calls TH_isGuest
theorem d_TH_place_0 : decode b_TH_place 0 = .ok (.iload_n 1, 1) := by decide +kernel
theorem d_TH_place_1 : decode b_TH_place 1 = .ok (.invokestatic 20, 3) := by decide +kernel
theorem d_TH_place_4 : decode b_TH_place 4 = .ok (.ifCond .ne 5, 3) := by decide +kernel
theorem d_TH_place_7 : decode b_TH_place 7 = .ok (.iconst 0, 1) := by decide +kernel
theorem d_TH_place_8 : decode b_TH_place 8 = .ok (.ireturn, 1) := by decide +kernel
theorem d_TH_place_9 : decode b_TH_place 9 = .ok (.aload_n 0, 1) := by decide +kernel
theorem d_TH_place_10 : decode b_TH_place 10 = .ok (.getfield 16, 3) := by decide +kernel
theorem d_TH_place_13 : decode b_TH_place 13 = .ok (.iload_n 1, 1) := by decide +kernel
theorem d_TH_place_14 : decode b_TH_place 14 = .ok (.aaload, 1) := by decide +kernel
theorem d_TH_place_15 : decode b_TH_place 15 = .ok (.iload_n 2, 1) := by decide +kernel
theorem d_TH_place_16 : decode b_TH_place 16 = .ok (.putfield 64, 3) := by decide +kernel
theorem d_TH_place_19 : decode b_TH_place 19 = .ok (.aload_n 0, 1) := by decide +kernel
theorem d_TH_place_20 : decode b_TH_place 20 = .ok (.getfield 16, 3) := by decide +kernel
theorem d_TH_place_23 : decode b_TH_place 23 = .ok (.iload_n 1, 1) := by decide +kernel
theorem d_TH_place_24 : decode b_TH_place 24 = .ok (.aaload, 1) := by decide +kernel
theorem d_TH_place_25 : decode b_TH_place 25 = .ok (.iload_n 3, 1) := by decide +kernel
theorem d_TH_place_26 : decode b_TH_place 26 = .ok (.putfield 67, 3) := by decide +kernel
theorem d_TH_place_29 : decode b_TH_place 29 = .ok (.iconst 1, 1) := by decide +kernel
theorem d_TH_place_30 : decode b_TH_place 30 = .ok (.ireturn, 1) := by decide +kernel
def pr_TH_place : List (Nat × tw_Op) := [(0, tw_il 1), (1, tw_cs 1 fn_TH_isGuest), (4, tw_ifne 9), (7, tw_ic 0), (8, tw_rz), (9, tw_al 0), (10, tw_gr 20 21), (13, tw_il 1), (14, tw_ga), (15, tw_il 2), (16, tw_pi 0 6), (19, tw_al 0), (20, tw_gr 20 21), (23, tw_il 1), (24, tw_ga), (25, tw_il 3), (26, tw_pz 0 7), (29, tw_ic 1), (30, tw_rz)]
set_option maxRecDepth 100000 in
set_option maxHeartbeats 4000000 in
theorem ok_TH_place {p : Program} {l : Launch} {e : Env} {s : State} {m : MethodId} {args : Array Value} {below : List Frame} {meth : Method} {c : Code} {E : tw_E} {D : va_G} {ρ : tw_R} (hC : tw_Cx p s m args meth c b_TH_place 4 (some .boolean) "TwinHost" E D) : tw_Ok p l e (tw_rmd 1) s m args below meth c 0 0 (MQ below (tw_Qc E D ρ) args s 0 0 (tw_A E)) 4 E D ρ pr_TH_place :=
  ⟨ts_iload_n hC d_TH_place_0 rfl,
   ts_calls hC con_TH_isGuest wd_183 wd_24 (by decide +kernel) ⟨by decide, by decide⟩ ⟨Nat.zero_le _, Nat.zero_le _⟩ wd_181 wd_182 d_TH_place_1,
   ts_ifne hC d_TH_place_4 (by decide),
   ts_iconst hC d_TH_place_7 (by decide),
   ts_zret hC rfl d_TH_place_8,
   ts_aload_n hC d_TH_place_9 rfl,
   ts_gr (j := 0) (C := R_TH) (T := T_TH) hC rfl rfl rfl (by decide) u_TH wd_164 rfl d_TH_place_10,
   ts_iload_n hC d_TH_place_13 rfl,
   ts_aaload hC d_TH_place_14,
   ts_iload_n hC d_TH_place_15 rfl,
   ts_pi (j := 6) (C := R_Gu) (T := T_Gu) hC rfl rfl rfl (by decide) u_Gu wd_144 rfl t_Gu_ok n_Gu rfl (by decide +kernel) d_TH_place_16,
   ts_aload_n hC d_TH_place_19 rfl,
   ts_gr (j := 0) (C := R_TH) (T := T_TH) hC rfl rfl rfl (by decide) u_TH wd_164 rfl d_TH_place_20,
   ts_iload_n hC d_TH_place_23 rfl,
   ts_aaload hC d_TH_place_24,
   ts_iload_n hC d_TH_place_25 rfl,
   ts_pz (j := 7) (C := R_Gu) (T := T_Gu) hC rfl rfl rfl (by decide) u_Gu wd_146 rfl t_Gu_ok n_Gu rfl (by decide +kernel) d_TH_place_26,
   ts_iconst hC d_TH_place_29 (by decide),
   ts_zret hC rfl d_TH_place_30,
   trivial⟩
def fn_TH_place : tw_Fn := tw_fn 4 4 21 pr_TH_place
theorem con_TH_place : tw_Con y_TH_place b_TH_place 4 (some .boolean) 1 fn_TH_place := tw_met (by decide +kernel) (tw_fn_len (n := 4) (by decide)) (fun p l e s m args below meth c E D vs σ ρ hC h => tw_sound (ok_TH_place hC) 21 pr_TH_place (ok_TH_place hC) _ _ _ (tw_fn_get h))

-- TwinHost.register(II)I: 16 instructions, depth 1, calls TH_isGuest TH_isRegister
theorem d_TH_register_0 : decode b_TH_register 0 = .ok (.iload_n 1, 1) := by decide +kernel
theorem d_TH_register_1 : decode b_TH_register 1 = .ok (.invokestatic 20, 3) := by decide +kernel
theorem d_TH_register_4 : decode b_TH_register 4 = .ok (.ifCond .eq 24, 3) := by decide +kernel
theorem d_TH_register_7 : decode b_TH_register 7 = .ok (.iload_n 2, 1) := by decide +kernel
theorem d_TH_register_8 : decode b_TH_register 8 = .ok (.invokestatic 35, 3) := by decide +kernel
theorem d_TH_register_11 : decode b_TH_register 11 = .ok (.ifCond .eq 17, 3) := by decide +kernel
theorem d_TH_register_14 : decode b_TH_register 14 = .ok (.aload_n 0, 1) := by decide +kernel
theorem d_TH_register_15 : decode b_TH_register 15 = .ok (.getfield 16, 3) := by decide +kernel
theorem d_TH_register_18 : decode b_TH_register 18 = .ok (.iload_n 1, 1) := by decide +kernel
theorem d_TH_register_19 : decode b_TH_register 19 = .ok (.aaload, 1) := by decide +kernel
theorem d_TH_register_20 : decode b_TH_register 20 = .ok (.getfield 42, 3) := by decide +kernel
theorem d_TH_register_23 : decode b_TH_register 23 = .ok (.iload_n 2, 1) := by decide +kernel
theorem d_TH_register_24 : decode b_TH_register 24 = .ok (.iaload, 1) := by decide +kernel
theorem d_TH_register_25 : decode b_TH_register 25 = .ok (.goto 4, 3) := by decide +kernel
theorem d_TH_register_28 : decode b_TH_register 28 = .ok (.iconst 0, 1) := by decide +kernel
theorem d_TH_register_29 : decode b_TH_register 29 = .ok (.ireturn, 1) := by decide +kernel
def pr_TH_register : List (Nat × tw_Op) := [(0, tw_il 1), (1, tw_cs 1 fn_TH_isGuest), (4, tw_ifeq 28), (7, tw_il 2), (8, tw_cs 1 fn_TH_isRegister), (11, tw_ifeq 28), (14, tw_al 0), (15, tw_gr 20 21), (18, tw_il 1), (19, tw_ga), (20, tw_gr 0 2), (23, tw_il 2), (24, tw_ia), (25, tw_jmp 29), (28, tw_ic 0), (29, tw_ri)]
set_option maxRecDepth 100000 in
set_option maxHeartbeats 4000000 in
theorem ok_TH_register {p : Program} {l : Launch} {e : Env} {s : State} {m : MethodId} {args : Array Value} {below : List Frame} {meth : Method} {c : Code} {E : tw_E} {D : va_G} {ρ : tw_R} (hC : tw_Cx p s m args meth c b_TH_register 3 (some .int) "TwinHost" E D) : tw_Ok p l e (tw_rmd 1) s m args below meth c 0 0 (MQ below (tw_Qc E D ρ) args s 0 0 (tw_A E)) 3 E D ρ pr_TH_register :=
  ⟨ts_iload_n hC d_TH_register_0 rfl,
   ts_calls hC con_TH_isGuest wd_183 wd_24 (by decide +kernel) ⟨by decide, by decide⟩ ⟨Nat.zero_le _, Nat.zero_le _⟩ wd_181 wd_182 d_TH_register_1,
   ts_ifeq hC d_TH_register_4 (by decide),
   ts_iload_n hC d_TH_register_7 rfl,
   ts_calls hC con_TH_isRegister wd_205 wd_24 (by decide +kernel) ⟨by decide, by decide⟩ ⟨Nat.zero_le _, Nat.zero_le _⟩ wd_203 wd_204 d_TH_register_8,
   ts_ifeq hC d_TH_register_11 (by decide),
   ts_aload_n hC d_TH_register_14 rfl,
   ts_gr (j := 0) (C := R_TH) (T := T_TH) hC rfl rfl rfl (by decide) u_TH wd_164 rfl d_TH_register_15,
   ts_iload_n hC d_TH_register_18 rfl,
   ts_aaload hC d_TH_register_19,
   ts_gr (j := 1) (C := R_Gu) (T := T_Gu) hC rfl rfl rfl (by decide) u_Gu wd_135 rfl d_TH_register_20,
   ts_iload_n hC d_TH_register_23 rfl,
   ts_iaload hC d_TH_register_24,
   ts_goto hC d_TH_register_25 (by decide),
   ts_iconst hC d_TH_register_28 (by decide),
   ts_iret hC rfl d_TH_register_29,
   trivial⟩
def fn_TH_register : tw_Fn := tw_fn 3 3 18 pr_TH_register
theorem con_TH_register : tw_Con y_TH_register b_TH_register 3 (some .int) 1 fn_TH_register := tw_met (by decide +kernel) (tw_fn_len (n := 3) (by decide)) (fun p l e s m args below meth c E D vs σ ρ hC h => tw_sound (ok_TH_register hC) 18 pr_TH_register (ok_TH_register hC) _ _ _ (tw_fn_get h))

-- TwinHost.shadow(II)I: 18 instructions, depth 1, calls TH_isGuest Sh_describe
theorem d_TH_shadow_0 : decode b_TH_shadow 0 = .ok (.iload_n 1, 1) := by decide +kernel
theorem d_TH_shadow_1 : decode b_TH_shadow 1 = .ok (.invokestatic 20, 3) := by decide +kernel
theorem d_TH_shadow_4 : decode b_TH_shadow 4 = .ok (.ifCond .eq 29, 3) := by decide +kernel
theorem d_TH_shadow_7 : decode b_TH_shadow 7 = .ok (.iload_n 2, 1) := by decide +kernel
theorem d_TH_shadow_8 : decode b_TH_shadow 8 = .ok (.ifCond .lt 25, 3) := by decide +kernel
theorem d_TH_shadow_11 : decode b_TH_shadow 11 = .ok (.iload_n 2, 1) := by decide +kernel
theorem d_TH_shadow_12 : decode b_TH_shadow 12 = .ok (.bipush 16, 2) := by decide +kernel
theorem d_TH_shadow_14 : decode b_TH_shadow 14 = .ok (.if_icmp .ge 19, 3) := by decide +kernel
theorem d_TH_shadow_17 : decode b_TH_shadow 17 = .ok (.aload_n 0, 1) := by decide +kernel
theorem d_TH_shadow_18 : decode b_TH_shadow 18 = .ok (.getfield 16, 3) := by decide +kernel
theorem d_TH_shadow_21 : decode b_TH_shadow 21 = .ok (.iload_n 1, 1) := by decide +kernel
theorem d_TH_shadow_22 : decode b_TH_shadow 22 = .ok (.aaload, 1) := by decide +kernel
theorem d_TH_shadow_23 : decode b_TH_shadow 23 = .ok (.getfield 98, 3) := by decide +kernel
theorem d_TH_shadow_26 : decode b_TH_shadow 26 = .ok (.iload_n 2, 1) := by decide +kernel
theorem d_TH_shadow_27 : decode b_TH_shadow 27 = .ok (.invokevirtual 102, 3) := by decide +kernel
theorem d_TH_shadow_30 : decode b_TH_shadow 30 = .ok (.goto 4, 3) := by decide +kernel
theorem d_TH_shadow_33 : decode b_TH_shadow 33 = .ok (.iconst (-1), 1) := by decide +kernel
theorem d_TH_shadow_34 : decode b_TH_shadow 34 = .ok (.ireturn, 1) := by decide +kernel
def pr_TH_shadow : List (Nat × tw_Op) := [(0, tw_il 1), (1, tw_cs 1 fn_TH_isGuest), (4, tw_ifeq 33), (7, tw_il 2), (8, tw_iflt 33), (11, tw_il 2), (12, tw_ic (16)), (14, tw_cge 33), (17, tw_al 0), (18, tw_gr 20 21), (21, tw_il 1), (22, tw_ga), (23, tw_gr 0 9), (26, tw_il 2), (27, tw_cv 1 9 fn_Sh_describe), (30, tw_jmp 34), (33, tw_ic (-1)), (34, tw_ri)]
set_option maxRecDepth 100000 in
set_option maxHeartbeats 4000000 in
theorem ok_TH_shadow {p : Program} {l : Launch} {e : Env} {s : State} {m : MethodId} {args : Array Value} {below : List Frame} {meth : Method} {c : Code} {E : tw_E} {D : va_G} {ρ : tw_R} (hC : tw_Cx p s m args meth c b_TH_shadow 3 (some .int) "TwinHost" E D) : tw_Ok p l e (tw_rmd 1) s m args below meth c 0 0 (MQ below (tw_Qc E D ρ) args s 0 0 (tw_A E)) 3 E D ρ pr_TH_shadow :=
  ⟨ts_iload_n hC d_TH_shadow_0 rfl,
   ts_calls hC con_TH_isGuest wd_183 wd_24 (by decide +kernel) ⟨by decide, by decide⟩ ⟨Nat.zero_le _, Nat.zero_le _⟩ wd_181 wd_182 d_TH_shadow_1,
   ts_ifeq hC d_TH_shadow_4 (by decide),
   ts_iload_n hC d_TH_shadow_7 rfl,
   ts_iflt hC d_TH_shadow_8 (by decide),
   ts_iload_n hC d_TH_shadow_11 rfl,
   ts_bipush hC d_TH_shadow_12 (by decide),
   ts_cge hC d_TH_shadow_14 (by decide),
   ts_aload_n hC d_TH_shadow_17 rfl,
   ts_gr (j := 0) (C := R_TH) (T := T_TH) hC rfl rfl rfl (by decide) u_TH wd_164 rfl d_TH_shadow_18,
   ts_iload_n hC d_TH_shadow_21 rfl,
   ts_aaload hC d_TH_shadow_22,
   ts_gr (j := 4) (C := R_Gu) (T := T_Gu) hC rfl rfl rfl (by decide) u_Gu wd_141 rfl d_TH_shadow_23,
   ts_iload_n hC d_TH_shadow_26 rfl,
   ts_callv (C := R_Sh) (T := T_Sh) hC con_Sh_describe wd_436 wd_28 (by decide +kernel) ⟨by decide, by decide⟩ ⟨Nat.zero_le _, Nat.zero_le _⟩ wd_433 rfl rfl wd_434 wd_435 d_TH_shadow_27,
   ts_goto hC d_TH_shadow_30 (by decide),
   ts_iconst hC d_TH_shadow_33 (by decide),
   ts_iret hC rfl d_TH_shadow_34,
   trivial⟩
def fn_TH_shadow : tw_Fn := tw_fn 3 3 20 pr_TH_shadow
theorem con_TH_shadow : tw_Con y_TH_shadow b_TH_shadow 3 (some .int) 1 fn_TH_shadow := tw_met (by decide +kernel) (tw_fn_len (n := 3) (by decide)) (fun p l e s m args below meth c E D vs σ ρ hC h => tw_sound (ok_TH_shadow hC) 20 pr_TH_shadow (ok_TH_shadow hC) _ _ _ (tw_fn_get h))

-- TwinHost.user(I)Z: 13 instructions, depth 1, calls TH_isGuest
theorem d_TH_user_0 : decode b_TH_user 0 = .ok (.iload_n 1, 1) := by decide +kernel
theorem d_TH_user_1 : decode b_TH_user 1 = .ok (.invokestatic 20, 3) := by decide +kernel
theorem d_TH_user_4 : decode b_TH_user 4 = .ok (.ifCond .eq 19, 3) := by decide +kernel
theorem d_TH_user_7 : decode b_TH_user 7 = .ok (.aload_n 0, 1) := by decide +kernel
theorem d_TH_user_8 : decode b_TH_user 8 = .ok (.getfield 16, 3) := by decide +kernel
theorem d_TH_user_11 : decode b_TH_user 11 = .ok (.iload_n 1, 1) := by decide +kernel
theorem d_TH_user_12 : decode b_TH_user 12 = .ok (.aaload, 1) := by decide +kernel
theorem d_TH_user_13 : decode b_TH_user 13 = .ok (.getfield 67, 3) := by decide +kernel
theorem d_TH_user_16 : decode b_TH_user 16 = .ok (.ifCond .eq 7, 3) := by decide +kernel
theorem d_TH_user_19 : decode b_TH_user 19 = .ok (.iconst 1, 1) := by decide +kernel
theorem d_TH_user_20 : decode b_TH_user 20 = .ok (.goto 4, 3) := by decide +kernel
theorem d_TH_user_23 : decode b_TH_user 23 = .ok (.iconst 0, 1) := by decide +kernel
theorem d_TH_user_24 : decode b_TH_user 24 = .ok (.ireturn, 1) := by decide +kernel
def pr_TH_user : List (Nat × tw_Op) := [(0, tw_il 1), (1, tw_cs 1 fn_TH_isGuest), (4, tw_ifeq 23), (7, tw_al 0), (8, tw_gr 20 21), (11, tw_il 1), (12, tw_ga), (13, tw_gi 0 7), (16, tw_ifeq 23), (19, tw_ic 1), (20, tw_jmp 24), (23, tw_ic 0), (24, tw_rz)]
set_option maxRecDepth 100000 in
set_option maxHeartbeats 4000000 in
theorem ok_TH_user {p : Program} {l : Launch} {e : Env} {s : State} {m : MethodId} {args : Array Value} {below : List Frame} {meth : Method} {c : Code} {E : tw_E} {D : va_G} {ρ : tw_R} (hC : tw_Cx p s m args meth c b_TH_user 2 (some .boolean) "TwinHost" E D) : tw_Ok p l e (tw_rmd 1) s m args below meth c 0 0 (MQ below (tw_Qc E D ρ) args s 0 0 (tw_A E)) 2 E D ρ pr_TH_user :=
  ⟨ts_iload_n hC d_TH_user_0 rfl,
   ts_calls hC con_TH_isGuest wd_183 wd_24 (by decide +kernel) ⟨by decide, by decide⟩ ⟨Nat.zero_le _, Nat.zero_le _⟩ wd_181 wd_182 d_TH_user_1,
   ts_ifeq hC d_TH_user_4 (by decide),
   ts_aload_n hC d_TH_user_7 rfl,
   ts_gr (j := 0) (C := R_TH) (T := T_TH) hC rfl rfl rfl (by decide) u_TH wd_164 rfl d_TH_user_8,
   ts_iload_n hC d_TH_user_11 rfl,
   ts_aaload hC d_TH_user_12,
   ts_gi (j := 7) (C := R_Gu) (T := T_Gu) hC rfl rfl rfl (by decide) u_Gu wd_146 rfl d_TH_user_13,
   ts_ifeq hC d_TH_user_16 (by decide),
   ts_iconst hC d_TH_user_19 (by decide),
   ts_goto hC d_TH_user_20 (by decide),
   ts_iconst hC d_TH_user_23 (by decide),
   ts_zret hC rfl d_TH_user_24,
   trivial⟩
def fn_TH_user : tw_Fn := tw_fn 2 2 15 pr_TH_user
theorem con_TH_user : tw_Con y_TH_user b_TH_user 2 (some .boolean) 1 fn_TH_user := tw_met (by decide +kernel) (tw_fn_len (n := 2) (by decide)) (fun p l e s m args below meth c E D vs σ ρ hC h => tw_sound (ok_TH_user hC) 15 pr_TH_user (ok_TH_user hC) _ _ _ (tw_fn_get h))

-- TwinHost$Walk.search([IIILTwinHost$Access;)I: 96 instructions, depth 1, calls En_isBroken En_pageNumber En_isLeaf
theorem d_Wa_search_0 : decode b_Wa_search 0 = .ok (.iload_n 2, 1) := by decide +kernel
theorem d_Wa_search_1 : decode b_Wa_search 1 = .ok (.bipush 8, 2) := by decide +kernel
theorem d_Wa_search_3 : decode b_Wa_search 3 = .ok (.if_icmp .lt 9, 3) := by decide +kernel
theorem d_Wa_search_6 : decode b_Wa_search 6 = .ok (.aload 4, 2) := by decide +kernel
theorem d_Wa_search_8 : decode b_Wa_search 8 = .ok (.getfield 9, 3) := by decide +kernel
theorem d_Wa_search_11 : decode b_Wa_search 11 = .ok (.ireturn, 1) := by decide +kernel
theorem d_Wa_search_12 : decode b_Wa_search 12 = .ok (.aload_n 0, 1) := by decide +kernel
theorem d_Wa_search_13 : decode b_Wa_search 13 = .ok (.iload_n 2, 1) := by decide +kernel
theorem d_Wa_search_14 : decode b_Wa_search 14 = .ok (.iconst 4, 1) := by decide +kernel
theorem d_Wa_search_15 : decode b_Wa_search 15 = .ok (.ishl, 1) := by decide +kernel
theorem d_Wa_search_16 : decode b_Wa_search 16 = .ok (.iload_n 3, 1) := by decide +kernel
theorem d_Wa_search_17 : decode b_Wa_search 17 = .ok (.bipush 6, 2) := by decide +kernel
theorem d_Wa_search_19 : decode b_Wa_search 19 = .ok (.ishr, 1) := by decide +kernel
theorem d_Wa_search_20 : decode b_Wa_search 20 = .ok (.iadd, 1) := by decide +kernel
theorem d_Wa_search_21 : decode b_Wa_search 21 = .ok (.putfield 15, 3) := by decide +kernel
theorem d_Wa_search_24 : decode b_Wa_search 24 = .ok (.aload_n 0, 1) := by decide +kernel
theorem d_Wa_search_25 : decode b_Wa_search 25 = .ok (.iconst (-1), 1) := by decide +kernel
theorem d_Wa_search_26 : decode b_Wa_search 26 = .ok (.putfield 22, 3) := by decide +kernel
theorem d_Wa_search_29 : decode b_Wa_search 29 = .ok (.aload_n 0, 1) := by decide +kernel
theorem d_Wa_search_30 : decode b_Wa_search 30 = .ok (.aload_n 0, 1) := by decide +kernel
theorem d_Wa_search_31 : decode b_Wa_search 31 = .ok (.getfield 15, 3) := by decide +kernel
theorem d_Wa_search_34 : decode b_Wa_search 34 = .ok (.putfield 25, 3) := by decide +kernel
theorem d_Wa_search_37 : decode b_Wa_search 37 = .ok (.aload_n 1, 1) := by decide +kernel
theorem d_Wa_search_38 : decode b_Wa_search 38 = .ok (.aload_n 0, 1) := by decide +kernel
theorem d_Wa_search_39 : decode b_Wa_search 39 = .ok (.getfield 15, 3) := by decide +kernel
theorem d_Wa_search_42 : decode b_Wa_search 42 = .ok (.iaload, 1) := by decide +kernel
theorem d_Wa_search_43 : decode b_Wa_search 43 = .ok (.istore 5, 2) := by decide +kernel
theorem d_Wa_search_45 : decode b_Wa_search 45 = .ok (.iload 5, 2) := by decide +kernel
theorem d_Wa_search_47 : decode b_Wa_search 47 = .ok (.invokestatic 28, 3) := by decide +kernel
theorem d_Wa_search_50 : decode b_Wa_search 50 = .ok (.ifCond .eq 9, 3) := by decide +kernel
theorem d_Wa_search_53 : decode b_Wa_search 53 = .ok (.aload 4, 2) := by decide +kernel
theorem d_Wa_search_55 : decode b_Wa_search 55 = .ok (.getfield 34, 3) := by decide +kernel
theorem d_Wa_search_58 : decode b_Wa_search 58 = .ok (.ireturn, 1) := by decide +kernel
theorem d_Wa_search_59 : decode b_Wa_search 59 = .ok (.iload 5, 2) := by decide +kernel
theorem d_Wa_search_61 : decode b_Wa_search 61 = .ok (.invokestatic 37, 3) := by decide +kernel
theorem d_Wa_search_64 : decode b_Wa_search 64 = .ok (.istore 6, 2) := by decide +kernel
theorem d_Wa_search_66 : decode b_Wa_search 66 = .ok (.iload_n 3, 1) := by decide +kernel
theorem d_Wa_search_67 : decode b_Wa_search 67 = .ok (.iconst 4, 1) := by decide +kernel
theorem d_Wa_search_68 : decode b_Wa_search 68 = .ok (.ishr, 1) := by decide +kernel
theorem d_Wa_search_69 : decode b_Wa_search 69 = .ok (.iconst 3, 1) := by decide +kernel
theorem d_Wa_search_70 : decode b_Wa_search 70 = .ok (.iand, 1) := by decide +kernel
theorem d_Wa_search_71 : decode b_Wa_search 71 = .ok (.istore 7, 2) := by decide +kernel
theorem d_Wa_search_73 : decode b_Wa_search 73 = .ok (.iload 5, 2) := by decide +kernel
theorem d_Wa_search_75 : decode b_Wa_search 75 = .ok (.invokestatic 41, 3) := by decide +kernel
theorem d_Wa_search_78 : decode b_Wa_search 78 = .ok (.ifCond .eq 29, 3) := by decide +kernel
theorem d_Wa_search_81 : decode b_Wa_search 81 = .ok (.aload_n 0, 1) := by decide +kernel
theorem d_Wa_search_82 : decode b_Wa_search 82 = .ok (.iload 6, 2) := by decide +kernel
theorem d_Wa_search_84 : decode b_Wa_search 84 = .ok (.iload 7, 2) := by decide +kernel
theorem d_Wa_search_86 : decode b_Wa_search 86 = .ok (.iadd, 1) := by decide +kernel
theorem d_Wa_search_87 : decode b_Wa_search 87 = .ok (.putfield 44, 3) := by decide +kernel
theorem d_Wa_search_90 : decode b_Wa_search 90 = .ok (.iload 6, 2) := by decide +kernel
theorem d_Wa_search_92 : decode b_Wa_search 92 = .ok (.iconst 4, 1) := by decide +kernel
theorem d_Wa_search_93 : decode b_Wa_search 93 = .ok (.irem, 1) := by decide +kernel
theorem d_Wa_search_94 : decode b_Wa_search 94 = .ok (.ifCond .ne 7, 3) := by decide +kernel
theorem d_Wa_search_97 : decode b_Wa_search 97 = .ok (.iconst 0, 1) := by decide +kernel
theorem d_Wa_search_98 : decode b_Wa_search 98 = .ok (.goto 8, 3) := by decide +kernel
theorem d_Wa_search_101 : decode b_Wa_search 101 = .ok (.aload 4, 2) := by decide +kernel
theorem d_Wa_search_103 : decode b_Wa_search 103 = .ok (.getfield 34, 3) := by decide +kernel
theorem d_Wa_search_106 : decode b_Wa_search 106 = .ok (.ireturn, 1) := by decide +kernel
theorem d_Wa_search_107 : decode b_Wa_search 107 = .ok (.iload 6, 2) := by decide +kernel
theorem d_Wa_search_109 : decode b_Wa_search 109 = .ok (.bipush 8, 2) := by decide +kernel
theorem d_Wa_search_111 : decode b_Wa_search 111 = .ok (.if_icmp .lt 9, 3) := by decide +kernel
theorem d_Wa_search_114 : decode b_Wa_search 114 = .ok (.aload 4, 2) := by decide +kernel
theorem d_Wa_search_116 : decode b_Wa_search 116 = .ok (.getfield 9, 3) := by decide +kernel
theorem d_Wa_search_119 : decode b_Wa_search 119 = .ok (.ireturn, 1) := by decide +kernel
theorem d_Wa_search_120 : decode b_Wa_search 120 = .ok (.aload_n 0, 1) := by decide +kernel
theorem d_Wa_search_121 : decode b_Wa_search 121 = .ok (.iload 6, 2) := by decide +kernel
theorem d_Wa_search_123 : decode b_Wa_search 123 = .ok (.iconst 4, 1) := by decide +kernel
theorem d_Wa_search_124 : decode b_Wa_search 124 = .ok (.ishl, 1) := by decide +kernel
theorem d_Wa_search_125 : decode b_Wa_search 125 = .ok (.iload 7, 2) := by decide +kernel
theorem d_Wa_search_127 : decode b_Wa_search 127 = .ok (.iadd, 1) := by decide +kernel
theorem d_Wa_search_128 : decode b_Wa_search 128 = .ok (.putfield 22, 3) := by decide +kernel
theorem d_Wa_search_131 : decode b_Wa_search 131 = .ok (.aload_n 0, 1) := by decide +kernel
theorem d_Wa_search_132 : decode b_Wa_search 132 = .ok (.aload_n 0, 1) := by decide +kernel
theorem d_Wa_search_133 : decode b_Wa_search 133 = .ok (.getfield 22, 3) := by decide +kernel
theorem d_Wa_search_136 : decode b_Wa_search 136 = .ok (.putfield 25, 3) := by decide +kernel
theorem d_Wa_search_139 : decode b_Wa_search 139 = .ok (.aload_n 1, 1) := by decide +kernel
theorem d_Wa_search_140 : decode b_Wa_search 140 = .ok (.aload_n 0, 1) := by decide +kernel
theorem d_Wa_search_141 : decode b_Wa_search 141 = .ok (.getfield 22, 3) := by decide +kernel
theorem d_Wa_search_144 : decode b_Wa_search 144 = .ok (.iaload, 1) := by decide +kernel
theorem d_Wa_search_145 : decode b_Wa_search 145 = .ok (.istore 8, 2) := by decide +kernel
theorem d_Wa_search_147 : decode b_Wa_search 147 = .ok (.aload_n 0, 1) := by decide +kernel
theorem d_Wa_search_148 : decode b_Wa_search 148 = .ok (.iload 8, 2) := by decide +kernel
theorem d_Wa_search_150 : decode b_Wa_search 150 = .ok (.invokestatic 37, 3) := by decide +kernel
theorem d_Wa_search_153 : decode b_Wa_search 153 = .ok (.putfield 44, 3) := by decide +kernel
theorem d_Wa_search_156 : decode b_Wa_search 156 = .ok (.iload 8, 2) := by decide +kernel
theorem d_Wa_search_158 : decode b_Wa_search 158 = .ok (.invokestatic 28, 3) := by decide +kernel
theorem d_Wa_search_161 : decode b_Wa_search 161 = .ok (.ifCond .ne 11, 3) := by decide +kernel
theorem d_Wa_search_164 : decode b_Wa_search 164 = .ok (.iload 8, 2) := by decide +kernel
theorem d_Wa_search_166 : decode b_Wa_search 166 = .ok (.invokestatic 41, 3) := by decide +kernel
theorem d_Wa_search_169 : decode b_Wa_search 169 = .ok (.ifCond .ne 11, 3) := by decide +kernel
theorem d_Wa_search_172 : decode b_Wa_search 172 = .ok (.aload 4, 2) := by decide +kernel
theorem d_Wa_search_174 : decode b_Wa_search 174 = .ok (.getfield 34, 3) := by decide +kernel
theorem d_Wa_search_177 : decode b_Wa_search 177 = .ok (.goto 4, 3) := by decide +kernel
theorem d_Wa_search_180 : decode b_Wa_search 180 = .ok (.iconst 0, 1) := by decide +kernel
theorem d_Wa_search_181 : decode b_Wa_search 181 = .ok (.ireturn, 1) := by decide +kernel
def pr_Wa_search : List (Nat × tw_Op) := [(0, tw_il 2), (1, tw_ic (8)), (3, tw_clt 12), (6, tw_al 4), (8, tw_ge 1), (11, tw_ri), (12, tw_al 0), (13, tw_il 2), (14, tw_ic 4), (15, tw_bin (fun x y => x <<< (y &&& 31))), (16, tw_il 3), (17, tw_ic (6)), (19, tw_bin (fun x y => x >>> (y &&& 31))), (20, tw_bin (· + ·)), (21, tw_pi 14 0), (24, tw_al 0), (25, tw_ic (-1)), (26, tw_pi 14 1), (29, tw_al 0), (30, tw_al 0), (31, tw_gi 14 0), (34, tw_pi 14 2), (37, tw_al 1), (38, tw_al 0), (39, tw_gi 14 0), (42, tw_ia), (43, tw_is 5), (45, tw_il 5), (47, tw_cs 1 fn_En_isBroken), (50, tw_ifeq 59), (53, tw_al 4), (55, tw_ge 2), (58, tw_ri), (59, tw_il 5), (61, tw_cs 1 fn_En_pageNumber), (64, tw_is 6), (66, tw_il 3), (67, tw_ic 4), (68, tw_bin (fun x y => x >>> (y &&& 31))), (69, tw_ic 3), (70, tw_bin (· &&& ·)), (71, tw_is 7), (73, tw_il 5), (75, tw_cs 1 fn_En_isLeaf), (78, tw_ifeq 107), (81, tw_al 0), (82, tw_il 6), (84, tw_il 7), (86, tw_bin (· + ·)), (87, tw_pi 14 3), (90, tw_il 6), (92, tw_ic 4), (93, tw_rem), (94, tw_ifne 101), (97, tw_ic 0), (98, tw_jmp 106), (101, tw_al 4), (103, tw_ge 2), (106, tw_ri), (107, tw_il 6), (109, tw_ic (8)), (111, tw_clt 120), (114, tw_al 4), (116, tw_ge 1), (119, tw_ri), (120, tw_al 0), (121, tw_il 6), (123, tw_ic 4), (124, tw_bin (fun x y => x <<< (y &&& 31))), (125, tw_il 7), (127, tw_bin (· + ·)), (128, tw_pi 14 1), (131, tw_al 0), (132, tw_al 0), (133, tw_gi 14 1), (136, tw_pi 14 2), (139, tw_al 1), (140, tw_al 0), (141, tw_gi 14 1), (144, tw_ia), (145, tw_is 8), (147, tw_al 0), (148, tw_il 8), (150, tw_cs 1 fn_En_pageNumber), (153, tw_pi 14 3), (156, tw_il 8), (158, tw_cs 1 fn_En_isBroken), (161, tw_ifne 172), (164, tw_il 8), (166, tw_cs 1 fn_En_isLeaf), (169, tw_ifne 180), (172, tw_al 4), (174, tw_ge 2), (177, tw_jmp 181), (180, tw_ic 0), (181, tw_ri)]
set_option maxRecDepth 100000 in
set_option maxHeartbeats 4000000 in
theorem ok_Wa_search {p : Program} {l : Launch} {e : Env} {s : State} {m : MethodId} {args : Array Value} {below : List Frame} {meth : Method} {c : Code} {E : tw_E} {D : va_G} {ρ : tw_R} (hC : tw_Cx p s m args meth c b_Wa_search 9 (some .int) "TwinHost$Walk" E D) : tw_Ok p l e (tw_rmd 1) s m args below meth c 0 0 (MQ below (tw_Qc E D ρ) args s 0 0 (tw_A E)) 9 E D ρ pr_Wa_search :=
  ⟨ts_iload_n hC d_Wa_search_0 rfl,
   ts_bipush hC d_Wa_search_1 (by decide),
   ts_clt hC d_Wa_search_3 (by decide),
   ts_aload hC d_Wa_search_6,
   ts_ge (q0 := ("TwinHost$Access", "outside", "I", [1, 5, 7])) hC (by decide) (by decide) rfl wd_684 d_Wa_search_8,
   ts_iret hC rfl d_Wa_search_11,
   ts_aload_n hC d_Wa_search_12 rfl,
   ts_iload_n hC d_Wa_search_13 rfl,
   ts_iconst hC d_Wa_search_14 (by decide),
   ts_ishl hC d_Wa_search_15,
   ts_iload_n hC d_Wa_search_16 rfl,
   ts_bipush hC d_Wa_search_17 (by decide),
   ts_ishr hC d_Wa_search_19,
   ts_iadd hC d_Wa_search_20,
   ts_pi (j := 0) (C := R_Wa) (T := T_Wa) hC rfl rfl rfl (by decide) u_Wa wd_114 rfl t_Wa_ok n_Wa rfl (by decide +kernel) d_Wa_search_21,
   ts_aload_n hC d_Wa_search_24 rfl,
   ts_iconst hC d_Wa_search_25 (by decide),
   ts_pi (j := 1) (C := R_Wa) (T := T_Wa) hC rfl rfl rfl (by decide) u_Wa wd_116 rfl t_Wa_ok n_Wa rfl (by decide +kernel) d_Wa_search_26,
   ts_aload_n hC d_Wa_search_29 rfl,
   ts_aload_n hC d_Wa_search_30 rfl,
   ts_gi (j := 0) (C := R_Wa) (T := T_Wa) hC rfl rfl rfl (by decide) u_Wa wd_114 rfl d_Wa_search_31,
   ts_pi (j := 2) (C := R_Wa) (T := T_Wa) hC rfl rfl rfl (by decide) u_Wa wd_118 rfl t_Wa_ok n_Wa rfl (by decide +kernel) d_Wa_search_34,
   ts_aload_n hC d_Wa_search_37 rfl,
   ts_aload_n hC d_Wa_search_38 rfl,
   ts_gi (j := 0) (C := R_Wa) (T := T_Wa) hC rfl rfl rfl (by decide) u_Wa wd_114 rfl d_Wa_search_39,
   ts_iaload hC d_Wa_search_42,
   ts_istore hC d_Wa_search_43 (by decide),
   ts_iload hC d_Wa_search_45,
   ts_calls hC con_En_isBroken wd_333 wd_34 (by decide +kernel) ⟨by decide, by decide⟩ ⟨Nat.zero_le _, Nat.zero_le _⟩ wd_331 wd_332 d_Wa_search_47,
   ts_ifeq hC d_Wa_search_50 (by decide),
   ts_aload hC d_Wa_search_53,
   ts_ge (q0 := ("TwinHost$Access", "pageFault", "I", [12, 13, 15])) hC (by decide) (by decide) rfl wd_685 d_Wa_search_55,
   ts_iret hC rfl d_Wa_search_58,
   ts_iload hC d_Wa_search_59,
   ts_calls hC con_En_pageNumber wd_336 wd_34 (by decide +kernel) ⟨by decide, by decide⟩ ⟨Nat.zero_le _, Nat.zero_le _⟩ wd_334 wd_335 d_Wa_search_61,
   ts_istore hC d_Wa_search_64 (by decide),
   ts_iload_n hC d_Wa_search_66 rfl,
   ts_iconst hC d_Wa_search_67 (by decide),
   ts_ishr hC d_Wa_search_68,
   ts_iconst hC d_Wa_search_69 (by decide),
   ts_iand hC d_Wa_search_70,
   ts_istore hC d_Wa_search_71 (by decide),
   ts_iload hC d_Wa_search_73,
   ts_calls hC con_En_isLeaf wd_339 wd_34 (by decide +kernel) ⟨by decide, by decide⟩ ⟨Nat.zero_le _, Nat.zero_le _⟩ wd_337 wd_338 d_Wa_search_75,
   ts_ifeq hC d_Wa_search_78 (by decide),
   ts_aload_n hC d_Wa_search_81 rfl,
   ts_iload hC d_Wa_search_82,
   ts_iload hC d_Wa_search_84,
   ts_iadd hC d_Wa_search_86,
   ts_pi (j := 3) (C := R_Wa) (T := T_Wa) hC rfl rfl rfl (by decide) u_Wa wd_120 rfl t_Wa_ok n_Wa rfl (by decide +kernel) d_Wa_search_87,
   ts_iload hC d_Wa_search_90,
   ts_iconst hC d_Wa_search_92 (by decide),
   ts_irem hC d_Wa_search_93,
   ts_ifne hC d_Wa_search_94 (by decide),
   ts_iconst hC d_Wa_search_97 (by decide),
   ts_goto hC d_Wa_search_98 (by decide),
   ts_aload hC d_Wa_search_101,
   ts_ge (q0 := ("TwinHost$Access", "pageFault", "I", [12, 13, 15])) hC (by decide) (by decide) rfl wd_685 d_Wa_search_103,
   ts_iret hC rfl d_Wa_search_106,
   ts_iload hC d_Wa_search_107,
   ts_bipush hC d_Wa_search_109 (by decide),
   ts_clt hC d_Wa_search_111 (by decide),
   ts_aload hC d_Wa_search_114,
   ts_ge (q0 := ("TwinHost$Access", "outside", "I", [1, 5, 7])) hC (by decide) (by decide) rfl wd_684 d_Wa_search_116,
   ts_iret hC rfl d_Wa_search_119,
   ts_aload_n hC d_Wa_search_120 rfl,
   ts_iload hC d_Wa_search_121,
   ts_iconst hC d_Wa_search_123 (by decide),
   ts_ishl hC d_Wa_search_124,
   ts_iload hC d_Wa_search_125,
   ts_iadd hC d_Wa_search_127,
   ts_pi (j := 1) (C := R_Wa) (T := T_Wa) hC rfl rfl rfl (by decide) u_Wa wd_116 rfl t_Wa_ok n_Wa rfl (by decide +kernel) d_Wa_search_128,
   ts_aload_n hC d_Wa_search_131 rfl,
   ts_aload_n hC d_Wa_search_132 rfl,
   ts_gi (j := 1) (C := R_Wa) (T := T_Wa) hC rfl rfl rfl (by decide) u_Wa wd_116 rfl d_Wa_search_133,
   ts_pi (j := 2) (C := R_Wa) (T := T_Wa) hC rfl rfl rfl (by decide) u_Wa wd_118 rfl t_Wa_ok n_Wa rfl (by decide +kernel) d_Wa_search_136,
   ts_aload_n hC d_Wa_search_139 rfl,
   ts_aload_n hC d_Wa_search_140 rfl,
   ts_gi (j := 1) (C := R_Wa) (T := T_Wa) hC rfl rfl rfl (by decide) u_Wa wd_116 rfl d_Wa_search_141,
   ts_iaload hC d_Wa_search_144,
   ts_istore hC d_Wa_search_145 (by decide),
   ts_aload_n hC d_Wa_search_147 rfl,
   ts_iload hC d_Wa_search_148,
   ts_calls hC con_En_pageNumber wd_336 wd_34 (by decide +kernel) ⟨by decide, by decide⟩ ⟨Nat.zero_le _, Nat.zero_le _⟩ wd_334 wd_335 d_Wa_search_150,
   ts_pi (j := 3) (C := R_Wa) (T := T_Wa) hC rfl rfl rfl (by decide) u_Wa wd_120 rfl t_Wa_ok n_Wa rfl (by decide +kernel) d_Wa_search_153,
   ts_iload hC d_Wa_search_156,
   ts_calls hC con_En_isBroken wd_333 wd_34 (by decide +kernel) ⟨by decide, by decide⟩ ⟨Nat.zero_le _, Nat.zero_le _⟩ wd_331 wd_332 d_Wa_search_158,
   ts_ifne hC d_Wa_search_161 (by decide),
   ts_iload hC d_Wa_search_164,
   ts_calls hC con_En_isLeaf wd_339 wd_34 (by decide +kernel) ⟨by decide, by decide⟩ ⟨Nat.zero_le _, Nat.zero_le _⟩ wd_337 wd_338 d_Wa_search_166,
   ts_ifne hC d_Wa_search_169 (by decide),
   ts_aload hC d_Wa_search_172,
   ts_ge (q0 := ("TwinHost$Access", "pageFault", "I", [12, 13, 15])) hC (by decide) (by decide) rfl wd_685 d_Wa_search_174,
   ts_goto hC d_Wa_search_177 (by decide),
   ts_iconst hC d_Wa_search_180 (by decide),
   ts_iret hC rfl d_Wa_search_181,
   trivial⟩
def fn_Wa_search : tw_Fn := tw_fn 5 9 98 pr_Wa_search
theorem con_Wa_search : tw_Con y_Wa_search b_Wa_search 9 (some .int) 1 fn_Wa_search := tw_met (by decide +kernel) (tw_fn_len (n := 5) (by decide)) (fun p l e s m args below meth c E D vs σ ρ hC h => tw_sound (ok_Wa_search hC) 98 pr_Wa_search (ok_Wa_search hC) _ _ _ (tw_fn_get h))
end
section
-- TwinHost$Controls.dueBits()I: 8 instructions, depth 2, calls Co_pendingBits
theorem d_Co_dueBits_0 : decode b_Co_dueBits 0 = .ok (.aload_n 0, 1) := by decide +kernel
theorem d_Co_dueBits_1 : decode b_Co_dueBits 1 = .ok (.getfield 9, 3) := by decide +kernel
theorem d_Co_dueBits_4 : decode b_Co_dueBits 4 = .ok (.bipush 7, 2) := by decide +kernel
theorem d_Co_dueBits_6 : decode b_Co_dueBits 6 = .ok (.iaload, 1) := by decide +kernel
theorem d_Co_dueBits_7 : decode b_Co_dueBits 7 = .ok (.aload_n 0, 1) := by decide +kernel
theorem d_Co_dueBits_8 : decode b_Co_dueBits 8 = .ok (.invokevirtual 25, 3) := by decide +kernel
theorem d_Co_dueBits_11 : decode b_Co_dueBits 11 = .ok (.iand, 1) := by decide +kernel
theorem d_Co_dueBits_12 : decode b_Co_dueBits 12 = .ok (.ireturn, 1) := by decide +kernel
def pr_Co_dueBits : List (Nat × tw_Op) := [(0, tw_al 0), (1, tw_gr 4 5), (4, tw_ic (7)), (6, tw_ia), (7, tw_al 0), (8, tw_cv 0 4 fn_Co_pendingBits), (11, tw_bin (· &&& ·)), (12, tw_ri)]
set_option maxRecDepth 100000 in
set_option maxHeartbeats 4000000 in
theorem ok_Co_dueBits {p : Program} {l : Launch} {e : Env} {s : State} {m : MethodId} {args : Array Value} {below : List Frame} {meth : Method} {c : Code} {E : tw_E} {D : va_G} {ρ : tw_R} (hC : tw_Cx p s m args meth c b_Co_dueBits 1 (some .int) "TwinHost$Controls" E D) : tw_Ok p l e (tw_rmd 2) s m args below meth c 0 0 (MQ below (tw_Qc E D ρ) args s 0 0 (tw_A E)) 1 E D ρ pr_Co_dueBits :=
  ⟨ts_aload_n hC d_Co_dueBits_0 rfl,
   ts_gr (j := 0) (C := R_Co) (T := T_Co) hC rfl rfl rfl (by decide) u_Co wd_75 rfl d_Co_dueBits_1,
   ts_bipush hC d_Co_dueBits_4 (by decide),
   ts_iaload hC d_Co_dueBits_6,
   ts_aload_n hC d_Co_dueBits_7 rfl,
   ts_callv (C := R_Co) (T := T_Co) hC con_Co_pendingBits wd_252 wd_26 (by decide +kernel) ⟨by decide, by decide⟩ ⟨Nat.zero_le _, Nat.zero_le _⟩ wd_249 rfl rfl wd_250 wd_251 d_Co_dueBits_8,
   ts_iand hC d_Co_dueBits_11,
   ts_iret hC rfl d_Co_dueBits_12,
   trivial⟩
def fn_Co_dueBits : tw_Fn := tw_fn 1 1 10 pr_Co_dueBits
theorem con_Co_dueBits : tw_Con y_Co_dueBits b_Co_dueBits 1 (some .int) 2 fn_Co_dueBits := tw_met (by decide +kernel) (tw_fn_len (n := 1) (by decide)) (fun p l e s m args below meth c E D vs σ ρ hC h => tw_sound (ok_Co_dueBits hC) 10 pr_Co_dueBits (ok_Co_dueBits hC) _ _ _ (tw_fn_get h))

-- TwinHost$Controls.look(I)I: 26 instructions, depth 2, calls Co_pendingBits In_isThere
theorem d_Co_look_0 : decode b_Co_look 0 = .ok (.iload_n 1, 1) := by decide +kernel
theorem d_Co_look_1 : decode b_Co_look 1 = .ok (.lookupswitch 63 #[(8, 27), (11, 32)], 27) := by decide +kernel
theorem d_Co_look_28 : decode b_Co_look 28 = .ok (.aload_n 0, 1) := by decide +kernel
theorem d_Co_look_29 : decode b_Co_look 29 = .ok (.invokevirtual 25, 3) := by decide +kernel
theorem d_Co_look_32 : decode b_Co_look 32 = .ok (.ireturn, 1) := by decide +kernel
theorem d_Co_look_33 : decode b_Co_look 33 = .ok (.aload_n 0, 1) := by decide +kernel
theorem d_Co_look_34 : decode b_Co_look 34 = .ok (.getfield 16, 3) := by decide +kernel
theorem d_Co_look_37 : decode b_Co_look 37 = .ok (.aload_n 0, 1) := by decide +kernel
theorem d_Co_look_38 : decode b_Co_look 38 = .ok (.getfield 9, 3) := by decide +kernel
theorem d_Co_look_41 : decode b_Co_look 41 = .ok (.bipush 10, 2) := by decide +kernel
theorem d_Co_look_43 : decode b_Co_look 43 = .ok (.iaload, 1) := by decide +kernel
theorem d_Co_look_44 : decode b_Co_look 44 = .ok (.invokevirtual 29, 3) := by decide +kernel
theorem d_Co_look_47 : decode b_Co_look 47 = .ok (.ifCond .eq 15, 3) := by decide +kernel
theorem d_Co_look_50 : decode b_Co_look 50 = .ok (.aload_n 0, 1) := by decide +kernel
theorem d_Co_look_51 : decode b_Co_look 51 = .ok (.getfield 16, 3) := by decide +kernel
theorem d_Co_look_54 : decode b_Co_look 54 = .ok (.getfield 32, 3) := by decide +kernel
theorem d_Co_look_57 : decode b_Co_look 57 = .ok (.iconst 0, 1) := by decide +kernel
theorem d_Co_look_58 : decode b_Co_look 58 = .ok (.iaload, 1) := by decide +kernel
theorem d_Co_look_59 : decode b_Co_look 59 = .ok (.goto 4, 3) := by decide +kernel
theorem d_Co_look_62 : decode b_Co_look 62 = .ok (.iconst 0, 1) := by decide +kernel
theorem d_Co_look_63 : decode b_Co_look 63 = .ok (.ireturn, 1) := by decide +kernel
theorem d_Co_look_64 : decode b_Co_look 64 = .ok (.aload_n 0, 1) := by decide +kernel
theorem d_Co_look_65 : decode b_Co_look 65 = .ok (.getfield 9, 3) := by decide +kernel
theorem d_Co_look_68 : decode b_Co_look 68 = .ok (.iload_n 1, 1) := by decide +kernel
theorem d_Co_look_69 : decode b_Co_look 69 = .ok (.iaload, 1) := by decide +kernel
theorem d_Co_look_70 : decode b_Co_look 70 = .ok (.ireturn, 1) := by decide +kernel
def pr_Co_look : List (Nat × tw_Op) := [(0, tw_il 1), (1, tw_sw [(8, 28), (11, 33)] 64), (28, tw_al 0), (29, tw_cv 0 4 fn_Co_pendingBits), (32, tw_ri), (33, tw_al 0), (34, tw_gr 4 6), (37, tw_al 0), (38, tw_gr 4 5), (41, tw_ic (10)), (43, tw_ia), (44, tw_cv 1 6 fn_In_isThere), (47, tw_ifeq 62), (50, tw_al 0), (51, tw_gr 4 6), (54, tw_gr 6 8), (57, tw_ic 0), (58, tw_ia), (59, tw_jmp 63), (62, tw_ic 0), (63, tw_ri), (64, tw_al 0), (65, tw_gr 4 5), (68, tw_il 1), (69, tw_ia), (70, tw_ri)]
set_option maxRecDepth 100000 in
set_option maxHeartbeats 4000000 in
theorem ok_Co_look {p : Program} {l : Launch} {e : Env} {s : State} {m : MethodId} {args : Array Value} {below : List Frame} {meth : Method} {c : Code} {E : tw_E} {D : va_G} {ρ : tw_R} (hC : tw_Cx p s m args meth c b_Co_look 2 (some .int) "TwinHost$Controls" E D) : tw_Ok p l e (tw_rmd 2) s m args below meth c 0 0 (MQ below (tw_Qc E D ρ) args s 0 0 (tw_A E)) 2 E D ρ pr_Co_look :=
  ⟨ts_iload_n hC d_Co_look_0 rfl,
   ts_lookup hC _ d_Co_look_1 (by decide +kernel) (by decide) rfl (by decide +kernel),
   ts_aload_n hC d_Co_look_28 rfl,
   ts_callv (C := R_Co) (T := T_Co) hC con_Co_pendingBits wd_252 wd_26 (by decide +kernel) ⟨by decide, by decide⟩ ⟨Nat.zero_le _, Nat.zero_le _⟩ wd_249 rfl rfl wd_250 wd_251 d_Co_look_29,
   ts_iret hC rfl d_Co_look_32,
   ts_aload_n hC d_Co_look_33 rfl,
   ts_gr (j := 1) (C := R_Co) (T := T_Co) hC rfl rfl rfl (by decide) u_Co wd_77 rfl d_Co_look_34,
   ts_aload_n hC d_Co_look_37 rfl,
   ts_gr (j := 0) (C := R_Co) (T := T_Co) hC rfl rfl rfl (by decide) u_Co wd_75 rfl d_Co_look_38,
   ts_bipush hC d_Co_look_41 (by decide),
   ts_iaload hC d_Co_look_43,
   ts_callv (C := R_In) (T := T_In) hC con_In_isThere wd_256 wd_27 (by decide +kernel) ⟨by decide, by decide⟩ ⟨Nat.zero_le _, Nat.zero_le _⟩ wd_253 rfl rfl wd_254 wd_255 d_Co_look_44,
   ts_ifeq hC d_Co_look_47 (by decide),
   ts_aload_n hC d_Co_look_50 rfl,
   ts_gr (j := 1) (C := R_Co) (T := T_Co) hC rfl rfl rfl (by decide) u_Co wd_77 rfl d_Co_look_51,
   ts_gr (j := 1) (C := R_In) (T := T_In) hC rfl rfl rfl (by decide) u_In wd_64 rfl d_Co_look_54,
   ts_iconst hC d_Co_look_57 (by decide),
   ts_iaload hC d_Co_look_58,
   ts_goto hC d_Co_look_59 (by decide),
   ts_iconst hC d_Co_look_62 (by decide),
   ts_iret hC rfl d_Co_look_63,
   ts_aload_n hC d_Co_look_64 rfl,
   ts_gr (j := 0) (C := R_Co) (T := T_Co) hC rfl rfl rfl (by decide) u_Co wd_75 rfl d_Co_look_65,
   ts_iload_n hC d_Co_look_68 rfl,
   ts_iaload hC d_Co_look_69,
   ts_iret hC rfl d_Co_look_70,
   trivial⟩
def fn_Co_look : tw_Fn := tw_fn 2 2 28 pr_Co_look
theorem con_Co_look : tw_Con y_Co_look b_Co_look 2 (some .int) 2 fn_Co_look := tw_met (by decide +kernel) (tw_fn_len (n := 2) (by decide)) (fun p l e s m args below meth c E D vs σ ρ hC h => tw_sound (ok_Co_look hC) 28 pr_Co_look (ok_Co_look hC) _ _ _ (tw_fn_get h))

-- TwinHost$Guest.reach(ILTwinHost$Access;)I: 79 instructions, depth 2, calls Co_translates TH_isWord Co_isOn Sh_letsThrough Wa_search Gu_fill
theorem d_Gu_reach_0 : decode b_Gu_reach 0 = .ok (.aload_n 0, 1) := by decide +kernel
theorem d_Gu_reach_1 : decode b_Gu_reach 1 = .ok (.getfield 26, 3) := by decide +kernel
theorem d_Gu_reach_4 : decode b_Gu_reach 4 = .ok (.invokevirtual 165, 3) := by decide +kernel
theorem d_Gu_reach_7 : decode b_Gu_reach 7 = .ok (.ifCond .ne 20, 3) := by decide +kernel
theorem d_Gu_reach_10 : decode b_Gu_reach 10 = .ok (.iload_n 1, 1) := by decide +kernel
theorem d_Gu_reach_11 : decode b_Gu_reach 11 = .ok (.invokestatic 168, 3) := by decide +kernel
theorem d_Gu_reach_14 : decode b_Gu_reach 14 = .ok (.ifCond .eq 7, 3) := by decide +kernel
theorem d_Gu_reach_17 : decode b_Gu_reach 17 = .ok (.iload_n 1, 1) := by decide +kernel
theorem d_Gu_reach_18 : decode b_Gu_reach 18 = .ok (.goto 8, 3) := by decide +kernel
theorem d_Gu_reach_21 : decode b_Gu_reach 21 = .ok (.aload_n 2, 1) := by decide +kernel
theorem d_Gu_reach_22 : decode b_Gu_reach 22 = .ok (.getfield 171, 3) := by decide +kernel
theorem d_Gu_reach_25 : decode b_Gu_reach 25 = .ok (.ineg, 1) := by decide +kernel
theorem d_Gu_reach_26 : decode b_Gu_reach 26 = .ok (.ireturn, 1) := by decide +kernel
theorem d_Gu_reach_27 : decode b_Gu_reach 27 = .ok (.iload_n 1, 1) := by decide +kernel
theorem d_Gu_reach_28 : decode b_Gu_reach 28 = .ok (.ifCond .lt 10, 3) := by decide +kernel
theorem d_Gu_reach_31 : decode b_Gu_reach 31 = .ok (.iload_n 1, 1) := by decide +kernel
theorem d_Gu_reach_32 : decode b_Gu_reach 32 = .ok (.sipush 256, 3) := by decide +kernel
theorem d_Gu_reach_35 : decode b_Gu_reach 35 = .ok (.if_icmp .lt 9, 3) := by decide +kernel
theorem d_Gu_reach_38 : decode b_Gu_reach 38 = .ok (.aload_n 2, 1) := by decide +kernel
theorem d_Gu_reach_39 : decode b_Gu_reach 39 = .ok (.getfield 174, 3) := by decide +kernel
theorem d_Gu_reach_42 : decode b_Gu_reach 42 = .ok (.ineg, 1) := by decide +kernel
theorem d_Gu_reach_43 : decode b_Gu_reach 43 = .ok (.ireturn, 1) := by decide +kernel
theorem d_Gu_reach_44 : decode b_Gu_reach 44 = .ok (.iload_n 1, 1) := by decide +kernel
theorem d_Gu_reach_45 : decode b_Gu_reach 45 = .ok (.iconst 4, 1) := by decide +kernel
theorem d_Gu_reach_46 : decode b_Gu_reach 46 = .ok (.ishr, 1) := by decide +kernel
theorem d_Gu_reach_47 : decode b_Gu_reach 47 = .ok (.istore_n 3, 1) := by decide +kernel
theorem d_Gu_reach_48 : decode b_Gu_reach 48 = .ok (.aload_n 0, 1) := by decide +kernel
theorem d_Gu_reach_49 : decode b_Gu_reach 49 = .ok (.getfield 33, 3) := by decide +kernel
theorem d_Gu_reach_52 : decode b_Gu_reach 52 = .ok (.iload_n 3, 1) := by decide +kernel
theorem d_Gu_reach_53 : decode b_Gu_reach 53 = .ok (.aload_n 2, 1) := by decide +kernel
theorem d_Gu_reach_54 : decode b_Gu_reach 54 = .ok (.aload_n 0, 1) := by decide +kernel
theorem d_Gu_reach_55 : decode b_Gu_reach 55 = .ok (.getfield 48, 3) := by decide +kernel
theorem d_Gu_reach_58 : decode b_Gu_reach 58 = .ok (.aload_n 0, 1) := by decide +kernel
theorem d_Gu_reach_59 : decode b_Gu_reach 59 = .ok (.getfield 26, 3) := by decide +kernel
theorem d_Gu_reach_62 : decode b_Gu_reach 62 = .ok (.bipush 8, 2) := by decide +kernel
theorem d_Gu_reach_64 : decode b_Gu_reach 64 = .ok (.invokevirtual 52, 3) := by decide +kernel
theorem d_Gu_reach_67 : decode b_Gu_reach 67 = .ok (.invokevirtual 177, 3) := by decide +kernel
theorem d_Gu_reach_70 : decode b_Gu_reach 70 = .ok (.ifCond .ne 57, 3) := by decide +kernel
theorem d_Gu_reach_73 : decode b_Gu_reach 73 = .ok (.aload_n 0, 1) := by decide +kernel
theorem d_Gu_reach_74 : decode b_Gu_reach 74 = .ok (.getfield 26, 3) := by decide +kernel
theorem d_Gu_reach_77 : decode b_Gu_reach 77 = .ok (.getfield 123, 3) := by decide +kernel
theorem d_Gu_reach_80 : decode b_Gu_reach 80 = .ok (.bipush 6, 2) := by decide +kernel
theorem d_Gu_reach_82 : decode b_Gu_reach 82 = .ok (.iaload, 1) := by decide +kernel
theorem d_Gu_reach_83 : decode b_Gu_reach 83 = .ok (.bipush 15, 2) := by decide +kernel
theorem d_Gu_reach_85 : decode b_Gu_reach 85 = .ok (.iand, 1) := by decide +kernel
theorem d_Gu_reach_86 : decode b_Gu_reach 86 = .ok (.istore 4, 2) := by decide +kernel
theorem d_Gu_reach_88 : decode b_Gu_reach 88 = .ok (.aload_n 0, 1) := by decide +kernel
theorem d_Gu_reach_89 : decode b_Gu_reach 89 = .ok (.getfield 40, 3) := by decide +kernel
theorem d_Gu_reach_92 : decode b_Gu_reach 92 = .ok (.aload_n 0, 1) := by decide +kernel
theorem d_Gu_reach_93 : decode b_Gu_reach 93 = .ok (.getfield 9, 3) := by decide +kernel
theorem d_Gu_reach_96 : decode b_Gu_reach 96 = .ok (.iload 4, 2) := by decide +kernel
theorem d_Gu_reach_98 : decode b_Gu_reach 98 = .ok (.iload_n 1, 1) := by decide +kernel
theorem d_Gu_reach_99 : decode b_Gu_reach 99 = .ok (.aload_n 2, 1) := by decide +kernel
theorem d_Gu_reach_100 : decode b_Gu_reach 100 = .ok (.invokevirtual 181, 3) := by decide +kernel
theorem d_Gu_reach_103 : decode b_Gu_reach 103 = .ok (.istore 5, 2) := by decide +kernel
theorem d_Gu_reach_105 : decode b_Gu_reach 105 = .ok (.iload 5, 2) := by decide +kernel
theorem d_Gu_reach_107 : decode b_Gu_reach 107 = .ok (.ifCond .ne 11, 3) := by decide +kernel
theorem d_Gu_reach_110 : decode b_Gu_reach 110 = .ok (.aload_n 0, 1) := by decide +kernel
theorem d_Gu_reach_111 : decode b_Gu_reach 111 = .ok (.iload_n 3, 1) := by decide +kernel
theorem d_Gu_reach_112 : decode b_Gu_reach 112 = .ok (.aload_n 2, 1) := by decide +kernel
theorem d_Gu_reach_113 : decode b_Gu_reach 113 = .ok (.invokevirtual 185, 3) := by decide +kernel
theorem d_Gu_reach_116 : decode b_Gu_reach 116 = .ok (.istore 5, 2) := by decide +kernel
theorem d_Gu_reach_118 : decode b_Gu_reach 118 = .ok (.iload 5, 2) := by decide +kernel
theorem d_Gu_reach_120 : decode b_Gu_reach 120 = .ok (.ifCond .eq 7, 3) := by decide +kernel
theorem d_Gu_reach_123 : decode b_Gu_reach 123 = .ok (.iload 5, 2) := by decide +kernel
theorem d_Gu_reach_125 : decode b_Gu_reach 125 = .ok (.ineg, 1) := by decide +kernel
theorem d_Gu_reach_126 : decode b_Gu_reach 126 = .ok (.ireturn, 1) := by decide +kernel
theorem d_Gu_reach_127 : decode b_Gu_reach 127 = .ok (.aload_n 0, 1) := by decide +kernel
theorem d_Gu_reach_128 : decode b_Gu_reach 128 = .ok (.getfield 33, 3) := by decide +kernel
theorem d_Gu_reach_131 : decode b_Gu_reach 131 = .ok (.getfield 188, 3) := by decide +kernel
theorem d_Gu_reach_134 : decode b_Gu_reach 134 = .ok (.iload_n 3, 1) := by decide +kernel
theorem d_Gu_reach_135 : decode b_Gu_reach 135 = .ok (.iaload, 1) := by decide +kernel
theorem d_Gu_reach_136 : decode b_Gu_reach 136 = .ok (.iconst 4, 1) := by decide +kernel
theorem d_Gu_reach_137 : decode b_Gu_reach 137 = .ok (.ishl, 1) := by decide +kernel
theorem d_Gu_reach_138 : decode b_Gu_reach 138 = .ok (.iload_n 1, 1) := by decide +kernel
theorem d_Gu_reach_139 : decode b_Gu_reach 139 = .ok (.bipush 15, 2) := by decide +kernel
theorem d_Gu_reach_141 : decode b_Gu_reach 141 = .ok (.iand, 1) := by decide +kernel
theorem d_Gu_reach_142 : decode b_Gu_reach 142 = .ok (.iadd, 1) := by decide +kernel
theorem d_Gu_reach_143 : decode b_Gu_reach 143 = .ok (.ireturn, 1) := by decide +kernel
def pr_Gu_reach : List (Nat × tw_Op) := [(0, tw_al 0), (1, tw_gr 0 4), (4, tw_cv 0 4 fn_Co_translates), (7, tw_ifne 27), (10, tw_il 1), (11, tw_cs 1 fn_TH_isWord), (14, tw_ifeq 21), (17, tw_il 1), (18, tw_jmp 26), (21, tw_al 2), (22, tw_ge 1), (25, tw_neg), (26, tw_ri), (27, tw_il 1), (28, tw_iflt 38), (31, tw_il 1), (32, tw_ic (256)), (35, tw_clt 44), (38, tw_al 2), (39, tw_ge 2), (42, tw_neg), (43, tw_ri), (44, tw_il 1), (45, tw_ic 4), (46, tw_bin (fun x y => x >>> (y &&& 31))), (47, tw_is 3), (48, tw_al 0), (49, tw_gr 0 9), (52, tw_il 3), (53, tw_al 2), (54, tw_al 0), (55, tw_gi 0 7), (58, tw_al 0), (59, tw_gr 0 4), (62, tw_ic (8)), (64, tw_cv 1 4 fn_Co_isOn), (67, tw_cv 4 9 fn_Sh_letsThrough), (70, tw_ifne 127), (73, tw_al 0), (74, tw_gr 0 4), (77, tw_gr 4 5), (80, tw_ic (6)), (82, tw_ia), (83, tw_ic (15)), (85, tw_bin (· &&& ·)), (86, tw_is 4), (88, tw_al 0), (89, tw_gr 0 14), (92, tw_al 0), (93, tw_gr 0 1), (96, tw_il 4), (98, tw_il 1), (99, tw_al 2), (100, tw_cv 4 14 fn_Wa_search), (103, tw_is 5), (105, tw_il 5), (107, tw_ifne 118), (110, tw_al 0), (111, tw_il 3), (112, tw_al 2), (113, tw_cv 2 0 fn_Gu_fill), (116, tw_is 5), (118, tw_il 5), (120, tw_ifeq 127), (123, tw_il 5), (125, tw_neg), (126, tw_ri), (127, tw_al 0), (128, tw_gr 0 9), (131, tw_gr 9 10), (134, tw_il 3), (135, tw_ia), (136, tw_ic 4), (137, tw_bin (fun x y => x <<< (y &&& 31))), (138, tw_il 1), (139, tw_ic (15)), (141, tw_bin (· &&& ·)), (142, tw_bin (· + ·)), (143, tw_ri)]
set_option maxRecDepth 100000 in
set_option maxHeartbeats 4000000 in
theorem ok_Gu_reach {p : Program} {l : Launch} {e : Env} {s : State} {m : MethodId} {args : Array Value} {below : List Frame} {meth : Method} {c : Code} {E : tw_E} {D : va_G} {ρ : tw_R} (hC : tw_Cx p s m args meth c b_Gu_reach 6 (some .int) "TwinHost$Guest" E D) : tw_Ok p l e (tw_rmd 2) s m args below meth c 0 0 (MQ below (tw_Qc E D ρ) args s 0 0 (tw_A E)) 6 E D ρ pr_Gu_reach :=
  ⟨ts_aload_n hC d_Gu_reach_0 rfl,
   ts_gr (j := 3) (C := R_Gu) (T := T_Gu) hC rfl rfl rfl (by decide) u_Gu wd_138 rfl d_Gu_reach_1,
   ts_callv (C := R_Co) (T := T_Co) hC con_Co_translates wd_315 wd_26 (by decide +kernel) ⟨by decide, by decide⟩ ⟨Nat.zero_le _, Nat.zero_le _⟩ wd_312 rfl rfl wd_313 wd_314 d_Gu_reach_4,
   ts_ifne hC d_Gu_reach_7 (by decide),
   ts_iload_n hC d_Gu_reach_10 rfl,
   ts_callsN (host := "TwinHost") hC con_TH_isWord wd_186 wd_24 (by decide +kernel) ⟨by decide, by decide⟩ ⟨Nat.zero_le _, Nat.zero_le _⟩ (by decide +kernel) wd_185 d_Gu_reach_11,
   ts_ifeq hC d_Gu_reach_14 (by decide),
   ts_iload_n hC d_Gu_reach_17 rfl,
   ts_goto hC d_Gu_reach_18 (by decide),
   ts_aload_n hC d_Gu_reach_21 rfl,
   ts_ge (q0 := ("TwinHost$Access", "outside", "I", [1, 5, 7])) hC (by decide) (by decide) rfl wd_681 d_Gu_reach_22,
   ts_ineg hC d_Gu_reach_25,
   ts_iret hC rfl d_Gu_reach_26,
   ts_iload_n hC d_Gu_reach_27 rfl,
   ts_iflt hC d_Gu_reach_28 (by decide),
   ts_iload_n hC d_Gu_reach_31 rfl,
   ts_sipush hC d_Gu_reach_32 (by decide),
   ts_clt hC d_Gu_reach_35 (by decide),
   ts_aload_n hC d_Gu_reach_38 rfl,
   ts_ge (q0 := ("TwinHost$Access", "pageFault", "I", [12, 13, 15])) hC (by decide) (by decide) rfl wd_682 d_Gu_reach_39,
   ts_ineg hC d_Gu_reach_42,
   ts_iret hC rfl d_Gu_reach_43,
   ts_iload_n hC d_Gu_reach_44 rfl,
   ts_iconst hC d_Gu_reach_45 (by decide),
   ts_ishr hC d_Gu_reach_46,
   ts_istore_n hC d_Gu_reach_47 rfl (by decide),
   ts_aload_n hC d_Gu_reach_48 rfl,
   ts_gr (j := 4) (C := R_Gu) (T := T_Gu) hC rfl rfl rfl (by decide) u_Gu wd_140 rfl d_Gu_reach_49,
   ts_iload_n hC d_Gu_reach_52 rfl,
   ts_aload_n hC d_Gu_reach_53 rfl,
   ts_aload_n hC d_Gu_reach_54 rfl,
   ts_gi (j := 7) (C := R_Gu) (T := T_Gu) hC rfl rfl rfl (by decide) u_Gu wd_145 rfl d_Gu_reach_55,
   ts_aload_n hC d_Gu_reach_58 rfl,
   ts_gr (j := 3) (C := R_Gu) (T := T_Gu) hC rfl rfl rfl (by decide) u_Gu wd_138 rfl d_Gu_reach_59,
   ts_bipush hC d_Gu_reach_62 (by decide),
   ts_callv (C := R_Co) (T := T_Co) hC con_Co_isOn wd_292 wd_26 (by decide +kernel) ⟨by decide, by decide⟩ ⟨Nat.zero_le _, Nat.zero_le _⟩ wd_289 rfl rfl wd_290 wd_291 d_Gu_reach_64,
   ts_callv (C := R_Sh) (T := T_Sh) hC con_Sh_letsThrough wd_320 wd_28 (by decide +kernel) ⟨by decide, by decide⟩ ⟨Nat.zero_le _, Nat.zero_le _⟩ wd_317 rfl rfl wd_318 wd_319 d_Gu_reach_67,
   ts_ifne hC d_Gu_reach_70 (by decide),
   ts_aload_n hC d_Gu_reach_73 rfl,
   ts_gr (j := 3) (C := R_Gu) (T := T_Gu) hC rfl rfl rfl (by decide) u_Gu wd_138 rfl d_Gu_reach_74,
   ts_gr (j := 0) (C := R_Co) (T := T_Co) hC rfl rfl rfl (by decide) u_Co wd_76 rfl d_Gu_reach_77,
   ts_bipush hC d_Gu_reach_80 (by decide),
   ts_iaload hC d_Gu_reach_82,
   ts_bipush hC d_Gu_reach_83 (by decide),
   ts_iand hC d_Gu_reach_85,
   ts_istore hC d_Gu_reach_86 (by decide),
   ts_aload_n hC d_Gu_reach_88 rfl,
   ts_gr (j := 5) (C := R_Gu) (T := T_Gu) hC rfl rfl rfl (by decide) u_Gu wd_142 rfl d_Gu_reach_89,
   ts_aload_n hC d_Gu_reach_92 rfl,
   ts_gr (j := 0) (C := R_Gu) (T := T_Gu) hC rfl rfl rfl (by decide) u_Gu wd_132 rfl d_Gu_reach_93,
   ts_iload hC d_Gu_reach_96,
   ts_iload_n hC d_Gu_reach_98 rfl,
   ts_aload_n hC d_Gu_reach_99 rfl,
   ts_callv (C := R_Wa) (T := T_Wa) hC con_Wa_search wd_330 wd_29 (by decide +kernel) ⟨by decide, by decide⟩ ⟨Nat.zero_le _, Nat.zero_le _⟩ wd_327 rfl rfl wd_328 wd_329 d_Gu_reach_100,
   ts_istore hC d_Gu_reach_103 (by decide),
   ts_iload hC d_Gu_reach_105,
   ts_ifne hC d_Gu_reach_107 (by decide),
   ts_aload_n hC d_Gu_reach_110 rfl,
   ts_iload_n hC d_Gu_reach_111 rfl,
   ts_aload_n hC d_Gu_reach_112 rfl,
   ts_callv (C := R_Gu) (T := T_Gu) hC con_Gu_fill wd_343 wd_25 (by decide +kernel) ⟨by decide, by decide⟩ ⟨Nat.zero_le _, Nat.zero_le _⟩ wd_340 rfl rfl wd_341 wd_342 d_Gu_reach_113,
   ts_istore hC d_Gu_reach_116 (by decide),
   ts_iload hC d_Gu_reach_118,
   ts_ifeq hC d_Gu_reach_120 (by decide),
   ts_iload hC d_Gu_reach_123,
   ts_ineg hC d_Gu_reach_125,
   ts_iret hC rfl d_Gu_reach_126,
   ts_aload_n hC d_Gu_reach_127 rfl,
   ts_gr (j := 4) (C := R_Gu) (T := T_Gu) hC rfl rfl rfl (by decide) u_Gu wd_140 rfl d_Gu_reach_128,
   ts_gr (j := 0) (C := R_Sh) (T := T_Sh) hC rfl rfl rfl (by decide) u_Sh wd_95 rfl d_Gu_reach_131,
   ts_iload_n hC d_Gu_reach_134 rfl,
   ts_iaload hC d_Gu_reach_135,
   ts_iconst hC d_Gu_reach_136 (by decide),
   ts_ishl hC d_Gu_reach_137,
   ts_iload_n hC d_Gu_reach_138 rfl,
   ts_bipush hC d_Gu_reach_139 (by decide),
   ts_iand hC d_Gu_reach_141,
   ts_iadd hC d_Gu_reach_142,
   ts_iret hC rfl d_Gu_reach_143,
   trivial⟩
def fn_Gu_reach : tw_Fn := tw_fn 3 6 81 pr_Gu_reach
theorem con_Gu_reach : tw_Con y_Gu_reach b_Gu_reach 6 (some .int) 2 fn_Gu_reach := tw_met (by decide +kernel) (tw_fn_len (n := 3) (by decide)) (fun p l e s m args below meth c E D vs σ ρ hC h => tw_sound (ok_Gu_reach hC) 81 pr_Gu_reach (ok_Gu_reach hC) _ _ _ (tw_fn_get h))

-- TwinHost$Guest.storeControl(II)V: 11 instructions, depth 2, calls Co_put Gu_flush
theorem d_Gu_storeControl_0 : decode b_Gu_storeControl 0 = .ok (.aload_n 0, 1) := by decide +kernel
theorem d_Gu_storeControl_1 : decode b_Gu_storeControl 1 = .ok (.getfield 26, 3) := by decide +kernel
theorem d_Gu_storeControl_4 : decode b_Gu_storeControl 4 = .ok (.iload_n 1, 1) := by decide +kernel
theorem d_Gu_storeControl_5 : decode b_Gu_storeControl 5 = .ok (.iload_n 2, 1) := by decide +kernel
theorem d_Gu_storeControl_6 : decode b_Gu_storeControl 6 = .ok (.invokevirtual 209, 3) := by decide +kernel
theorem d_Gu_storeControl_9 : decode b_Gu_storeControl 9 = .ok (.iload_n 1, 1) := by decide +kernel
theorem d_Gu_storeControl_10 : decode b_Gu_storeControl 10 = .ok (.bipush 6, 2) := by decide +kernel
theorem d_Gu_storeControl_12 : decode b_Gu_storeControl 12 = .ok (.if_icmp .ne 7, 3) := by decide +kernel
theorem d_Gu_storeControl_15 : decode b_Gu_storeControl 15 = .ok (.aload_n 0, 1) := by decide +kernel
theorem d_Gu_storeControl_16 : decode b_Gu_storeControl 16 = .ok (.invokevirtual 126, 3) := by decide +kernel
theorem d_Gu_storeControl_19 : decode b_Gu_storeControl 19 = .ok (.return_, 1) := by decide +kernel
def pr_Gu_storeControl : List (Nat × tw_Op) := [(0, tw_al 0), (1, tw_gr 0 4), (4, tw_il 1), (5, tw_il 2), (6, tw_cv 2 4 fn_Co_put), (9, tw_il 1), (10, tw_ic (6)), (12, tw_cne 19), (15, tw_al 0), (16, tw_cv 0 0 fn_Gu_flush), (19, tw_r0)]
set_option maxRecDepth 100000 in
set_option maxHeartbeats 4000000 in
theorem ok_Gu_storeControl {p : Program} {l : Launch} {e : Env} {s : State} {m : MethodId} {args : Array Value} {below : List Frame} {meth : Method} {c : Code} {E : tw_E} {D : va_G} {ρ : tw_R} (hC : tw_Cx p s m args meth c b_Gu_storeControl 3 none "TwinHost$Guest" E D) : tw_Ok p l e (tw_rmd 2) s m args below meth c 0 0 (MQ below (tw_Qc E D ρ) args s 0 0 (tw_A E)) 3 E D ρ pr_Gu_storeControl :=
  ⟨ts_aload_n hC d_Gu_storeControl_0 rfl,
   ts_gr (j := 3) (C := R_Gu) (T := T_Gu) hC rfl rfl rfl (by decide) u_Gu wd_138 rfl d_Gu_storeControl_1,
   ts_iload_n hC d_Gu_storeControl_4 rfl,
   ts_iload_n hC d_Gu_storeControl_5 rfl,
   ts_callv (C := R_Co) (T := T_Co) hC con_Co_put wd_231 wd_26 (by decide +kernel) ⟨by decide, by decide⟩ ⟨Nat.zero_le _, Nat.zero_le _⟩ wd_228 rfl rfl wd_229 wd_230 d_Gu_storeControl_6,
   ts_iload_n hC d_Gu_storeControl_9 rfl,
   ts_bipush hC d_Gu_storeControl_10 (by decide),
   ts_cne hC d_Gu_storeControl_12 (by decide),
   ts_aload_n hC d_Gu_storeControl_15 rfl,
   ts_callv (C := R_Gu) (T := T_Gu) hC con_Gu_flush wd_238 wd_25 (by decide +kernel) ⟨by decide, by decide⟩ ⟨Nat.zero_le _, Nat.zero_le _⟩ wd_235 rfl rfl wd_236 wd_237 d_Gu_storeControl_16,
   ts_vret hC rfl d_Gu_storeControl_19,
   trivial⟩
def fn_Gu_storeControl : tw_Fn := tw_fn 3 3 13 pr_Gu_storeControl
theorem con_Gu_storeControl : tw_Con y_Gu_storeControl b_Gu_storeControl 3 none 2 fn_Gu_storeControl := tw_met (by decide +kernel) (tw_fn_len (n := 3) (by decide)) (fun p l e s m args below meth c E D vs σ ρ hC h => tw_sound (ok_Gu_storeControl hC) 13 pr_Gu_storeControl (ok_Gu_storeControl hC) _ _ _ (tw_fn_get h))

-- TwinHost$Guest.trap(II)LTwinHost$Outcome;: 21 instructions, depth 2, calls Co_enterTrap
theorem d_Gu_trap_0 : decode b_Gu_trap 0 = .ok (.aload_n 0, 1) := by decide +kernel
theorem d_Gu_trap_1 : decode b_Gu_trap 1 = .ok (.getfield 26, 3) := by decide +kernel
theorem d_Gu_trap_4 : decode b_Gu_trap 4 = .ok (.iload_n 1, 1) := by decide +kernel
theorem d_Gu_trap_5 : decode b_Gu_trap 5 = .ok (.iload_n 2, 1) := by decide +kernel
theorem d_Gu_trap_6 : decode b_Gu_trap 6 = .ok (.aload_n 0, 1) := by decide +kernel
theorem d_Gu_trap_7 : decode b_Gu_trap 7 = .ok (.getfield 62, 3) := by decide +kernel
theorem d_Gu_trap_10 : decode b_Gu_trap 10 = .ok (.aload_n 0, 1) := by decide +kernel
theorem d_Gu_trap_11 : decode b_Gu_trap 11 = .ok (.getfield 48, 3) := by decide +kernel
theorem d_Gu_trap_14 : decode b_Gu_trap 14 = .ok (.invokevirtual 158, 3) := by decide +kernel
theorem d_Gu_trap_17 : decode b_Gu_trap 17 = .ok (.aload_n 0, 1) := by decide +kernel
theorem d_Gu_trap_18 : decode b_Gu_trap 18 = .ok (.iconst 0, 1) := by decide +kernel
theorem d_Gu_trap_19 : decode b_Gu_trap 19 = .ok (.putfield 48, 3) := by decide +kernel
theorem d_Gu_trap_22 : decode b_Gu_trap 22 = .ok (.aload_n 0, 1) := by decide +kernel
theorem d_Gu_trap_23 : decode b_Gu_trap 23 = .ok (.aload_n 0, 1) := by decide +kernel
theorem d_Gu_trap_24 : decode b_Gu_trap 24 = .ok (.getfield 26, 3) := by decide +kernel
theorem d_Gu_trap_27 : decode b_Gu_trap 27 = .ok (.getfield 123, 3) := by decide +kernel
theorem d_Gu_trap_30 : decode b_Gu_trap 30 = .ok (.iconst 1, 1) := by decide +kernel
theorem d_Gu_trap_31 : decode b_Gu_trap 31 = .ok (.iaload, 1) := by decide +kernel
theorem d_Gu_trap_32 : decode b_Gu_trap 32 = .ok (.putfield 62, 3) := by decide +kernel
theorem d_Gu_trap_35 : decode b_Gu_trap 35 = .ok (.getstatic 162, 3) := by decide +kernel
theorem d_Gu_trap_38 : decode b_Gu_trap 38 = .ok (.areturn, 1) := by decide +kernel
def pr_Gu_trap : List (Nat × tw_Op) := [(0, tw_al 0), (1, tw_gr 0 4), (4, tw_il 1), (5, tw_il 2), (6, tw_al 0), (7, tw_gi 0 6), (10, tw_al 0), (11, tw_gi 0 7), (14, tw_cv 4 4 fn_Co_enterTrap), (17, tw_al 0), (18, tw_ic 0), (19, tw_pz 0 7), (22, tw_al 0), (23, tw_al 0), (24, tw_gr 0 4), (27, tw_gr 4 5), (30, tw_ic 1), (31, tw_ia), (32, tw_pi 0 6), (35, tw_en 61), (38, tw_ra)]
set_option maxRecDepth 100000 in
set_option maxHeartbeats 4000000 in
theorem ok_Gu_trap {p : Program} {l : Launch} {e : Env} {s : State} {m : MethodId} {args : Array Value} {below : List Frame} {meth : Method} {c : Code} {E : tw_E} {D : va_G} {ρ : tw_R} (hC : tw_Cx p s m args meth c b_Gu_trap 3 (some (.object "TwinHost$Outcome")) "TwinHost$Guest" E D) : tw_Ok p l e (tw_rmd 2) s m args below meth c 0 0 (MQ below (tw_Qc E D ρ) args s 0 0 (tw_A E)) 3 E D ρ pr_Gu_trap :=
  ⟨ts_aload_n hC d_Gu_trap_0 rfl,
   ts_gr (j := 3) (C := R_Gu) (T := T_Gu) hC rfl rfl rfl (by decide) u_Gu wd_138 rfl d_Gu_trap_1,
   ts_iload_n hC d_Gu_trap_4 rfl,
   ts_iload_n hC d_Gu_trap_5 rfl,
   ts_aload_n hC d_Gu_trap_6 rfl,
   ts_gi (j := 6) (C := R_Gu) (T := T_Gu) hC rfl rfl rfl (by decide) u_Gu wd_143 rfl d_Gu_trap_7,
   ts_aload_n hC d_Gu_trap_10 rfl,
   ts_gi (j := 7) (C := R_Gu) (T := T_Gu) hC rfl rfl rfl (by decide) u_Gu wd_145 rfl d_Gu_trap_11,
   ts_callv (C := R_Co) (T := T_Co) hC con_Co_enterTrap wd_302 wd_26 (by decide +kernel) ⟨by decide, by decide⟩ ⟨Nat.zero_le _, Nat.zero_le _⟩ wd_299 rfl rfl wd_300 wd_301 d_Gu_trap_14,
   ts_aload_n hC d_Gu_trap_17 rfl,
   ts_iconst hC d_Gu_trap_18 (by decide),
   ts_pz (j := 7) (C := R_Gu) (T := T_Gu) hC rfl rfl rfl (by decide) u_Gu wd_145 rfl t_Gu_ok n_Gu rfl (by decide +kernel) d_Gu_trap_19,
   ts_aload_n hC d_Gu_trap_22 rfl,
   ts_aload_n hC d_Gu_trap_23 rfl,
   ts_gr (j := 3) (C := R_Gu) (T := T_Gu) hC rfl rfl rfl (by decide) u_Gu wd_138 rfl d_Gu_trap_24,
   ts_gr (j := 0) (C := R_Co) (T := T_Co) hC rfl rfl rfl (by decide) u_Co wd_76 rfl d_Gu_trap_27,
   ts_iconst hC d_Gu_trap_30 (by decide),
   ts_iaload hC d_Gu_trap_31,
   ts_pi (j := 6) (C := R_Gu) (T := T_Gu) hC rfl rfl rfl (by decide) u_Gu wd_143 rfl t_Gu_ok n_Gu rfl (by decide +kernel) d_Gu_trap_32,
   ts_getO (i := 1) hC (by decide) rfl wd_304 d_Gu_trap_35,
   ts_aret hC rfl d_Gu_trap_38,
   trivial⟩
def fn_Gu_trap : tw_Fn := tw_fn 3 3 23 pr_Gu_trap
theorem con_Gu_trap : tw_Con y_Gu_trap b_Gu_trap 3 (some (.object "TwinHost$Outcome")) 2 fn_Gu_trap := tw_met (by decide +kernel) (tw_fn_len (n := 3) (by decide)) (fun p l e s m args below meth c E D vs σ ρ hC h => tw_sound (ok_Gu_trap hC) 23 pr_Gu_trap (ok_Gu_trap hC) _ _ _ (tw_fn_get h))

-- TwinHost.poke(III)I: 16 instructions, depth 2, calls TH_isGuest TH_isWord Gu_overwrite
theorem d_TH_poke_0 : decode b_TH_poke 0 = .ok (.iload_n 1, 1) := by decide +kernel
theorem d_TH_poke_1 : decode b_TH_poke 1 = .ok (.invokestatic 20, 3) := by decide +kernel
theorem d_TH_poke_4 : decode b_TH_poke 4 = .ok (.ifCond .eq 24, 3) := by decide +kernel
theorem d_TH_poke_7 : decode b_TH_poke 7 = .ok (.iload_n 2, 1) := by decide +kernel
theorem d_TH_poke_8 : decode b_TH_poke 8 = .ok (.invokestatic 24, 3) := by decide +kernel
theorem d_TH_poke_11 : decode b_TH_poke 11 = .ok (.ifCond .eq 17, 3) := by decide +kernel
theorem d_TH_poke_14 : decode b_TH_poke 14 = .ok (.aload_n 0, 1) := by decide +kernel
theorem d_TH_poke_15 : decode b_TH_poke 15 = .ok (.getfield 16, 3) := by decide +kernel
theorem d_TH_poke_18 : decode b_TH_poke 18 = .ok (.iload_n 1, 1) := by decide +kernel
theorem d_TH_poke_19 : decode b_TH_poke 19 = .ok (.aaload, 1) := by decide +kernel
theorem d_TH_poke_20 : decode b_TH_poke 20 = .ok (.iload_n 2, 1) := by decide +kernel
theorem d_TH_poke_21 : decode b_TH_poke 21 = .ok (.iload_n 3, 1) := by decide +kernel
theorem d_TH_poke_22 : decode b_TH_poke 22 = .ok (.invokevirtual 27, 3) := by decide +kernel
theorem d_TH_poke_25 : decode b_TH_poke 25 = .ok (.goto 4, 3) := by decide +kernel
theorem d_TH_poke_28 : decode b_TH_poke 28 = .ok (.iconst 0, 1) := by decide +kernel
theorem d_TH_poke_29 : decode b_TH_poke 29 = .ok (.ireturn, 1) := by decide +kernel
def pr_TH_poke : List (Nat × tw_Op) := [(0, tw_il 1), (1, tw_cs 1 fn_TH_isGuest), (4, tw_ifeq 28), (7, tw_il 2), (8, tw_cs 1 fn_TH_isWord), (11, tw_ifeq 28), (14, tw_al 0), (15, tw_gr 20 21), (18, tw_il 1), (19, tw_ga), (20, tw_il 2), (21, tw_il 3), (22, tw_cv 2 0 fn_Gu_overwrite), (25, tw_jmp 29), (28, tw_ic 0), (29, tw_ri)]
set_option maxRecDepth 100000 in
set_option maxHeartbeats 4000000 in
theorem ok_TH_poke {p : Program} {l : Launch} {e : Env} {s : State} {m : MethodId} {args : Array Value} {below : List Frame} {meth : Method} {c : Code} {E : tw_E} {D : va_G} {ρ : tw_R} (hC : tw_Cx p s m args meth c b_TH_poke 4 (some .int) "TwinHost" E D) : tw_Ok p l e (tw_rmd 2) s m args below meth c 0 0 (MQ below (tw_Qc E D ρ) args s 0 0 (tw_A E)) 4 E D ρ pr_TH_poke :=
  ⟨ts_iload_n hC d_TH_poke_0 rfl,
   ts_calls hC con_TH_isGuest wd_183 wd_24 (by decide +kernel) ⟨by decide, by decide⟩ ⟨Nat.zero_le _, Nat.zero_le _⟩ wd_181 wd_182 d_TH_poke_1,
   ts_ifeq hC d_TH_poke_4 (by decide),
   ts_iload_n hC d_TH_poke_7 rfl,
   ts_calls hC con_TH_isWord wd_186 wd_24 (by decide +kernel) ⟨by decide, by decide⟩ ⟨Nat.zero_le _, Nat.zero_le _⟩ wd_184 wd_185 d_TH_poke_8,
   ts_ifeq hC d_TH_poke_11 (by decide),
   ts_aload_n hC d_TH_poke_14 rfl,
   ts_gr (j := 0) (C := R_TH) (T := T_TH) hC rfl rfl rfl (by decide) u_TH wd_164 rfl d_TH_poke_15,
   ts_iload_n hC d_TH_poke_18 rfl,
   ts_aaload hC d_TH_poke_19,
   ts_iload_n hC d_TH_poke_20 rfl,
   ts_iload_n hC d_TH_poke_21 rfl,
   ts_callv (C := R_Gu) (T := T_Gu) hC con_Gu_overwrite wd_190 wd_25 (by decide +kernel) ⟨by decide, by decide⟩ ⟨Nat.zero_le _, Nat.zero_le _⟩ wd_187 rfl rfl wd_188 wd_189 d_TH_poke_22,
   ts_goto hC d_TH_poke_25 (by decide),
   ts_iconst hC d_TH_poke_28 (by decide),
   ts_iret hC rfl d_TH_poke_29,
   trivial⟩
def fn_TH_poke : tw_Fn := tw_fn 4 4 18 pr_TH_poke
theorem con_TH_poke : tw_Con y_TH_poke b_TH_poke 4 (some .int) 2 fn_TH_poke := tw_met (by decide +kernel) (tw_fn_len (n := 4) (by decide)) (fun p l e s m args below meth c E D vs σ ρ hC h => tw_sound (ok_TH_poke hC) 18 pr_TH_poke (ok_TH_poke hC) _ _ _ (tw_fn_get h))

-- TwinHost.traced(II)Z: 20 instructions, depth 2, calls TH_isGuest Sh_isTraced
theorem d_TH_traced_0 : decode b_TH_traced 0 = .ok (.iload_n 1, 1) := by decide +kernel
theorem d_TH_traced_1 : decode b_TH_traced 1 = .ok (.invokestatic 20, 3) := by decide +kernel
theorem d_TH_traced_4 : decode b_TH_traced 4 = .ok (.ifCond .eq 33, 3) := by decide +kernel
theorem d_TH_traced_7 : decode b_TH_traced 7 = .ok (.iload_n 2, 1) := by decide +kernel
theorem d_TH_traced_8 : decode b_TH_traced 8 = .ok (.ifCond .lt 29, 3) := by decide +kernel
theorem d_TH_traced_11 : decode b_TH_traced 11 = .ok (.iload_n 2, 1) := by decide +kernel
theorem d_TH_traced_12 : decode b_TH_traced 12 = .ok (.bipush 8, 2) := by decide +kernel
theorem d_TH_traced_14 : decode b_TH_traced 14 = .ok (.if_icmp .ge 23, 3) := by decide +kernel
theorem d_TH_traced_17 : decode b_TH_traced 17 = .ok (.aload_n 0, 1) := by decide +kernel
theorem d_TH_traced_18 : decode b_TH_traced 18 = .ok (.getfield 16, 3) := by decide +kernel
theorem d_TH_traced_21 : decode b_TH_traced 21 = .ok (.iload_n 1, 1) := by decide +kernel
theorem d_TH_traced_22 : decode b_TH_traced 22 = .ok (.aaload, 1) := by decide +kernel
theorem d_TH_traced_23 : decode b_TH_traced 23 = .ok (.getfield 98, 3) := by decide +kernel
theorem d_TH_traced_26 : decode b_TH_traced 26 = .ok (.iload_n 2, 1) := by decide +kernel
theorem d_TH_traced_27 : decode b_TH_traced 27 = .ok (.invokevirtual 107, 3) := by decide +kernel
theorem d_TH_traced_30 : decode b_TH_traced 30 = .ok (.ifCond .eq 7, 3) := by decide +kernel
theorem d_TH_traced_33 : decode b_TH_traced 33 = .ok (.iconst 1, 1) := by decide +kernel
theorem d_TH_traced_34 : decode b_TH_traced 34 = .ok (.goto 4, 3) := by decide +kernel
theorem d_TH_traced_37 : decode b_TH_traced 37 = .ok (.iconst 0, 1) := by decide +kernel
theorem d_TH_traced_38 : decode b_TH_traced 38 = .ok (.ireturn, 1) := by decide +kernel
def pr_TH_traced : List (Nat × tw_Op) := [(0, tw_il 1), (1, tw_cs 1 fn_TH_isGuest), (4, tw_ifeq 37), (7, tw_il 2), (8, tw_iflt 37), (11, tw_il 2), (12, tw_ic (8)), (14, tw_cge 37), (17, tw_al 0), (18, tw_gr 20 21), (21, tw_il 1), (22, tw_ga), (23, tw_gr 0 9), (26, tw_il 2), (27, tw_cv 1 9 fn_Sh_isTraced), (30, tw_ifeq 37), (33, tw_ic 1), (34, tw_jmp 38), (37, tw_ic 0), (38, tw_rz)]
set_option maxRecDepth 100000 in
set_option maxHeartbeats 4000000 in
theorem ok_TH_traced {p : Program} {l : Launch} {e : Env} {s : State} {m : MethodId} {args : Array Value} {below : List Frame} {meth : Method} {c : Code} {E : tw_E} {D : va_G} {ρ : tw_R} (hC : tw_Cx p s m args meth c b_TH_traced 3 (some .boolean) "TwinHost" E D) : tw_Ok p l e (tw_rmd 2) s m args below meth c 0 0 (MQ below (tw_Qc E D ρ) args s 0 0 (tw_A E)) 3 E D ρ pr_TH_traced :=
  ⟨ts_iload_n hC d_TH_traced_0 rfl,
   ts_calls hC con_TH_isGuest wd_183 wd_24 (by decide +kernel) ⟨by decide, by decide⟩ ⟨Nat.zero_le _, Nat.zero_le _⟩ wd_181 wd_182 d_TH_traced_1,
   ts_ifeq hC d_TH_traced_4 (by decide),
   ts_iload_n hC d_TH_traced_7 rfl,
   ts_iflt hC d_TH_traced_8 (by decide),
   ts_iload_n hC d_TH_traced_11 rfl,
   ts_bipush hC d_TH_traced_12 (by decide),
   ts_cge hC d_TH_traced_14 (by decide),
   ts_aload_n hC d_TH_traced_17 rfl,
   ts_gr (j := 0) (C := R_TH) (T := T_TH) hC rfl rfl rfl (by decide) u_TH wd_164 rfl d_TH_traced_18,
   ts_iload_n hC d_TH_traced_21 rfl,
   ts_aaload hC d_TH_traced_22,
   ts_gr (j := 4) (C := R_Gu) (T := T_Gu) hC rfl rfl rfl (by decide) u_Gu wd_141 rfl d_TH_traced_23,
   ts_iload_n hC d_TH_traced_26 rfl,
   ts_callv (C := R_Sh) (T := T_Sh) hC con_Sh_isTraced wd_378 wd_28 (by decide +kernel) ⟨by decide, by decide⟩ ⟨Nat.zero_le _, Nat.zero_le _⟩ wd_441 rfl rfl wd_376 wd_377 d_TH_traced_27,
   ts_ifeq hC d_TH_traced_30 (by decide),
   ts_iconst hC d_TH_traced_33 (by decide),
   ts_goto hC d_TH_traced_34 (by decide),
   ts_iconst hC d_TH_traced_37 (by decide),
   ts_zret hC rfl d_TH_traced_38,
   trivial⟩
def fn_TH_traced : tw_Fn := tw_fn 3 3 22 pr_TH_traced
theorem con_TH_traced : tw_Con y_TH_traced b_TH_traced 3 (some .boolean) 2 fn_TH_traced := tw_met (by decide +kernel) (tw_fn_len (n := 3) (by decide)) (fun p l e s m args below meth c E D vs σ ρ hC h => tw_sound (ok_TH_traced hC) 22 pr_TH_traced (ok_TH_traced hC) _ _ _ (tw_fn_get h))
end
section
-- TwinHost$Controls.take(I)I: 20 instructions, depth 3, calls Co_look In_isThere In_removeFirst
theorem d_Co_take_0 : decode b_Co_take 0 = .ok (.aload_n 0, 1) := by decide +kernel
theorem d_Co_take_1 : decode b_Co_take 1 = .ok (.iload_n 1, 1) := by decide +kernel
theorem d_Co_take_2 : decode b_Co_take 2 = .ok (.invokevirtual 33, 3) := by decide +kernel
theorem d_Co_take_5 : decode b_Co_take 5 = .ok (.istore_n 2, 1) := by decide +kernel
theorem d_Co_take_6 : decode b_Co_take 6 = .ok (.iload_n 1, 1) := by decide +kernel
theorem d_Co_take_7 : decode b_Co_take 7 = .ok (.bipush 11, 2) := by decide +kernel
theorem d_Co_take_9 : decode b_Co_take 9 = .ok (.if_icmp .ne 27, 3) := by decide +kernel
theorem d_Co_take_12 : decode b_Co_take 12 = .ok (.aload_n 0, 1) := by decide +kernel
theorem d_Co_take_13 : decode b_Co_take 13 = .ok (.getfield 16, 3) := by decide +kernel
theorem d_Co_take_16 : decode b_Co_take 16 = .ok (.aload_n 0, 1) := by decide +kernel
theorem d_Co_take_17 : decode b_Co_take 17 = .ok (.getfield 9, 3) := by decide +kernel
theorem d_Co_take_20 : decode b_Co_take 20 = .ok (.bipush 10, 2) := by decide +kernel
theorem d_Co_take_22 : decode b_Co_take 22 = .ok (.iaload, 1) := by decide +kernel
theorem d_Co_take_23 : decode b_Co_take 23 = .ok (.invokevirtual 29, 3) := by decide +kernel
theorem d_Co_take_26 : decode b_Co_take 26 = .ok (.ifCond .eq 10, 3) := by decide +kernel
theorem d_Co_take_29 : decode b_Co_take 29 = .ok (.aload_n 0, 1) := by decide +kernel
theorem d_Co_take_30 : decode b_Co_take 30 = .ok (.getfield 16, 3) := by decide +kernel
theorem d_Co_take_33 : decode b_Co_take 33 = .ok (.invokevirtual 37, 3) := by decide +kernel
theorem d_Co_take_36 : decode b_Co_take 36 = .ok (.iload_n 2, 1) := by decide +kernel
theorem d_Co_take_37 : decode b_Co_take 37 = .ok (.ireturn, 1) := by decide +kernel
def pr_Co_take : List (Nat × tw_Op) := [(0, tw_al 0), (1, tw_il 1), (2, tw_cv 1 4 fn_Co_look), (5, tw_is 2), (6, tw_il 1), (7, tw_ic (11)), (9, tw_cne 36), (12, tw_al 0), (13, tw_gr 4 6), (16, tw_al 0), (17, tw_gr 4 5), (20, tw_ic (10)), (22, tw_ia), (23, tw_cv 1 6 fn_In_isThere), (26, tw_ifeq 36), (29, tw_al 0), (30, tw_gr 4 6), (33, tw_cv 0 6 fn_In_removeFirst), (36, tw_il 2), (37, tw_ri)]
set_option maxRecDepth 100000 in
set_option maxHeartbeats 4000000 in
theorem ok_Co_take {p : Program} {l : Launch} {e : Env} {s : State} {m : MethodId} {args : Array Value} {below : List Frame} {meth : Method} {c : Code} {E : tw_E} {D : va_G} {ρ : tw_R} (hC : tw_Cx p s m args meth c b_Co_take 3 (some .int) "TwinHost$Controls" E D) : tw_Ok p l e (tw_rmd 3) s m args below meth c 0 0 (MQ below (tw_Qc E D ρ) args s 0 0 (tw_A E)) 3 E D ρ pr_Co_take :=
  ⟨ts_aload_n hC d_Co_take_0 rfl,
   ts_iload_n hC d_Co_take_1 rfl,
   ts_callv (C := R_Co) (T := T_Co) hC con_Co_look wd_248 wd_26 (by decide +kernel) ⟨by decide, by decide⟩ ⟨Nat.zero_le _, Nat.zero_le _⟩ wd_410 rfl rfl wd_246 wd_247 d_Co_take_2,
   ts_istore_n hC d_Co_take_5 rfl (by decide),
   ts_iload_n hC d_Co_take_6 rfl,
   ts_bipush hC d_Co_take_7 (by decide),
   ts_cne hC d_Co_take_9 (by decide),
   ts_aload_n hC d_Co_take_12 rfl,
   ts_gr (j := 1) (C := R_Co) (T := T_Co) hC rfl rfl rfl (by decide) u_Co wd_77 rfl d_Co_take_13,
   ts_aload_n hC d_Co_take_16 rfl,
   ts_gr (j := 0) (C := R_Co) (T := T_Co) hC rfl rfl rfl (by decide) u_Co wd_75 rfl d_Co_take_17,
   ts_bipush hC d_Co_take_20 (by decide),
   ts_iaload hC d_Co_take_22,
   ts_callv (C := R_In) (T := T_In) hC con_In_isThere wd_256 wd_27 (by decide +kernel) ⟨by decide, by decide⟩ ⟨Nat.zero_le _, Nat.zero_le _⟩ wd_253 rfl rfl wd_254 wd_255 d_Co_take_23,
   ts_ifeq hC d_Co_take_26 (by decide),
   ts_aload_n hC d_Co_take_29 rfl,
   ts_gr (j := 1) (C := R_Co) (T := T_Co) hC rfl rfl rfl (by decide) u_Co wd_77 rfl d_Co_take_30,
   ts_callv (C := R_In) (T := T_In) hC con_In_removeFirst wd_414 wd_27 (by decide +kernel) ⟨by decide, by decide⟩ ⟨Nat.zero_le _, Nat.zero_le _⟩ wd_411 rfl rfl wd_412 wd_413 d_Co_take_33,
   ts_iload_n hC d_Co_take_36 rfl,
   ts_iret hC rfl d_Co_take_37,
   trivial⟩
def fn_Co_take : tw_Fn := tw_fn 2 3 22 pr_Co_take
theorem con_Co_take : tw_Con y_Co_take b_Co_take 3 (some .int) 3 fn_Co_take := tw_met (by decide +kernel) (tw_fn_len (n := 2) (by decide)) (fun p l e s m args below meth c E D vs σ ρ hC h => tw_sound (ok_Co_take hC) 22 pr_Co_take (ok_Co_take hC) _ _ _ (tw_fn_get h))

-- TwinHost$Guest.fault(II)LTwinHost$Outcome;: 13 instructions, depth 3, calls Gu_trap
theorem d_Gu_fault_0 : decode b_Gu_fault 0 = .ok (.aload_n 0, 1) := by decide +kernel
theorem d_Gu_fault_1 : decode b_Gu_fault 1 = .ok (.getfield 20, 3) := by decide +kernel
theorem d_Gu_fault_4 : decode b_Gu_fault 4 = .ok (.iconst 2, 1) := by decide +kernel
theorem d_Gu_fault_5 : decode b_Gu_fault 5 = .ok (.dup2, 1) := by decide +kernel
theorem d_Gu_fault_6 : decode b_Gu_fault 6 = .ok (.iaload, 1) := by decide +kernel
theorem d_Gu_fault_7 : decode b_Gu_fault 7 = .ok (.iconst 1, 1) := by decide +kernel
theorem d_Gu_fault_8 : decode b_Gu_fault 8 = .ok (.iadd, 1) := by decide +kernel
theorem d_Gu_fault_9 : decode b_Gu_fault 9 = .ok (.iastore, 1) := by decide +kernel
theorem d_Gu_fault_10 : decode b_Gu_fault 10 = .ok (.aload_n 0, 1) := by decide +kernel
theorem d_Gu_fault_11 : decode b_Gu_fault 11 = .ok (.iload_n 1, 1) := by decide +kernel
theorem d_Gu_fault_12 : decode b_Gu_fault 12 = .ok (.iload_n 2, 1) := by decide +kernel
theorem d_Gu_fault_13 : decode b_Gu_fault 13 = .ok (.invokevirtual 58, 3) := by decide +kernel
theorem d_Gu_fault_16 : decode b_Gu_fault 16 = .ok (.areturn, 1) := by decide +kernel
def pr_Gu_fault : List (Nat × tw_Op) := [(0, tw_al 0), (1, tw_gr 0 3), (4, tw_ic 2), (5, tw_d2), (6, tw_ia), (7, tw_ic 1), (8, tw_bin (· + ·)), (9, tw_ias 0 22), (10, tw_al 0), (11, tw_il 1), (12, tw_il 2), (13, tw_cv 2 0 fn_Gu_trap), (16, tw_ra)]
set_option maxRecDepth 100000 in
set_option maxHeartbeats 4000000 in
theorem ok_Gu_fault {p : Program} {l : Launch} {e : Env} {s : State} {m : MethodId} {args : Array Value} {below : List Frame} {meth : Method} {c : Code} {E : tw_E} {D : va_G} {ρ : tw_R} (hC : tw_Cx p s m args meth c b_Gu_fault 3 (some (.object "TwinHost$Outcome")) "TwinHost$Guest" E D) : tw_Ok p l e (tw_rmd 3) s m args below meth c 0 0 (MQ below (tw_Qc E D ρ) args s 0 0 (tw_A E)) 3 E D ρ pr_Gu_fault :=
  ⟨ts_aload_n hC d_Gu_fault_0 rfl,
   ts_gr (j := 2) (C := R_Gu) (T := T_Gu) hC rfl rfl rfl (by decide) u_Gu wd_136 rfl d_Gu_fault_1,
   ts_iconst hC d_Gu_fault_4 (by decide),
   ts_dup2 hC d_Gu_fault_5,
   ts_iaload hC d_Gu_fault_6,
   ts_iconst hC d_Gu_fault_7 (by decide),
   ts_iadd hC d_Gu_fault_8,
   ts_iastore hC d_Gu_fault_9,
   ts_aload_n hC d_Gu_fault_10 rfl,
   ts_iload_n hC d_Gu_fault_11 rfl,
   ts_iload_n hC d_Gu_fault_12 rfl,
   ts_callv (C := R_Gu) (T := T_Gu) hC con_Gu_trap wd_298 wd_25 (by decide +kernel) ⟨by decide, by decide⟩ ⟨Nat.zero_le _, Nat.zero_le _⟩ wd_295 rfl rfl wd_296 wd_297 d_Gu_fault_13,
   ts_aret hC rfl d_Gu_fault_16,
   trivial⟩
def fn_Gu_fault : tw_Fn := tw_fn 3 3 15 pr_Gu_fault
theorem con_Gu_fault : tw_Con y_Gu_fault b_Gu_fault 3 (some (.object "TwinHost$Outcome")) 3 fn_Gu_fault := tw_met (by decide +kernel) (tw_fn_len (n := 3) (by decide)) (fun p l e s m args below meth c E D vs σ ρ hC h => tw_sound (ok_Gu_fault hC) 15 pr_Gu_fault (ok_Gu_fault hC) _ _ _ (tw_fn_get h))

-- TwinHost.command(III)Z: 17 instructions, depth 3, calls TH_isGuest Co_isStoredTo Gu_storeControl
theorem d_TH_command_0 : decode b_TH_command 0 = .ok (.iload_n 1, 1) := by decide +kernel
theorem d_TH_command_1 : decode b_TH_command 1 = .ok (.invokestatic 20, 3) := by decide +kernel
theorem d_TH_command_4 : decode b_TH_command 4 = .ok (.ifCond .eq 10, 3) := by decide +kernel
theorem d_TH_command_7 : decode b_TH_command 7 = .ok (.iload_n 2, 1) := by decide +kernel
theorem d_TH_command_8 : decode b_TH_command 8 = .ok (.invokestatic 45, 3) := by decide +kernel
theorem d_TH_command_11 : decode b_TH_command 11 = .ok (.ifCond .ne 5, 3) := by decide +kernel
theorem d_TH_command_14 : decode b_TH_command 14 = .ok (.iconst 0, 1) := by decide +kernel
theorem d_TH_command_15 : decode b_TH_command 15 = .ok (.ireturn, 1) := by decide +kernel
theorem d_TH_command_16 : decode b_TH_command 16 = .ok (.aload_n 0, 1) := by decide +kernel
theorem d_TH_command_17 : decode b_TH_command 17 = .ok (.getfield 16, 3) := by decide +kernel
theorem d_TH_command_20 : decode b_TH_command 20 = .ok (.iload_n 1, 1) := by decide +kernel
theorem d_TH_command_21 : decode b_TH_command 21 = .ok (.aaload, 1) := by decide +kernel
theorem d_TH_command_22 : decode b_TH_command 22 = .ok (.iload_n 2, 1) := by decide +kernel
theorem d_TH_command_23 : decode b_TH_command 23 = .ok (.iload_n 3, 1) := by decide +kernel
theorem d_TH_command_24 : decode b_TH_command 24 = .ok (.invokevirtual 50, 3) := by decide +kernel
theorem d_TH_command_27 : decode b_TH_command 27 = .ok (.iconst 1, 1) := by decide +kernel
theorem d_TH_command_28 : decode b_TH_command 28 = .ok (.ireturn, 1) := by decide +kernel
def pr_TH_command : List (Nat × tw_Op) := [(0, tw_il 1), (1, tw_cs 1 fn_TH_isGuest), (4, tw_ifeq 14), (7, tw_il 2), (8, tw_cs 1 fn_Co_isStoredTo), (11, tw_ifne 16), (14, tw_ic 0), (15, tw_rz), (16, tw_al 0), (17, tw_gr 20 21), (20, tw_il 1), (21, tw_ga), (22, tw_il 2), (23, tw_il 3), (24, tw_cv 2 0 fn_Gu_storeControl), (27, tw_ic 1), (28, tw_rz)]
set_option maxRecDepth 100000 in
set_option maxHeartbeats 4000000 in
theorem ok_TH_command {p : Program} {l : Launch} {e : Env} {s : State} {m : MethodId} {args : Array Value} {below : List Frame} {meth : Method} {c : Code} {E : tw_E} {D : va_G} {ρ : tw_R} (hC : tw_Cx p s m args meth c b_TH_command 4 (some .boolean) "TwinHost" E D) : tw_Ok p l e (tw_rmd 3) s m args below meth c 0 0 (MQ below (tw_Qc E D ρ) args s 0 0 (tw_A E)) 4 E D ρ pr_TH_command :=
  ⟨ts_iload_n hC d_TH_command_0 rfl,
   ts_calls hC con_TH_isGuest wd_183 wd_24 (by decide +kernel) ⟨by decide, by decide⟩ ⟨Nat.zero_le _, Nat.zero_le _⟩ wd_181 wd_182 d_TH_command_1,
   ts_ifeq hC d_TH_command_4 (by decide),
   ts_iload_n hC d_TH_command_7 rfl,
   ts_calls hC con_Co_isStoredTo wd_220 wd_26 (by decide +kernel) ⟨by decide, by decide⟩ ⟨Nat.zero_le _, Nat.zero_le _⟩ wd_218 wd_219 d_TH_command_8,
   ts_ifne hC d_TH_command_11 (by decide),
   ts_iconst hC d_TH_command_14 (by decide),
   ts_zret hC rfl d_TH_command_15,
   ts_aload_n hC d_TH_command_16 rfl,
   ts_gr (j := 0) (C := R_TH) (T := T_TH) hC rfl rfl rfl (by decide) u_TH wd_164 rfl d_TH_command_17,
   ts_iload_n hC d_TH_command_20 rfl,
   ts_aaload hC d_TH_command_21,
   ts_iload_n hC d_TH_command_22 rfl,
   ts_iload_n hC d_TH_command_23 rfl,
   ts_callv (C := R_Gu) (T := T_Gu) hC con_Gu_storeControl wd_227 wd_25 (by decide +kernel) ⟨by decide, by decide⟩ ⟨Nat.zero_le _, Nat.zero_le _⟩ wd_224 rfl rfl wd_225 wd_226 d_TH_command_24,
   ts_iconst hC d_TH_command_27 (by decide),
   ts_zret hC rfl d_TH_command_28,
   trivial⟩
def fn_TH_command : tw_Fn := tw_fn 4 4 19 pr_TH_command
theorem con_TH_command : tw_Con y_TH_command b_TH_command 4 (some .boolean) 3 fn_TH_command := tw_met (by decide +kernel) (tw_fn_len (n := 4) (by decide)) (fun p l e s m args below meth c E D vs σ ρ hC h => tw_sound (ok_TH_command hC) 19 pr_TH_command (ok_TH_command hC) _ _ _ (tw_fn_get h))

-- TwinHost.control(II)I: 16 instructions, depth 3, calls TH_isGuest Co_exists Co_look
theorem d_TH_control_0 : decode b_TH_control 0 = .ok (.iload_n 1, 1) := by decide +kernel
theorem d_TH_control_1 : decode b_TH_control 1 = .ok (.invokestatic 20, 3) := by decide +kernel
theorem d_TH_control_4 : decode b_TH_control 4 = .ok (.ifCond .eq 26, 3) := by decide +kernel
theorem d_TH_control_7 : decode b_TH_control 7 = .ok (.iload_n 2, 1) := by decide +kernel
theorem d_TH_control_8 : decode b_TH_control 8 = .ok (.invokestatic 53, 3) := by decide +kernel
theorem d_TH_control_11 : decode b_TH_control 11 = .ok (.ifCond .eq 19, 3) := by decide +kernel
theorem d_TH_control_14 : decode b_TH_control 14 = .ok (.aload_n 0, 1) := by decide +kernel
theorem d_TH_control_15 : decode b_TH_control 15 = .ok (.getfield 16, 3) := by decide +kernel
theorem d_TH_control_18 : decode b_TH_control 18 = .ok (.iload_n 1, 1) := by decide +kernel
theorem d_TH_control_19 : decode b_TH_control 19 = .ok (.aaload, 1) := by decide +kernel
theorem d_TH_control_20 : decode b_TH_control 20 = .ok (.getfield 56, 3) := by decide +kernel
theorem d_TH_control_23 : decode b_TH_control 23 = .ok (.iload_n 2, 1) := by decide +kernel
theorem d_TH_control_24 : decode b_TH_control 24 = .ok (.invokevirtual 60, 3) := by decide +kernel
theorem d_TH_control_27 : decode b_TH_control 27 = .ok (.goto 4, 3) := by decide +kernel
theorem d_TH_control_30 : decode b_TH_control 30 = .ok (.iconst 0, 1) := by decide +kernel
theorem d_TH_control_31 : decode b_TH_control 31 = .ok (.ireturn, 1) := by decide +kernel
def pr_TH_control : List (Nat × tw_Op) := [(0, tw_il 1), (1, tw_cs 1 fn_TH_isGuest), (4, tw_ifeq 30), (7, tw_il 2), (8, tw_cs 1 fn_Co_exists), (11, tw_ifeq 30), (14, tw_al 0), (15, tw_gr 20 21), (18, tw_il 1), (19, tw_ga), (20, tw_gr 0 4), (23, tw_il 2), (24, tw_cv 1 4 fn_Co_look), (27, tw_jmp 31), (30, tw_ic 0), (31, tw_ri)]
set_option maxRecDepth 100000 in
set_option maxHeartbeats 4000000 in
theorem ok_TH_control {p : Program} {l : Launch} {e : Env} {s : State} {m : MethodId} {args : Array Value} {below : List Frame} {meth : Method} {c : Code} {E : tw_E} {D : va_G} {ρ : tw_R} (hC : tw_Cx p s m args meth c b_TH_control 3 (some .int) "TwinHost" E D) : tw_Ok p l e (tw_rmd 3) s m args below meth c 0 0 (MQ below (tw_Qc E D ρ) args s 0 0 (tw_A E)) 3 E D ρ pr_TH_control :=
  ⟨ts_iload_n hC d_TH_control_0 rfl,
   ts_calls hC con_TH_isGuest wd_183 wd_24 (by decide +kernel) ⟨by decide, by decide⟩ ⟨Nat.zero_le _, Nat.zero_le _⟩ wd_181 wd_182 d_TH_control_1,
   ts_ifeq hC d_TH_control_4 (by decide),
   ts_iload_n hC d_TH_control_7 rfl,
   ts_calls hC con_Co_exists wd_223 wd_26 (by decide +kernel) ⟨by decide, by decide⟩ ⟨Nat.zero_le _, Nat.zero_le _⟩ wd_244 wd_222 d_TH_control_8,
   ts_ifeq hC d_TH_control_11 (by decide),
   ts_aload_n hC d_TH_control_14 rfl,
   ts_gr (j := 0) (C := R_TH) (T := T_TH) hC rfl rfl rfl (by decide) u_TH wd_164 rfl d_TH_control_15,
   ts_iload_n hC d_TH_control_18 rfl,
   ts_aaload hC d_TH_control_19,
   ts_gr (j := 3) (C := R_Gu) (T := T_Gu) hC rfl rfl rfl (by decide) u_Gu wd_139 rfl d_TH_control_20,
   ts_iload_n hC d_TH_control_23 rfl,
   ts_callv (C := R_Co) (T := T_Co) hC con_Co_look wd_248 wd_26 (by decide +kernel) ⟨by decide, by decide⟩ ⟨Nat.zero_le _, Nat.zero_le _⟩ wd_245 rfl rfl wd_246 wd_247 d_TH_control_24,
   ts_goto hC d_TH_control_27 (by decide),
   ts_iconst hC d_TH_control_30 (by decide),
   ts_iret hC rfl d_TH_control_31,
   trivial⟩
def fn_TH_control : tw_Fn := tw_fn 3 3 18 pr_TH_control
theorem con_TH_control : tw_Con y_TH_control b_TH_control 3 (some .int) 3 fn_TH_control := tw_met (by decide +kernel) (tw_fn_len (n := 3) (by decide)) (fun p l e s m args below meth c E D vs σ ρ hC h => tw_sound (ok_TH_control hC) 18 pr_TH_control (ok_TH_control hC) _ _ _ (tw_fn_get h))
end
section
-- TwinHost$Guest.changeControl(I)LTwinHost$Outcome;: 70 instructions, depth 4, calls Co_exists Co_isStoredTo Gu_trap Co_take Gu_setRegister Gu_changed Gu_storeControl Gu_retireAt
theorem d_Gu_changeControl_0 : decode b_Gu_changeControl 0 = .ok (.iload_n 1, 1) := by decide +kernel
theorem d_Gu_changeControl_1 : decode b_Gu_changeControl 1 = .ok (.bipush 31, 2) := by decide +kernel
theorem d_Gu_changeControl_3 : decode b_Gu_changeControl 3 = .ok (.iand, 1) := by decide +kernel
theorem d_Gu_changeControl_4 : decode b_Gu_changeControl 4 = .ok (.istore_n 2, 1) := by decide +kernel
theorem d_Gu_changeControl_5 : decode b_Gu_changeControl 5 = .ok (.iload_n 1, 1) := by decide +kernel
theorem d_Gu_changeControl_6 : decode b_Gu_changeControl 6 = .ok (.bipush 8, 2) := by decide +kernel
theorem d_Gu_changeControl_8 : decode b_Gu_changeControl 8 = .ok (.ishr, 1) := by decide +kernel
theorem d_Gu_changeControl_9 : decode b_Gu_changeControl 9 = .ok (.bipush 7, 2) := by decide +kernel
theorem d_Gu_changeControl_11 : decode b_Gu_changeControl 11 = .ok (.iand, 1) := by decide +kernel
theorem d_Gu_changeControl_12 : decode b_Gu_changeControl 12 = .ok (.istore_n 3, 1) := by decide +kernel
theorem d_Gu_changeControl_13 : decode b_Gu_changeControl 13 = .ok (.iload_n 1, 1) := by decide +kernel
theorem d_Gu_changeControl_14 : decode b_Gu_changeControl 14 = .ok (.bipush 16, 2) := by decide +kernel
theorem d_Gu_changeControl_16 : decode b_Gu_changeControl 16 = .ok (.ishr, 1) := by decide +kernel
theorem d_Gu_changeControl_17 : decode b_Gu_changeControl 17 = .ok (.istore 4, 2) := by decide +kernel
theorem d_Gu_changeControl_19 : decode b_Gu_changeControl 19 = .ok (.iload_n 2, 1) := by decide +kernel
theorem d_Gu_changeControl_20 : decode b_Gu_changeControl 20 = .ok (.bipush 19, 2) := by decide +kernel
theorem d_Gu_changeControl_22 : decode b_Gu_changeControl 22 = .ok (.if_icmp .eq 7, 3) := by decide +kernel
theorem d_Gu_changeControl_25 : decode b_Gu_changeControl 25 = .ok (.iload_n 3, 1) := by decide +kernel
theorem d_Gu_changeControl_26 : decode b_Gu_changeControl 26 = .ok (.ifCond .eq 7, 3) := by decide +kernel
theorem d_Gu_changeControl_29 : decode b_Gu_changeControl 29 = .ok (.iconst 1, 1) := by decide +kernel
theorem d_Gu_changeControl_30 : decode b_Gu_changeControl 30 = .ok (.goto 4, 3) := by decide +kernel
theorem d_Gu_changeControl_33 : decode b_Gu_changeControl 33 = .ok (.iconst 0, 1) := by decide +kernel
theorem d_Gu_changeControl_34 : decode b_Gu_changeControl 34 = .ok (.istore 5, 2) := by decide +kernel
theorem d_Gu_changeControl_36 : decode b_Gu_changeControl 36 = .ok (.iload 4, 2) := by decide +kernel
theorem d_Gu_changeControl_38 : decode b_Gu_changeControl 38 = .ok (.invokestatic 138, 3) := by decide +kernel
theorem d_Gu_changeControl_41 : decode b_Gu_changeControl 41 = .ok (.ifCond .eq 16, 3) := by decide +kernel
theorem d_Gu_changeControl_44 : decode b_Gu_changeControl 44 = .ok (.iload 5, 2) := by decide +kernel
theorem d_Gu_changeControl_46 : decode b_Gu_changeControl 46 = .ok (.ifCond .eq 18, 3) := by decide +kernel
theorem d_Gu_changeControl_49 : decode b_Gu_changeControl 49 = .ok (.iload 4, 2) := by decide +kernel
theorem d_Gu_changeControl_51 : decode b_Gu_changeControl 51 = .ok (.invokestatic 141, 3) := by decide +kernel
theorem d_Gu_changeControl_54 : decode b_Gu_changeControl 54 = .ok (.ifCond .ne 10, 3) := by decide +kernel
theorem d_Gu_changeControl_57 : decode b_Gu_changeControl 57 = .ok (.aload_n 0, 1) := by decide +kernel
theorem d_Gu_changeControl_58 : decode b_Gu_changeControl 58 = .ok (.iconst 2, 1) := by decide +kernel
theorem d_Gu_changeControl_59 : decode b_Gu_changeControl 59 = .ok (.iload_n 1, 1) := by decide +kernel
theorem d_Gu_changeControl_60 : decode b_Gu_changeControl 60 = .ok (.invokevirtual 58, 3) := by decide +kernel
theorem d_Gu_changeControl_63 : decode b_Gu_changeControl 63 = .ok (.areturn, 1) := by decide +kernel
theorem d_Gu_changeControl_64 : decode b_Gu_changeControl 64 = .ok (.aload_n 0, 1) := by decide +kernel
theorem d_Gu_changeControl_65 : decode b_Gu_changeControl 65 = .ok (.getfield 15, 3) := by decide +kernel
theorem d_Gu_changeControl_68 : decode b_Gu_changeControl 68 = .ok (.iload_n 3, 1) := by decide +kernel
theorem d_Gu_changeControl_69 : decode b_Gu_changeControl 69 = .ok (.iaload, 1) := by decide +kernel
theorem d_Gu_changeControl_70 : decode b_Gu_changeControl 70 = .ok (.istore 6, 2) := by decide +kernel
theorem d_Gu_changeControl_72 : decode b_Gu_changeControl 72 = .ok (.aload_n 0, 1) := by decide +kernel
theorem d_Gu_changeControl_73 : decode b_Gu_changeControl 73 = .ok (.getfield 26, 3) := by decide +kernel
theorem d_Gu_changeControl_76 : decode b_Gu_changeControl 76 = .ok (.iload 4, 2) := by decide +kernel
theorem d_Gu_changeControl_78 : decode b_Gu_changeControl 78 = .ok (.invokevirtual 144, 3) := by decide +kernel
theorem d_Gu_changeControl_81 : decode b_Gu_changeControl 81 = .ok (.istore 7, 2) := by decide +kernel
theorem d_Gu_changeControl_83 : decode b_Gu_changeControl 83 = .ok (.aload_n 0, 1) := by decide +kernel
theorem d_Gu_changeControl_84 : decode b_Gu_changeControl 84 = .ok (.iload_n 1, 1) := by decide +kernel
theorem d_Gu_changeControl_85 : decode b_Gu_changeControl 85 = .ok (.iconst 5, 1) := by decide +kernel
theorem d_Gu_changeControl_86 : decode b_Gu_changeControl 86 = .ok (.ishr, 1) := by decide +kernel
theorem d_Gu_changeControl_87 : decode b_Gu_changeControl 87 = .ok (.bipush 7, 2) := by decide +kernel
theorem d_Gu_changeControl_89 : decode b_Gu_changeControl 89 = .ok (.iand, 1) := by decide +kernel
theorem d_Gu_changeControl_90 : decode b_Gu_changeControl 90 = .ok (.iload 7, 2) := by decide +kernel
theorem d_Gu_changeControl_92 : decode b_Gu_changeControl 92 = .ok (.invokevirtual 102, 3) := by decide +kernel
theorem d_Gu_changeControl_95 : decode b_Gu_changeControl 95 = .ok (.iload 5, 2) := by decide +kernel
theorem d_Gu_changeControl_97 : decode b_Gu_changeControl 97 = .ok (.ifCond .eq 17, 3) := by decide +kernel
theorem d_Gu_changeControl_100 : decode b_Gu_changeControl 100 = .ok (.aload_n 0, 1) := by decide +kernel
theorem d_Gu_changeControl_101 : decode b_Gu_changeControl 101 = .ok (.iload 4, 2) := by decide +kernel
theorem d_Gu_changeControl_103 : decode b_Gu_changeControl 103 = .ok (.iload_n 2, 1) := by decide +kernel
theorem d_Gu_changeControl_104 : decode b_Gu_changeControl 104 = .ok (.iload 7, 2) := by decide +kernel
theorem d_Gu_changeControl_106 : decode b_Gu_changeControl 106 = .ok (.iload 6, 2) := by decide +kernel
theorem d_Gu_changeControl_108 : decode b_Gu_changeControl 108 = .ok (.invokestatic 148, 3) := by decide +kernel
theorem d_Gu_changeControl_111 : decode b_Gu_changeControl 111 = .ok (.invokevirtual 152, 3) := by decide +kernel
theorem d_Gu_changeControl_114 : decode b_Gu_changeControl 114 = .ok (.aload_n 0, 1) := by decide +kernel
theorem d_Gu_changeControl_115 : decode b_Gu_changeControl 115 = .ok (.aload_n 0, 1) := by decide +kernel
theorem d_Gu_changeControl_116 : decode b_Gu_changeControl 116 = .ok (.getfield 62, 3) := by decide +kernel
theorem d_Gu_changeControl_119 : decode b_Gu_changeControl 119 = .ok (.iconst 1, 1) := by decide +kernel
theorem d_Gu_changeControl_120 : decode b_Gu_changeControl 120 = .ok (.iadd, 1) := by decide +kernel
theorem d_Gu_changeControl_121 : decode b_Gu_changeControl 121 = .ok (.invokevirtual 92, 3) := by decide +kernel
theorem d_Gu_changeControl_124 : decode b_Gu_changeControl 124 = .ok (.areturn, 1) := by decide +kernel
def pr_Gu_changeControl : List (Nat × tw_Op) := [(0, tw_il 1), (1, tw_ic (31)), (3, tw_bin (· &&& ·)), (4, tw_is 2), (5, tw_il 1), (6, tw_ic (8)), (8, tw_bin (fun x y => x >>> (y &&& 31))), (9, tw_ic (7)), (11, tw_bin (· &&& ·)), (12, tw_is 3), (13, tw_il 1), (14, tw_ic (16)), (16, tw_bin (fun x y => x >>> (y &&& 31))), (17, tw_is 4), (19, tw_il 2), (20, tw_ic (19)), (22, tw_ceq 29), (25, tw_il 3), (26, tw_ifeq 33), (29, tw_ic 1), (30, tw_jmp 34), (33, tw_ic 0), (34, tw_is 5), (36, tw_il 4), (38, tw_cs 1 fn_Co_exists), (41, tw_ifeq 57), (44, tw_il 5), (46, tw_ifeq 64), (49, tw_il 4), (51, tw_cs 1 fn_Co_isStoredTo), (54, tw_ifne 64), (57, tw_al 0), (58, tw_ic 2), (59, tw_il 1), (60, tw_cv 2 0 fn_Gu_trap), (63, tw_ra), (64, tw_al 0), (65, tw_gr 0 2), (68, tw_il 3), (69, tw_ia), (70, tw_is 6), (72, tw_al 0), (73, tw_gr 0 4), (76, tw_il 4), (78, tw_cv 1 4 fn_Co_take), (81, tw_is 7), (83, tw_al 0), (84, tw_il 1), (85, tw_ic 5), (86, tw_bin (fun x y => x >>> (y &&& 31))), (87, tw_ic (7)), (89, tw_bin (· &&& ·)), (90, tw_il 7), (92, tw_cv 2 0 fn_Gu_setRegister), (95, tw_il 5), (97, tw_ifeq 114), (100, tw_al 0), (101, tw_il 4), (103, tw_il 2), (104, tw_il 7), (106, tw_il 6), (108, tw_cs 3 fn_Gu_changed), (111, tw_cv 2 0 fn_Gu_storeControl), (114, tw_al 0), (115, tw_al 0), (116, tw_gi 0 6), (119, tw_ic 1), (120, tw_bin (· + ·)), (121, tw_cv 1 0 fn_Gu_retireAt), (124, tw_ra)]
set_option maxRecDepth 100000 in
set_option maxHeartbeats 4000000 in
theorem ok_Gu_changeControl {p : Program} {l : Launch} {e : Env} {s : State} {m : MethodId} {args : Array Value} {below : List Frame} {meth : Method} {c : Code} {E : tw_E} {D : va_G} {ρ : tw_R} (hC : tw_Cx p s m args meth c b_Gu_changeControl 8 (some (.object "TwinHost$Outcome")) "TwinHost$Guest" E D) : tw_Ok p l e (tw_rmd 4) s m args below meth c 0 0 (MQ below (tw_Qc E D ρ) args s 0 0 (tw_A E)) 8 E D ρ pr_Gu_changeControl :=
  ⟨ts_iload_n hC d_Gu_changeControl_0 rfl,
   ts_bipush hC d_Gu_changeControl_1 (by decide),
   ts_iand hC d_Gu_changeControl_3,
   ts_istore_n hC d_Gu_changeControl_4 rfl (by decide),
   ts_iload_n hC d_Gu_changeControl_5 rfl,
   ts_bipush hC d_Gu_changeControl_6 (by decide),
   ts_ishr hC d_Gu_changeControl_8,
   ts_bipush hC d_Gu_changeControl_9 (by decide),
   ts_iand hC d_Gu_changeControl_11,
   ts_istore_n hC d_Gu_changeControl_12 rfl (by decide),
   ts_iload_n hC d_Gu_changeControl_13 rfl,
   ts_bipush hC d_Gu_changeControl_14 (by decide),
   ts_ishr hC d_Gu_changeControl_16,
   ts_istore hC d_Gu_changeControl_17 (by decide),
   ts_iload_n hC d_Gu_changeControl_19 rfl,
   ts_bipush hC d_Gu_changeControl_20 (by decide),
   ts_ceq hC d_Gu_changeControl_22 (by decide),
   ts_iload_n hC d_Gu_changeControl_25 rfl,
   ts_ifeq hC d_Gu_changeControl_26 (by decide),
   ts_iconst hC d_Gu_changeControl_29 (by decide),
   ts_goto hC d_Gu_changeControl_30 (by decide),
   ts_iconst hC d_Gu_changeControl_33 (by decide),
   ts_istore hC d_Gu_changeControl_34 (by decide),
   ts_iload hC d_Gu_changeControl_36,
   ts_calls hC con_Co_exists wd_223 wd_26 (by decide +kernel) ⟨by decide, by decide⟩ ⟨Nat.zero_le _, Nat.zero_le _⟩ wd_404 wd_222 d_Gu_changeControl_38,
   ts_ifeq hC d_Gu_changeControl_41 (by decide),
   ts_iload hC d_Gu_changeControl_44,
   ts_ifeq hC d_Gu_changeControl_46 (by decide),
   ts_iload hC d_Gu_changeControl_49,
   ts_calls hC con_Co_isStoredTo wd_220 wd_26 (by decide +kernel) ⟨by decide, by decide⟩ ⟨Nat.zero_le _, Nat.zero_le _⟩ wd_405 wd_219 d_Gu_changeControl_51,
   ts_ifne hC d_Gu_changeControl_54 (by decide),
   ts_aload_n hC d_Gu_changeControl_57 rfl,
   ts_iconst hC d_Gu_changeControl_58 (by decide),
   ts_iload_n hC d_Gu_changeControl_59 rfl,
   ts_callv (C := R_Gu) (T := T_Gu) hC con_Gu_trap wd_298 wd_25 (by decide +kernel) ⟨by decide, by decide⟩ ⟨Nat.zero_le _, Nat.zero_le _⟩ wd_295 rfl rfl wd_296 wd_297 d_Gu_changeControl_60,
   ts_aret hC rfl d_Gu_changeControl_63,
   ts_aload_n hC d_Gu_changeControl_64 rfl,
   ts_gr (j := 1) (C := R_Gu) (T := T_Gu) hC rfl rfl rfl (by decide) u_Gu wd_134 rfl d_Gu_changeControl_65,
   ts_iload_n hC d_Gu_changeControl_68 rfl,
   ts_iaload hC d_Gu_changeControl_69,
   ts_istore hC d_Gu_changeControl_70 (by decide),
   ts_aload_n hC d_Gu_changeControl_72 rfl,
   ts_gr (j := 3) (C := R_Gu) (T := T_Gu) hC rfl rfl rfl (by decide) u_Gu wd_138 rfl d_Gu_changeControl_73,
   ts_iload hC d_Gu_changeControl_76,
   ts_callv (C := R_Co) (T := T_Co) hC con_Co_take wd_409 wd_26 (by decide +kernel) ⟨by decide, by decide⟩ ⟨Nat.zero_le _, Nat.zero_le _⟩ wd_406 rfl rfl wd_407 wd_408 d_Gu_changeControl_78,
   ts_istore hC d_Gu_changeControl_81 (by decide),
   ts_aload_n hC d_Gu_changeControl_83 rfl,
   ts_iload_n hC d_Gu_changeControl_84 rfl,
   ts_iconst hC d_Gu_changeControl_85 (by decide),
   ts_ishr hC d_Gu_changeControl_86,
   ts_bipush hC d_Gu_changeControl_87 (by decide),
   ts_iand hC d_Gu_changeControl_89,
   ts_iload hC d_Gu_changeControl_90,
   ts_callv (C := R_Gu) (T := T_Gu) hC con_Gu_setRegister wd_209 wd_25 (by decide +kernel) ⟨by decide, by decide⟩ ⟨Nat.zero_le _, Nat.zero_le _⟩ wd_364 rfl rfl wd_207 wd_208 d_Gu_changeControl_92,
   ts_iload hC d_Gu_changeControl_95,
   ts_ifeq hC d_Gu_changeControl_97 (by decide),
   ts_aload_n hC d_Gu_changeControl_100 rfl,
   ts_iload hC d_Gu_changeControl_101,
   ts_iload_n hC d_Gu_changeControl_103 rfl,
   ts_iload hC d_Gu_changeControl_104,
   ts_iload hC d_Gu_changeControl_106,
   ts_calls hC con_Gu_changed wd_417 wd_25 (by decide +kernel) ⟨by decide, by decide⟩ ⟨Nat.zero_le _, Nat.zero_le _⟩ wd_415 wd_416 d_Gu_changeControl_108,
   ts_callv (C := R_Gu) (T := T_Gu) hC con_Gu_storeControl wd_227 wd_25 (by decide +kernel) ⟨by decide, by decide⟩ ⟨Nat.zero_le _, Nat.zero_le _⟩ wd_418 rfl rfl wd_225 wd_226 d_Gu_changeControl_111,
   ts_aload_n hC d_Gu_changeControl_114 rfl,
   ts_aload_n hC d_Gu_changeControl_115 rfl,
   ts_gi (j := 6) (C := R_Gu) (T := T_Gu) hC rfl rfl rfl (by decide) u_Gu wd_143 rfl d_Gu_changeControl_116,
   ts_iconst hC d_Gu_changeControl_119 (by decide),
   ts_iadd hC d_Gu_changeControl_120,
   ts_callv (C := R_Gu) (T := T_Gu) hC con_Gu_retireAt wd_368 wd_25 (by decide +kernel) ⟨by decide, by decide⟩ ⟨Nat.zero_le _, Nat.zero_le _⟩ wd_365 rfl rfl wd_366 wd_367 d_Gu_changeControl_121,
   ts_aret hC rfl d_Gu_changeControl_124,
   trivial⟩
def fn_Gu_changeControl : tw_Fn := tw_fn 2 8 72 pr_Gu_changeControl
theorem con_Gu_changeControl : tw_Con y_Gu_changeControl b_Gu_changeControl 8 (some (.object "TwinHost$Outcome")) 4 fn_Gu_changeControl := tw_met (by decide +kernel) (tw_fn_len (n := 2) (by decide)) (fun p l e s m args below meth c E D vs σ ρ hC h => tw_sound (ok_Gu_changeControl hC) 72 pr_Gu_changeControl (ok_Gu_changeControl hC) _ _ _ (tw_fn_get h))

-- TwinHost$Guest.load(II)LTwinHost$Outcome;: 27 instructions, depth 4, calls Gu_reach Gu_fault Gu_setRegister Gu_retireAt
theorem d_Gu_load_0 : decode b_Gu_load 0 = .ok (.aload_n 0, 1) := by decide +kernel
theorem d_Gu_load_1 : decode b_Gu_load 1 = .ok (.iload_n 2, 1) := by decide +kernel
theorem d_Gu_load_2 : decode b_Gu_load 2 = .ok (.getstatic 106, 3) := by decide +kernel
theorem d_Gu_load_5 : decode b_Gu_load 5 = .ok (.invokevirtual 72, 3) := by decide +kernel
theorem d_Gu_load_8 : decode b_Gu_load 8 = .ok (.istore_n 3, 1) := by decide +kernel
theorem d_Gu_load_9 : decode b_Gu_load 9 = .ok (.iload_n 3, 1) := by decide +kernel
theorem d_Gu_load_10 : decode b_Gu_load 10 = .ok (.ifCond .ge 11, 3) := by decide +kernel
theorem d_Gu_load_13 : decode b_Gu_load 13 = .ok (.aload_n 0, 1) := by decide +kernel
theorem d_Gu_load_14 : decode b_Gu_load 14 = .ok (.iload_n 3, 1) := by decide +kernel
theorem d_Gu_load_15 : decode b_Gu_load 15 = .ok (.ineg, 1) := by decide +kernel
theorem d_Gu_load_16 : decode b_Gu_load 16 = .ok (.iload_n 2, 1) := by decide +kernel
theorem d_Gu_load_17 : decode b_Gu_load 17 = .ok (.invokevirtual 76, 3) := by decide +kernel
theorem d_Gu_load_20 : decode b_Gu_load 20 = .ok (.areturn, 1) := by decide +kernel
theorem d_Gu_load_21 : decode b_Gu_load 21 = .ok (.aload_n 0, 1) := by decide +kernel
theorem d_Gu_load_22 : decode b_Gu_load 22 = .ok (.iload_n 1, 1) := by decide +kernel
theorem d_Gu_load_23 : decode b_Gu_load 23 = .ok (.aload_n 0, 1) := by decide +kernel
theorem d_Gu_load_24 : decode b_Gu_load 24 = .ok (.getfield 9, 3) := by decide +kernel
theorem d_Gu_load_27 : decode b_Gu_load 27 = .ok (.iload_n 3, 1) := by decide +kernel
theorem d_Gu_load_28 : decode b_Gu_load 28 = .ok (.iaload, 1) := by decide +kernel
theorem d_Gu_load_29 : decode b_Gu_load 29 = .ok (.invokevirtual 102, 3) := by decide +kernel
theorem d_Gu_load_32 : decode b_Gu_load 32 = .ok (.aload_n 0, 1) := by decide +kernel
theorem d_Gu_load_33 : decode b_Gu_load 33 = .ok (.aload_n 0, 1) := by decide +kernel
theorem d_Gu_load_34 : decode b_Gu_load 34 = .ok (.getfield 62, 3) := by decide +kernel
theorem d_Gu_load_37 : decode b_Gu_load 37 = .ok (.iconst 1, 1) := by decide +kernel
theorem d_Gu_load_38 : decode b_Gu_load 38 = .ok (.iadd, 1) := by decide +kernel
theorem d_Gu_load_39 : decode b_Gu_load 39 = .ok (.invokevirtual 92, 3) := by decide +kernel
theorem d_Gu_load_42 : decode b_Gu_load 42 = .ok (.areturn, 1) := by decide +kernel
def pr_Gu_load : List (Nat × tw_Op) := [(0, tw_al 0), (1, tw_il 2), (2, tw_en 51), (5, tw_cv 2 0 fn_Gu_reach), (8, tw_is 3), (9, tw_il 3), (10, tw_ifge 21), (13, tw_al 0), (14, tw_il 3), (15, tw_neg), (16, tw_il 2), (17, tw_cv 2 0 fn_Gu_fault), (20, tw_ra), (21, tw_al 0), (22, tw_il 1), (23, tw_al 0), (24, tw_gr 0 1), (27, tw_il 3), (28, tw_ia), (29, tw_cv 2 0 fn_Gu_setRegister), (32, tw_al 0), (33, tw_al 0), (34, tw_gi 0 6), (37, tw_ic 1), (38, tw_bin (· + ·)), (39, tw_cv 1 0 fn_Gu_retireAt), (42, tw_ra)]
set_option maxRecDepth 100000 in
set_option maxHeartbeats 4000000 in
theorem ok_Gu_load {p : Program} {l : Launch} {e : Env} {s : State} {m : MethodId} {args : Array Value} {below : List Frame} {meth : Method} {c : Code} {E : tw_E} {D : va_G} {ρ : tw_R} (hC : tw_Cx p s m args meth c b_Gu_load 4 (some (.object "TwinHost$Outcome")) "TwinHost$Guest" E D) : tw_Ok p l e (tw_rmd 4) s m args below meth c 0 0 (MQ below (tw_Qc E D ρ) args s 0 0 (tw_A E)) 4 E D ρ pr_Gu_load :=
  ⟨ts_aload_n hC d_Gu_load_0 rfl,
   ts_iload_n hC d_Gu_load_1 rfl,
   ts_getA (i := 1) hC (by decide) rfl wd_362 d_Gu_load_2,
   ts_callv (C := R_Gu) (T := T_Gu) hC con_Gu_reach wd_311 wd_25 (by decide +kernel) ⟨by decide, by decide⟩ ⟨Nat.zero_le _, Nat.zero_le _⟩ wd_308 rfl rfl wd_309 wd_310 d_Gu_load_5,
   ts_istore_n hC d_Gu_load_8 rfl (by decide),
   ts_iload_n hC d_Gu_load_9 rfl,
   ts_ifge hC d_Gu_load_10 (by decide),
   ts_aload_n hC d_Gu_load_13 rfl,
   ts_iload_n hC d_Gu_load_14 rfl,
   ts_ineg hC d_Gu_load_15,
   ts_iload_n hC d_Gu_load_16 rfl,
   ts_callv (C := R_Gu) (T := T_Gu) hC con_Gu_fault wd_353 wd_25 (by decide +kernel) ⟨by decide, by decide⟩ ⟨Nat.zero_le _, Nat.zero_le _⟩ wd_350 rfl rfl wd_351 wd_352 d_Gu_load_17,
   ts_aret hC rfl d_Gu_load_20,
   ts_aload_n hC d_Gu_load_21 rfl,
   ts_iload_n hC d_Gu_load_22 rfl,
   ts_aload_n hC d_Gu_load_23 rfl,
   ts_gr (j := 0) (C := R_Gu) (T := T_Gu) hC rfl rfl rfl (by decide) u_Gu wd_132 rfl d_Gu_load_24,
   ts_iload_n hC d_Gu_load_27 rfl,
   ts_iaload hC d_Gu_load_28,
   ts_callv (C := R_Gu) (T := T_Gu) hC con_Gu_setRegister wd_209 wd_25 (by decide +kernel) ⟨by decide, by decide⟩ ⟨Nat.zero_le _, Nat.zero_le _⟩ wd_364 rfl rfl wd_207 wd_208 d_Gu_load_29,
   ts_aload_n hC d_Gu_load_32 rfl,
   ts_aload_n hC d_Gu_load_33 rfl,
   ts_gi (j := 6) (C := R_Gu) (T := T_Gu) hC rfl rfl rfl (by decide) u_Gu wd_143 rfl d_Gu_load_34,
   ts_iconst hC d_Gu_load_37 (by decide),
   ts_iadd hC d_Gu_load_38,
   ts_callv (C := R_Gu) (T := T_Gu) hC con_Gu_retireAt wd_368 wd_25 (by decide +kernel) ⟨by decide, by decide⟩ ⟨Nat.zero_le _, Nat.zero_le _⟩ wd_365 rfl rfl wd_366 wd_367 d_Gu_load_39,
   ts_aret hC rfl d_Gu_load_42,
   trivial⟩
def fn_Gu_load : tw_Fn := tw_fn 3 4 29 pr_Gu_load
theorem con_Gu_load : tw_Con y_Gu_load b_Gu_load 4 (some (.object "TwinHost$Outcome")) 4 fn_Gu_load := tw_met (by decide +kernel) (tw_fn_len (n := 3) (by decide)) (fun p l e s m args below meth c E D vs σ ρ hC h => tw_sound (ok_Gu_load hC) 29 pr_Gu_load (ok_Gu_load hC) _ _ _ (tw_fn_get h))

-- TwinHost$Guest.store(II)LTwinHost$Outcome;: 40 instructions, depth 4, calls Gu_reach Gu_fault Sh_isTraced Gu_overwrite Gu_retireAt
theorem d_Gu_store_0 : decode b_Gu_store 0 = .ok (.aload_n 0, 1) := by decide +kernel
theorem d_Gu_store_1 : decode b_Gu_store 1 = .ok (.iload_n 1, 1) := by decide +kernel
theorem d_Gu_store_2 : decode b_Gu_store 2 = .ok (.getstatic 109, 3) := by decide +kernel
theorem d_Gu_store_5 : decode b_Gu_store 5 = .ok (.invokevirtual 72, 3) := by decide +kernel
theorem d_Gu_store_8 : decode b_Gu_store 8 = .ok (.istore_n 3, 1) := by decide +kernel
theorem d_Gu_store_9 : decode b_Gu_store 9 = .ok (.iload_n 3, 1) := by decide +kernel
theorem d_Gu_store_10 : decode b_Gu_store 10 = .ok (.ifCond .ge 11, 3) := by decide +kernel
theorem d_Gu_store_13 : decode b_Gu_store 13 = .ok (.aload_n 0, 1) := by decide +kernel
theorem d_Gu_store_14 : decode b_Gu_store 14 = .ok (.iload_n 3, 1) := by decide +kernel
theorem d_Gu_store_15 : decode b_Gu_store 15 = .ok (.ineg, 1) := by decide +kernel
theorem d_Gu_store_16 : decode b_Gu_store 16 = .ok (.iload_n 1, 1) := by decide +kernel
theorem d_Gu_store_17 : decode b_Gu_store 17 = .ok (.invokevirtual 76, 3) := by decide +kernel
theorem d_Gu_store_20 : decode b_Gu_store 20 = .ok (.areturn, 1) := by decide +kernel
theorem d_Gu_store_21 : decode b_Gu_store 21 = .ok (.aload_n 0, 1) := by decide +kernel
theorem d_Gu_store_22 : decode b_Gu_store 22 = .ok (.getfield 33, 3) := by decide +kernel
theorem d_Gu_store_25 : decode b_Gu_store 25 = .ok (.iload_n 3, 1) := by decide +kernel
theorem d_Gu_store_26 : decode b_Gu_store 26 = .ok (.iconst 4, 1) := by decide +kernel
theorem d_Gu_store_27 : decode b_Gu_store 27 = .ok (.ishr, 1) := by decide +kernel
theorem d_Gu_store_28 : decode b_Gu_store 28 = .ok (.invokevirtual 112, 3) := by decide +kernel
theorem d_Gu_store_31 : decode b_Gu_store 31 = .ok (.ifCond .eq 13, 3) := by decide +kernel
theorem d_Gu_store_34 : decode b_Gu_store 34 = .ok (.aload_n 0, 1) := by decide +kernel
theorem d_Gu_store_35 : decode b_Gu_store 35 = .ok (.getfield 20, 3) := by decide +kernel
theorem d_Gu_store_38 : decode b_Gu_store 38 = .ok (.iconst 3, 1) := by decide +kernel
theorem d_Gu_store_39 : decode b_Gu_store 39 = .ok (.dup2, 1) := by decide +kernel
theorem d_Gu_store_40 : decode b_Gu_store 40 = .ok (.iaload, 1) := by decide +kernel
theorem d_Gu_store_41 : decode b_Gu_store 41 = .ok (.iconst 1, 1) := by decide +kernel
theorem d_Gu_store_42 : decode b_Gu_store 42 = .ok (.iadd, 1) := by decide +kernel
theorem d_Gu_store_43 : decode b_Gu_store 43 = .ok (.iastore, 1) := by decide +kernel
theorem d_Gu_store_44 : decode b_Gu_store 44 = .ok (.aload_n 0, 1) := by decide +kernel
theorem d_Gu_store_45 : decode b_Gu_store 45 = .ok (.iload_n 3, 1) := by decide +kernel
theorem d_Gu_store_46 : decode b_Gu_store 46 = .ok (.iload_n 2, 1) := by decide +kernel
theorem d_Gu_store_47 : decode b_Gu_store 47 = .ok (.invokevirtual 115, 3) := by decide +kernel
theorem d_Gu_store_50 : decode b_Gu_store 50 = .ok (.pop, 1) := by decide +kernel
theorem d_Gu_store_51 : decode b_Gu_store 51 = .ok (.aload_n 0, 1) := by decide +kernel
theorem d_Gu_store_52 : decode b_Gu_store 52 = .ok (.aload_n 0, 1) := by decide +kernel
theorem d_Gu_store_53 : decode b_Gu_store 53 = .ok (.getfield 62, 3) := by decide +kernel
theorem d_Gu_store_56 : decode b_Gu_store 56 = .ok (.iconst 1, 1) := by decide +kernel
theorem d_Gu_store_57 : decode b_Gu_store 57 = .ok (.iadd, 1) := by decide +kernel
theorem d_Gu_store_58 : decode b_Gu_store 58 = .ok (.invokevirtual 92, 3) := by decide +kernel
theorem d_Gu_store_61 : decode b_Gu_store 61 = .ok (.areturn, 1) := by decide +kernel
def pr_Gu_store : List (Nat × tw_Op) := [(0, tw_al 0), (1, tw_il 1), (2, tw_en 52), (5, tw_cv 2 0 fn_Gu_reach), (8, tw_is 3), (9, tw_il 3), (10, tw_ifge 21), (13, tw_al 0), (14, tw_il 3), (15, tw_neg), (16, tw_il 1), (17, tw_cv 2 0 fn_Gu_fault), (20, tw_ra), (21, tw_al 0), (22, tw_gr 0 9), (25, tw_il 3), (26, tw_ic 4), (27, tw_bin (fun x y => x >>> (y &&& 31))), (28, tw_cv 1 9 fn_Sh_isTraced), (31, tw_ifeq 44), (34, tw_al 0), (35, tw_gr 0 3), (38, tw_ic 3), (39, tw_d2), (40, tw_ia), (41, tw_ic 1), (42, tw_bin (· + ·)), (43, tw_ias 0 22), (44, tw_al 0), (45, tw_il 3), (46, tw_il 2), (47, tw_cv 2 0 fn_Gu_overwrite), (50, tw_pop), (51, tw_al 0), (52, tw_al 0), (53, tw_gi 0 6), (56, tw_ic 1), (57, tw_bin (· + ·)), (58, tw_cv 1 0 fn_Gu_retireAt), (61, tw_ra)]
set_option maxRecDepth 100000 in
set_option maxHeartbeats 4000000 in
theorem ok_Gu_store {p : Program} {l : Launch} {e : Env} {s : State} {m : MethodId} {args : Array Value} {below : List Frame} {meth : Method} {c : Code} {E : tw_E} {D : va_G} {ρ : tw_R} (hC : tw_Cx p s m args meth c b_Gu_store 4 (some (.object "TwinHost$Outcome")) "TwinHost$Guest" E D) : tw_Ok p l e (tw_rmd 4) s m args below meth c 0 0 (MQ below (tw_Qc E D ρ) args s 0 0 (tw_A E)) 4 E D ρ pr_Gu_store :=
  ⟨ts_aload_n hC d_Gu_store_0 rfl,
   ts_iload_n hC d_Gu_store_1 rfl,
   ts_getA (i := 2) hC (by decide) rfl wd_345 d_Gu_store_2,
   ts_callv (C := R_Gu) (T := T_Gu) hC con_Gu_reach wd_311 wd_25 (by decide +kernel) ⟨by decide, by decide⟩ ⟨Nat.zero_le _, Nat.zero_le _⟩ wd_308 rfl rfl wd_309 wd_310 d_Gu_store_5,
   ts_istore_n hC d_Gu_store_8 rfl (by decide),
   ts_iload_n hC d_Gu_store_9 rfl,
   ts_ifge hC d_Gu_store_10 (by decide),
   ts_aload_n hC d_Gu_store_13 rfl,
   ts_iload_n hC d_Gu_store_14 rfl,
   ts_ineg hC d_Gu_store_15,
   ts_iload_n hC d_Gu_store_16 rfl,
   ts_callv (C := R_Gu) (T := T_Gu) hC con_Gu_fault wd_353 wd_25 (by decide +kernel) ⟨by decide, by decide⟩ ⟨Nat.zero_le _, Nat.zero_le _⟩ wd_350 rfl rfl wd_351 wd_352 d_Gu_store_17,
   ts_aret hC rfl d_Gu_store_20,
   ts_aload_n hC d_Gu_store_21 rfl,
   ts_gr (j := 4) (C := R_Gu) (T := T_Gu) hC rfl rfl rfl (by decide) u_Gu wd_140 rfl d_Gu_store_22,
   ts_iload_n hC d_Gu_store_25 rfl,
   ts_iconst hC d_Gu_store_26 (by decide),
   ts_ishr hC d_Gu_store_27,
   ts_callv (C := R_Sh) (T := T_Sh) hC con_Sh_isTraced wd_378 wd_28 (by decide +kernel) ⟨by decide, by decide⟩ ⟨Nat.zero_le _, Nat.zero_le _⟩ wd_375 rfl rfl wd_376 wd_377 d_Gu_store_28,
   ts_ifeq hC d_Gu_store_31 (by decide),
   ts_aload_n hC d_Gu_store_34 rfl,
   ts_gr (j := 2) (C := R_Gu) (T := T_Gu) hC rfl rfl rfl (by decide) u_Gu wd_136 rfl d_Gu_store_35,
   ts_iconst hC d_Gu_store_38 (by decide),
   ts_dup2 hC d_Gu_store_39,
   ts_iaload hC d_Gu_store_40,
   ts_iconst hC d_Gu_store_41 (by decide),
   ts_iadd hC d_Gu_store_42,
   ts_iastore hC d_Gu_store_43,
   ts_aload_n hC d_Gu_store_44 rfl,
   ts_iload_n hC d_Gu_store_45 rfl,
   ts_iload_n hC d_Gu_store_46 rfl,
   ts_callv (C := R_Gu) (T := T_Gu) hC con_Gu_overwrite wd_190 wd_25 (by decide +kernel) ⟨by decide, by decide⟩ ⟨Nat.zero_le _, Nat.zero_le _⟩ wd_382 rfl rfl wd_188 wd_189 d_Gu_store_47,
   ts_pop hC d_Gu_store_50,
   ts_aload_n hC d_Gu_store_51 rfl,
   ts_aload_n hC d_Gu_store_52 rfl,
   ts_gi (j := 6) (C := R_Gu) (T := T_Gu) hC rfl rfl rfl (by decide) u_Gu wd_143 rfl d_Gu_store_53,
   ts_iconst hC d_Gu_store_56 (by decide),
   ts_iadd hC d_Gu_store_57,
   ts_callv (C := R_Gu) (T := T_Gu) hC con_Gu_retireAt wd_368 wd_25 (by decide +kernel) ⟨by decide, by decide⟩ ⟨Nat.zero_le _, Nat.zero_le _⟩ wd_365 rfl rfl wd_366 wd_367 d_Gu_store_58,
   ts_aret hC rfl d_Gu_store_61,
   trivial⟩
def fn_Gu_store : tw_Fn := tw_fn 3 4 42 pr_Gu_store
theorem con_Gu_store : tw_Con y_Gu_store b_Gu_store 4 (some (.object "TwinHost$Outcome")) 4 fn_Gu_store := tw_met (by decide +kernel) (tw_fn_len (n := 3) (by decide)) (fun p l e s m args below meth c E D vs σ ρ hC h => tw_sound (ok_Gu_store hC) 42 pr_Gu_store (ok_Gu_store hC) _ _ _ (tw_fn_get h))
end
section
-- TwinHost$Guest.doOrdinary(I)LTwinHost$Outcome;: 123 instructions, depth 5, calls Gu_load Gu_store Gu_retireAt Gu_link Gu_compute Gu_setRegister
theorem d_Gu_doOrdinary_0 : decode b_Gu_doOrdinary 0 = .ok (.iload_n 1, 1) := by decide +kernel
theorem d_Gu_doOrdinary_1 : decode b_Gu_doOrdinary 1 = .ok (.iconst 5, 1) := by decide +kernel
theorem d_Gu_doOrdinary_2 : decode b_Gu_doOrdinary 2 = .ok (.ishr, 1) := by decide +kernel
theorem d_Gu_doOrdinary_3 : decode b_Gu_doOrdinary 3 = .ok (.bipush 7, 2) := by decide +kernel
theorem d_Gu_doOrdinary_5 : decode b_Gu_doOrdinary 5 = .ok (.iand, 1) := by decide +kernel
theorem d_Gu_doOrdinary_6 : decode b_Gu_doOrdinary 6 = .ok (.istore_n 2, 1) := by decide +kernel
theorem d_Gu_doOrdinary_7 : decode b_Gu_doOrdinary 7 = .ok (.aload_n 0, 1) := by decide +kernel
theorem d_Gu_doOrdinary_8 : decode b_Gu_doOrdinary 8 = .ok (.getfield 15, 3) := by decide +kernel
theorem d_Gu_doOrdinary_11 : decode b_Gu_doOrdinary 11 = .ok (.iload_n 1, 1) := by decide +kernel
theorem d_Gu_doOrdinary_12 : decode b_Gu_doOrdinary 12 = .ok (.bipush 8, 2) := by decide +kernel
theorem d_Gu_doOrdinary_14 : decode b_Gu_doOrdinary 14 = .ok (.ishr, 1) := by decide +kernel
theorem d_Gu_doOrdinary_15 : decode b_Gu_doOrdinary 15 = .ok (.bipush 7, 2) := by decide +kernel
theorem d_Gu_doOrdinary_17 : decode b_Gu_doOrdinary 17 = .ok (.iand, 1) := by decide +kernel
theorem d_Gu_doOrdinary_18 : decode b_Gu_doOrdinary 18 = .ok (.iaload, 1) := by decide +kernel
theorem d_Gu_doOrdinary_19 : decode b_Gu_doOrdinary 19 = .ok (.istore_n 3, 1) := by decide +kernel
theorem d_Gu_doOrdinary_20 : decode b_Gu_doOrdinary 20 = .ok (.aload_n 0, 1) := by decide +kernel
theorem d_Gu_doOrdinary_21 : decode b_Gu_doOrdinary 21 = .ok (.getfield 15, 3) := by decide +kernel
theorem d_Gu_doOrdinary_24 : decode b_Gu_doOrdinary 24 = .ok (.iload_n 1, 1) := by decide +kernel
theorem d_Gu_doOrdinary_25 : decode b_Gu_doOrdinary 25 = .ok (.bipush 11, 2) := by decide +kernel
theorem d_Gu_doOrdinary_27 : decode b_Gu_doOrdinary 27 = .ok (.ishr, 1) := by decide +kernel
theorem d_Gu_doOrdinary_28 : decode b_Gu_doOrdinary 28 = .ok (.bipush 7, 2) := by decide +kernel
theorem d_Gu_doOrdinary_30 : decode b_Gu_doOrdinary 30 = .ok (.iand, 1) := by decide +kernel
theorem d_Gu_doOrdinary_31 : decode b_Gu_doOrdinary 31 = .ok (.iaload, 1) := by decide +kernel
theorem d_Gu_doOrdinary_32 : decode b_Gu_doOrdinary 32 = .ok (.istore 4, 2) := by decide +kernel
theorem d_Gu_doOrdinary_34 : decode b_Gu_doOrdinary 34 = .ok (.iload_n 1, 1) := by decide +kernel
theorem d_Gu_doOrdinary_35 : decode b_Gu_doOrdinary 35 = .ok (.bipush 16, 2) := by decide +kernel
theorem d_Gu_doOrdinary_37 : decode b_Gu_doOrdinary 37 = .ok (.ishr, 1) := by decide +kernel
theorem d_Gu_doOrdinary_38 : decode b_Gu_doOrdinary 38 = .ok (.istore 5, 2) := by decide +kernel
theorem d_Gu_doOrdinary_40 : decode b_Gu_doOrdinary 40 = .ok (.iload_n 1, 1) := by decide +kernel
theorem d_Gu_doOrdinary_41 : decode b_Gu_doOrdinary 41 = .ok (.bipush 31, 2) := by decide +kernel
theorem d_Gu_doOrdinary_43 : decode b_Gu_doOrdinary 43 = .ok (.iand, 1) := by decide +kernel
theorem d_Gu_doOrdinary_44 : decode b_Gu_doOrdinary 44 = .ok (.tableswitch 169 10 16 #[44, 54, 65, 92, 119, 146, 159], 44) := by decide +kernel
theorem d_Gu_doOrdinary_88 : decode b_Gu_doOrdinary 88 = .ok (.aload_n 0, 1) := by decide +kernel
theorem d_Gu_doOrdinary_89 : decode b_Gu_doOrdinary 89 = .ok (.iload_n 2, 1) := by decide +kernel
theorem d_Gu_doOrdinary_90 : decode b_Gu_doOrdinary 90 = .ok (.iload_n 3, 1) := by decide +kernel
theorem d_Gu_doOrdinary_91 : decode b_Gu_doOrdinary 91 = .ok (.iload 5, 2) := by decide +kernel
theorem d_Gu_doOrdinary_93 : decode b_Gu_doOrdinary 93 = .ok (.iadd, 1) := by decide +kernel
theorem d_Gu_doOrdinary_94 : decode b_Gu_doOrdinary 94 = .ok (.invokevirtual 86, 3) := by decide +kernel
theorem d_Gu_doOrdinary_97 : decode b_Gu_doOrdinary 97 = .ok (.areturn, 1) := by decide +kernel
theorem d_Gu_doOrdinary_98 : decode b_Gu_doOrdinary 98 = .ok (.aload_n 0, 1) := by decide +kernel
theorem d_Gu_doOrdinary_99 : decode b_Gu_doOrdinary 99 = .ok (.iload_n 3, 1) := by decide +kernel
theorem d_Gu_doOrdinary_100 : decode b_Gu_doOrdinary 100 = .ok (.iload 5, 2) := by decide +kernel
theorem d_Gu_doOrdinary_102 : decode b_Gu_doOrdinary 102 = .ok (.iadd, 1) := by decide +kernel
theorem d_Gu_doOrdinary_103 : decode b_Gu_doOrdinary 103 = .ok (.iload 4, 2) := by decide +kernel
theorem d_Gu_doOrdinary_105 : decode b_Gu_doOrdinary 105 = .ok (.invokevirtual 89, 3) := by decide +kernel
theorem d_Gu_doOrdinary_108 : decode b_Gu_doOrdinary 108 = .ok (.areturn, 1) := by decide +kernel
theorem d_Gu_doOrdinary_109 : decode b_Gu_doOrdinary 109 = .ok (.aload_n 0, 1) := by decide +kernel
theorem d_Gu_doOrdinary_110 : decode b_Gu_doOrdinary 110 = .ok (.iload_n 3, 1) := by decide +kernel
theorem d_Gu_doOrdinary_111 : decode b_Gu_doOrdinary 111 = .ok (.iload 4, 2) := by decide +kernel
theorem d_Gu_doOrdinary_113 : decode b_Gu_doOrdinary 113 = .ok (.if_icmp .ne 13, 3) := by decide +kernel
theorem d_Gu_doOrdinary_116 : decode b_Gu_doOrdinary 116 = .ok (.aload_n 0, 1) := by decide +kernel
theorem d_Gu_doOrdinary_117 : decode b_Gu_doOrdinary 117 = .ok (.getfield 62, 3) := by decide +kernel
theorem d_Gu_doOrdinary_120 : decode b_Gu_doOrdinary 120 = .ok (.iload 5, 2) := by decide +kernel
theorem d_Gu_doOrdinary_122 : decode b_Gu_doOrdinary 122 = .ok (.iadd, 1) := by decide +kernel
theorem d_Gu_doOrdinary_123 : decode b_Gu_doOrdinary 123 = .ok (.goto 9, 3) := by decide +kernel
theorem d_Gu_doOrdinary_126 : decode b_Gu_doOrdinary 126 = .ok (.aload_n 0, 1) := by decide +kernel
theorem d_Gu_doOrdinary_127 : decode b_Gu_doOrdinary 127 = .ok (.getfield 62, 3) := by decide +kernel
theorem d_Gu_doOrdinary_130 : decode b_Gu_doOrdinary 130 = .ok (.iconst 1, 1) := by decide +kernel
theorem d_Gu_doOrdinary_131 : decode b_Gu_doOrdinary 131 = .ok (.iadd, 1) := by decide +kernel
theorem d_Gu_doOrdinary_132 : decode b_Gu_doOrdinary 132 = .ok (.invokevirtual 92, 3) := by decide +kernel
theorem d_Gu_doOrdinary_135 : decode b_Gu_doOrdinary 135 = .ok (.areturn, 1) := by decide +kernel
theorem d_Gu_doOrdinary_136 : decode b_Gu_doOrdinary 136 = .ok (.aload_n 0, 1) := by decide +kernel
theorem d_Gu_doOrdinary_137 : decode b_Gu_doOrdinary 137 = .ok (.iload_n 3, 1) := by decide +kernel
theorem d_Gu_doOrdinary_138 : decode b_Gu_doOrdinary 138 = .ok (.iload 4, 2) := by decide +kernel
theorem d_Gu_doOrdinary_140 : decode b_Gu_doOrdinary 140 = .ok (.if_icmp .eq 13, 3) := by decide +kernel
theorem d_Gu_doOrdinary_143 : decode b_Gu_doOrdinary 143 = .ok (.aload_n 0, 1) := by decide +kernel
theorem d_Gu_doOrdinary_144 : decode b_Gu_doOrdinary 144 = .ok (.getfield 62, 3) := by decide +kernel
theorem d_Gu_doOrdinary_147 : decode b_Gu_doOrdinary 147 = .ok (.iload 5, 2) := by decide +kernel
theorem d_Gu_doOrdinary_149 : decode b_Gu_doOrdinary 149 = .ok (.iadd, 1) := by decide +kernel
theorem d_Gu_doOrdinary_150 : decode b_Gu_doOrdinary 150 = .ok (.goto 9, 3) := by decide +kernel
theorem d_Gu_doOrdinary_153 : decode b_Gu_doOrdinary 153 = .ok (.aload_n 0, 1) := by decide +kernel
theorem d_Gu_doOrdinary_154 : decode b_Gu_doOrdinary 154 = .ok (.getfield 62, 3) := by decide +kernel
theorem d_Gu_doOrdinary_157 : decode b_Gu_doOrdinary 157 = .ok (.iconst 1, 1) := by decide +kernel
theorem d_Gu_doOrdinary_158 : decode b_Gu_doOrdinary 158 = .ok (.iadd, 1) := by decide +kernel
theorem d_Gu_doOrdinary_159 : decode b_Gu_doOrdinary 159 = .ok (.invokevirtual 92, 3) := by decide +kernel
theorem d_Gu_doOrdinary_162 : decode b_Gu_doOrdinary 162 = .ok (.areturn, 1) := by decide +kernel
theorem d_Gu_doOrdinary_163 : decode b_Gu_doOrdinary 163 = .ok (.aload_n 0, 1) := by decide +kernel
theorem d_Gu_doOrdinary_164 : decode b_Gu_doOrdinary 164 = .ok (.iload_n 3, 1) := by decide +kernel
theorem d_Gu_doOrdinary_165 : decode b_Gu_doOrdinary 165 = .ok (.iload 4, 2) := by decide +kernel
theorem d_Gu_doOrdinary_167 : decode b_Gu_doOrdinary 167 = .ok (.if_icmp .ge 13, 3) := by decide +kernel
theorem d_Gu_doOrdinary_170 : decode b_Gu_doOrdinary 170 = .ok (.aload_n 0, 1) := by decide +kernel
theorem d_Gu_doOrdinary_171 : decode b_Gu_doOrdinary 171 = .ok (.getfield 62, 3) := by decide +kernel
theorem d_Gu_doOrdinary_174 : decode b_Gu_doOrdinary 174 = .ok (.iload 5, 2) := by decide +kernel
theorem d_Gu_doOrdinary_176 : decode b_Gu_doOrdinary 176 = .ok (.iadd, 1) := by decide +kernel
theorem d_Gu_doOrdinary_177 : decode b_Gu_doOrdinary 177 = .ok (.goto 9, 3) := by decide +kernel
theorem d_Gu_doOrdinary_180 : decode b_Gu_doOrdinary 180 = .ok (.aload_n 0, 1) := by decide +kernel
theorem d_Gu_doOrdinary_181 : decode b_Gu_doOrdinary 181 = .ok (.getfield 62, 3) := by decide +kernel
theorem d_Gu_doOrdinary_184 : decode b_Gu_doOrdinary 184 = .ok (.iconst 1, 1) := by decide +kernel
theorem d_Gu_doOrdinary_185 : decode b_Gu_doOrdinary 185 = .ok (.iadd, 1) := by decide +kernel
theorem d_Gu_doOrdinary_186 : decode b_Gu_doOrdinary 186 = .ok (.invokevirtual 92, 3) := by decide +kernel
theorem d_Gu_doOrdinary_189 : decode b_Gu_doOrdinary 189 = .ok (.areturn, 1) := by decide +kernel
theorem d_Gu_doOrdinary_190 : decode b_Gu_doOrdinary 190 = .ok (.aload_n 0, 1) := by decide +kernel
theorem d_Gu_doOrdinary_191 : decode b_Gu_doOrdinary 191 = .ok (.iload_n 2, 1) := by decide +kernel
theorem d_Gu_doOrdinary_192 : decode b_Gu_doOrdinary 192 = .ok (.aload_n 0, 1) := by decide +kernel
theorem d_Gu_doOrdinary_193 : decode b_Gu_doOrdinary 193 = .ok (.getfield 62, 3) := by decide +kernel
theorem d_Gu_doOrdinary_196 : decode b_Gu_doOrdinary 196 = .ok (.iload 5, 2) := by decide +kernel
theorem d_Gu_doOrdinary_198 : decode b_Gu_doOrdinary 198 = .ok (.iadd, 1) := by decide +kernel
theorem d_Gu_doOrdinary_199 : decode b_Gu_doOrdinary 199 = .ok (.invokevirtual 95, 3) := by decide +kernel
theorem d_Gu_doOrdinary_202 : decode b_Gu_doOrdinary 202 = .ok (.areturn, 1) := by decide +kernel
theorem d_Gu_doOrdinary_203 : decode b_Gu_doOrdinary 203 = .ok (.aload_n 0, 1) := by decide +kernel
theorem d_Gu_doOrdinary_204 : decode b_Gu_doOrdinary 204 = .ok (.iload_n 2, 1) := by decide +kernel
theorem d_Gu_doOrdinary_205 : decode b_Gu_doOrdinary 205 = .ok (.iload_n 3, 1) := by decide +kernel
theorem d_Gu_doOrdinary_206 : decode b_Gu_doOrdinary 206 = .ok (.iload 5, 2) := by decide +kernel
theorem d_Gu_doOrdinary_208 : decode b_Gu_doOrdinary 208 = .ok (.iadd, 1) := by decide +kernel
theorem d_Gu_doOrdinary_209 : decode b_Gu_doOrdinary 209 = .ok (.invokevirtual 95, 3) := by decide +kernel
theorem d_Gu_doOrdinary_212 : decode b_Gu_doOrdinary 212 = .ok (.areturn, 1) := by decide +kernel
theorem d_Gu_doOrdinary_213 : decode b_Gu_doOrdinary 213 = .ok (.aload_n 0, 1) := by decide +kernel
theorem d_Gu_doOrdinary_214 : decode b_Gu_doOrdinary 214 = .ok (.iload_n 2, 1) := by decide +kernel
theorem d_Gu_doOrdinary_215 : decode b_Gu_doOrdinary 215 = .ok (.iload_n 1, 1) := by decide +kernel
theorem d_Gu_doOrdinary_216 : decode b_Gu_doOrdinary 216 = .ok (.bipush 31, 2) := by decide +kernel
theorem d_Gu_doOrdinary_218 : decode b_Gu_doOrdinary 218 = .ok (.iand, 1) := by decide +kernel
theorem d_Gu_doOrdinary_219 : decode b_Gu_doOrdinary 219 = .ok (.iload_n 3, 1) := by decide +kernel
theorem d_Gu_doOrdinary_220 : decode b_Gu_doOrdinary 220 = .ok (.iload 4, 2) := by decide +kernel
theorem d_Gu_doOrdinary_222 : decode b_Gu_doOrdinary 222 = .ok (.iload 5, 2) := by decide +kernel
theorem d_Gu_doOrdinary_224 : decode b_Gu_doOrdinary 224 = .ok (.invokestatic 98, 3) := by decide +kernel
theorem d_Gu_doOrdinary_227 : decode b_Gu_doOrdinary 227 = .ok (.invokevirtual 102, 3) := by decide +kernel
theorem d_Gu_doOrdinary_230 : decode b_Gu_doOrdinary 230 = .ok (.aload_n 0, 1) := by decide +kernel
theorem d_Gu_doOrdinary_231 : decode b_Gu_doOrdinary 231 = .ok (.aload_n 0, 1) := by decide +kernel
theorem d_Gu_doOrdinary_232 : decode b_Gu_doOrdinary 232 = .ok (.getfield 62, 3) := by decide +kernel
theorem d_Gu_doOrdinary_235 : decode b_Gu_doOrdinary 235 = .ok (.iconst 1, 1) := by decide +kernel
theorem d_Gu_doOrdinary_236 : decode b_Gu_doOrdinary 236 = .ok (.iadd, 1) := by decide +kernel
theorem d_Gu_doOrdinary_237 : decode b_Gu_doOrdinary 237 = .ok (.invokevirtual 92, 3) := by decide +kernel
theorem d_Gu_doOrdinary_240 : decode b_Gu_doOrdinary 240 = .ok (.areturn, 1) := by decide +kernel
def pr_Gu_doOrdinary : List (Nat × tw_Op) := [(0, tw_il 1), (1, tw_ic 5), (2, tw_bin (fun x y => x >>> (y &&& 31))), (3, tw_ic (7)), (5, tw_bin (· &&& ·)), (6, tw_is 2), (7, tw_al 0), (8, tw_gr 0 2), (11, tw_il 1), (12, tw_ic (8)), (14, tw_bin (fun x y => x >>> (y &&& 31))), (15, tw_ic (7)), (17, tw_bin (· &&& ·)), (18, tw_ia), (19, tw_is 3), (20, tw_al 0), (21, tw_gr 0 2), (24, tw_il 1), (25, tw_ic (11)), (27, tw_bin (fun x y => x >>> (y &&& 31))), (28, tw_ic (7)), (30, tw_bin (· &&& ·)), (31, tw_ia), (32, tw_is 4), (34, tw_il 1), (35, tw_ic (16)), (37, tw_bin (fun x y => x >>> (y &&& 31))), (38, tw_is 5), (40, tw_il 1), (41, tw_ic (31)), (43, tw_bin (· &&& ·)), (44, tw_sw [(10, 88), (11, 98), (12, 109), (13, 136), (14, 163), (15, 190), (16, 203)] 213), (88, tw_al 0), (89, tw_il 2), (90, tw_il 3), (91, tw_il 5), (93, tw_bin (· + ·)), (94, tw_cv 2 0 fn_Gu_load), (97, tw_ra), (98, tw_al 0), (99, tw_il 3), (100, tw_il 5), (102, tw_bin (· + ·)), (103, tw_il 4), (105, tw_cv 2 0 fn_Gu_store), (108, tw_ra), (109, tw_al 0), (110, tw_il 3), (111, tw_il 4), (113, tw_cne 126), (116, tw_al 0), (117, tw_gi 0 6), (120, tw_il 5), (122, tw_bin (· + ·)), (123, tw_jmp 132), (126, tw_al 0), (127, tw_gi 0 6), (130, tw_ic 1), (131, tw_bin (· + ·)), (132, tw_cv 1 0 fn_Gu_retireAt), (135, tw_ra), (136, tw_al 0), (137, tw_il 3), (138, tw_il 4), (140, tw_ceq 153), (143, tw_al 0), (144, tw_gi 0 6), (147, tw_il 5), (149, tw_bin (· + ·)), (150, tw_jmp 159), (153, tw_al 0), (154, tw_gi 0 6), (157, tw_ic 1), (158, tw_bin (· + ·)), (159, tw_cv 1 0 fn_Gu_retireAt), (162, tw_ra), (163, tw_al 0), (164, tw_il 3), (165, tw_il 4), (167, tw_cge 180), (170, tw_al 0), (171, tw_gi 0 6), (174, tw_il 5), (176, tw_bin (· + ·)), (177, tw_jmp 186), (180, tw_al 0), (181, tw_gi 0 6), (184, tw_ic 1), (185, tw_bin (· + ·)), (186, tw_cv 1 0 fn_Gu_retireAt), (189, tw_ra), (190, tw_al 0), (191, tw_il 2), (192, tw_al 0), (193, tw_gi 0 6), (196, tw_il 5), (198, tw_bin (· + ·)), (199, tw_cv 2 0 fn_Gu_link), (202, tw_ra), (203, tw_al 0), (204, tw_il 2), (205, tw_il 3), (206, tw_il 5), (208, tw_bin (· + ·)), (209, tw_cv 2 0 fn_Gu_link), (212, tw_ra), (213, tw_al 0), (214, tw_il 2), (215, tw_il 1), (216, tw_ic (31)), (218, tw_bin (· &&& ·)), (219, tw_il 3), (220, tw_il 4), (222, tw_il 5), (224, tw_cs 4 fn_Gu_compute), (227, tw_cv 2 0 fn_Gu_setRegister), (230, tw_al 0), (231, tw_al 0), (232, tw_gi 0 6), (235, tw_ic 1), (236, tw_bin (· + ·)), (237, tw_cv 1 0 fn_Gu_retireAt), (240, tw_ra)]
set_option maxRecDepth 100000 in
set_option maxHeartbeats 4000000 in
theorem ok_Gu_doOrdinary {p : Program} {l : Launch} {e : Env} {s : State} {m : MethodId} {args : Array Value} {below : List Frame} {meth : Method} {c : Code} {E : tw_E} {D : va_G} {ρ : tw_R} (hC : tw_Cx p s m args meth c b_Gu_doOrdinary 6 (some (.object "TwinHost$Outcome")) "TwinHost$Guest" E D) : tw_Ok p l e (tw_rmd 5) s m args below meth c 0 0 (MQ below (tw_Qc E D ρ) args s 0 0 (tw_A E)) 6 E D ρ pr_Gu_doOrdinary :=
  ⟨ts_iload_n hC d_Gu_doOrdinary_0 rfl,
   ts_iconst hC d_Gu_doOrdinary_1 (by decide),
   ts_ishr hC d_Gu_doOrdinary_2,
   ts_bipush hC d_Gu_doOrdinary_3 (by decide),
   ts_iand hC d_Gu_doOrdinary_5,
   ts_istore_n hC d_Gu_doOrdinary_6 rfl (by decide),
   ts_aload_n hC d_Gu_doOrdinary_7 rfl,
   ts_gr (j := 1) (C := R_Gu) (T := T_Gu) hC rfl rfl rfl (by decide) u_Gu wd_134 rfl d_Gu_doOrdinary_8,
   ts_iload_n hC d_Gu_doOrdinary_11 rfl,
   ts_bipush hC d_Gu_doOrdinary_12 (by decide),
   ts_ishr hC d_Gu_doOrdinary_14,
   ts_bipush hC d_Gu_doOrdinary_15 (by decide),
   ts_iand hC d_Gu_doOrdinary_17,
   ts_iaload hC d_Gu_doOrdinary_18,
   ts_istore_n hC d_Gu_doOrdinary_19 rfl (by decide),
   ts_aload_n hC d_Gu_doOrdinary_20 rfl,
   ts_gr (j := 1) (C := R_Gu) (T := T_Gu) hC rfl rfl rfl (by decide) u_Gu wd_134 rfl d_Gu_doOrdinary_21,
   ts_iload_n hC d_Gu_doOrdinary_24 rfl,
   ts_bipush hC d_Gu_doOrdinary_25 (by decide),
   ts_ishr hC d_Gu_doOrdinary_27,
   ts_bipush hC d_Gu_doOrdinary_28 (by decide),
   ts_iand hC d_Gu_doOrdinary_30,
   ts_iaload hC d_Gu_doOrdinary_31,
   ts_istore hC d_Gu_doOrdinary_32 (by decide),
   ts_iload_n hC d_Gu_doOrdinary_34 rfl,
   ts_bipush hC d_Gu_doOrdinary_35 (by decide),
   ts_ishr hC d_Gu_doOrdinary_37,
   ts_istore hC d_Gu_doOrdinary_38 (by decide),
   ts_iload_n hC d_Gu_doOrdinary_40 rfl,
   ts_bipush hC d_Gu_doOrdinary_41 (by decide),
   ts_iand hC d_Gu_doOrdinary_43,
   ts_table (n := 6) hC _ d_Gu_doOrdinary_44 (by decide) (by decide) (by decide +kernel) (by decide +kernel),
   ts_aload_n hC d_Gu_doOrdinary_88 rfl,
   ts_iload_n hC d_Gu_doOrdinary_89 rfl,
   ts_iload_n hC d_Gu_doOrdinary_90 rfl,
   ts_iload hC d_Gu_doOrdinary_91,
   ts_iadd hC d_Gu_doOrdinary_93,
   ts_callv (C := R_Gu) (T := T_Gu) hC con_Gu_load wd_361 wd_25 (by decide +kernel) ⟨by decide, by decide⟩ ⟨Nat.zero_le _, Nat.zero_le _⟩ wd_358 rfl rfl wd_359 wd_360 d_Gu_doOrdinary_94,
   ts_aret hC rfl d_Gu_doOrdinary_97,
   ts_aload_n hC d_Gu_doOrdinary_98 rfl,
   ts_iload_n hC d_Gu_doOrdinary_99 rfl,
   ts_iload hC d_Gu_doOrdinary_100,
   ts_iadd hC d_Gu_doOrdinary_102,
   ts_iload hC d_Gu_doOrdinary_103,
   ts_callv (C := R_Gu) (T := T_Gu) hC con_Gu_store wd_374 wd_25 (by decide +kernel) ⟨by decide, by decide⟩ ⟨Nat.zero_le _, Nat.zero_le _⟩ wd_371 rfl rfl wd_372 wd_373 d_Gu_doOrdinary_105,
   ts_aret hC rfl d_Gu_doOrdinary_108,
   ts_aload_n hC d_Gu_doOrdinary_109 rfl,
   ts_iload_n hC d_Gu_doOrdinary_110 rfl,
   ts_iload hC d_Gu_doOrdinary_111,
   ts_cne hC d_Gu_doOrdinary_113 (by decide),
   ts_aload_n hC d_Gu_doOrdinary_116 rfl,
   ts_gi (j := 6) (C := R_Gu) (T := T_Gu) hC rfl rfl rfl (by decide) u_Gu wd_143 rfl d_Gu_doOrdinary_117,
   ts_iload hC d_Gu_doOrdinary_120,
   ts_iadd hC d_Gu_doOrdinary_122,
   ts_goto hC d_Gu_doOrdinary_123 (by decide),
   ts_aload_n hC d_Gu_doOrdinary_126 rfl,
   ts_gi (j := 6) (C := R_Gu) (T := T_Gu) hC rfl rfl rfl (by decide) u_Gu wd_143 rfl d_Gu_doOrdinary_127,
   ts_iconst hC d_Gu_doOrdinary_130 (by decide),
   ts_iadd hC d_Gu_doOrdinary_131,
   ts_callv (C := R_Gu) (T := T_Gu) hC con_Gu_retireAt wd_368 wd_25 (by decide +kernel) ⟨by decide, by decide⟩ ⟨Nat.zero_le _, Nat.zero_le _⟩ wd_365 rfl rfl wd_366 wd_367 d_Gu_doOrdinary_132,
   ts_aret hC rfl d_Gu_doOrdinary_135,
   ts_aload_n hC d_Gu_doOrdinary_136 rfl,
   ts_iload_n hC d_Gu_doOrdinary_137 rfl,
   ts_iload hC d_Gu_doOrdinary_138,
   ts_ceq hC d_Gu_doOrdinary_140 (by decide),
   ts_aload_n hC d_Gu_doOrdinary_143 rfl,
   ts_gi (j := 6) (C := R_Gu) (T := T_Gu) hC rfl rfl rfl (by decide) u_Gu wd_143 rfl d_Gu_doOrdinary_144,
   ts_iload hC d_Gu_doOrdinary_147,
   ts_iadd hC d_Gu_doOrdinary_149,
   ts_goto hC d_Gu_doOrdinary_150 (by decide),
   ts_aload_n hC d_Gu_doOrdinary_153 rfl,
   ts_gi (j := 6) (C := R_Gu) (T := T_Gu) hC rfl rfl rfl (by decide) u_Gu wd_143 rfl d_Gu_doOrdinary_154,
   ts_iconst hC d_Gu_doOrdinary_157 (by decide),
   ts_iadd hC d_Gu_doOrdinary_158,
   ts_callv (C := R_Gu) (T := T_Gu) hC con_Gu_retireAt wd_368 wd_25 (by decide +kernel) ⟨by decide, by decide⟩ ⟨Nat.zero_le _, Nat.zero_le _⟩ wd_365 rfl rfl wd_366 wd_367 d_Gu_doOrdinary_159,
   ts_aret hC rfl d_Gu_doOrdinary_162,
   ts_aload_n hC d_Gu_doOrdinary_163 rfl,
   ts_iload_n hC d_Gu_doOrdinary_164 rfl,
   ts_iload hC d_Gu_doOrdinary_165,
   ts_cge hC d_Gu_doOrdinary_167 (by decide),
   ts_aload_n hC d_Gu_doOrdinary_170 rfl,
   ts_gi (j := 6) (C := R_Gu) (T := T_Gu) hC rfl rfl rfl (by decide) u_Gu wd_143 rfl d_Gu_doOrdinary_171,
   ts_iload hC d_Gu_doOrdinary_174,
   ts_iadd hC d_Gu_doOrdinary_176,
   ts_goto hC d_Gu_doOrdinary_177 (by decide),
   ts_aload_n hC d_Gu_doOrdinary_180 rfl,
   ts_gi (j := 6) (C := R_Gu) (T := T_Gu) hC rfl rfl rfl (by decide) u_Gu wd_143 rfl d_Gu_doOrdinary_181,
   ts_iconst hC d_Gu_doOrdinary_184 (by decide),
   ts_iadd hC d_Gu_doOrdinary_185,
   ts_callv (C := R_Gu) (T := T_Gu) hC con_Gu_retireAt wd_368 wd_25 (by decide +kernel) ⟨by decide, by decide⟩ ⟨Nat.zero_le _, Nat.zero_le _⟩ wd_365 rfl rfl wd_366 wd_367 d_Gu_doOrdinary_186,
   ts_aret hC rfl d_Gu_doOrdinary_189,
   ts_aload_n hC d_Gu_doOrdinary_190 rfl,
   ts_iload_n hC d_Gu_doOrdinary_191 rfl,
   ts_aload_n hC d_Gu_doOrdinary_192 rfl,
   ts_gi (j := 6) (C := R_Gu) (T := T_Gu) hC rfl rfl rfl (by decide) u_Gu wd_143 rfl d_Gu_doOrdinary_193,
   ts_iload hC d_Gu_doOrdinary_196,
   ts_iadd hC d_Gu_doOrdinary_198,
   ts_callv (C := R_Gu) (T := T_Gu) hC con_Gu_link wd_386 wd_25 (by decide +kernel) ⟨by decide, by decide⟩ ⟨Nat.zero_le _, Nat.zero_le _⟩ wd_383 rfl rfl wd_384 wd_385 d_Gu_doOrdinary_199,
   ts_aret hC rfl d_Gu_doOrdinary_202,
   ts_aload_n hC d_Gu_doOrdinary_203 rfl,
   ts_iload_n hC d_Gu_doOrdinary_204 rfl,
   ts_iload_n hC d_Gu_doOrdinary_205 rfl,
   ts_iload hC d_Gu_doOrdinary_206,
   ts_iadd hC d_Gu_doOrdinary_208,
   ts_callv (C := R_Gu) (T := T_Gu) hC con_Gu_link wd_386 wd_25 (by decide +kernel) ⟨by decide, by decide⟩ ⟨Nat.zero_le _, Nat.zero_le _⟩ wd_383 rfl rfl wd_384 wd_385 d_Gu_doOrdinary_209,
   ts_aret hC rfl d_Gu_doOrdinary_212,
   ts_aload_n hC d_Gu_doOrdinary_213 rfl,
   ts_iload_n hC d_Gu_doOrdinary_214 rfl,
   ts_iload_n hC d_Gu_doOrdinary_215 rfl,
   ts_bipush hC d_Gu_doOrdinary_216 (by decide),
   ts_iand hC d_Gu_doOrdinary_218,
   ts_iload_n hC d_Gu_doOrdinary_219 rfl,
   ts_iload hC d_Gu_doOrdinary_220,
   ts_iload hC d_Gu_doOrdinary_222,
   ts_calls hC con_Gu_compute wd_389 wd_25 (by decide +kernel) ⟨by decide, by decide⟩ ⟨Nat.zero_le _, Nat.zero_le _⟩ wd_387 wd_388 d_Gu_doOrdinary_224,
   ts_callv (C := R_Gu) (T := T_Gu) hC con_Gu_setRegister wd_209 wd_25 (by decide +kernel) ⟨by decide, by decide⟩ ⟨Nat.zero_le _, Nat.zero_le _⟩ wd_364 rfl rfl wd_207 wd_208 d_Gu_doOrdinary_227,
   ts_aload_n hC d_Gu_doOrdinary_230 rfl,
   ts_aload_n hC d_Gu_doOrdinary_231 rfl,
   ts_gi (j := 6) (C := R_Gu) (T := T_Gu) hC rfl rfl rfl (by decide) u_Gu wd_143 rfl d_Gu_doOrdinary_232,
   ts_iconst hC d_Gu_doOrdinary_235 (by decide),
   ts_iadd hC d_Gu_doOrdinary_236,
   ts_callv (C := R_Gu) (T := T_Gu) hC con_Gu_retireAt wd_368 wd_25 (by decide +kernel) ⟨by decide, by decide⟩ ⟨Nat.zero_le _, Nat.zero_le _⟩ wd_365 rfl rfl wd_366 wd_367 d_Gu_doOrdinary_237,
   ts_aret hC rfl d_Gu_doOrdinary_240,
   trivial⟩
def fn_Gu_doOrdinary : tw_Fn := tw_fn 2 6 125 pr_Gu_doOrdinary
theorem con_Gu_doOrdinary : tw_Con y_Gu_doOrdinary b_Gu_doOrdinary 6 (some (.object "TwinHost$Outcome")) 5 fn_Gu_doOrdinary := tw_met (by decide +kernel) (tw_fn_len (n := 2) (by decide)) (fun p l e s m args below meth c E D vs σ ρ hC h => tw_sound (ok_Gu_doOrdinary hC) 125 pr_Gu_doOrdinary (ok_Gu_doOrdinary hC) _ _ _ (tw_fn_get h))

-- TwinHost$Guest.doSystem(I)LTwinHost$Outcome;: 85 instructions, depth 5, calls Gu_trap Co_leaveTrap Gu_retireAt Gu_flush Co_dueBits Gu_changeControl
theorem d_Gu_doSystem_0 : decode b_Gu_doSystem 0 = .ok (.aload_n 0, 1) := by decide +kernel
theorem d_Gu_doSystem_1 : decode b_Gu_doSystem 1 = .ok (.getfield 20, 3) := by decide +kernel
theorem d_Gu_doSystem_4 : decode b_Gu_doSystem 4 = .ok (.iconst 0, 1) := by decide +kernel
theorem d_Gu_doSystem_5 : decode b_Gu_doSystem 5 = .ok (.dup2, 1) := by decide +kernel
theorem d_Gu_doSystem_6 : decode b_Gu_doSystem 6 = .ok (.iaload, 1) := by decide +kernel
theorem d_Gu_doSystem_7 : decode b_Gu_doSystem 7 = .ok (.iconst 1, 1) := by decide +kernel
theorem d_Gu_doSystem_8 : decode b_Gu_doSystem 8 = .ok (.iadd, 1) := by decide +kernel
theorem d_Gu_doSystem_9 : decode b_Gu_doSystem 9 = .ok (.iastore, 1) := by decide +kernel
theorem d_Gu_doSystem_10 : decode b_Gu_doSystem 10 = .ok (.iload_n 1, 1) := by decide +kernel
theorem d_Gu_doSystem_11 : decode b_Gu_doSystem 11 = .ok (.bipush 31, 2) := by decide +kernel
theorem d_Gu_doSystem_13 : decode b_Gu_doSystem 13 = .ok (.iand, 1) := by decide +kernel
theorem d_Gu_doSystem_14 : decode b_Gu_doSystem 14 = .ok (.istore_n 2, 1) := by decide +kernel
theorem d_Gu_doSystem_15 : decode b_Gu_doSystem 15 = .ok (.iload_n 2, 1) := by decide +kernel
theorem d_Gu_doSystem_16 : decode b_Gu_doSystem 16 = .ok (.bipush 17, 2) := by decide +kernel
theorem d_Gu_doSystem_18 : decode b_Gu_doSystem 18 = .ok (.if_icmp .ne 23, 3) := by decide +kernel
theorem d_Gu_doSystem_21 : decode b_Gu_doSystem 21 = .ok (.aload_n 0, 1) := by decide +kernel
theorem d_Gu_doSystem_22 : decode b_Gu_doSystem 22 = .ok (.aload_n 0, 1) := by decide +kernel
theorem d_Gu_doSystem_23 : decode b_Gu_doSystem 23 = .ok (.getfield 48, 3) := by decide +kernel
theorem d_Gu_doSystem_26 : decode b_Gu_doSystem 26 = .ok (.ifCond .eq 8, 3) := by decide +kernel
theorem d_Gu_doSystem_29 : decode b_Gu_doSystem 29 = .ok (.bipush 8, 2) := by decide +kernel
theorem d_Gu_doSystem_31 : decode b_Gu_doSystem 31 = .ok (.goto 5, 3) := by decide +kernel
theorem d_Gu_doSystem_34 : decode b_Gu_doSystem 34 = .ok (.bipush 9, 2) := by decide +kernel
theorem d_Gu_doSystem_36 : decode b_Gu_doSystem 36 = .ok (.iconst 0, 1) := by decide +kernel
theorem d_Gu_doSystem_37 : decode b_Gu_doSystem 37 = .ok (.invokevirtual 58, 3) := by decide +kernel
theorem d_Gu_doSystem_40 : decode b_Gu_doSystem 40 = .ok (.areturn, 1) := by decide +kernel
theorem d_Gu_doSystem_41 : decode b_Gu_doSystem 41 = .ok (.iload_n 2, 1) := by decide +kernel
theorem d_Gu_doSystem_42 : decode b_Gu_doSystem 42 = .ok (.bipush 18, 2) := by decide +kernel
theorem d_Gu_doSystem_44 : decode b_Gu_doSystem 44 = .ok (.if_icmp .ne 10, 3) := by decide +kernel
theorem d_Gu_doSystem_47 : decode b_Gu_doSystem 47 = .ok (.aload_n 0, 1) := by decide +kernel
theorem d_Gu_doSystem_48 : decode b_Gu_doSystem 48 = .ok (.iconst 3, 1) := by decide +kernel
theorem d_Gu_doSystem_49 : decode b_Gu_doSystem 49 = .ok (.iconst 0, 1) := by decide +kernel
theorem d_Gu_doSystem_50 : decode b_Gu_doSystem 50 = .ok (.invokevirtual 58, 3) := by decide +kernel
theorem d_Gu_doSystem_53 : decode b_Gu_doSystem 53 = .ok (.areturn, 1) := by decide +kernel
theorem d_Gu_doSystem_54 : decode b_Gu_doSystem 54 = .ok (.aload_n 0, 1) := by decide +kernel
theorem d_Gu_doSystem_55 : decode b_Gu_doSystem 55 = .ok (.getfield 48, 3) := by decide +kernel
theorem d_Gu_doSystem_58 : decode b_Gu_doSystem 58 = .ok (.ifCond .ne 9, 3) := by decide +kernel
theorem d_Gu_doSystem_61 : decode b_Gu_doSystem 61 = .ok (.iload_n 2, 1) := by decide +kernel
theorem d_Gu_doSystem_62 : decode b_Gu_doSystem 62 = .ok (.bipush 24, 2) := by decide +kernel
theorem d_Gu_doSystem_64 : decode b_Gu_doSystem 64 = .ok (.if_icmp .le 10, 3) := by decide +kernel
theorem d_Gu_doSystem_67 : decode b_Gu_doSystem 67 = .ok (.aload_n 0, 1) := by decide +kernel
theorem d_Gu_doSystem_68 : decode b_Gu_doSystem 68 = .ok (.iconst 2, 1) := by decide +kernel
theorem d_Gu_doSystem_69 : decode b_Gu_doSystem 69 = .ok (.iload_n 1, 1) := by decide +kernel
theorem d_Gu_doSystem_70 : decode b_Gu_doSystem 70 = .ok (.invokevirtual 58, 3) := by decide +kernel
theorem d_Gu_doSystem_73 : decode b_Gu_doSystem 73 = .ok (.areturn, 1) := by decide +kernel
theorem d_Gu_doSystem_74 : decode b_Gu_doSystem 74 = .ok (.iload_n 2, 1) := by decide +kernel
theorem d_Gu_doSystem_75 : decode b_Gu_doSystem 75 = .ok (.tableswitch 92 22 24 #[25, 50, 65], 25) := by decide +kernel
theorem d_Gu_doSystem_100 : decode b_Gu_doSystem 100 = .ok (.aload_n 0, 1) := by decide +kernel
theorem d_Gu_doSystem_101 : decode b_Gu_doSystem 101 = .ok (.aload_n 0, 1) := by decide +kernel
theorem d_Gu_doSystem_102 : decode b_Gu_doSystem 102 = .ok (.getfield 26, 3) := by decide +kernel
theorem d_Gu_doSystem_105 : decode b_Gu_doSystem 105 = .ok (.invokevirtual 119, 3) := by decide +kernel
theorem d_Gu_doSystem_108 : decode b_Gu_doSystem 108 = .ok (.putfield 48, 3) := by decide +kernel
theorem d_Gu_doSystem_111 : decode b_Gu_doSystem 111 = .ok (.aload_n 0, 1) := by decide +kernel
theorem d_Gu_doSystem_112 : decode b_Gu_doSystem 112 = .ok (.aload_n 0, 1) := by decide +kernel
theorem d_Gu_doSystem_113 : decode b_Gu_doSystem 113 = .ok (.getfield 26, 3) := by decide +kernel
theorem d_Gu_doSystem_116 : decode b_Gu_doSystem 116 = .ok (.getfield 123, 3) := by decide +kernel
theorem d_Gu_doSystem_119 : decode b_Gu_doSystem 119 = .ok (.iconst 2, 1) := by decide +kernel
theorem d_Gu_doSystem_120 : decode b_Gu_doSystem 120 = .ok (.iaload, 1) := by decide +kernel
theorem d_Gu_doSystem_121 : decode b_Gu_doSystem 121 = .ok (.invokevirtual 92, 3) := by decide +kernel
theorem d_Gu_doSystem_124 : decode b_Gu_doSystem 124 = .ok (.areturn, 1) := by decide +kernel
theorem d_Gu_doSystem_125 : decode b_Gu_doSystem 125 = .ok (.aload_n 0, 1) := by decide +kernel
theorem d_Gu_doSystem_126 : decode b_Gu_doSystem 126 = .ok (.invokevirtual 126, 3) := by decide +kernel
theorem d_Gu_doSystem_129 : decode b_Gu_doSystem 129 = .ok (.aload_n 0, 1) := by decide +kernel
theorem d_Gu_doSystem_130 : decode b_Gu_doSystem 130 = .ok (.aload_n 0, 1) := by decide +kernel
theorem d_Gu_doSystem_131 : decode b_Gu_doSystem 131 = .ok (.getfield 62, 3) := by decide +kernel
theorem d_Gu_doSystem_134 : decode b_Gu_doSystem 134 = .ok (.iconst 1, 1) := by decide +kernel
theorem d_Gu_doSystem_135 : decode b_Gu_doSystem 135 = .ok (.iadd, 1) := by decide +kernel
theorem d_Gu_doSystem_136 : decode b_Gu_doSystem 136 = .ok (.invokevirtual 92, 3) := by decide +kernel
theorem d_Gu_doSystem_139 : decode b_Gu_doSystem 139 = .ok (.areturn, 1) := by decide +kernel
theorem d_Gu_doSystem_140 : decode b_Gu_doSystem 140 = .ok (.aload_n 0, 1) := by decide +kernel
theorem d_Gu_doSystem_141 : decode b_Gu_doSystem 141 = .ok (.getfield 26, 3) := by decide +kernel
theorem d_Gu_doSystem_144 : decode b_Gu_doSystem 144 = .ok (.invokevirtual 44, 3) := by decide +kernel
theorem d_Gu_doSystem_147 : decode b_Gu_doSystem 147 = .ok (.ifCond .ne 9, 3) := by decide +kernel
theorem d_Gu_doSystem_150 : decode b_Gu_doSystem 150 = .ok (.getstatic 129, 3) := by decide +kernel
theorem d_Gu_doSystem_153 : decode b_Gu_doSystem 153 = .ok (.goto 13, 3) := by decide +kernel
theorem d_Gu_doSystem_156 : decode b_Gu_doSystem 156 = .ok (.aload_n 0, 1) := by decide +kernel
theorem d_Gu_doSystem_157 : decode b_Gu_doSystem 157 = .ok (.aload_n 0, 1) := by decide +kernel
theorem d_Gu_doSystem_158 : decode b_Gu_doSystem 158 = .ok (.getfield 62, 3) := by decide +kernel
theorem d_Gu_doSystem_161 : decode b_Gu_doSystem 161 = .ok (.iconst 1, 1) := by decide +kernel
theorem d_Gu_doSystem_162 : decode b_Gu_doSystem 162 = .ok (.iadd, 1) := by decide +kernel
theorem d_Gu_doSystem_163 : decode b_Gu_doSystem 163 = .ok (.invokevirtual 92, 3) := by decide +kernel
theorem d_Gu_doSystem_166 : decode b_Gu_doSystem 166 = .ok (.areturn, 1) := by decide +kernel
theorem d_Gu_doSystem_167 : decode b_Gu_doSystem 167 = .ok (.aload_n 0, 1) := by decide +kernel
theorem d_Gu_doSystem_168 : decode b_Gu_doSystem 168 = .ok (.iload_n 1, 1) := by decide +kernel
theorem d_Gu_doSystem_169 : decode b_Gu_doSystem 169 = .ok (.invokevirtual 135, 3) := by decide +kernel
theorem d_Gu_doSystem_172 : decode b_Gu_doSystem 172 = .ok (.areturn, 1) := by decide +kernel
def pr_Gu_doSystem : List (Nat × tw_Op) := [(0, tw_al 0), (1, tw_gr 0 3), (4, tw_ic 0), (5, tw_d2), (6, tw_ia), (7, tw_ic 1), (8, tw_bin (· + ·)), (9, tw_ias 0 22), (10, tw_il 1), (11, tw_ic (31)), (13, tw_bin (· &&& ·)), (14, tw_is 2), (15, tw_il 2), (16, tw_ic (17)), (18, tw_cne 41), (21, tw_al 0), (22, tw_al 0), (23, tw_gi 0 7), (26, tw_ifeq 34), (29, tw_ic (8)), (31, tw_jmp 36), (34, tw_ic (9)), (36, tw_ic 0), (37, tw_cv 2 0 fn_Gu_trap), (40, tw_ra), (41, tw_il 2), (42, tw_ic (18)), (44, tw_cne 54), (47, tw_al 0), (48, tw_ic 3), (49, tw_ic 0), (50, tw_cv 2 0 fn_Gu_trap), (53, tw_ra), (54, tw_al 0), (55, tw_gi 0 7), (58, tw_ifne 67), (61, tw_il 2), (62, tw_ic (24)), (64, tw_cle 74), (67, tw_al 0), (68, tw_ic 2), (69, tw_il 1), (70, tw_cv 2 0 fn_Gu_trap), (73, tw_ra), (74, tw_il 2), (75, tw_sw [(22, 100), (23, 125), (24, 140)] 167), (100, tw_al 0), (101, tw_al 0), (102, tw_gr 0 4), (105, tw_cv 0 4 fn_Co_leaveTrap), (108, tw_pz 0 7), (111, tw_al 0), (112, tw_al 0), (113, tw_gr 0 4), (116, tw_gr 4 5), (119, tw_ic 2), (120, tw_ia), (121, tw_cv 1 0 fn_Gu_retireAt), (124, tw_ra), (125, tw_al 0), (126, tw_cv 0 0 fn_Gu_flush), (129, tw_al 0), (130, tw_al 0), (131, tw_gi 0 6), (134, tw_ic 1), (135, tw_bin (· + ·)), (136, tw_cv 1 0 fn_Gu_retireAt), (139, tw_ra), (140, tw_al 0), (141, tw_gr 0 4), (144, tw_cv 0 4 fn_Co_dueBits), (147, tw_ifne 156), (150, tw_en 62), (153, tw_jmp 166), (156, tw_al 0), (157, tw_al 0), (158, tw_gi 0 6), (161, tw_ic 1), (162, tw_bin (· + ·)), (163, tw_cv 1 0 fn_Gu_retireAt), (166, tw_ra), (167, tw_al 0), (168, tw_il 1), (169, tw_cv 1 0 fn_Gu_changeControl), (172, tw_ra)]
set_option maxRecDepth 100000 in
set_option maxHeartbeats 4000000 in
theorem ok_Gu_doSystem {p : Program} {l : Launch} {e : Env} {s : State} {m : MethodId} {args : Array Value} {below : List Frame} {meth : Method} {c : Code} {E : tw_E} {D : va_G} {ρ : tw_R} (hC : tw_Cx p s m args meth c b_Gu_doSystem 3 (some (.object "TwinHost$Outcome")) "TwinHost$Guest" E D) : tw_Ok p l e (tw_rmd 5) s m args below meth c 0 0 (MQ below (tw_Qc E D ρ) args s 0 0 (tw_A E)) 3 E D ρ pr_Gu_doSystem :=
  ⟨ts_aload_n hC d_Gu_doSystem_0 rfl,
   ts_gr (j := 2) (C := R_Gu) (T := T_Gu) hC rfl rfl rfl (by decide) u_Gu wd_136 rfl d_Gu_doSystem_1,
   ts_iconst hC d_Gu_doSystem_4 (by decide),
   ts_dup2 hC d_Gu_doSystem_5,
   ts_iaload hC d_Gu_doSystem_6,
   ts_iconst hC d_Gu_doSystem_7 (by decide),
   ts_iadd hC d_Gu_doSystem_8,
   ts_iastore hC d_Gu_doSystem_9,
   ts_iload_n hC d_Gu_doSystem_10 rfl,
   ts_bipush hC d_Gu_doSystem_11 (by decide),
   ts_iand hC d_Gu_doSystem_13,
   ts_istore_n hC d_Gu_doSystem_14 rfl (by decide),
   ts_iload_n hC d_Gu_doSystem_15 rfl,
   ts_bipush hC d_Gu_doSystem_16 (by decide),
   ts_cne hC d_Gu_doSystem_18 (by decide),
   ts_aload_n hC d_Gu_doSystem_21 rfl,
   ts_aload_n hC d_Gu_doSystem_22 rfl,
   ts_gi (j := 7) (C := R_Gu) (T := T_Gu) hC rfl rfl rfl (by decide) u_Gu wd_145 rfl d_Gu_doSystem_23,
   ts_ifeq hC d_Gu_doSystem_26 (by decide),
   ts_bipush hC d_Gu_doSystem_29 (by decide),
   ts_goto hC d_Gu_doSystem_31 (by decide),
   ts_bipush hC d_Gu_doSystem_34 (by decide),
   ts_iconst hC d_Gu_doSystem_36 (by decide),
   ts_callv (C := R_Gu) (T := T_Gu) hC con_Gu_trap wd_298 wd_25 (by decide +kernel) ⟨by decide, by decide⟩ ⟨Nat.zero_le _, Nat.zero_le _⟩ wd_295 rfl rfl wd_296 wd_297 d_Gu_doSystem_37,
   ts_aret hC rfl d_Gu_doSystem_40,
   ts_iload_n hC d_Gu_doSystem_41 rfl,
   ts_bipush hC d_Gu_doSystem_42 (by decide),
   ts_cne hC d_Gu_doSystem_44 (by decide),
   ts_aload_n hC d_Gu_doSystem_47 rfl,
   ts_iconst hC d_Gu_doSystem_48 (by decide),
   ts_iconst hC d_Gu_doSystem_49 (by decide),
   ts_callv (C := R_Gu) (T := T_Gu) hC con_Gu_trap wd_298 wd_25 (by decide +kernel) ⟨by decide, by decide⟩ ⟨Nat.zero_le _, Nat.zero_le _⟩ wd_295 rfl rfl wd_296 wd_297 d_Gu_doSystem_50,
   ts_aret hC rfl d_Gu_doSystem_53,
   ts_aload_n hC d_Gu_doSystem_54 rfl,
   ts_gi (j := 7) (C := R_Gu) (T := T_Gu) hC rfl rfl rfl (by decide) u_Gu wd_145 rfl d_Gu_doSystem_55,
   ts_ifne hC d_Gu_doSystem_58 (by decide),
   ts_iload_n hC d_Gu_doSystem_61 rfl,
   ts_bipush hC d_Gu_doSystem_62 (by decide),
   ts_cle hC d_Gu_doSystem_64 (by decide),
   ts_aload_n hC d_Gu_doSystem_67 rfl,
   ts_iconst hC d_Gu_doSystem_68 (by decide),
   ts_iload_n hC d_Gu_doSystem_69 rfl,
   ts_callv (C := R_Gu) (T := T_Gu) hC con_Gu_trap wd_298 wd_25 (by decide +kernel) ⟨by decide, by decide⟩ ⟨Nat.zero_le _, Nat.zero_le _⟩ wd_295 rfl rfl wd_296 wd_297 d_Gu_doSystem_70,
   ts_aret hC rfl d_Gu_doSystem_73,
   ts_iload_n hC d_Gu_doSystem_74 rfl,
   ts_table (n := 2) hC _ d_Gu_doSystem_75 (by decide) (by decide) (by decide +kernel) (by decide +kernel),
   ts_aload_n hC d_Gu_doSystem_100 rfl,
   ts_aload_n hC d_Gu_doSystem_101 rfl,
   ts_gr (j := 3) (C := R_Gu) (T := T_Gu) hC rfl rfl rfl (by decide) u_Gu wd_138 rfl d_Gu_doSystem_102,
   ts_callv (C := R_Co) (T := T_Co) hC con_Co_leaveTrap wd_397 wd_26 (by decide +kernel) ⟨by decide, by decide⟩ ⟨Nat.zero_le _, Nat.zero_le _⟩ wd_394 rfl rfl wd_395 wd_396 d_Gu_doSystem_105,
   ts_pz (j := 7) (C := R_Gu) (T := T_Gu) hC rfl rfl rfl (by decide) u_Gu wd_145 rfl t_Gu_ok n_Gu rfl (by decide +kernel) d_Gu_doSystem_108,
   ts_aload_n hC d_Gu_doSystem_111 rfl,
   ts_aload_n hC d_Gu_doSystem_112 rfl,
   ts_gr (j := 3) (C := R_Gu) (T := T_Gu) hC rfl rfl rfl (by decide) u_Gu wd_138 rfl d_Gu_doSystem_113,
   ts_gr (j := 0) (C := R_Co) (T := T_Co) hC rfl rfl rfl (by decide) u_Co wd_76 rfl d_Gu_doSystem_116,
   ts_iconst hC d_Gu_doSystem_119 (by decide),
   ts_iaload hC d_Gu_doSystem_120,
   ts_callv (C := R_Gu) (T := T_Gu) hC con_Gu_retireAt wd_368 wd_25 (by decide +kernel) ⟨by decide, by decide⟩ ⟨Nat.zero_le _, Nat.zero_le _⟩ wd_365 rfl rfl wd_366 wd_367 d_Gu_doSystem_121,
   ts_aret hC rfl d_Gu_doSystem_124,
   ts_aload_n hC d_Gu_doSystem_125 rfl,
   ts_callv (C := R_Gu) (T := T_Gu) hC con_Gu_flush wd_238 wd_25 (by decide +kernel) ⟨by decide, by decide⟩ ⟨Nat.zero_le _, Nat.zero_le _⟩ wd_235 rfl rfl wd_236 wd_237 d_Gu_doSystem_126,
   ts_aload_n hC d_Gu_doSystem_129 rfl,
   ts_aload_n hC d_Gu_doSystem_130 rfl,
   ts_gi (j := 6) (C := R_Gu) (T := T_Gu) hC rfl rfl rfl (by decide) u_Gu wd_143 rfl d_Gu_doSystem_131,
   ts_iconst hC d_Gu_doSystem_134 (by decide),
   ts_iadd hC d_Gu_doSystem_135,
   ts_callv (C := R_Gu) (T := T_Gu) hC con_Gu_retireAt wd_368 wd_25 (by decide +kernel) ⟨by decide, by decide⟩ ⟨Nat.zero_le _, Nat.zero_le _⟩ wd_365 rfl rfl wd_366 wd_367 d_Gu_doSystem_136,
   ts_aret hC rfl d_Gu_doSystem_139,
   ts_aload_n hC d_Gu_doSystem_140 rfl,
   ts_gr (j := 3) (C := R_Gu) (T := T_Gu) hC rfl rfl rfl (by decide) u_Gu wd_138 rfl d_Gu_doSystem_141,
   ts_callv (C := R_Co) (T := T_Co) hC con_Co_dueBits wd_288 wd_26 (by decide +kernel) ⟨by decide, by decide⟩ ⟨Nat.zero_le _, Nat.zero_le _⟩ wd_285 rfl rfl wd_286 wd_287 d_Gu_doSystem_144,
   ts_ifne hC d_Gu_doSystem_147 (by decide),
   ts_getO (i := 2) hC (by decide) rfl wd_398 d_Gu_doSystem_150,
   ts_goto hC d_Gu_doSystem_153 (by decide),
   ts_aload_n hC d_Gu_doSystem_156 rfl,
   ts_aload_n hC d_Gu_doSystem_157 rfl,
   ts_gi (j := 6) (C := R_Gu) (T := T_Gu) hC rfl rfl rfl (by decide) u_Gu wd_143 rfl d_Gu_doSystem_158,
   ts_iconst hC d_Gu_doSystem_161 (by decide),
   ts_iadd hC d_Gu_doSystem_162,
   ts_callv (C := R_Gu) (T := T_Gu) hC con_Gu_retireAt wd_368 wd_25 (by decide +kernel) ⟨by decide, by decide⟩ ⟨Nat.zero_le _, Nat.zero_le _⟩ wd_365 rfl rfl wd_366 wd_367 d_Gu_doSystem_163,
   ts_aret hC rfl d_Gu_doSystem_166,
   ts_aload_n hC d_Gu_doSystem_167 rfl,
   ts_iload_n hC d_Gu_doSystem_168 rfl,
   ts_callv (C := R_Gu) (T := T_Gu) hC con_Gu_changeControl wd_403 wd_25 (by decide +kernel) ⟨by decide, by decide⟩ ⟨Nat.zero_le _, Nat.zero_le _⟩ wd_400 rfl rfl wd_401 wd_402 d_Gu_doSystem_169,
   ts_aret hC rfl d_Gu_doSystem_172,
   trivial⟩
def fn_Gu_doSystem : tw_Fn := tw_fn 2 3 87 pr_Gu_doSystem
theorem con_Gu_doSystem : tw_Con y_Gu_doSystem b_Gu_doSystem 3 (some (.object "TwinHost$Outcome")) 5 fn_Gu_doSystem := tw_met (by decide +kernel) (tw_fn_len (n := 2) (by decide)) (fun p l e s m args below meth c E D vs σ ρ hC h => tw_sound (ok_Gu_doSystem hC) 87 pr_Gu_doSystem (ok_Gu_doSystem hC) _ _ _ (tw_fn_get h))
end
section
-- TwinHost$Guest.step()LTwinHost$Outcome;: 74 instructions, depth 6, calls Co_dueBits Co_isOn Gu_trap Gu_reach Gu_fault Gu_doOrdinary Gu_doSystem
theorem d_Gu_step_0 : decode b_Gu_step 0 = .ok (.aload_n 0, 1) := by decide +kernel
theorem d_Gu_step_1 : decode b_Gu_step 1 = .ok (.getfield 20, 3) := by decide +kernel
theorem d_Gu_step_4 : decode b_Gu_step 4 = .ok (.bipush 8, 2) := by decide +kernel
theorem d_Gu_step_6 : decode b_Gu_step 6 = .ok (.dup2, 1) := by decide +kernel
theorem d_Gu_step_7 : decode b_Gu_step 7 = .ok (.iaload, 1) := by decide +kernel
theorem d_Gu_step_8 : decode b_Gu_step 8 = .ok (.iconst 1, 1) := by decide +kernel
theorem d_Gu_step_9 : decode b_Gu_step 9 = .ok (.iadd, 1) := by decide +kernel
theorem d_Gu_step_10 : decode b_Gu_step 10 = .ok (.iastore, 1) := by decide +kernel
theorem d_Gu_step_11 : decode b_Gu_step 11 = .ok (.aload_n 0, 1) := by decide +kernel
theorem d_Gu_step_12 : decode b_Gu_step 12 = .ok (.getfield 26, 3) := by decide +kernel
theorem d_Gu_step_15 : decode b_Gu_step 15 = .ok (.invokevirtual 44, 3) := by decide +kernel
theorem d_Gu_step_18 : decode b_Gu_step 18 = .ok (.istore_n 1, 1) := by decide +kernel
theorem d_Gu_step_19 : decode b_Gu_step 19 = .ok (.iload_n 1, 1) := by decide +kernel
theorem d_Gu_step_20 : decode b_Gu_step 20 = .ok (.ifCond .eq 51, 3) := by decide +kernel
theorem d_Gu_step_23 : decode b_Gu_step 23 = .ok (.aload_n 0, 1) := by decide +kernel
theorem d_Gu_step_24 : decode b_Gu_step 24 = .ok (.getfield 48, 3) := by decide +kernel
theorem d_Gu_step_27 : decode b_Gu_step 27 = .ok (.ifCond .ne 14, 3) := by decide +kernel
theorem d_Gu_step_30 : decode b_Gu_step 30 = .ok (.aload_n 0, 1) := by decide +kernel
theorem d_Gu_step_31 : decode b_Gu_step 31 = .ok (.getfield 26, 3) := by decide +kernel
theorem d_Gu_step_34 : decode b_Gu_step 34 = .ok (.iconst 1, 1) := by decide +kernel
theorem d_Gu_step_35 : decode b_Gu_step 35 = .ok (.invokevirtual 52, 3) := by decide +kernel
theorem d_Gu_step_38 : decode b_Gu_step 38 = .ok (.ifCond .eq 33, 3) := by decide +kernel
theorem d_Gu_step_41 : decode b_Gu_step 41 = .ok (.aload_n 0, 1) := by decide +kernel
theorem d_Gu_step_42 : decode b_Gu_step 42 = .ok (.getfield 20, 3) := by decide +kernel
theorem d_Gu_step_45 : decode b_Gu_step 45 = .ok (.bipush 6, 2) := by decide +kernel
theorem d_Gu_step_47 : decode b_Gu_step 47 = .ok (.dup2, 1) := by decide +kernel
theorem d_Gu_step_48 : decode b_Gu_step 48 = .ok (.iaload, 1) := by decide +kernel
theorem d_Gu_step_49 : decode b_Gu_step 49 = .ok (.iconst 1, 1) := by decide +kernel
theorem d_Gu_step_50 : decode b_Gu_step 50 = .ok (.iadd, 1) := by decide +kernel
theorem d_Gu_step_51 : decode b_Gu_step 51 = .ok (.iastore, 1) := by decide +kernel
theorem d_Gu_step_52 : decode b_Gu_step 52 = .ok (.aload_n 0, 1) := by decide +kernel
theorem d_Gu_step_53 : decode b_Gu_step 53 = .ok (.iload_n 1, 1) := by decide +kernel
theorem d_Gu_step_54 : decode b_Gu_step 54 = .ok (.iconst 2, 1) := by decide +kernel
theorem d_Gu_step_55 : decode b_Gu_step 55 = .ok (.iand, 1) := by decide +kernel
theorem d_Gu_step_56 : decode b_Gu_step 56 = .ok (.ifCond .eq 8, 3) := by decide +kernel
theorem d_Gu_step_59 : decode b_Gu_step 59 = .ok (.ldc 56, 2) := by decide +kernel
theorem d_Gu_step_61 : decode b_Gu_step 61 = .ok (.goto 5, 3) := by decide +kernel
theorem d_Gu_step_64 : decode b_Gu_step 64 = .ok (.ldc 57, 2) := by decide +kernel
theorem d_Gu_step_66 : decode b_Gu_step 66 = .ok (.iconst 0, 1) := by decide +kernel
theorem d_Gu_step_67 : decode b_Gu_step 67 = .ok (.invokevirtual 58, 3) := by decide +kernel
theorem d_Gu_step_70 : decode b_Gu_step 70 = .ok (.areturn, 1) := by decide +kernel
theorem d_Gu_step_71 : decode b_Gu_step 71 = .ok (.aload_n 0, 1) := by decide +kernel
theorem d_Gu_step_72 : decode b_Gu_step 72 = .ok (.aload_n 0, 1) := by decide +kernel
theorem d_Gu_step_73 : decode b_Gu_step 73 = .ok (.getfield 62, 3) := by decide +kernel
theorem d_Gu_step_76 : decode b_Gu_step 76 = .ok (.getstatic 66, 3) := by decide +kernel
theorem d_Gu_step_79 : decode b_Gu_step 79 = .ok (.invokevirtual 72, 3) := by decide +kernel
theorem d_Gu_step_82 : decode b_Gu_step 82 = .ok (.istore_n 2, 1) := by decide +kernel
theorem d_Gu_step_83 : decode b_Gu_step 83 = .ok (.iload_n 2, 1) := by decide +kernel
theorem d_Gu_step_84 : decode b_Gu_step 84 = .ok (.ifCond .ge 14, 3) := by decide +kernel
theorem d_Gu_step_87 : decode b_Gu_step 87 = .ok (.aload_n 0, 1) := by decide +kernel
theorem d_Gu_step_88 : decode b_Gu_step 88 = .ok (.iload_n 2, 1) := by decide +kernel
theorem d_Gu_step_89 : decode b_Gu_step 89 = .ok (.ineg, 1) := by decide +kernel
theorem d_Gu_step_90 : decode b_Gu_step 90 = .ok (.aload_n 0, 1) := by decide +kernel
theorem d_Gu_step_91 : decode b_Gu_step 91 = .ok (.getfield 62, 3) := by decide +kernel
theorem d_Gu_step_94 : decode b_Gu_step 94 = .ok (.invokevirtual 76, 3) := by decide +kernel
theorem d_Gu_step_97 : decode b_Gu_step 97 = .ok (.areturn, 1) := by decide +kernel
theorem d_Gu_step_98 : decode b_Gu_step 98 = .ok (.aload_n 0, 1) := by decide +kernel
theorem d_Gu_step_99 : decode b_Gu_step 99 = .ok (.getfield 9, 3) := by decide +kernel
theorem d_Gu_step_102 : decode b_Gu_step 102 = .ok (.iload_n 2, 1) := by decide +kernel
theorem d_Gu_step_103 : decode b_Gu_step 103 = .ok (.iaload, 1) := by decide +kernel
theorem d_Gu_step_104 : decode b_Gu_step 104 = .ok (.istore_n 3, 1) := by decide +kernel
theorem d_Gu_step_105 : decode b_Gu_step 105 = .ok (.iload_n 3, 1) := by decide +kernel
theorem d_Gu_step_106 : decode b_Gu_step 106 = .ok (.bipush 31, 2) := by decide +kernel
theorem d_Gu_step_108 : decode b_Gu_step 108 = .ok (.iand, 1) := by decide +kernel
theorem d_Gu_step_109 : decode b_Gu_step 109 = .ok (.bipush 17, 2) := by decide +kernel
theorem d_Gu_step_111 : decode b_Gu_step 111 = .ok (.if_icmp .ge 11, 3) := by decide +kernel
theorem d_Gu_step_114 : decode b_Gu_step 114 = .ok (.aload_n 0, 1) := by decide +kernel
theorem d_Gu_step_115 : decode b_Gu_step 115 = .ok (.iload_n 3, 1) := by decide +kernel
theorem d_Gu_step_116 : decode b_Gu_step 116 = .ok (.invokevirtual 79, 3) := by decide +kernel
theorem d_Gu_step_119 : decode b_Gu_step 119 = .ok (.goto 8, 3) := by decide +kernel
theorem d_Gu_step_122 : decode b_Gu_step 122 = .ok (.aload_n 0, 1) := by decide +kernel
theorem d_Gu_step_123 : decode b_Gu_step 123 = .ok (.iload_n 3, 1) := by decide +kernel
theorem d_Gu_step_124 : decode b_Gu_step 124 = .ok (.invokevirtual 83, 3) := by decide +kernel
theorem d_Gu_step_127 : decode b_Gu_step 127 = .ok (.areturn, 1) := by decide +kernel
def pr_Gu_step : List (Nat × tw_Op) := [(0, tw_al 0), (1, tw_gr 0 3), (4, tw_ic (8)), (6, tw_d2), (7, tw_ia), (8, tw_ic 1), (9, tw_bin (· + ·)), (10, tw_ias 0 22), (11, tw_al 0), (12, tw_gr 0 4), (15, tw_cv 0 4 fn_Co_dueBits), (18, tw_is 1), (19, tw_il 1), (20, tw_ifeq 71), (23, tw_al 0), (24, tw_gi 0 7), (27, tw_ifne 41), (30, tw_al 0), (31, tw_gr 0 4), (34, tw_ic 1), (35, tw_cv 1 4 fn_Co_isOn), (38, tw_ifeq 71), (41, tw_al 0), (42, tw_gr 0 3), (45, tw_ic (6)), (47, tw_d2), (48, tw_ia), (49, tw_ic 1), (50, tw_bin (· + ·)), (51, tw_ias 0 22), (52, tw_al 0), (53, tw_il 1), (54, tw_ic 2), (55, tw_bin (· &&& ·)), (56, tw_ifeq 64), (59, tw_ic (-2147483639)), (61, tw_jmp 66), (64, tw_ic (-2147483643)), (66, tw_ic 0), (67, tw_cv 2 0 fn_Gu_trap), (70, tw_ra), (71, tw_al 0), (72, tw_al 0), (73, tw_gi 0 6), (76, tw_en 50), (79, tw_cv 2 0 fn_Gu_reach), (82, tw_is 2), (83, tw_il 2), (84, tw_ifge 98), (87, tw_al 0), (88, tw_il 2), (89, tw_neg), (90, tw_al 0), (91, tw_gi 0 6), (94, tw_cv 2 0 fn_Gu_fault), (97, tw_ra), (98, tw_al 0), (99, tw_gr 0 1), (102, tw_il 2), (103, tw_ia), (104, tw_is 3), (105, tw_il 3), (106, tw_ic (31)), (108, tw_bin (· &&& ·)), (109, tw_ic (17)), (111, tw_cge 122), (114, tw_al 0), (115, tw_il 3), (116, tw_cv 1 0 fn_Gu_doOrdinary), (119, tw_jmp 127), (122, tw_al 0), (123, tw_il 3), (124, tw_cv 1 0 fn_Gu_doSystem), (127, tw_ra)]
set_option maxRecDepth 100000 in
set_option maxHeartbeats 4000000 in
theorem ok_Gu_step {p : Program} {l : Launch} {e : Env} {s : State} {m : MethodId} {args : Array Value} {below : List Frame} {meth : Method} {c : Code} {E : tw_E} {D : va_G} {ρ : tw_R} (hC : tw_Cx p s m args meth c b_Gu_step 4 (some (.object "TwinHost$Outcome")) "TwinHost$Guest" E D) : tw_Ok p l e (tw_rmd 6) s m args below meth c 0 0 (MQ below (tw_Qc E D ρ) args s 0 0 (tw_A E)) 4 E D ρ pr_Gu_step :=
  ⟨ts_aload_n hC d_Gu_step_0 rfl,
   ts_gr (j := 2) (C := R_Gu) (T := T_Gu) hC rfl rfl rfl (by decide) u_Gu wd_136 rfl d_Gu_step_1,
   ts_bipush hC d_Gu_step_4 (by decide),
   ts_dup2 hC d_Gu_step_6,
   ts_iaload hC d_Gu_step_7,
   ts_iconst hC d_Gu_step_8 (by decide),
   ts_iadd hC d_Gu_step_9,
   ts_iastore hC d_Gu_step_10,
   ts_aload_n hC d_Gu_step_11 rfl,
   ts_gr (j := 3) (C := R_Gu) (T := T_Gu) hC rfl rfl rfl (by decide) u_Gu wd_138 rfl d_Gu_step_12,
   ts_callv (C := R_Co) (T := T_Co) hC con_Co_dueBits wd_288 wd_26 (by decide +kernel) ⟨by decide, by decide⟩ ⟨Nat.zero_le _, Nat.zero_le _⟩ wd_285 rfl rfl wd_286 wd_287 d_Gu_step_15,
   ts_istore_n hC d_Gu_step_18 rfl (by decide),
   ts_iload_n hC d_Gu_step_19 rfl,
   ts_ifeq hC d_Gu_step_20 (by decide),
   ts_aload_n hC d_Gu_step_23 rfl,
   ts_gi (j := 7) (C := R_Gu) (T := T_Gu) hC rfl rfl rfl (by decide) u_Gu wd_145 rfl d_Gu_step_24,
   ts_ifne hC d_Gu_step_27 (by decide),
   ts_aload_n hC d_Gu_step_30 rfl,
   ts_gr (j := 3) (C := R_Gu) (T := T_Gu) hC rfl rfl rfl (by decide) u_Gu wd_138 rfl d_Gu_step_31,
   ts_iconst hC d_Gu_step_34 (by decide),
   ts_callv (C := R_Co) (T := T_Co) hC con_Co_isOn wd_292 wd_26 (by decide +kernel) ⟨by decide, by decide⟩ ⟨Nat.zero_le _, Nat.zero_le _⟩ wd_289 rfl rfl wd_290 wd_291 d_Gu_step_35,
   ts_ifeq hC d_Gu_step_38 (by decide),
   ts_aload_n hC d_Gu_step_41 rfl,
   ts_gr (j := 2) (C := R_Gu) (T := T_Gu) hC rfl rfl rfl (by decide) u_Gu wd_136 rfl d_Gu_step_42,
   ts_bipush hC d_Gu_step_45 (by decide),
   ts_dup2 hC d_Gu_step_47,
   ts_iaload hC d_Gu_step_48,
   ts_iconst hC d_Gu_step_49 (by decide),
   ts_iadd hC d_Gu_step_50,
   ts_iastore hC d_Gu_step_51,
   ts_aload_n hC d_Gu_step_52 rfl,
   ts_iload_n hC d_Gu_step_53 rfl,
   ts_iconst hC d_Gu_step_54 (by decide),
   ts_iand hC d_Gu_step_55,
   ts_ifeq hC d_Gu_step_56 (by decide),
   ts_ldc hC wd_293 d_Gu_step_59,
   ts_goto hC d_Gu_step_61 (by decide),
   ts_ldc hC wd_294 d_Gu_step_64,
   ts_iconst hC d_Gu_step_66 (by decide),
   ts_callv (C := R_Gu) (T := T_Gu) hC con_Gu_trap wd_298 wd_25 (by decide +kernel) ⟨by decide, by decide⟩ ⟨Nat.zero_le _, Nat.zero_le _⟩ wd_295 rfl rfl wd_296 wd_297 d_Gu_step_67,
   ts_aret hC rfl d_Gu_step_70,
   ts_aload_n hC d_Gu_step_71 rfl,
   ts_aload_n hC d_Gu_step_72 rfl,
   ts_gi (j := 6) (C := R_Gu) (T := T_Gu) hC rfl rfl rfl (by decide) u_Gu wd_143 rfl d_Gu_step_73,
   ts_getA (i := 0) hC (by decide) rfl wd_306 d_Gu_step_76,
   ts_callv (C := R_Gu) (T := T_Gu) hC con_Gu_reach wd_311 wd_25 (by decide +kernel) ⟨by decide, by decide⟩ ⟨Nat.zero_le _, Nat.zero_le _⟩ wd_308 rfl rfl wd_309 wd_310 d_Gu_step_79,
   ts_istore_n hC d_Gu_step_82 rfl (by decide),
   ts_iload_n hC d_Gu_step_83 rfl,
   ts_ifge hC d_Gu_step_84 (by decide),
   ts_aload_n hC d_Gu_step_87 rfl,
   ts_iload_n hC d_Gu_step_88 rfl,
   ts_ineg hC d_Gu_step_89,
   ts_aload_n hC d_Gu_step_90 rfl,
   ts_gi (j := 6) (C := R_Gu) (T := T_Gu) hC rfl rfl rfl (by decide) u_Gu wd_143 rfl d_Gu_step_91,
   ts_callv (C := R_Gu) (T := T_Gu) hC con_Gu_fault wd_353 wd_25 (by decide +kernel) ⟨by decide, by decide⟩ ⟨Nat.zero_le _, Nat.zero_le _⟩ wd_350 rfl rfl wd_351 wd_352 d_Gu_step_94,
   ts_aret hC rfl d_Gu_step_97,
   ts_aload_n hC d_Gu_step_98 rfl,
   ts_gr (j := 0) (C := R_Gu) (T := T_Gu) hC rfl rfl rfl (by decide) u_Gu wd_132 rfl d_Gu_step_99,
   ts_iload_n hC d_Gu_step_102 rfl,
   ts_iaload hC d_Gu_step_103,
   ts_istore_n hC d_Gu_step_104 rfl (by decide),
   ts_iload_n hC d_Gu_step_105 rfl,
   ts_bipush hC d_Gu_step_106 (by decide),
   ts_iand hC d_Gu_step_108,
   ts_bipush hC d_Gu_step_109 (by decide),
   ts_cge hC d_Gu_step_111 (by decide),
   ts_aload_n hC d_Gu_step_114 rfl,
   ts_iload_n hC d_Gu_step_115 rfl,
   ts_callv (C := R_Gu) (T := T_Gu) hC con_Gu_doOrdinary wd_357 wd_25 (by decide +kernel) ⟨by decide, by decide⟩ ⟨Nat.zero_le _, Nat.zero_le _⟩ wd_354 rfl rfl wd_355 wd_356 d_Gu_step_116,
   ts_goto hC d_Gu_step_119 (by decide),
   ts_aload_n hC d_Gu_step_122 rfl,
   ts_iload_n hC d_Gu_step_123 rfl,
   ts_callv (C := R_Gu) (T := T_Gu) hC con_Gu_doSystem wd_393 wd_25 (by decide +kernel) ⟨by decide, by decide⟩ ⟨Nat.zero_le _, Nat.zero_le _⟩ wd_390 rfl rfl wd_391 wd_392 d_Gu_step_124,
   ts_aret hC rfl d_Gu_step_127,
   trivial⟩
def fn_Gu_step : tw_Fn := tw_fn 1 4 76 pr_Gu_step
theorem con_Gu_step : tw_Con y_Gu_step b_Gu_step 4 (some (.object "TwinHost$Outcome")) 6 fn_Gu_step := tw_met (by decide +kernel) (tw_fn_len (n := 1) (by decide)) (fun p l e s m args below meth c E D vs σ ρ hC h => tw_sound (ok_Gu_step hC) 76 pr_Gu_step (ok_Gu_step hC) _ _ _ (tw_fn_get h))
end
section
-- TwinHost.run(I)I: 33 instructions, depth 7, calls Gu_step TH_passTurnAfter
theorem d_TH_run_0 : decode b_TH_run 0 = .ok (.iload_n 1, 1) := by decide +kernel
theorem d_TH_run_1 : decode b_TH_run 1 = .ok (.iconst 1, 1) := by decide +kernel
theorem d_TH_run_2 : decode b_TH_run 2 = .ok (.if_icmp .lt 9, 3) := by decide +kernel
theorem d_TH_run_5 : decode b_TH_run 5 = .ok (.iload_n 1, 1) := by decide +kernel
theorem d_TH_run_6 : decode b_TH_run 6 = .ok (.bipush 64, 2) := by decide +kernel
theorem d_TH_run_8 : decode b_TH_run 8 = .ok (.if_icmp .le 5, 3) := by decide +kernel
theorem d_TH_run_11 : decode b_TH_run 11 = .ok (.iconst (-1), 1) := by decide +kernel
theorem d_TH_run_12 : decode b_TH_run 12 = .ok (.ireturn, 1) := by decide +kernel
theorem d_TH_run_13 : decode b_TH_run 13 = .ok (.iconst 0, 1) := by decide +kernel
theorem d_TH_run_14 : decode b_TH_run 14 = .ok (.istore_n 2, 1) := by decide +kernel
theorem d_TH_run_15 : decode b_TH_run 15 = .ok (.iconst 0, 1) := by decide +kernel
theorem d_TH_run_16 : decode b_TH_run 16 = .ok (.istore_n 3, 1) := by decide +kernel
theorem d_TH_run_17 : decode b_TH_run 17 = .ok (.iload_n 3, 1) := by decide +kernel
theorem d_TH_run_18 : decode b_TH_run 18 = .ok (.iload_n 1, 1) := by decide +kernel
theorem d_TH_run_19 : decode b_TH_run 19 = .ok (.if_icmp .ge 40, 3) := by decide +kernel
theorem d_TH_run_22 : decode b_TH_run 22 = .ok (.aload_n 0, 1) := by decide +kernel
theorem d_TH_run_23 : decode b_TH_run 23 = .ok (.getfield 16, 3) := by decide +kernel
theorem d_TH_run_26 : decode b_TH_run 26 = .ok (.aload_n 0, 1) := by decide +kernel
theorem d_TH_run_27 : decode b_TH_run 27 = .ok (.getfield 81, 3) := by decide +kernel
theorem d_TH_run_30 : decode b_TH_run 30 = .ok (.aaload, 1) := by decide +kernel
theorem d_TH_run_31 : decode b_TH_run 31 = .ok (.invokevirtual 84, 3) := by decide +kernel
theorem d_TH_run_34 : decode b_TH_run 34 = .ok (.astore 4, 2) := by decide +kernel
theorem d_TH_run_36 : decode b_TH_run 36 = .ok (.aload 4, 2) := by decide +kernel
theorem d_TH_run_38 : decode b_TH_run 38 = .ok (.getstatic 88, 3) := by decide +kernel
theorem d_TH_run_41 : decode b_TH_run 41 = .ok (.if_acmp .ne 6, 3) := by decide +kernel
theorem d_TH_run_44 : decode b_TH_run 44 = .ok (.iinc 2 1, 3) := by decide +kernel
theorem d_TH_run_47 : decode b_TH_run 47 = .ok (.aload_n 0, 1) := by decide +kernel
theorem d_TH_run_48 : decode b_TH_run 48 = .ok (.aload 4, 2) := by decide +kernel
theorem d_TH_run_50 : decode b_TH_run 50 = .ok (.invokevirtual 94, 3) := by decide +kernel
theorem d_TH_run_53 : decode b_TH_run 53 = .ok (.iinc 3 1, 3) := by decide +kernel
theorem d_TH_run_56 : decode b_TH_run 56 = .ok (.goto (-39), 3) := by decide +kernel
theorem d_TH_run_59 : decode b_TH_run 59 = .ok (.iload_n 2, 1) := by decide +kernel
theorem d_TH_run_60 : decode b_TH_run 60 = .ok (.ireturn, 1) := by decide +kernel
def pr_TH_run : List (Nat × tw_Op) := [(0, tw_il 1), (1, tw_ic 1), (2, tw_clt 11), (5, tw_il 1), (6, tw_ic (64)), (8, tw_cle 13), (11, tw_ic (-1)), (12, tw_ri), (13, tw_ic 0), (14, tw_is 2), (15, tw_ic 0), (16, tw_is 3), (17, tw_il 3), (18, tw_il 1), (19, tw_cge 59), (22, tw_al 0), (23, tw_gr 20 21), (26, tw_al 0), (27, tw_gi 20 2), (30, tw_ga), (31, tw_cv 0 0 fn_Gu_step), (34, tw_as 4), (36, tw_al 4), (38, tw_en 60), (41, tw_ane 47), (44, tw_inc 2 (1)), (47, tw_al 0), (48, tw_al 4), (50, tw_cv 1 20 fn_TH_passTurnAfter), (53, tw_inc 3 (1)), (56, tw_jmp 17), (59, tw_il 2), (60, tw_ri)]
set_option maxRecDepth 100000 in
set_option maxHeartbeats 4000000 in
theorem ok_TH_run {p : Program} {l : Launch} {e : Env} {s : State} {m : MethodId} {args : Array Value} {below : List Frame} {meth : Method} {c : Code} {E : tw_E} {D : va_G} {ρ : tw_R} (hC : tw_Cx p s m args meth c b_TH_run 5 (some .int) "TwinHost" E D) : tw_Ok p l e (tw_rmd 7) s m args below meth c 0 0 (MQ below (tw_Qc E D ρ) args s 0 0 (tw_A E)) 5 E D ρ pr_TH_run :=
  ⟨ts_iload_n hC d_TH_run_0 rfl,
   ts_iconst hC d_TH_run_1 (by decide),
   ts_clt hC d_TH_run_2 (by decide),
   ts_iload_n hC d_TH_run_5 rfl,
   ts_bipush hC d_TH_run_6 (by decide),
   ts_cle hC d_TH_run_8 (by decide),
   ts_iconst hC d_TH_run_11 (by decide),
   ts_iret hC rfl d_TH_run_12,
   ts_iconst hC d_TH_run_13 (by decide),
   ts_istore_n hC d_TH_run_14 rfl (by decide),
   ts_iconst hC d_TH_run_15 (by decide),
   ts_istore_n hC d_TH_run_16 rfl (by decide),
   ts_iload_n hC d_TH_run_17 rfl,
   ts_iload_n hC d_TH_run_18 rfl,
   ts_cge hC d_TH_run_19 (by decide),
   ts_aload_n hC d_TH_run_22 rfl,
   ts_gr (j := 0) (C := R_TH) (T := T_TH) hC rfl rfl rfl (by decide) u_TH wd_164 rfl d_TH_run_23,
   ts_aload_n hC d_TH_run_26 rfl,
   ts_gi (j := 2) (C := R_TH) (T := T_TH) hC rfl rfl rfl (by decide) u_TH wd_166 rfl d_TH_run_27,
   ts_aaload hC d_TH_run_30,
   ts_callv (C := R_Gu) (T := T_Gu) hC con_Gu_step wd_284 wd_25 (by decide +kernel) ⟨by decide, by decide⟩ ⟨Nat.zero_le _, Nat.zero_le _⟩ wd_281 rfl rfl wd_282 wd_283 d_TH_run_31,
   ts_astore hC d_TH_run_34 (by decide),
   ts_aload hC d_TH_run_36,
   ts_getO (i := 0) hC (by decide) rfl wd_419 d_TH_run_38,
   ts_ane hC d_TH_run_41 (by decide),
   ts_iinc hC d_TH_run_44 (by decide) (by decide),
   ts_aload_n hC d_TH_run_47 rfl,
   ts_aload hC d_TH_run_48,
   ts_callv (C := R_TH) (T := T_TH) hC con_TH_passTurnAfter wd_423 wd_24 (by decide +kernel) ⟨by decide, by decide⟩ ⟨Nat.zero_le _, Nat.zero_le _⟩ wd_420 rfl rfl wd_422 wd_0 d_TH_run_50,
   ts_iinc hC d_TH_run_53 (by decide) (by decide),
   ts_goto hC d_TH_run_56 (by decide),
   ts_iload_n hC d_TH_run_59 rfl,
   ts_iret hC rfl d_TH_run_60,
   trivial⟩
def fn_TH_run : tw_Fn := tw_fn 2 5 4000 pr_TH_run
theorem con_TH_run : tw_Con y_TH_run b_TH_run 5 (some .int) 7 fn_TH_run := tw_met (by decide +kernel) (tw_fn_len (n := 2) (by decide)) (fun p l e s m args below meth c E D vs σ ρ hC h => tw_sound (ok_TH_run hC) 4000 pr_TH_run (ok_TH_run hC) _ _ _ (tw_fn_get h))
end
section
-- TwinHostModel.add(III)V: 19 instructions, depth 0, calls 
theorem d_Mo_add_0 : decode b_Mo_add 0 = .ok (.aload_n 0, 1) := by decide +kernel
theorem d_Mo_add_1 : decode b_Mo_add 1 = .ok (.getfield 35, 3) := by decide +kernel
theorem d_Mo_add_4 : decode b_Mo_add 4 = .ok (.bipush 9, 2) := by decide +kernel
theorem d_Mo_add_6 : decode b_Mo_add 6 = .ok (.iload_n 1, 1) := by decide +kernel
theorem d_Mo_add_7 : decode b_Mo_add 7 = .ok (.imul, 1) := by decide +kernel
theorem d_Mo_add_8 : decode b_Mo_add 8 = .ok (.iload_n 2, 1) := by decide +kernel
theorem d_Mo_add_9 : decode b_Mo_add 9 = .ok (.iadd, 1) := by decide +kernel
theorem d_Mo_add_10 : decode b_Mo_add 10 = .ok (.aload_n 0, 1) := by decide +kernel
theorem d_Mo_add_11 : decode b_Mo_add 11 = .ok (.getfield 35, 3) := by decide +kernel
theorem d_Mo_add_14 : decode b_Mo_add 14 = .ok (.bipush 9, 2) := by decide +kernel
theorem d_Mo_add_16 : decode b_Mo_add 16 = .ok (.iload_n 1, 1) := by decide +kernel
theorem d_Mo_add_17 : decode b_Mo_add 17 = .ok (.imul, 1) := by decide +kernel
theorem d_Mo_add_18 : decode b_Mo_add 18 = .ok (.iload_n 2, 1) := by decide +kernel
theorem d_Mo_add_19 : decode b_Mo_add 19 = .ok (.iadd, 1) := by decide +kernel
theorem d_Mo_add_20 : decode b_Mo_add 20 = .ok (.iaload, 1) := by decide +kernel
theorem d_Mo_add_21 : decode b_Mo_add 21 = .ok (.iload_n 3, 1) := by decide +kernel
theorem d_Mo_add_22 : decode b_Mo_add 22 = .ok (.iadd, 1) := by decide +kernel
theorem d_Mo_add_23 : decode b_Mo_add 23 = .ok (.iastore, 1) := by decide +kernel
theorem d_Mo_add_24 : decode b_Mo_add 24 = .ok (.return_, 1) := by decide +kernel
def pr_Mo_add : List (Nat × tw_Op) := [(0, tw_al 0), (1, tw_gr 22 31), (4, tw_ic (9)), (6, tw_il 1), (7, tw_bin (· * ·)), (8, tw_il 2), (9, tw_bin (· + ·)), (10, tw_al 0), (11, tw_gr 22 31), (14, tw_ic (9)), (16, tw_il 1), (17, tw_bin (· * ·)), (18, tw_il 2), (19, tw_bin (· + ·)), (20, tw_ia), (21, tw_il 3), (22, tw_bin (· + ·)), (23, tw_ias 22 37), (24, tw_r0)]
set_option maxRecDepth 100000 in
set_option maxHeartbeats 4000000 in
theorem ok_Mo_add {p : Program} {l : Launch} {e : Env} {s : State} {m : MethodId} {args : Array Value} {below : List Frame} {meth : Method} {c : Code} {E : tw_E} {D : va_G} {ρ : tw_R} (hC : tw_Cx p s m args meth c b_Mo_add 4 none "TwinHostModel" E D) : tw_Ok p l e (tw_rmd 0) s m args below meth c 0 0 (MQ below (tw_Qc E D ρ) args s 0 0 (tw_A E)) 4 E D ρ pr_Mo_add :=
  ⟨ts_aload_n hC d_Mo_add_0 rfl,
   ts_gr (j := 11) (C := R_Mo) (T := T_Mo) hC rfl rfl rfl (by decide) u_Mo wd_467 rfl d_Mo_add_1,
   ts_bipush hC d_Mo_add_4 (by decide),
   ts_iload_n hC d_Mo_add_6 rfl,
   ts_imul hC d_Mo_add_7,
   ts_iload_n hC d_Mo_add_8 rfl,
   ts_iadd hC d_Mo_add_9,
   ts_aload_n hC d_Mo_add_10 rfl,
   ts_gr (j := 11) (C := R_Mo) (T := T_Mo) hC rfl rfl rfl (by decide) u_Mo wd_467 rfl d_Mo_add_11,
   ts_bipush hC d_Mo_add_14 (by decide),
   ts_iload_n hC d_Mo_add_16 rfl,
   ts_imul hC d_Mo_add_17,
   ts_iload_n hC d_Mo_add_18 rfl,
   ts_iadd hC d_Mo_add_19,
   ts_iaload hC d_Mo_add_20,
   ts_iload_n hC d_Mo_add_21 rfl,
   ts_iadd hC d_Mo_add_22,
   ts_iastore hC d_Mo_add_23,
   ts_vret hC rfl d_Mo_add_24,
   trivial⟩
def fn_Mo_add : tw_Fn := tw_fn 4 4 21 pr_Mo_add
theorem con_Mo_add : tw_Con y_Mo_add b_Mo_add 4 none 0 fn_Mo_add := tw_met (by decide +kernel) (tw_fn_len (n := 4) (by decide)) (fun p l e s m args below meth c E D vs σ ρ hC h => tw_sound (ok_Mo_add hC) 21 pr_Mo_add (ok_Mo_add hC) _ _ _ (tw_fn_get h))

-- TwinHostModel.allowed(III)Z: 54 instructions, depth 0, calls 
theorem d_Mo_allowed_0 : decode b_Mo_allowed 0 = .ok (.iload_n 3, 1) := by decide +kernel
theorem d_Mo_allowed_1 : decode b_Mo_allowed 1 = .ok (.ifCond .ne 8, 3) := by decide +kernel
theorem d_Mo_allowed_4 : decode b_Mo_allowed 4 = .ok (.bipush 8, 2) := by decide +kernel
theorem d_Mo_allowed_6 : decode b_Mo_allowed 6 = .ok (.goto 13, 3) := by decide +kernel
theorem d_Mo_allowed_9 : decode b_Mo_allowed 9 = .ok (.iload_n 3, 1) := by decide +kernel
theorem d_Mo_allowed_10 : decode b_Mo_allowed 10 = .ok (.iconst 1, 1) := by decide +kernel
theorem d_Mo_allowed_11 : decode b_Mo_allowed 11 = .ok (.if_icmp .ne 7, 3) := by decide +kernel
theorem d_Mo_allowed_14 : decode b_Mo_allowed 14 = .ok (.iconst 2, 1) := by decide +kernel
theorem d_Mo_allowed_15 : decode b_Mo_allowed 15 = .ok (.goto 4, 3) := by decide +kernel
theorem d_Mo_allowed_18 : decode b_Mo_allowed 18 = .ok (.iconst 4, 1) := by decide +kernel
theorem d_Mo_allowed_19 : decode b_Mo_allowed 19 = .ok (.istore 4, 2) := by decide +kernel
theorem d_Mo_allowed_21 : decode b_Mo_allowed 21 = .ok (.iload_n 2, 1) := by decide +kernel
theorem d_Mo_allowed_22 : decode b_Mo_allowed 22 = .ok (.bipush 16, 2) := by decide +kernel
theorem d_Mo_allowed_24 : decode b_Mo_allowed 24 = .ok (.iand, 1) := by decide +kernel
theorem d_Mo_allowed_25 : decode b_Mo_allowed 25 = .ok (.ifCond .eq 7, 3) := by decide +kernel
theorem d_Mo_allowed_28 : decode b_Mo_allowed 28 = .ok (.iconst 1, 1) := by decide +kernel
theorem d_Mo_allowed_29 : decode b_Mo_allowed 29 = .ok (.goto 4, 3) := by decide +kernel
theorem d_Mo_allowed_32 : decode b_Mo_allowed 32 = .ok (.iconst 0, 1) := by decide +kernel
theorem d_Mo_allowed_33 : decode b_Mo_allowed 33 = .ok (.istore 5, 2) := by decide +kernel
theorem d_Mo_allowed_35 : decode b_Mo_allowed 35 = .ok (.aload_n 0, 1) := by decide +kernel
theorem d_Mo_allowed_36 : decode b_Mo_allowed 36 = .ok (.getfield 16, 3) := by decide +kernel
theorem d_Mo_allowed_39 : decode b_Mo_allowed 39 = .ok (.bipush 12, 2) := by decide +kernel
theorem d_Mo_allowed_41 : decode b_Mo_allowed 41 = .ok (.iload_n 1, 1) := by decide +kernel
theorem d_Mo_allowed_42 : decode b_Mo_allowed 42 = .ok (.imul, 1) := by decide +kernel
theorem d_Mo_allowed_43 : decode b_Mo_allowed 43 = .ok (.iaload, 1) := by decide +kernel
theorem d_Mo_allowed_44 : decode b_Mo_allowed 44 = .ok (.bipush 8, 2) := by decide +kernel
theorem d_Mo_allowed_46 : decode b_Mo_allowed 46 = .ok (.iand, 1) := by decide +kernel
theorem d_Mo_allowed_47 : decode b_Mo_allowed 47 = .ok (.ifCond .eq 11, 3) := by decide +kernel
theorem d_Mo_allowed_50 : decode b_Mo_allowed 50 = .ok (.iload_n 3, 1) := by decide +kernel
theorem d_Mo_allowed_51 : decode b_Mo_allowed 51 = .ok (.ifCond .eq 7, 3) := by decide +kernel
theorem d_Mo_allowed_54 : decode b_Mo_allowed 54 = .ok (.iconst 1, 1) := by decide +kernel
theorem d_Mo_allowed_55 : decode b_Mo_allowed 55 = .ok (.goto 4, 3) := by decide +kernel
theorem d_Mo_allowed_58 : decode b_Mo_allowed 58 = .ok (.iconst 0, 1) := by decide +kernel
theorem d_Mo_allowed_59 : decode b_Mo_allowed 59 = .ok (.istore 6, 2) := by decide +kernel
theorem d_Mo_allowed_61 : decode b_Mo_allowed 61 = .ok (.iload_n 2, 1) := by decide +kernel
theorem d_Mo_allowed_62 : decode b_Mo_allowed 62 = .ok (.iload 4, 2) := by decide +kernel
theorem d_Mo_allowed_64 : decode b_Mo_allowed 64 = .ok (.iand, 1) := by decide +kernel
theorem d_Mo_allowed_65 : decode b_Mo_allowed 65 = .ok (.ifCond .eq 34, 3) := by decide +kernel
theorem d_Mo_allowed_68 : decode b_Mo_allowed 68 = .ok (.aload_n 0, 1) := by decide +kernel
theorem d_Mo_allowed_69 : decode b_Mo_allowed 69 = .ok (.getfield 22, 3) := by decide +kernel
theorem d_Mo_allowed_72 : decode b_Mo_allowed 72 = .ok (.iload_n 1, 1) := by decide +kernel
theorem d_Mo_allowed_73 : decode b_Mo_allowed 73 = .ok (.baload, 1) := by decide +kernel
theorem d_Mo_allowed_74 : decode b_Mo_allowed 74 = .ok (.ifCond .eq 11, 3) := by decide +kernel
theorem d_Mo_allowed_77 : decode b_Mo_allowed 77 = .ok (.iload 5, 2) := by decide +kernel
theorem d_Mo_allowed_79 : decode b_Mo_allowed 79 = .ok (.ifCond .eq 20, 3) := by decide +kernel
theorem d_Mo_allowed_82 : decode b_Mo_allowed 82 = .ok (.goto 13, 3) := by decide +kernel
theorem d_Mo_allowed_85 : decode b_Mo_allowed 85 = .ok (.iload 5, 2) := by decide +kernel
theorem d_Mo_allowed_87 : decode b_Mo_allowed 87 = .ok (.ifCond .eq 8, 3) := by decide +kernel
theorem d_Mo_allowed_90 : decode b_Mo_allowed 90 = .ok (.iload 6, 2) := by decide +kernel
theorem d_Mo_allowed_92 : decode b_Mo_allowed 92 = .ok (.ifCond .eq 7, 3) := by decide +kernel
theorem d_Mo_allowed_95 : decode b_Mo_allowed 95 = .ok (.iconst 1, 1) := by decide +kernel
theorem d_Mo_allowed_96 : decode b_Mo_allowed 96 = .ok (.goto 4, 3) := by decide +kernel
theorem d_Mo_allowed_99 : decode b_Mo_allowed 99 = .ok (.iconst 0, 1) := by decide +kernel
theorem d_Mo_allowed_100 : decode b_Mo_allowed 100 = .ok (.ireturn, 1) := by decide +kernel
def pr_Mo_allowed : List (Nat × tw_Op) := [(0, tw_il 3), (1, tw_ifne 9), (4, tw_ic (8)), (6, tw_jmp 19), (9, tw_il 3), (10, tw_ic 1), (11, tw_cne 18), (14, tw_ic 2), (15, tw_jmp 19), (18, tw_ic 4), (19, tw_is 4), (21, tw_il 2), (22, tw_ic (16)), (24, tw_bin (· &&& ·)), (25, tw_ifeq 32), (28, tw_ic 1), (29, tw_jmp 33), (32, tw_ic 0), (33, tw_is 5), (35, tw_al 0), (36, tw_gr 22 25), (39, tw_ic (12)), (41, tw_il 1), (42, tw_bin (· * ·)), (43, tw_ia), (44, tw_ic (8)), (46, tw_bin (· &&& ·)), (47, tw_ifeq 58), (50, tw_il 3), (51, tw_ifeq 58), (54, tw_ic 1), (55, tw_jmp 59), (58, tw_ic 0), (59, tw_is 6), (61, tw_il 2), (62, tw_il 4), (64, tw_bin (· &&& ·)), (65, tw_ifeq 99), (68, tw_al 0), (69, tw_gr 22 27), (72, tw_il 1), (73, tw_za), (74, tw_ifeq 85), (77, tw_il 5), (79, tw_ifeq 99), (82, tw_jmp 95), (85, tw_il 5), (87, tw_ifeq 95), (90, tw_il 6), (92, tw_ifeq 99), (95, tw_ic 1), (96, tw_jmp 100), (99, tw_ic 0), (100, tw_rz)]
set_option maxRecDepth 100000 in
set_option maxHeartbeats 4000000 in
theorem ok_Mo_allowed {p : Program} {l : Launch} {e : Env} {s : State} {m : MethodId} {args : Array Value} {below : List Frame} {meth : Method} {c : Code} {E : tw_E} {D : va_G} {ρ : tw_R} (hC : tw_Cx p s m args meth c b_Mo_allowed 7 (some .boolean) "TwinHostModel" E D) : tw_Ok p l e (tw_rmd 0) s m args below meth c 0 0 (MQ below (tw_Qc E D ρ) args s 0 0 (tw_A E)) 7 E D ρ pr_Mo_allowed :=
  ⟨ts_iload_n hC d_Mo_allowed_0 rfl,
   ts_ifne hC d_Mo_allowed_1 (by decide),
   ts_bipush hC d_Mo_allowed_4 (by decide),
   ts_goto hC d_Mo_allowed_6 (by decide),
   ts_iload_n hC d_Mo_allowed_9 rfl,
   ts_iconst hC d_Mo_allowed_10 (by decide),
   ts_cne hC d_Mo_allowed_11 (by decide),
   ts_iconst hC d_Mo_allowed_14 (by decide),
   ts_goto hC d_Mo_allowed_15 (by decide),
   ts_iconst hC d_Mo_allowed_18 (by decide),
   ts_istore hC d_Mo_allowed_19 (by decide),
   ts_iload_n hC d_Mo_allowed_21 rfl,
   ts_bipush hC d_Mo_allowed_22 (by decide),
   ts_iand hC d_Mo_allowed_24,
   ts_ifeq hC d_Mo_allowed_25 (by decide),
   ts_iconst hC d_Mo_allowed_28 (by decide),
   ts_goto hC d_Mo_allowed_29 (by decide),
   ts_iconst hC d_Mo_allowed_32 (by decide),
   ts_istore hC d_Mo_allowed_33 (by decide),
   ts_aload_n hC d_Mo_allowed_35 rfl,
   ts_gr (j := 5) (C := R_Mo) (T := T_Mo) hC rfl rfl rfl (by decide) u_Mo wd_461 rfl d_Mo_allowed_36,
   ts_bipush hC d_Mo_allowed_39 (by decide),
   ts_iload_n hC d_Mo_allowed_41 rfl,
   ts_imul hC d_Mo_allowed_42,
   ts_iaload hC d_Mo_allowed_43,
   ts_bipush hC d_Mo_allowed_44 (by decide),
   ts_iand hC d_Mo_allowed_46,
   ts_ifeq hC d_Mo_allowed_47 (by decide),
   ts_iload_n hC d_Mo_allowed_50 rfl,
   ts_ifeq hC d_Mo_allowed_51 (by decide),
   ts_iconst hC d_Mo_allowed_54 (by decide),
   ts_goto hC d_Mo_allowed_55 (by decide),
   ts_iconst hC d_Mo_allowed_58 (by decide),
   ts_istore hC d_Mo_allowed_59 (by decide),
   ts_iload_n hC d_Mo_allowed_61 rfl,
   ts_iload hC d_Mo_allowed_62,
   ts_iand hC d_Mo_allowed_64,
   ts_ifeq hC d_Mo_allowed_65 (by decide),
   ts_aload_n hC d_Mo_allowed_68 rfl,
   ts_gr (j := 7) (C := R_Mo) (T := T_Mo) hC rfl rfl rfl (by decide) u_Mo wd_463 rfl d_Mo_allowed_69,
   ts_iload_n hC d_Mo_allowed_72 rfl,
   ts_baload hC d_Mo_allowed_73,
   ts_ifeq hC d_Mo_allowed_74 (by decide),
   ts_iload hC d_Mo_allowed_77,
   ts_ifeq hC d_Mo_allowed_79 (by decide),
   ts_goto hC d_Mo_allowed_82 (by decide),
   ts_iload hC d_Mo_allowed_85,
   ts_ifeq hC d_Mo_allowed_87 (by decide),
   ts_iload hC d_Mo_allowed_90,
   ts_ifeq hC d_Mo_allowed_92 (by decide),
   ts_iconst hC d_Mo_allowed_95 (by decide),
   ts_goto hC d_Mo_allowed_96 (by decide),
   ts_iconst hC d_Mo_allowed_99 (by decide),
   ts_zret hC rfl d_Mo_allowed_100,
   trivial⟩
def fn_Mo_allowed : tw_Fn := tw_fn 4 7 56 pr_Mo_allowed
theorem con_Mo_allowed : tw_Con y_Mo_allowed b_Mo_allowed 7 (some .boolean) 0 fn_Mo_allowed := tw_met (by decide +kernel) (tw_fn_len (n := 4) (by decide)) (fun p l e s m args below meth c E D vs σ ρ hC h => tw_sound (ok_Mo_allowed hC) 56 pr_Mo_allowed (ok_Mo_allowed hC) _ _ _ (tw_fn_get h))

-- TwinHostModel.broken(I)Z: 13 instructions, depth 0, calls 
theorem d_Mo_broken_0 : decode b_Mo_broken 0 = .ok (.iload_n 0, 1) := by decide +kernel
theorem d_Mo_broken_1 : decode b_Mo_broken 1 = .ok (.iconst 1, 1) := by decide +kernel
theorem d_Mo_broken_2 : decode b_Mo_broken 2 = .ok (.iand, 1) := by decide +kernel
theorem d_Mo_broken_3 : decode b_Mo_broken 3 = .ok (.ifCond .eq 11, 3) := by decide +kernel
theorem d_Mo_broken_6 : decode b_Mo_broken 6 = .ok (.iload_n 0, 1) := by decide +kernel
theorem d_Mo_broken_7 : decode b_Mo_broken 7 = .ok (.bipush 6, 2) := by decide +kernel
theorem d_Mo_broken_9 : decode b_Mo_broken 9 = .ok (.iand, 1) := by decide +kernel
theorem d_Mo_broken_10 : decode b_Mo_broken 10 = .ok (.iconst 4, 1) := by decide +kernel
theorem d_Mo_broken_11 : decode b_Mo_broken 11 = .ok (.if_icmp .ne 7, 3) := by decide +kernel
theorem d_Mo_broken_14 : decode b_Mo_broken 14 = .ok (.iconst 1, 1) := by decide +kernel
theorem d_Mo_broken_15 : decode b_Mo_broken 15 = .ok (.goto 4, 3) := by decide +kernel
theorem d_Mo_broken_18 : decode b_Mo_broken 18 = .ok (.iconst 0, 1) := by decide +kernel
theorem d_Mo_broken_19 : decode b_Mo_broken 19 = .ok (.ireturn, 1) := by decide +kernel
def pr_Mo_broken : List (Nat × tw_Op) := [(0, tw_il 0), (1, tw_ic 1), (2, tw_bin (· &&& ·)), (3, tw_ifeq 14), (6, tw_il 0), (7, tw_ic (6)), (9, tw_bin (· &&& ·)), (10, tw_ic 4), (11, tw_cne 18), (14, tw_ic 1), (15, tw_jmp 19), (18, tw_ic 0), (19, tw_rz)]
set_option maxRecDepth 100000 in
set_option maxHeartbeats 4000000 in
theorem ok_Mo_broken {p : Program} {l : Launch} {e : Env} {s : State} {m : MethodId} {args : Array Value} {below : List Frame} {meth : Method} {c : Code} {E : tw_E} {D : va_G} {ρ : tw_R} (hC : tw_Cx p s m args meth c b_Mo_broken 1 (some .boolean) "TwinHostModel" E D) : tw_Ok p l e (tw_rmd 0) s m args below meth c 0 0 (MQ below (tw_Qc E D ρ) args s 0 0 (tw_A E)) 1 E D ρ pr_Mo_broken :=
  ⟨ts_iload_n hC d_Mo_broken_0 rfl,
   ts_iconst hC d_Mo_broken_1 (by decide),
   ts_iand hC d_Mo_broken_2,
   ts_ifeq hC d_Mo_broken_3 (by decide),
   ts_iload_n hC d_Mo_broken_6 rfl,
   ts_bipush hC d_Mo_broken_7 (by decide),
   ts_iand hC d_Mo_broken_9,
   ts_iconst hC d_Mo_broken_10 (by decide),
   ts_cne hC d_Mo_broken_11 (by decide),
   ts_iconst hC d_Mo_broken_14 (by decide),
   ts_goto hC d_Mo_broken_15 (by decide),
   ts_iconst hC d_Mo_broken_18 (by decide),
   ts_zret hC rfl d_Mo_broken_19,
   trivial⟩
def fn_Mo_broken : tw_Fn := tw_fn 1 1 15 pr_Mo_broken
theorem con_Mo_broken : tw_Con y_Mo_broken b_Mo_broken 1 (some .boolean) 0 fn_Mo_broken := tw_met (by decide +kernel) (tw_fn_len (n := 1) (by decide)) (fun p l e s m args below meth c E D vs σ ρ hC h => tw_sound (ok_Mo_broken hC) 15 pr_Mo_broken (ok_Mo_broken hC) _ _ _ (tw_fn_get h))

-- TwinHostModel.calculate(IIII)I: 49 instructions, depth 0, calls 
theorem d_Mo_calculate_0 : decode b_Mo_calculate 0 = .ok (.iload_n 0, 1) := by decide +kernel
theorem d_Mo_calculate_1 : decode b_Mo_calculate 1 = .ok (.tableswitch 100 0 8 #[51, 55, 59, 63, 67, 71, 75, 86, 93], 51) := by decide +kernel
theorem d_Mo_calculate_52 : decode b_Mo_calculate 52 = .ok (.iload_n 1, 1) := by decide +kernel
theorem d_Mo_calculate_53 : decode b_Mo_calculate 53 = .ok (.iload_n 3, 1) := by decide +kernel
theorem d_Mo_calculate_54 : decode b_Mo_calculate 54 = .ok (.iadd, 1) := by decide +kernel
theorem d_Mo_calculate_55 : decode b_Mo_calculate 55 = .ok (.ireturn, 1) := by decide +kernel
theorem d_Mo_calculate_56 : decode b_Mo_calculate 56 = .ok (.iload_n 1, 1) := by decide +kernel
theorem d_Mo_calculate_57 : decode b_Mo_calculate 57 = .ok (.iload_n 2, 1) := by decide +kernel
theorem d_Mo_calculate_58 : decode b_Mo_calculate 58 = .ok (.iadd, 1) := by decide +kernel
theorem d_Mo_calculate_59 : decode b_Mo_calculate 59 = .ok (.ireturn, 1) := by decide +kernel
theorem d_Mo_calculate_60 : decode b_Mo_calculate 60 = .ok (.iload_n 1, 1) := by decide +kernel
theorem d_Mo_calculate_61 : decode b_Mo_calculate 61 = .ok (.iload_n 2, 1) := by decide +kernel
theorem d_Mo_calculate_62 : decode b_Mo_calculate 62 = .ok (.isub, 1) := by decide +kernel
theorem d_Mo_calculate_63 : decode b_Mo_calculate 63 = .ok (.ireturn, 1) := by decide +kernel
theorem d_Mo_calculate_64 : decode b_Mo_calculate 64 = .ok (.iload_n 1, 1) := by decide +kernel
theorem d_Mo_calculate_65 : decode b_Mo_calculate 65 = .ok (.iload_n 2, 1) := by decide +kernel
theorem d_Mo_calculate_66 : decode b_Mo_calculate 66 = .ok (.iand, 1) := by decide +kernel
theorem d_Mo_calculate_67 : decode b_Mo_calculate 67 = .ok (.ireturn, 1) := by decide +kernel
theorem d_Mo_calculate_68 : decode b_Mo_calculate 68 = .ok (.iload_n 1, 1) := by decide +kernel
theorem d_Mo_calculate_69 : decode b_Mo_calculate 69 = .ok (.iload_n 2, 1) := by decide +kernel
theorem d_Mo_calculate_70 : decode b_Mo_calculate 70 = .ok (.ior, 1) := by decide +kernel
theorem d_Mo_calculate_71 : decode b_Mo_calculate 71 = .ok (.ireturn, 1) := by decide +kernel
theorem d_Mo_calculate_72 : decode b_Mo_calculate 72 = .ok (.iload_n 1, 1) := by decide +kernel
theorem d_Mo_calculate_73 : decode b_Mo_calculate 73 = .ok (.iload_n 2, 1) := by decide +kernel
theorem d_Mo_calculate_74 : decode b_Mo_calculate 74 = .ok (.ixor, 1) := by decide +kernel
theorem d_Mo_calculate_75 : decode b_Mo_calculate 75 = .ok (.ireturn, 1) := by decide +kernel
theorem d_Mo_calculate_76 : decode b_Mo_calculate 76 = .ok (.iload_n 1, 1) := by decide +kernel
theorem d_Mo_calculate_77 : decode b_Mo_calculate 77 = .ok (.iload_n 2, 1) := by decide +kernel
theorem d_Mo_calculate_78 : decode b_Mo_calculate 78 = .ok (.if_icmp .ge 7, 3) := by decide +kernel
theorem d_Mo_calculate_81 : decode b_Mo_calculate 81 = .ok (.iconst 1, 1) := by decide +kernel
theorem d_Mo_calculate_82 : decode b_Mo_calculate 82 = .ok (.goto 4, 3) := by decide +kernel
theorem d_Mo_calculate_85 : decode b_Mo_calculate 85 = .ok (.iconst 0, 1) := by decide +kernel
theorem d_Mo_calculate_86 : decode b_Mo_calculate 86 = .ok (.ireturn, 1) := by decide +kernel
theorem d_Mo_calculate_87 : decode b_Mo_calculate 87 = .ok (.iload_n 1, 1) := by decide +kernel
theorem d_Mo_calculate_88 : decode b_Mo_calculate 88 = .ok (.iload_n 2, 1) := by decide +kernel
theorem d_Mo_calculate_89 : decode b_Mo_calculate 89 = .ok (.bipush 31, 2) := by decide +kernel
theorem d_Mo_calculate_91 : decode b_Mo_calculate 91 = .ok (.iand, 1) := by decide +kernel
theorem d_Mo_calculate_92 : decode b_Mo_calculate 92 = .ok (.ishl, 1) := by decide +kernel
theorem d_Mo_calculate_93 : decode b_Mo_calculate 93 = .ok (.ireturn, 1) := by decide +kernel
theorem d_Mo_calculate_94 : decode b_Mo_calculate 94 = .ok (.iload_n 1, 1) := by decide +kernel
theorem d_Mo_calculate_95 : decode b_Mo_calculate 95 = .ok (.iload_n 2, 1) := by decide +kernel
theorem d_Mo_calculate_96 : decode b_Mo_calculate 96 = .ok (.bipush 31, 2) := by decide +kernel
theorem d_Mo_calculate_98 : decode b_Mo_calculate 98 = .ok (.iand, 1) := by decide +kernel
theorem d_Mo_calculate_99 : decode b_Mo_calculate 99 = .ok (.ishr, 1) := by decide +kernel
theorem d_Mo_calculate_100 : decode b_Mo_calculate 100 = .ok (.ireturn, 1) := by decide +kernel
theorem d_Mo_calculate_101 : decode b_Mo_calculate 101 = .ok (.iload_n 3, 1) := by decide +kernel
theorem d_Mo_calculate_102 : decode b_Mo_calculate 102 = .ok (.bipush 16, 2) := by decide +kernel
theorem d_Mo_calculate_104 : decode b_Mo_calculate 104 = .ok (.ishl, 1) := by decide +kernel
theorem d_Mo_calculate_105 : decode b_Mo_calculate 105 = .ok (.ireturn, 1) := by decide +kernel
def pr_Mo_calculate : List (Nat × tw_Op) := [(0, tw_il 0), (1, tw_sw [(0, 52), (1, 56), (2, 60), (3, 64), (4, 68), (5, 72), (6, 76), (7, 87), (8, 94)] 101), (52, tw_il 1), (53, tw_il 3), (54, tw_bin (· + ·)), (55, tw_ri), (56, tw_il 1), (57, tw_il 2), (58, tw_bin (· + ·)), (59, tw_ri), (60, tw_il 1), (61, tw_il 2), (62, tw_bin (· - ·)), (63, tw_ri), (64, tw_il 1), (65, tw_il 2), (66, tw_bin (· &&& ·)), (67, tw_ri), (68, tw_il 1), (69, tw_il 2), (70, tw_bin (· ||| ·)), (71, tw_ri), (72, tw_il 1), (73, tw_il 2), (74, tw_bin (· ^^^ ·)), (75, tw_ri), (76, tw_il 1), (77, tw_il 2), (78, tw_cge 85), (81, tw_ic 1), (82, tw_jmp 86), (85, tw_ic 0), (86, tw_ri), (87, tw_il 1), (88, tw_il 2), (89, tw_ic (31)), (91, tw_bin (· &&& ·)), (92, tw_bin (fun x y => x <<< (y &&& 31))), (93, tw_ri), (94, tw_il 1), (95, tw_il 2), (96, tw_ic (31)), (98, tw_bin (· &&& ·)), (99, tw_bin (fun x y => x >>> (y &&& 31))), (100, tw_ri), (101, tw_il 3), (102, tw_ic (16)), (104, tw_bin (fun x y => x <<< (y &&& 31))), (105, tw_ri)]
set_option maxRecDepth 100000 in
set_option maxHeartbeats 4000000 in
theorem ok_Mo_calculate {p : Program} {l : Launch} {e : Env} {s : State} {m : MethodId} {args : Array Value} {below : List Frame} {meth : Method} {c : Code} {E : tw_E} {D : va_G} {ρ : tw_R} (hC : tw_Cx p s m args meth c b_Mo_calculate 4 (some .int) "TwinHostModel" E D) : tw_Ok p l e (tw_rmd 0) s m args below meth c 0 0 (MQ below (tw_Qc E D ρ) args s 0 0 (tw_A E)) 4 E D ρ pr_Mo_calculate :=
  ⟨ts_iload_n hC d_Mo_calculate_0 rfl,
   ts_table (n := 8) hC _ d_Mo_calculate_1 (by decide) (by decide) (by decide +kernel) (by decide +kernel),
   ts_iload_n hC d_Mo_calculate_52 rfl,
   ts_iload_n hC d_Mo_calculate_53 rfl,
   ts_iadd hC d_Mo_calculate_54,
   ts_iret hC rfl d_Mo_calculate_55,
   ts_iload_n hC d_Mo_calculate_56 rfl,
   ts_iload_n hC d_Mo_calculate_57 rfl,
   ts_iadd hC d_Mo_calculate_58,
   ts_iret hC rfl d_Mo_calculate_59,
   ts_iload_n hC d_Mo_calculate_60 rfl,
   ts_iload_n hC d_Mo_calculate_61 rfl,
   ts_isub hC d_Mo_calculate_62,
   ts_iret hC rfl d_Mo_calculate_63,
   ts_iload_n hC d_Mo_calculate_64 rfl,
   ts_iload_n hC d_Mo_calculate_65 rfl,
   ts_iand hC d_Mo_calculate_66,
   ts_iret hC rfl d_Mo_calculate_67,
   ts_iload_n hC d_Mo_calculate_68 rfl,
   ts_iload_n hC d_Mo_calculate_69 rfl,
   ts_ior hC d_Mo_calculate_70,
   ts_iret hC rfl d_Mo_calculate_71,
   ts_iload_n hC d_Mo_calculate_72 rfl,
   ts_iload_n hC d_Mo_calculate_73 rfl,
   ts_ixor hC d_Mo_calculate_74,
   ts_iret hC rfl d_Mo_calculate_75,
   ts_iload_n hC d_Mo_calculate_76 rfl,
   ts_iload_n hC d_Mo_calculate_77 rfl,
   ts_cge hC d_Mo_calculate_78 (by decide),
   ts_iconst hC d_Mo_calculate_81 (by decide),
   ts_goto hC d_Mo_calculate_82 (by decide),
   ts_iconst hC d_Mo_calculate_85 (by decide),
   ts_iret hC rfl d_Mo_calculate_86,
   ts_iload_n hC d_Mo_calculate_87 rfl,
   ts_iload_n hC d_Mo_calculate_88 rfl,
   ts_bipush hC d_Mo_calculate_89 (by decide),
   ts_iand hC d_Mo_calculate_91,
   ts_ishl hC d_Mo_calculate_92,
   ts_iret hC rfl d_Mo_calculate_93,
   ts_iload_n hC d_Mo_calculate_94 rfl,
   ts_iload_n hC d_Mo_calculate_95 rfl,
   ts_bipush hC d_Mo_calculate_96 (by decide),
   ts_iand hC d_Mo_calculate_98,
   ts_ishr hC d_Mo_calculate_99,
   ts_iret hC rfl d_Mo_calculate_100,
   ts_iload_n hC d_Mo_calculate_101 rfl,
   ts_bipush hC d_Mo_calculate_102 (by decide),
   ts_ishl hC d_Mo_calculate_104,
   ts_iret hC rfl d_Mo_calculate_105,
   trivial⟩
def fn_Mo_calculate : tw_Fn := tw_fn 4 4 51 pr_Mo_calculate
theorem con_Mo_calculate : tw_Con y_Mo_calculate b_Mo_calculate 4 (some .int) 0 fn_Mo_calculate := tw_met (by decide +kernel) (tw_fn_len (n := 4) (by decide)) (fun p l e s m args below meth c E D vs σ ρ hC h => tw_sound (ok_Mo_calculate hC) 51 pr_Mo_calculate (ok_Mo_calculate hC) _ _ _ (tw_fn_get h))

-- TwinHostModel.guest(I)Z: 9 instructions, depth 0, calls 
theorem d_Mo_guest_0 : decode b_Mo_guest 0 = .ok (.iload_n 0, 1) := by decide +kernel
theorem d_Mo_guest_1 : decode b_Mo_guest 1 = .ok (.ifCond .eq 8, 3) := by decide +kernel
theorem d_Mo_guest_4 : decode b_Mo_guest 4 = .ok (.iload_n 0, 1) := by decide +kernel
theorem d_Mo_guest_5 : decode b_Mo_guest 5 = .ok (.iconst 1, 1) := by decide +kernel
theorem d_Mo_guest_6 : decode b_Mo_guest 6 = .ok (.if_icmp .ne 7, 3) := by decide +kernel
theorem d_Mo_guest_9 : decode b_Mo_guest 9 = .ok (.iconst 1, 1) := by decide +kernel
theorem d_Mo_guest_10 : decode b_Mo_guest 10 = .ok (.goto 4, 3) := by decide +kernel
theorem d_Mo_guest_13 : decode b_Mo_guest 13 = .ok (.iconst 0, 1) := by decide +kernel
theorem d_Mo_guest_14 : decode b_Mo_guest 14 = .ok (.ireturn, 1) := by decide +kernel
def pr_Mo_guest : List (Nat × tw_Op) := [(0, tw_il 0), (1, tw_ifeq 9), (4, tw_il 0), (5, tw_ic 1), (6, tw_cne 13), (9, tw_ic 1), (10, tw_jmp 14), (13, tw_ic 0), (14, tw_rz)]
set_option maxRecDepth 100000 in
set_option maxHeartbeats 4000000 in
theorem ok_Mo_guest {p : Program} {l : Launch} {e : Env} {s : State} {m : MethodId} {args : Array Value} {below : List Frame} {meth : Method} {c : Code} {E : tw_E} {D : va_G} {ρ : tw_R} (hC : tw_Cx p s m args meth c b_Mo_guest 1 (some .boolean) "TwinHostModel" E D) : tw_Ok p l e (tw_rmd 0) s m args below meth c 0 0 (MQ below (tw_Qc E D ρ) args s 0 0 (tw_A E)) 1 E D ρ pr_Mo_guest :=
  ⟨ts_iload_n hC d_Mo_guest_0 rfl,
   ts_ifeq hC d_Mo_guest_1 (by decide),
   ts_iload_n hC d_Mo_guest_4 rfl,
   ts_iconst hC d_Mo_guest_5 (by decide),
   ts_cne hC d_Mo_guest_6 (by decide),
   ts_iconst hC d_Mo_guest_9 (by decide),
   ts_goto hC d_Mo_guest_10 (by decide),
   ts_iconst hC d_Mo_guest_13 (by decide),
   ts_zret hC rfl d_Mo_guest_14,
   trivial⟩
def fn_Mo_guest : tw_Fn := tw_fn 1 1 11 pr_Mo_guest
theorem con_Mo_guest : tw_Con y_Mo_guest b_Mo_guest 1 (some .boolean) 0 fn_Mo_guest := tw_met (by decide +kernel) (tw_fn_len (n := 1) (by decide)) (fun p l e s m args below meth c E D vs σ ρ hC h => tw_sound (ok_Mo_guest hC) 11 pr_Mo_guest (ok_Mo_guest hC) _ _ _ (tw_fn_get h))

-- TwinHostModel.isStored(I)Z: 12 instructions, depth 0, calls 
theorem d_Mo_isStored_0 : decode b_Mo_isStored 0 = .ok (.iload_n 0, 1) := by decide +kernel
theorem d_Mo_isStored_1 : decode b_Mo_isStored 1 = .ok (.ifCond .lt 19, 3) := by decide +kernel
theorem d_Mo_isStored_4 : decode b_Mo_isStored 4 = .ok (.iload_n 0, 1) := by decide +kernel
theorem d_Mo_isStored_5 : decode b_Mo_isStored 5 = .ok (.bipush 9, 2) := by decide +kernel
theorem d_Mo_isStored_7 : decode b_Mo_isStored 7 = .ok (.if_icmp .gt 13, 3) := by decide +kernel
theorem d_Mo_isStored_10 : decode b_Mo_isStored 10 = .ok (.iload_n 0, 1) := by decide +kernel
theorem d_Mo_isStored_11 : decode b_Mo_isStored 11 = .ok (.bipush 8, 2) := by decide +kernel
theorem d_Mo_isStored_13 : decode b_Mo_isStored 13 = .ok (.if_icmp .eq 7, 3) := by decide +kernel
theorem d_Mo_isStored_16 : decode b_Mo_isStored 16 = .ok (.iconst 1, 1) := by decide +kernel
theorem d_Mo_isStored_17 : decode b_Mo_isStored 17 = .ok (.goto 4, 3) := by decide +kernel
theorem d_Mo_isStored_20 : decode b_Mo_isStored 20 = .ok (.iconst 0, 1) := by decide +kernel
theorem d_Mo_isStored_21 : decode b_Mo_isStored 21 = .ok (.ireturn, 1) := by decide +kernel
def pr_Mo_isStored : List (Nat × tw_Op) := [(0, tw_il 0), (1, tw_iflt 20), (4, tw_il 0), (5, tw_ic (9)), (7, tw_cgt 20), (10, tw_il 0), (11, tw_ic (8)), (13, tw_ceq 20), (16, tw_ic 1), (17, tw_jmp 21), (20, tw_ic 0), (21, tw_rz)]
set_option maxRecDepth 100000 in
set_option maxHeartbeats 4000000 in
theorem ok_Mo_isStored {p : Program} {l : Launch} {e : Env} {s : State} {m : MethodId} {args : Array Value} {below : List Frame} {meth : Method} {c : Code} {E : tw_E} {D : va_G} {ρ : tw_R} (hC : tw_Cx p s m args meth c b_Mo_isStored 1 (some .boolean) "TwinHostModel" E D) : tw_Ok p l e (tw_rmd 0) s m args below meth c 0 0 (MQ below (tw_Qc E D ρ) args s 0 0 (tw_A E)) 1 E D ρ pr_Mo_isStored :=
  ⟨ts_iload_n hC d_Mo_isStored_0 rfl,
   ts_iflt hC d_Mo_isStored_1 (by decide),
   ts_iload_n hC d_Mo_isStored_4 rfl,
   ts_bipush hC d_Mo_isStored_5 (by decide),
   ts_cgt hC d_Mo_isStored_7 (by decide),
   ts_iload_n hC d_Mo_isStored_10 rfl,
   ts_bipush hC d_Mo_isStored_11 (by decide),
   ts_ceq hC d_Mo_isStored_13 (by decide),
   ts_iconst hC d_Mo_isStored_16 (by decide),
   ts_goto hC d_Mo_isStored_17 (by decide),
   ts_iconst hC d_Mo_isStored_20 (by decide),
   ts_zret hC rfl d_Mo_isStored_21,
   trivial⟩
def fn_Mo_isStored : tw_Fn := tw_fn 1 1 14 pr_Mo_isStored
theorem con_Mo_isStored : tw_Con y_Mo_isStored b_Mo_isStored 1 (some .boolean) 0 fn_Mo_isStored := tw_met (by decide +kernel) (tw_fn_len (n := 1) (by decide)) (fun p l e s m args below meth c E D vs σ ρ hC h => tw_sound (ok_Mo_isStored hC) 14 pr_Mo_isStored (ok_Mo_isStored hC) _ _ _ (tw_fn_get h))

-- TwinHostModel.isThere(I)Z: 24 instructions, depth 0, calls 
theorem d_Mo_isThere_0 : decode b_Mo_isThere 0 = .ok (.aload_n 0, 1) := by decide +kernel
theorem d_Mo_isThere_1 : decode b_Mo_isThere 1 = .ok (.getfield 26, 3) := by decide +kernel
theorem d_Mo_isThere_4 : decode b_Mo_isThere 4 = .ok (.iload_n 1, 1) := by decide +kernel
theorem d_Mo_isThere_5 : decode b_Mo_isThere 5 = .ok (.iaload, 1) := by decide +kernel
theorem d_Mo_isThere_6 : decode b_Mo_isThere 6 = .ok (.ifCond .le 31, 3) := by decide +kernel
theorem d_Mo_isThere_9 : decode b_Mo_isThere 9 = .ok (.aload_n 0, 1) := by decide +kernel
theorem d_Mo_isThere_10 : decode b_Mo_isThere 10 = .ok (.getfield 29, 3) := by decide +kernel
theorem d_Mo_isThere_13 : decode b_Mo_isThere 13 = .ok (.bipush 6, 2) := by decide +kernel
theorem d_Mo_isThere_15 : decode b_Mo_isThere 15 = .ok (.iload_n 1, 1) := by decide +kernel
theorem d_Mo_isThere_16 : decode b_Mo_isThere 16 = .ok (.imul, 1) := by decide +kernel
theorem d_Mo_isThere_17 : decode b_Mo_isThere 17 = .ok (.iaload, 1) := by decide +kernel
theorem d_Mo_isThere_18 : decode b_Mo_isThere 18 = .ok (.aload_n 0, 1) := by decide +kernel
theorem d_Mo_isThere_19 : decode b_Mo_isThere 19 = .ok (.getfield 16, 3) := by decide +kernel
theorem d_Mo_isThere_22 : decode b_Mo_isThere 22 = .ok (.bipush 12, 2) := by decide +kernel
theorem d_Mo_isThere_24 : decode b_Mo_isThere 24 = .ok (.iload_n 1, 1) := by decide +kernel
theorem d_Mo_isThere_25 : decode b_Mo_isThere 25 = .ok (.imul, 1) := by decide +kernel
theorem d_Mo_isThere_26 : decode b_Mo_isThere 26 = .ok (.bipush 10, 2) := by decide +kernel
theorem d_Mo_isThere_28 : decode b_Mo_isThere 28 = .ok (.iadd, 1) := by decide +kernel
theorem d_Mo_isThere_29 : decode b_Mo_isThere 29 = .ok (.iaload, 1) := by decide +kernel
theorem d_Mo_isThere_30 : decode b_Mo_isThere 30 = .ok (.if_icmp .gt 7, 3) := by decide +kernel
theorem d_Mo_isThere_33 : decode b_Mo_isThere 33 = .ok (.iconst 1, 1) := by decide +kernel
theorem d_Mo_isThere_34 : decode b_Mo_isThere 34 = .ok (.goto 4, 3) := by decide +kernel
theorem d_Mo_isThere_37 : decode b_Mo_isThere 37 = .ok (.iconst 0, 1) := by decide +kernel
theorem d_Mo_isThere_38 : decode b_Mo_isThere 38 = .ok (.ireturn, 1) := by decide +kernel
def pr_Mo_isThere : List (Nat × tw_Op) := [(0, tw_al 0), (1, tw_gr 22 28), (4, tw_il 1), (5, tw_ia), (6, tw_ifle 37), (9, tw_al 0), (10, tw_gr 22 29), (13, tw_ic (6)), (15, tw_il 1), (16, tw_bin (· * ·)), (17, tw_ia), (18, tw_al 0), (19, tw_gr 22 25), (22, tw_ic (12)), (24, tw_il 1), (25, tw_bin (· * ·)), (26, tw_ic (10)), (28, tw_bin (· + ·)), (29, tw_ia), (30, tw_cgt 37), (33, tw_ic 1), (34, tw_jmp 38), (37, tw_ic 0), (38, tw_rz)]
set_option maxRecDepth 100000 in
set_option maxHeartbeats 4000000 in
theorem ok_Mo_isThere {p : Program} {l : Launch} {e : Env} {s : State} {m : MethodId} {args : Array Value} {below : List Frame} {meth : Method} {c : Code} {E : tw_E} {D : va_G} {ρ : tw_R} (hC : tw_Cx p s m args meth c b_Mo_isThere 2 (some .boolean) "TwinHostModel" E D) : tw_Ok p l e (tw_rmd 0) s m args below meth c 0 0 (MQ below (tw_Qc E D ρ) args s 0 0 (tw_A E)) 2 E D ρ pr_Mo_isThere :=
  ⟨ts_aload_n hC d_Mo_isThere_0 rfl,
   ts_gr (j := 8) (C := R_Mo) (T := T_Mo) hC rfl rfl rfl (by decide) u_Mo wd_464 rfl d_Mo_isThere_1,
   ts_iload_n hC d_Mo_isThere_4 rfl,
   ts_iaload hC d_Mo_isThere_5,
   ts_ifle hC d_Mo_isThere_6 (by decide),
   ts_aload_n hC d_Mo_isThere_9 rfl,
   ts_gr (j := 9) (C := R_Mo) (T := T_Mo) hC rfl rfl rfl (by decide) u_Mo wd_465 rfl d_Mo_isThere_10,
   ts_bipush hC d_Mo_isThere_13 (by decide),
   ts_iload_n hC d_Mo_isThere_15 rfl,
   ts_imul hC d_Mo_isThere_16,
   ts_iaload hC d_Mo_isThere_17,
   ts_aload_n hC d_Mo_isThere_18 rfl,
   ts_gr (j := 5) (C := R_Mo) (T := T_Mo) hC rfl rfl rfl (by decide) u_Mo wd_461 rfl d_Mo_isThere_19,
   ts_bipush hC d_Mo_isThere_22 (by decide),
   ts_iload_n hC d_Mo_isThere_24 rfl,
   ts_imul hC d_Mo_isThere_25,
   ts_bipush hC d_Mo_isThere_26 (by decide),
   ts_iadd hC d_Mo_isThere_28,
   ts_iaload hC d_Mo_isThere_29,
   ts_cgt hC d_Mo_isThere_30 (by decide),
   ts_iconst hC d_Mo_isThere_33 (by decide),
   ts_goto hC d_Mo_isThere_34 (by decide),
   ts_iconst hC d_Mo_isThere_37 (by decide),
   ts_zret hC rfl d_Mo_isThere_38,
   trivial⟩
def fn_Mo_isThere : tw_Fn := tw_fn 2 2 26 pr_Mo_isThere
theorem con_Mo_isThere : tw_Con y_Mo_isThere b_Mo_isThere 2 (some .boolean) 0 fn_Mo_isThere := tw_met (by decide +kernel) (tw_fn_len (n := 2) (by decide)) (fun p l e s m args below meth c E D vs σ ρ hC h => tw_sound (ok_Mo_isThere hC) 26 pr_Mo_isThere (ok_Mo_isThere hC) _ _ _ (tw_fn_get h))

-- TwinHostModel.put(III)V: 12 instructions, depth 0, calls 
theorem d_Mo_put_0 : decode b_Mo_put 0 = .ok (.iload_n 2, 1) := by decide +kernel
theorem d_Mo_put_1 : decode b_Mo_put 1 = .ok (.ifCond .eq 15, 3) := by decide +kernel
theorem d_Mo_put_4 : decode b_Mo_put 4 = .ok (.aload_n 0, 1) := by decide +kernel
theorem d_Mo_put_5 : decode b_Mo_put 5 = .ok (.getfield 13, 3) := by decide +kernel
theorem d_Mo_put_8 : decode b_Mo_put 8 = .ok (.bipush 8, 2) := by decide +kernel
theorem d_Mo_put_10 : decode b_Mo_put 10 = .ok (.iload_n 1, 1) := by decide +kernel
theorem d_Mo_put_11 : decode b_Mo_put 11 = .ok (.imul, 1) := by decide +kernel
theorem d_Mo_put_12 : decode b_Mo_put 12 = .ok (.iload_n 2, 1) := by decide +kernel
theorem d_Mo_put_13 : decode b_Mo_put 13 = .ok (.iadd, 1) := by decide +kernel
theorem d_Mo_put_14 : decode b_Mo_put 14 = .ok (.iload_n 3, 1) := by decide +kernel
theorem d_Mo_put_15 : decode b_Mo_put 15 = .ok (.iastore, 1) := by decide +kernel
theorem d_Mo_put_16 : decode b_Mo_put 16 = .ok (.return_, 1) := by decide +kernel
def pr_Mo_put : List (Nat × tw_Op) := [(0, tw_il 2), (1, tw_ifeq 16), (4, tw_al 0), (5, tw_gr 22 24), (8, tw_ic (8)), (10, tw_il 1), (11, tw_bin (· * ·)), (12, tw_il 2), (13, tw_bin (· + ·)), (14, tw_il 3), (15, tw_ias 22 37), (16, tw_r0)]
set_option maxRecDepth 100000 in
set_option maxHeartbeats 4000000 in
theorem ok_Mo_put {p : Program} {l : Launch} {e : Env} {s : State} {m : MethodId} {args : Array Value} {below : List Frame} {meth : Method} {c : Code} {E : tw_E} {D : va_G} {ρ : tw_R} (hC : tw_Cx p s m args meth c b_Mo_put 4 none "TwinHostModel" E D) : tw_Ok p l e (tw_rmd 0) s m args below meth c 0 0 (MQ below (tw_Qc E D ρ) args s 0 0 (tw_A E)) 4 E D ρ pr_Mo_put :=
  ⟨ts_iload_n hC d_Mo_put_0 rfl,
   ts_ifeq hC d_Mo_put_1 (by decide),
   ts_aload_n hC d_Mo_put_4 rfl,
   ts_gr (j := 4) (C := R_Mo) (T := T_Mo) hC rfl rfl rfl (by decide) u_Mo wd_460 rfl d_Mo_put_5,
   ts_bipush hC d_Mo_put_8 (by decide),
   ts_iload_n hC d_Mo_put_10 rfl,
   ts_imul hC d_Mo_put_11,
   ts_iload_n hC d_Mo_put_12 rfl,
   ts_iadd hC d_Mo_put_13,
   ts_iload_n hC d_Mo_put_14 rfl,
   ts_iastore hC d_Mo_put_15,
   ts_vret hC rfl d_Mo_put_16,
   trivial⟩
def fn_Mo_put : tw_Fn := tw_fn 4 4 14 pr_Mo_put
theorem con_Mo_put : tw_Con y_Mo_put b_Mo_put 4 none 0 fn_Mo_put := tw_met (by decide +kernel) (tw_fn_len (n := 4) (by decide)) (fun p l e s m args below meth c E D vs σ ρ hC h => tw_sound (ok_Mo_put hC) 14 pr_Mo_put (ok_Mo_put hC) _ _ _ (tw_fn_get h))

-- TwinHostModel.retire(II)I: 25 instructions, depth 0, calls 
theorem d_Mo_retire_0 : decode b_Mo_retire 0 = .ok (.aload_n 0, 1) := by decide +kernel
theorem d_Mo_retire_1 : decode b_Mo_retire 1 = .ok (.getfield 16, 3) := by decide +kernel
theorem d_Mo_retire_4 : decode b_Mo_retire 4 = .ok (.bipush 12, 2) := by decide +kernel
theorem d_Mo_retire_6 : decode b_Mo_retire 6 = .ok (.iload_n 1, 1) := by decide +kernel
theorem d_Mo_retire_7 : decode b_Mo_retire 7 = .ok (.imul, 1) := by decide +kernel
theorem d_Mo_retire_8 : decode b_Mo_retire 8 = .ok (.bipush 10, 2) := by decide +kernel
theorem d_Mo_retire_10 : decode b_Mo_retire 10 = .ok (.iadd, 1) := by decide +kernel
theorem d_Mo_retire_11 : decode b_Mo_retire 11 = .ok (.aload_n 0, 1) := by decide +kernel
theorem d_Mo_retire_12 : decode b_Mo_retire 12 = .ok (.getfield 16, 3) := by decide +kernel
theorem d_Mo_retire_15 : decode b_Mo_retire 15 = .ok (.bipush 12, 2) := by decide +kernel
theorem d_Mo_retire_17 : decode b_Mo_retire 17 = .ok (.iload_n 1, 1) := by decide +kernel
theorem d_Mo_retire_18 : decode b_Mo_retire 18 = .ok (.imul, 1) := by decide +kernel
theorem d_Mo_retire_19 : decode b_Mo_retire 19 = .ok (.bipush 10, 2) := by decide +kernel
theorem d_Mo_retire_21 : decode b_Mo_retire 21 = .ok (.iadd, 1) := by decide +kernel
theorem d_Mo_retire_22 : decode b_Mo_retire 22 = .ok (.iaload, 1) := by decide +kernel
theorem d_Mo_retire_23 : decode b_Mo_retire 23 = .ok (.iconst 1, 1) := by decide +kernel
theorem d_Mo_retire_24 : decode b_Mo_retire 24 = .ok (.iadd, 1) := by decide +kernel
theorem d_Mo_retire_25 : decode b_Mo_retire 25 = .ok (.iastore, 1) := by decide +kernel
theorem d_Mo_retire_26 : decode b_Mo_retire 26 = .ok (.aload_n 0, 1) := by decide +kernel
theorem d_Mo_retire_27 : decode b_Mo_retire 27 = .ok (.getfield 19, 3) := by decide +kernel
theorem d_Mo_retire_30 : decode b_Mo_retire 30 = .ok (.iload_n 1, 1) := by decide +kernel
theorem d_Mo_retire_31 : decode b_Mo_retire 31 = .ok (.iload_n 2, 1) := by decide +kernel
theorem d_Mo_retire_32 : decode b_Mo_retire 32 = .ok (.iastore, 1) := by decide +kernel
theorem d_Mo_retire_33 : decode b_Mo_retire 33 = .ok (.iconst 1, 1) := by decide +kernel
theorem d_Mo_retire_34 : decode b_Mo_retire 34 = .ok (.ireturn, 1) := by decide +kernel
def pr_Mo_retire : List (Nat × tw_Op) := [(0, tw_al 0), (1, tw_gr 22 25), (4, tw_ic (12)), (6, tw_il 1), (7, tw_bin (· * ·)), (8, tw_ic (10)), (10, tw_bin (· + ·)), (11, tw_al 0), (12, tw_gr 22 25), (15, tw_ic (12)), (17, tw_il 1), (18, tw_bin (· * ·)), (19, tw_ic (10)), (21, tw_bin (· + ·)), (22, tw_ia), (23, tw_ic 1), (24, tw_bin (· + ·)), (25, tw_ias 22 37), (26, tw_al 0), (27, tw_gr 22 26), (30, tw_il 1), (31, tw_il 2), (32, tw_ias 22 37), (33, tw_ic 1), (34, tw_ri)]
set_option maxRecDepth 100000 in
set_option maxHeartbeats 4000000 in
theorem ok_Mo_retire {p : Program} {l : Launch} {e : Env} {s : State} {m : MethodId} {args : Array Value} {below : List Frame} {meth : Method} {c : Code} {E : tw_E} {D : va_G} {ρ : tw_R} (hC : tw_Cx p s m args meth c b_Mo_retire 3 (some .int) "TwinHostModel" E D) : tw_Ok p l e (tw_rmd 0) s m args below meth c 0 0 (MQ below (tw_Qc E D ρ) args s 0 0 (tw_A E)) 3 E D ρ pr_Mo_retire :=
  ⟨ts_aload_n hC d_Mo_retire_0 rfl,
   ts_gr (j := 5) (C := R_Mo) (T := T_Mo) hC rfl rfl rfl (by decide) u_Mo wd_461 rfl d_Mo_retire_1,
   ts_bipush hC d_Mo_retire_4 (by decide),
   ts_iload_n hC d_Mo_retire_6 rfl,
   ts_imul hC d_Mo_retire_7,
   ts_bipush hC d_Mo_retire_8 (by decide),
   ts_iadd hC d_Mo_retire_10,
   ts_aload_n hC d_Mo_retire_11 rfl,
   ts_gr (j := 5) (C := R_Mo) (T := T_Mo) hC rfl rfl rfl (by decide) u_Mo wd_461 rfl d_Mo_retire_12,
   ts_bipush hC d_Mo_retire_15 (by decide),
   ts_iload_n hC d_Mo_retire_17 rfl,
   ts_imul hC d_Mo_retire_18,
   ts_bipush hC d_Mo_retire_19 (by decide),
   ts_iadd hC d_Mo_retire_21,
   ts_iaload hC d_Mo_retire_22,
   ts_iconst hC d_Mo_retire_23 (by decide),
   ts_iadd hC d_Mo_retire_24,
   ts_iastore hC d_Mo_retire_25,
   ts_aload_n hC d_Mo_retire_26 rfl,
   ts_gr (j := 6) (C := R_Mo) (T := T_Mo) hC rfl rfl rfl (by decide) u_Mo wd_462 rfl d_Mo_retire_27,
   ts_iload_n hC d_Mo_retire_30 rfl,
   ts_iload_n hC d_Mo_retire_31 rfl,
   ts_iastore hC d_Mo_retire_32,
   ts_iconst hC d_Mo_retire_33 (by decide),
   ts_iret hC rfl d_Mo_retire_34,
   trivial⟩
def fn_Mo_retire : tw_Fn := tw_fn 3 3 27 pr_Mo_retire
theorem con_Mo_retire : tw_Con y_Mo_retire b_Mo_retire 3 (some .int) 0 fn_Mo_retire := tw_met (by decide +kernel) (tw_fn_len (n := 3) (by decide)) (fun p l e s m args below meth c E D vs σ ρ hC h => tw_sound (ok_Mo_retire hC) 27 pr_Mo_retire (ok_Mo_retire hC) _ _ _ (tw_fn_get h))

-- TwinHostModel.takeInput(I)V: 44 instructions, depth 0, calls 
theorem d_Mo_takeInput_0 : decode b_Mo_takeInput 0 = .ok (.bipush 6, 2) := by decide +kernel
theorem d_Mo_takeInput_2 : decode b_Mo_takeInput 2 = .ok (.iload_n 1, 1) := by decide +kernel
theorem d_Mo_takeInput_3 : decode b_Mo_takeInput 3 = .ok (.imul, 1) := by decide +kernel
theorem d_Mo_takeInput_4 : decode b_Mo_takeInput 4 = .ok (.istore_n 2, 1) := by decide +kernel
theorem d_Mo_takeInput_5 : decode b_Mo_takeInput 5 = .ok (.iload_n 2, 1) := by decide +kernel
theorem d_Mo_takeInput_6 : decode b_Mo_takeInput 6 = .ok (.bipush 6, 2) := by decide +kernel
theorem d_Mo_takeInput_8 : decode b_Mo_takeInput 8 = .ok (.iload_n 1, 1) := by decide +kernel
theorem d_Mo_takeInput_9 : decode b_Mo_takeInput 9 = .ok (.imul, 1) := by decide +kernel
theorem d_Mo_takeInput_10 : decode b_Mo_takeInput 10 = .ok (.iconst 5, 1) := by decide +kernel
theorem d_Mo_takeInput_11 : decode b_Mo_takeInput 11 = .ok (.iadd, 1) := by decide +kernel
theorem d_Mo_takeInput_12 : decode b_Mo_takeInput 12 = .ok (.if_icmp .ge 37, 3) := by decide +kernel
theorem d_Mo_takeInput_15 : decode b_Mo_takeInput 15 = .ok (.aload_n 0, 1) := by decide +kernel
theorem d_Mo_takeInput_16 : decode b_Mo_takeInput 16 = .ok (.getfield 29, 3) := by decide +kernel
theorem d_Mo_takeInput_19 : decode b_Mo_takeInput 19 = .ok (.iload_n 2, 1) := by decide +kernel
theorem d_Mo_takeInput_20 : decode b_Mo_takeInput 20 = .ok (.aload_n 0, 1) := by decide +kernel
theorem d_Mo_takeInput_21 : decode b_Mo_takeInput 21 = .ok (.getfield 29, 3) := by decide +kernel
theorem d_Mo_takeInput_24 : decode b_Mo_takeInput 24 = .ok (.iload_n 2, 1) := by decide +kernel
theorem d_Mo_takeInput_25 : decode b_Mo_takeInput 25 = .ok (.iconst 1, 1) := by decide +kernel
theorem d_Mo_takeInput_26 : decode b_Mo_takeInput 26 = .ok (.iadd, 1) := by decide +kernel
theorem d_Mo_takeInput_27 : decode b_Mo_takeInput 27 = .ok (.iaload, 1) := by decide +kernel
theorem d_Mo_takeInput_28 : decode b_Mo_takeInput 28 = .ok (.iastore, 1) := by decide +kernel
theorem d_Mo_takeInput_29 : decode b_Mo_takeInput 29 = .ok (.aload_n 0, 1) := by decide +kernel
theorem d_Mo_takeInput_30 : decode b_Mo_takeInput 30 = .ok (.getfield 32, 3) := by decide +kernel
theorem d_Mo_takeInput_33 : decode b_Mo_takeInput 33 = .ok (.iload_n 2, 1) := by decide +kernel
theorem d_Mo_takeInput_34 : decode b_Mo_takeInput 34 = .ok (.aload_n 0, 1) := by decide +kernel
theorem d_Mo_takeInput_35 : decode b_Mo_takeInput 35 = .ok (.getfield 32, 3) := by decide +kernel
theorem d_Mo_takeInput_38 : decode b_Mo_takeInput 38 = .ok (.iload_n 2, 1) := by decide +kernel
theorem d_Mo_takeInput_39 : decode b_Mo_takeInput 39 = .ok (.iconst 1, 1) := by decide +kernel
theorem d_Mo_takeInput_40 : decode b_Mo_takeInput 40 = .ok (.iadd, 1) := by decide +kernel
theorem d_Mo_takeInput_41 : decode b_Mo_takeInput 41 = .ok (.iaload, 1) := by decide +kernel
theorem d_Mo_takeInput_42 : decode b_Mo_takeInput 42 = .ok (.iastore, 1) := by decide +kernel
theorem d_Mo_takeInput_43 : decode b_Mo_takeInput 43 = .ok (.iinc 2 1, 3) := by decide +kernel
theorem d_Mo_takeInput_46 : decode b_Mo_takeInput 46 = .ok (.goto (-41), 3) := by decide +kernel
theorem d_Mo_takeInput_49 : decode b_Mo_takeInput 49 = .ok (.aload_n 0, 1) := by decide +kernel
theorem d_Mo_takeInput_50 : decode b_Mo_takeInput 50 = .ok (.getfield 26, 3) := by decide +kernel
theorem d_Mo_takeInput_53 : decode b_Mo_takeInput 53 = .ok (.iload_n 1, 1) := by decide +kernel
theorem d_Mo_takeInput_54 : decode b_Mo_takeInput 54 = .ok (.aload_n 0, 1) := by decide +kernel
theorem d_Mo_takeInput_55 : decode b_Mo_takeInput 55 = .ok (.getfield 26, 3) := by decide +kernel
theorem d_Mo_takeInput_58 : decode b_Mo_takeInput 58 = .ok (.iload_n 1, 1) := by decide +kernel
theorem d_Mo_takeInput_59 : decode b_Mo_takeInput 59 = .ok (.iaload, 1) := by decide +kernel
theorem d_Mo_takeInput_60 : decode b_Mo_takeInput 60 = .ok (.iconst 1, 1) := by decide +kernel
theorem d_Mo_takeInput_61 : decode b_Mo_takeInput 61 = .ok (.isub, 1) := by decide +kernel
theorem d_Mo_takeInput_62 : decode b_Mo_takeInput 62 = .ok (.iastore, 1) := by decide +kernel
theorem d_Mo_takeInput_63 : decode b_Mo_takeInput 63 = .ok (.return_, 1) := by decide +kernel
def pr_Mo_takeInput : List (Nat × tw_Op) := [(0, tw_ic (6)), (2, tw_il 1), (3, tw_bin (· * ·)), (4, tw_is 2), (5, tw_il 2), (6, tw_ic (6)), (8, tw_il 1), (9, tw_bin (· * ·)), (10, tw_ic 5), (11, tw_bin (· + ·)), (12, tw_cge 49), (15, tw_al 0), (16, tw_gr 22 29), (19, tw_il 2), (20, tw_al 0), (21, tw_gr 22 29), (24, tw_il 2), (25, tw_ic 1), (26, tw_bin (· + ·)), (27, tw_ia), (28, tw_ias 22 37), (29, tw_al 0), (30, tw_gr 22 30), (33, tw_il 2), (34, tw_al 0), (35, tw_gr 22 30), (38, tw_il 2), (39, tw_ic 1), (40, tw_bin (· + ·)), (41, tw_ia), (42, tw_ias 22 37), (43, tw_inc 2 (1)), (46, tw_jmp 5), (49, tw_al 0), (50, tw_gr 22 28), (53, tw_il 1), (54, tw_al 0), (55, tw_gr 22 28), (58, tw_il 1), (59, tw_ia), (60, tw_ic 1), (61, tw_bin (· - ·)), (62, tw_ias 22 37), (63, tw_r0)]
set_option maxRecDepth 100000 in
set_option maxHeartbeats 4000000 in
theorem ok_Mo_takeInput {p : Program} {l : Launch} {e : Env} {s : State} {m : MethodId} {args : Array Value} {below : List Frame} {meth : Method} {c : Code} {E : tw_E} {D : va_G} {ρ : tw_R} (hC : tw_Cx p s m args meth c b_Mo_takeInput 3 none "TwinHostModel" E D) : tw_Ok p l e (tw_rmd 0) s m args below meth c 0 0 (MQ below (tw_Qc E D ρ) args s 0 0 (tw_A E)) 3 E D ρ pr_Mo_takeInput :=
  ⟨ts_bipush hC d_Mo_takeInput_0 (by decide),
   ts_iload_n hC d_Mo_takeInput_2 rfl,
   ts_imul hC d_Mo_takeInput_3,
   ts_istore_n hC d_Mo_takeInput_4 rfl (by decide),
   ts_iload_n hC d_Mo_takeInput_5 rfl,
   ts_bipush hC d_Mo_takeInput_6 (by decide),
   ts_iload_n hC d_Mo_takeInput_8 rfl,
   ts_imul hC d_Mo_takeInput_9,
   ts_iconst hC d_Mo_takeInput_10 (by decide),
   ts_iadd hC d_Mo_takeInput_11,
   ts_cge hC d_Mo_takeInput_12 (by decide),
   ts_aload_n hC d_Mo_takeInput_15 rfl,
   ts_gr (j := 9) (C := R_Mo) (T := T_Mo) hC rfl rfl rfl (by decide) u_Mo wd_465 rfl d_Mo_takeInput_16,
   ts_iload_n hC d_Mo_takeInput_19 rfl,
   ts_aload_n hC d_Mo_takeInput_20 rfl,
   ts_gr (j := 9) (C := R_Mo) (T := T_Mo) hC rfl rfl rfl (by decide) u_Mo wd_465 rfl d_Mo_takeInput_21,
   ts_iload_n hC d_Mo_takeInput_24 rfl,
   ts_iconst hC d_Mo_takeInput_25 (by decide),
   ts_iadd hC d_Mo_takeInput_26,
   ts_iaload hC d_Mo_takeInput_27,
   ts_iastore hC d_Mo_takeInput_28,
   ts_aload_n hC d_Mo_takeInput_29 rfl,
   ts_gr (j := 10) (C := R_Mo) (T := T_Mo) hC rfl rfl rfl (by decide) u_Mo wd_466 rfl d_Mo_takeInput_30,
   ts_iload_n hC d_Mo_takeInput_33 rfl,
   ts_aload_n hC d_Mo_takeInput_34 rfl,
   ts_gr (j := 10) (C := R_Mo) (T := T_Mo) hC rfl rfl rfl (by decide) u_Mo wd_466 rfl d_Mo_takeInput_35,
   ts_iload_n hC d_Mo_takeInput_38 rfl,
   ts_iconst hC d_Mo_takeInput_39 (by decide),
   ts_iadd hC d_Mo_takeInput_40,
   ts_iaload hC d_Mo_takeInput_41,
   ts_iastore hC d_Mo_takeInput_42,
   ts_iinc hC d_Mo_takeInput_43 (by decide) (by decide),
   ts_goto hC d_Mo_takeInput_46 (by decide),
   ts_aload_n hC d_Mo_takeInput_49 rfl,
   ts_gr (j := 8) (C := R_Mo) (T := T_Mo) hC rfl rfl rfl (by decide) u_Mo wd_464 rfl d_Mo_takeInput_50,
   ts_iload_n hC d_Mo_takeInput_53 rfl,
   ts_aload_n hC d_Mo_takeInput_54 rfl,
   ts_gr (j := 8) (C := R_Mo) (T := T_Mo) hC rfl rfl rfl (by decide) u_Mo wd_464 rfl d_Mo_takeInput_55,
   ts_iload_n hC d_Mo_takeInput_58 rfl,
   ts_iaload hC d_Mo_takeInput_59,
   ts_iconst hC d_Mo_takeInput_60 (by decide),
   ts_isub hC d_Mo_takeInput_61,
   ts_iastore hC d_Mo_takeInput_62,
   ts_vret hC rfl d_Mo_takeInput_63,
   trivial⟩
def fn_Mo_takeInput : tw_Fn := tw_fn 2 3 400 pr_Mo_takeInput
theorem con_Mo_takeInput : tw_Con y_Mo_takeInput b_Mo_takeInput 3 none 0 fn_Mo_takeInput := tw_met (by decide +kernel) (tw_fn_len (n := 2) (by decide)) (fun p l e s m args below meth c E D vs σ ρ hC h => tw_sound (ok_Mo_takeInput hC) 400 pr_Mo_takeInput (ok_Mo_takeInput hC) _ _ _ (tw_fn_get h))

-- TwinHostModel.turn()I: 3 instructions, depth 0, calls 
theorem d_Mo_turn_0 : decode b_Mo_turn 0 = .ok (.aload_n 0, 1) := by decide +kernel
theorem d_Mo_turn_1 : decode b_Mo_turn 1 = .ok (.getfield 161, 3) := by decide +kernel
theorem d_Mo_turn_4 : decode b_Mo_turn 4 = .ok (.ireturn, 1) := by decide +kernel
def pr_Mo_turn : List (Nat × tw_Op) := [(0, tw_al 0), (1, tw_gi 22 1), (4, tw_ri)]
set_option maxRecDepth 100000 in
set_option maxHeartbeats 4000000 in
theorem ok_Mo_turn {p : Program} {l : Launch} {e : Env} {s : State} {m : MethodId} {args : Array Value} {below : List Frame} {meth : Method} {c : Code} {E : tw_E} {D : va_G} {ρ : tw_R} (hC : tw_Cx p s m args meth c b_Mo_turn 1 (some .int) "TwinHostModel" E D) : tw_Ok p l e (tw_rmd 0) s m args below meth c 0 0 (MQ below (tw_Qc E D ρ) args s 0 0 (tw_A E)) 1 E D ρ pr_Mo_turn :=
  ⟨ts_aload_n hC d_Mo_turn_0 rfl,
   ts_gi (j := 1) (C := R_Mo) (T := T_Mo) hC rfl rfl rfl (by decide) u_Mo wd_457 rfl d_Mo_turn_1,
   ts_iret hC rfl d_Mo_turn_4,
   trivial⟩
def fn_Mo_turn : tw_Fn := tw_fn 1 1 5 pr_Mo_turn
theorem con_Mo_turn : tw_Con y_Mo_turn b_Mo_turn 1 (some .int) 0 fn_Mo_turn := tw_met (by decide +kernel) (tw_fn_len (n := 1) (by decide)) (fun p l e s m args below meth c E D vs σ ρ hC h => tw_sound (ok_Mo_turn hC) 5 pr_Mo_turn (ok_Mo_turn hC) _ _ _ (tw_fn_get h))
end
section
-- TwinHostModel.count(II)I: 19 instructions, depth 1, calls Mo_guest
theorem d_Mo_count_0 : decode b_Mo_count 0 = .ok (.iload_n 1, 1) := by decide +kernel
theorem d_Mo_count_1 : decode b_Mo_count 1 = .ok (.invokestatic 62, 3) := by decide +kernel
theorem d_Mo_count_4 : decode b_Mo_count 4 = .ok (.ifCond .eq 27, 3) := by decide +kernel
theorem d_Mo_count_7 : decode b_Mo_count 7 = .ok (.iload_n 2, 1) := by decide +kernel
theorem d_Mo_count_8 : decode b_Mo_count 8 = .ok (.ifCond .lt 23, 3) := by decide +kernel
theorem d_Mo_count_11 : decode b_Mo_count 11 = .ok (.iload_n 2, 1) := by decide +kernel
theorem d_Mo_count_12 : decode b_Mo_count 12 = .ok (.bipush 8, 2) := by decide +kernel
theorem d_Mo_count_14 : decode b_Mo_count 14 = .ok (.if_icmp .gt 17, 3) := by decide +kernel
theorem d_Mo_count_17 : decode b_Mo_count 17 = .ok (.aload_n 0, 1) := by decide +kernel
theorem d_Mo_count_18 : decode b_Mo_count 18 = .ok (.getfield 35, 3) := by decide +kernel
theorem d_Mo_count_21 : decode b_Mo_count 21 = .ok (.bipush 9, 2) := by decide +kernel
theorem d_Mo_count_23 : decode b_Mo_count 23 = .ok (.iload_n 1, 1) := by decide +kernel
theorem d_Mo_count_24 : decode b_Mo_count 24 = .ok (.imul, 1) := by decide +kernel
theorem d_Mo_count_25 : decode b_Mo_count 25 = .ok (.iload_n 2, 1) := by decide +kernel
theorem d_Mo_count_26 : decode b_Mo_count 26 = .ok (.iadd, 1) := by decide +kernel
theorem d_Mo_count_27 : decode b_Mo_count 27 = .ok (.iaload, 1) := by decide +kernel
theorem d_Mo_count_28 : decode b_Mo_count 28 = .ok (.goto 4, 3) := by decide +kernel
theorem d_Mo_count_31 : decode b_Mo_count 31 = .ok (.iconst (-1), 1) := by decide +kernel
theorem d_Mo_count_32 : decode b_Mo_count 32 = .ok (.ireturn, 1) := by decide +kernel
def pr_Mo_count : List (Nat × tw_Op) := [(0, tw_il 1), (1, tw_cs 1 fn_Mo_guest), (4, tw_ifeq 31), (7, tw_il 2), (8, tw_iflt 31), (11, tw_il 2), (12, tw_ic (8)), (14, tw_cgt 31), (17, tw_al 0), (18, tw_gr 22 31), (21, tw_ic (9)), (23, tw_il 1), (24, tw_bin (· * ·)), (25, tw_il 2), (26, tw_bin (· + ·)), (27, tw_ia), (28, tw_jmp 32), (31, tw_ic (-1)), (32, tw_ri)]
set_option maxRecDepth 100000 in
set_option maxHeartbeats 4000000 in
theorem ok_Mo_count {p : Program} {l : Launch} {e : Env} {s : State} {m : MethodId} {args : Array Value} {below : List Frame} {meth : Method} {c : Code} {E : tw_E} {D : va_G} {ρ : tw_R} (hC : tw_Cx p s m args meth c b_Mo_count 3 (some .int) "TwinHostModel" E D) : tw_Ok p l e (tw_rmd 1) s m args below meth c 0 0 (MQ below (tw_Qc E D ρ) args s 0 0 (tw_A E)) 3 E D ρ pr_Mo_count :=
  ⟨ts_iload_n hC d_Mo_count_0 rfl,
   ts_calls hC con_Mo_guest wd_524 wd_30 (by decide +kernel) ⟨by decide, by decide⟩ ⟨Nat.zero_le _, Nat.zero_le _⟩ wd_522 wd_523 d_Mo_count_1,
   ts_ifeq hC d_Mo_count_4 (by decide),
   ts_iload_n hC d_Mo_count_7 rfl,
   ts_iflt hC d_Mo_count_8 (by decide),
   ts_iload_n hC d_Mo_count_11 rfl,
   ts_bipush hC d_Mo_count_12 (by decide),
   ts_cgt hC d_Mo_count_14 (by decide),
   ts_aload_n hC d_Mo_count_17 rfl,
   ts_gr (j := 11) (C := R_Mo) (T := T_Mo) hC rfl rfl rfl (by decide) u_Mo wd_467 rfl d_Mo_count_18,
   ts_bipush hC d_Mo_count_21 (by decide),
   ts_iload_n hC d_Mo_count_23 rfl,
   ts_imul hC d_Mo_count_24,
   ts_iload_n hC d_Mo_count_25 rfl,
   ts_iadd hC d_Mo_count_26,
   ts_iaload hC d_Mo_count_27,
   ts_goto hC d_Mo_count_28 (by decide),
   ts_iconst hC d_Mo_count_31 (by decide),
   ts_iret hC rfl d_Mo_count_32,
   trivial⟩
def fn_Mo_count : tw_Fn := tw_fn 3 3 21 pr_Mo_count
theorem con_Mo_count : tw_Con y_Mo_count b_Mo_count 3 (some .int) 1 fn_Mo_count := tw_met (by decide +kernel) (tw_fn_len (n := 3) (by decide)) (fun p l e s m args below meth c E D vs σ ρ hC h => tw_sound (ok_Mo_count hC) 21 pr_Mo_count (ok_Mo_count hC) _ _ _ (tw_fn_get h))

-- TwinHostModel.drop(II)V: 41 instructions, depth 1, calls Mo_add
theorem d_Mo_drop_0 : decode b_Mo_drop 0 = .ok (.bipush 16, 2) := by decide +kernel
theorem d_Mo_drop_2 : decode b_Mo_drop 2 = .ok (.iload_n 1, 1) := by decide +kernel
theorem d_Mo_drop_3 : decode b_Mo_drop 3 = .ok (.imul, 1) := by decide +kernel
theorem d_Mo_drop_4 : decode b_Mo_drop 4 = .ok (.istore_n 3, 1) := by decide +kernel
theorem d_Mo_drop_5 : decode b_Mo_drop 5 = .ok (.iload_n 3, 1) := by decide +kernel
theorem d_Mo_drop_6 : decode b_Mo_drop 6 = .ok (.bipush 16, 2) := by decide +kernel
theorem d_Mo_drop_8 : decode b_Mo_drop 8 = .ok (.iload_n 1, 1) := by decide +kernel
theorem d_Mo_drop_9 : decode b_Mo_drop 9 = .ok (.imul, 1) := by decide +kernel
theorem d_Mo_drop_10 : decode b_Mo_drop 10 = .ok (.bipush 16, 2) := by decide +kernel
theorem d_Mo_drop_12 : decode b_Mo_drop 12 = .ok (.iadd, 1) := by decide +kernel
theorem d_Mo_drop_13 : decode b_Mo_drop 13 = .ok (.if_icmp .ge 52, 3) := by decide +kernel
theorem d_Mo_drop_16 : decode b_Mo_drop 16 = .ok (.aload_n 0, 1) := by decide +kernel
theorem d_Mo_drop_17 : decode b_Mo_drop 17 = .ok (.getfield 38, 3) := by decide +kernel
theorem d_Mo_drop_20 : decode b_Mo_drop 20 = .ok (.iload_n 3, 1) := by decide +kernel
theorem d_Mo_drop_21 : decode b_Mo_drop 21 = .ok (.iaload, 1) := by decide +kernel
theorem d_Mo_drop_22 : decode b_Mo_drop 22 = .ok (.ifCond .lt 37, 3) := by decide +kernel
theorem d_Mo_drop_25 : decode b_Mo_drop 25 = .ok (.aload_n 0, 1) := by decide +kernel
theorem d_Mo_drop_26 : decode b_Mo_drop 26 = .ok (.getfield 47, 3) := by decide +kernel
theorem d_Mo_drop_29 : decode b_Mo_drop 29 = .ok (.iload_n 3, 1) := by decide +kernel
theorem d_Mo_drop_30 : decode b_Mo_drop 30 = .ok (.iaload, 1) := by decide +kernel
theorem d_Mo_drop_31 : decode b_Mo_drop 31 = .ok (.iload_n 2, 1) := by decide +kernel
theorem d_Mo_drop_32 : decode b_Mo_drop 32 = .ok (.if_icmp .eq 13, 3) := by decide +kernel
theorem d_Mo_drop_35 : decode b_Mo_drop 35 = .ok (.aload_n 0, 1) := by decide +kernel
theorem d_Mo_drop_36 : decode b_Mo_drop 36 = .ok (.getfield 50, 3) := by decide +kernel
theorem d_Mo_drop_39 : decode b_Mo_drop 39 = .ok (.iload_n 3, 1) := by decide +kernel
theorem d_Mo_drop_40 : decode b_Mo_drop 40 = .ok (.iaload, 1) := by decide +kernel
theorem d_Mo_drop_41 : decode b_Mo_drop 41 = .ok (.iload_n 2, 1) := by decide +kernel
theorem d_Mo_drop_42 : decode b_Mo_drop 42 = .ok (.if_icmp .ne 17, 3) := by decide +kernel
theorem d_Mo_drop_45 : decode b_Mo_drop 45 = .ok (.aload_n 0, 1) := by decide +kernel
theorem d_Mo_drop_46 : decode b_Mo_drop 46 = .ok (.getfield 38, 3) := by decide +kernel
theorem d_Mo_drop_49 : decode b_Mo_drop 49 = .ok (.iload_n 3, 1) := by decide +kernel
theorem d_Mo_drop_50 : decode b_Mo_drop 50 = .ok (.iconst (-1), 1) := by decide +kernel
theorem d_Mo_drop_51 : decode b_Mo_drop 51 = .ok (.iastore, 1) := by decide +kernel
theorem d_Mo_drop_52 : decode b_Mo_drop 52 = .ok (.aload_n 0, 1) := by decide +kernel
theorem d_Mo_drop_53 : decode b_Mo_drop 53 = .ok (.iload_n 1, 1) := by decide +kernel
theorem d_Mo_drop_54 : decode b_Mo_drop 54 = .ok (.iconst 4, 1) := by decide +kernel
theorem d_Mo_drop_55 : decode b_Mo_drop 55 = .ok (.iconst 1, 1) := by decide +kernel
theorem d_Mo_drop_56 : decode b_Mo_drop 56 = .ok (.invokevirtual 58, 3) := by decide +kernel
theorem d_Mo_drop_59 : decode b_Mo_drop 59 = .ok (.iinc 3 1, 3) := by decide +kernel
theorem d_Mo_drop_62 : decode b_Mo_drop 62 = .ok (.goto (-57), 3) := by decide +kernel
theorem d_Mo_drop_65 : decode b_Mo_drop 65 = .ok (.return_, 1) := by decide +kernel
def pr_Mo_drop : List (Nat × tw_Op) := [(0, tw_ic (16)), (2, tw_il 1), (3, tw_bin (· * ·)), (4, tw_is 3), (5, tw_il 3), (6, tw_ic (16)), (8, tw_il 1), (9, tw_bin (· * ·)), (10, tw_ic (16)), (12, tw_bin (· + ·)), (13, tw_cge 65), (16, tw_al 0), (17, tw_gr 22 32), (20, tw_il 3), (21, tw_ia), (22, tw_iflt 59), (25, tw_al 0), (26, tw_gr 22 35), (29, tw_il 3), (30, tw_ia), (31, tw_il 2), (32, tw_ceq 45), (35, tw_al 0), (36, tw_gr 22 36), (39, tw_il 3), (40, tw_ia), (41, tw_il 2), (42, tw_cne 59), (45, tw_al 0), (46, tw_gr 22 32), (49, tw_il 3), (50, tw_ic (-1)), (51, tw_ias 22 37), (52, tw_al 0), (53, tw_il 1), (54, tw_ic 4), (55, tw_ic 1), (56, tw_cv 3 22 fn_Mo_add), (59, tw_inc 3 (1)), (62, tw_jmp 5), (65, tw_r0)]
set_option maxRecDepth 100000 in
set_option maxHeartbeats 4000000 in
theorem ok_Mo_drop {p : Program} {l : Launch} {e : Env} {s : State} {m : MethodId} {args : Array Value} {below : List Frame} {meth : Method} {c : Code} {E : tw_E} {D : va_G} {ρ : tw_R} (hC : tw_Cx p s m args meth c b_Mo_drop 4 none "TwinHostModel" E D) : tw_Ok p l e (tw_rmd 1) s m args below meth c 0 0 (MQ below (tw_Qc E D ρ) args s 0 0 (tw_A E)) 4 E D ρ pr_Mo_drop :=
  ⟨ts_bipush hC d_Mo_drop_0 (by decide),
   ts_iload_n hC d_Mo_drop_2 rfl,
   ts_imul hC d_Mo_drop_3,
   ts_istore_n hC d_Mo_drop_4 rfl (by decide),
   ts_iload_n hC d_Mo_drop_5 rfl,
   ts_bipush hC d_Mo_drop_6 (by decide),
   ts_iload_n hC d_Mo_drop_8 rfl,
   ts_imul hC d_Mo_drop_9,
   ts_bipush hC d_Mo_drop_10 (by decide),
   ts_iadd hC d_Mo_drop_12,
   ts_cge hC d_Mo_drop_13 (by decide),
   ts_aload_n hC d_Mo_drop_16 rfl,
   ts_gr (j := 12) (C := R_Mo) (T := T_Mo) hC rfl rfl rfl (by decide) u_Mo wd_468 rfl d_Mo_drop_17,
   ts_iload_n hC d_Mo_drop_20 rfl,
   ts_iaload hC d_Mo_drop_21,
   ts_iflt hC d_Mo_drop_22 (by decide),
   ts_aload_n hC d_Mo_drop_25 rfl,
   ts_gr (j := 15) (C := R_Mo) (T := T_Mo) hC rfl rfl rfl (by decide) u_Mo wd_471 rfl d_Mo_drop_26,
   ts_iload_n hC d_Mo_drop_29 rfl,
   ts_iaload hC d_Mo_drop_30,
   ts_iload_n hC d_Mo_drop_31 rfl,
   ts_ceq hC d_Mo_drop_32 (by decide),
   ts_aload_n hC d_Mo_drop_35 rfl,
   ts_gr (j := 16) (C := R_Mo) (T := T_Mo) hC rfl rfl rfl (by decide) u_Mo wd_472 rfl d_Mo_drop_36,
   ts_iload_n hC d_Mo_drop_39 rfl,
   ts_iaload hC d_Mo_drop_40,
   ts_iload_n hC d_Mo_drop_41 rfl,
   ts_cne hC d_Mo_drop_42 (by decide),
   ts_aload_n hC d_Mo_drop_45 rfl,
   ts_gr (j := 12) (C := R_Mo) (T := T_Mo) hC rfl rfl rfl (by decide) u_Mo wd_468 rfl d_Mo_drop_46,
   ts_iload_n hC d_Mo_drop_49 rfl,
   ts_iconst hC d_Mo_drop_50 (by decide),
   ts_iastore hC d_Mo_drop_51,
   ts_aload_n hC d_Mo_drop_52 rfl,
   ts_iload_n hC d_Mo_drop_53 rfl,
   ts_iconst hC d_Mo_drop_54 (by decide),
   ts_iconst hC d_Mo_drop_55 (by decide),
   ts_callv (C := R_Mo) (T := T_Mo) hC con_Mo_add wd_540 wd_30 (by decide +kernel) ⟨by decide, by decide⟩ ⟨Nat.zero_le _, Nat.zero_le _⟩ wd_537 rfl rfl wd_539 wd_2 d_Mo_drop_56,
   ts_iinc hC d_Mo_drop_59 (by decide) (by decide),
   ts_goto hC d_Mo_drop_62 (by decide),
   ts_vret hC rfl d_Mo_drop_65,
   trivial⟩
def fn_Mo_drop : tw_Fn := tw_fn 3 4 1200 pr_Mo_drop
theorem con_Mo_drop : tw_Con y_Mo_drop b_Mo_drop 4 none 1 fn_Mo_drop := tw_met (by decide +kernel) (tw_fn_len (n := 3) (by decide)) (fun p l e s m args below meth c E D vs σ ρ hC h => tw_sound (ok_Mo_drop hC) 1200 pr_Mo_drop (ok_Mo_drop hC) _ _ _ (tw_fn_get h))

-- TwinHostModel.fill(IIII)V: 48 instructions, depth 1, calls Mo_add
theorem d_Mo_fill_0 : decode b_Mo_fill 0 = .ok (.aload_n 0, 1) := by decide +kernel
theorem d_Mo_fill_1 : decode b_Mo_fill 1 = .ok (.getfield 38, 3) := by decide +kernel
theorem d_Mo_fill_4 : decode b_Mo_fill 4 = .ok (.iload_n 2, 1) := by decide +kernel
theorem d_Mo_fill_5 : decode b_Mo_fill 5 = .ok (.iload_n 3, 1) := by decide +kernel
theorem d_Mo_fill_6 : decode b_Mo_fill 6 = .ok (.iastore, 1) := by decide +kernel
theorem d_Mo_fill_7 : decode b_Mo_fill 7 = .ok (.aload_n 0, 1) := by decide +kernel
theorem d_Mo_fill_8 : decode b_Mo_fill 8 = .ok (.getfield 41, 3) := by decide +kernel
theorem d_Mo_fill_11 : decode b_Mo_fill 11 = .ok (.iload_n 2, 1) := by decide +kernel
theorem d_Mo_fill_12 : decode b_Mo_fill 12 = .ok (.iload 4, 2) := by decide +kernel
theorem d_Mo_fill_14 : decode b_Mo_fill 14 = .ok (.bipush 30, 2) := by decide +kernel
theorem d_Mo_fill_16 : decode b_Mo_fill 16 = .ok (.iand, 1) := by decide +kernel
theorem d_Mo_fill_17 : decode b_Mo_fill 17 = .ok (.iastore, 1) := by decide +kernel
theorem d_Mo_fill_18 : decode b_Mo_fill 18 = .ok (.aload_n 0, 1) := by decide +kernel
theorem d_Mo_fill_19 : decode b_Mo_fill 19 = .ok (.getfield 44, 3) := by decide +kernel
theorem d_Mo_fill_22 : decode b_Mo_fill 22 = .ok (.iload_n 2, 1) := by decide +kernel
theorem d_Mo_fill_23 : decode b_Mo_fill 23 = .ok (.iload 4, 2) := by decide +kernel
theorem d_Mo_fill_25 : decode b_Mo_fill 25 = .ok (.bipush 64, 2) := by decide +kernel
theorem d_Mo_fill_27 : decode b_Mo_fill 27 = .ok (.iand, 1) := by decide +kernel
theorem d_Mo_fill_28 : decode b_Mo_fill 28 = .ok (.ifCond .eq 7, 3) := by decide +kernel
theorem d_Mo_fill_31 : decode b_Mo_fill 31 = .ok (.iconst 1, 1) := by decide +kernel
theorem d_Mo_fill_32 : decode b_Mo_fill 32 = .ok (.goto 4, 3) := by decide +kernel
theorem d_Mo_fill_35 : decode b_Mo_fill 35 = .ok (.iconst 0, 1) := by decide +kernel
theorem d_Mo_fill_36 : decode b_Mo_fill 36 = .ok (.bastore, 1) := by decide +kernel
theorem d_Mo_fill_37 : decode b_Mo_fill 37 = .ok (.aload_n 0, 1) := by decide +kernel
theorem d_Mo_fill_38 : decode b_Mo_fill 38 = .ok (.getfield 47, 3) := by decide +kernel
theorem d_Mo_fill_41 : decode b_Mo_fill 41 = .ok (.iload_n 2, 1) := by decide +kernel
theorem d_Mo_fill_42 : decode b_Mo_fill 42 = .ok (.aload_n 0, 1) := by decide +kernel
theorem d_Mo_fill_43 : decode b_Mo_fill 43 = .ok (.getfield 111, 3) := by decide +kernel
theorem d_Mo_fill_46 : decode b_Mo_fill 46 = .ok (.iastore, 1) := by decide +kernel
theorem d_Mo_fill_47 : decode b_Mo_fill 47 = .ok (.aload_n 0, 1) := by decide +kernel
theorem d_Mo_fill_48 : decode b_Mo_fill 48 = .ok (.getfield 50, 3) := by decide +kernel
theorem d_Mo_fill_51 : decode b_Mo_fill 51 = .ok (.iload_n 2, 1) := by decide +kernel
theorem d_Mo_fill_52 : decode b_Mo_fill 52 = .ok (.aload_n 0, 1) := by decide +kernel
theorem d_Mo_fill_53 : decode b_Mo_fill 53 = .ok (.getfield 114, 3) := by decide +kernel
theorem d_Mo_fill_56 : decode b_Mo_fill 56 = .ok (.aload_n 0, 1) := by decide +kernel
theorem d_Mo_fill_57 : decode b_Mo_fill 57 = .ok (.getfield 111, 3) := by decide +kernel
theorem d_Mo_fill_60 : decode b_Mo_fill 60 = .ok (.if_icmp .ne 7, 3) := by decide +kernel
theorem d_Mo_fill_63 : decode b_Mo_fill 63 = .ok (.iconst (-1), 1) := by decide +kernel
theorem d_Mo_fill_64 : decode b_Mo_fill 64 = .ok (.goto 7, 3) := by decide +kernel
theorem d_Mo_fill_67 : decode b_Mo_fill 67 = .ok (.aload_n 0, 1) := by decide +kernel
theorem d_Mo_fill_68 : decode b_Mo_fill 68 = .ok (.getfield 114, 3) := by decide +kernel
theorem d_Mo_fill_71 : decode b_Mo_fill 71 = .ok (.iastore, 1) := by decide +kernel
theorem d_Mo_fill_72 : decode b_Mo_fill 72 = .ok (.aload_n 0, 1) := by decide +kernel
theorem d_Mo_fill_73 : decode b_Mo_fill 73 = .ok (.iload_n 1, 1) := by decide +kernel
theorem d_Mo_fill_74 : decode b_Mo_fill 74 = .ok (.iconst 1, 1) := by decide +kernel
theorem d_Mo_fill_75 : decode b_Mo_fill 75 = .ok (.iconst 1, 1) := by decide +kernel
theorem d_Mo_fill_76 : decode b_Mo_fill 76 = .ok (.invokevirtual 58, 3) := by decide +kernel
theorem d_Mo_fill_79 : decode b_Mo_fill 79 = .ok (.return_, 1) := by decide +kernel
def pr_Mo_fill : List (Nat × tw_Op) := [(0, tw_al 0), (1, tw_gr 22 32), (4, tw_il 2), (5, tw_il 3), (6, tw_ias 22 37), (7, tw_al 0), (8, tw_gr 22 33), (11, tw_il 2), (12, tw_il 4), (14, tw_ic (30)), (16, tw_bin (· &&& ·)), (17, tw_ias 22 37), (18, tw_al 0), (19, tw_gr 22 34), (22, tw_il 2), (23, tw_il 4), (25, tw_ic (64)), (27, tw_bin (· &&& ·)), (28, tw_ifeq 35), (31, tw_ic 1), (32, tw_jmp 36), (35, tw_ic 0), (36, tw_zas 22 37), (37, tw_al 0), (38, tw_gr 22 35), (41, tw_il 2), (42, tw_al 0), (43, tw_gi 22 18), (46, tw_ias 22 37), (47, tw_al 0), (48, tw_gr 22 36), (51, tw_il 2), (52, tw_al 0), (53, tw_gi 22 17), (56, tw_al 0), (57, tw_gi 22 18), (60, tw_cne 67), (63, tw_ic (-1)), (64, tw_jmp 71), (67, tw_al 0), (68, tw_gi 22 17), (71, tw_ias 22 37), (72, tw_al 0), (73, tw_il 1), (74, tw_ic 1), (75, tw_ic 1), (76, tw_cv 3 22 fn_Mo_add), (79, tw_r0)]
set_option maxRecDepth 100000 in
set_option maxHeartbeats 4000000 in
theorem ok_Mo_fill {p : Program} {l : Launch} {e : Env} {s : State} {m : MethodId} {args : Array Value} {below : List Frame} {meth : Method} {c : Code} {E : tw_E} {D : va_G} {ρ : tw_R} (hC : tw_Cx p s m args meth c b_Mo_fill 5 none "TwinHostModel" E D) : tw_Ok p l e (tw_rmd 1) s m args below meth c 0 0 (MQ below (tw_Qc E D ρ) args s 0 0 (tw_A E)) 5 E D ρ pr_Mo_fill :=
  ⟨ts_aload_n hC d_Mo_fill_0 rfl,
   ts_gr (j := 12) (C := R_Mo) (T := T_Mo) hC rfl rfl rfl (by decide) u_Mo wd_468 rfl d_Mo_fill_1,
   ts_iload_n hC d_Mo_fill_4 rfl,
   ts_iload_n hC d_Mo_fill_5 rfl,
   ts_iastore hC d_Mo_fill_6,
   ts_aload_n hC d_Mo_fill_7 rfl,
   ts_gr (j := 13) (C := R_Mo) (T := T_Mo) hC rfl rfl rfl (by decide) u_Mo wd_469 rfl d_Mo_fill_8,
   ts_iload_n hC d_Mo_fill_11 rfl,
   ts_iload hC d_Mo_fill_12,
   ts_bipush hC d_Mo_fill_14 (by decide),
   ts_iand hC d_Mo_fill_16,
   ts_iastore hC d_Mo_fill_17,
   ts_aload_n hC d_Mo_fill_18 rfl,
   ts_gr (j := 14) (C := R_Mo) (T := T_Mo) hC rfl rfl rfl (by decide) u_Mo wd_470 rfl d_Mo_fill_19,
   ts_iload_n hC d_Mo_fill_22 rfl,
   ts_iload hC d_Mo_fill_23,
   ts_bipush hC d_Mo_fill_25 (by decide),
   ts_iand hC d_Mo_fill_27,
   ts_ifeq hC d_Mo_fill_28 (by decide),
   ts_iconst hC d_Mo_fill_31 (by decide),
   ts_goto hC d_Mo_fill_32 (by decide),
   ts_iconst hC d_Mo_fill_35 (by decide),
   ts_bastore hC d_Mo_fill_36,
   ts_aload_n hC d_Mo_fill_37 rfl,
   ts_gr (j := 15) (C := R_Mo) (T := T_Mo) hC rfl rfl rfl (by decide) u_Mo wd_471 rfl d_Mo_fill_38,
   ts_iload_n hC d_Mo_fill_41 rfl,
   ts_aload_n hC d_Mo_fill_42 rfl,
   ts_gi (j := 18) (C := R_Mo) (T := T_Mo) hC rfl rfl rfl (by decide) u_Mo wd_474 rfl d_Mo_fill_43,
   ts_iastore hC d_Mo_fill_46,
   ts_aload_n hC d_Mo_fill_47 rfl,
   ts_gr (j := 16) (C := R_Mo) (T := T_Mo) hC rfl rfl rfl (by decide) u_Mo wd_472 rfl d_Mo_fill_48,
   ts_iload_n hC d_Mo_fill_51 rfl,
   ts_aload_n hC d_Mo_fill_52 rfl,
   ts_gi (j := 17) (C := R_Mo) (T := T_Mo) hC rfl rfl rfl (by decide) u_Mo wd_473 rfl d_Mo_fill_53,
   ts_aload_n hC d_Mo_fill_56 rfl,
   ts_gi (j := 18) (C := R_Mo) (T := T_Mo) hC rfl rfl rfl (by decide) u_Mo wd_474 rfl d_Mo_fill_57,
   ts_cne hC d_Mo_fill_60 (by decide),
   ts_iconst hC d_Mo_fill_63 (by decide),
   ts_goto hC d_Mo_fill_64 (by decide),
   ts_aload_n hC d_Mo_fill_67 rfl,
   ts_gi (j := 17) (C := R_Mo) (T := T_Mo) hC rfl rfl rfl (by decide) u_Mo wd_473 rfl d_Mo_fill_68,
   ts_iastore hC d_Mo_fill_71,
   ts_aload_n hC d_Mo_fill_72 rfl,
   ts_iload_n hC d_Mo_fill_73 rfl,
   ts_iconst hC d_Mo_fill_74 (by decide),
   ts_iconst hC d_Mo_fill_75 (by decide),
   ts_callv (C := R_Mo) (T := T_Mo) hC con_Mo_add wd_540 wd_30 (by decide +kernel) ⟨by decide, by decide⟩ ⟨Nat.zero_le _, Nat.zero_le _⟩ wd_537 rfl rfl wd_539 wd_2 d_Mo_fill_76,
   ts_vret hC rfl d_Mo_fill_79,
   trivial⟩
def fn_Mo_fill : tw_Fn := tw_fn 5 5 50 pr_Mo_fill
theorem con_Mo_fill : tw_Con y_Mo_fill b_Mo_fill 5 none 1 fn_Mo_fill := tw_met (by decide +kernel) (tw_fn_len (n := 5) (by decide)) (fun p l e s m args below meth c E D vs σ ρ hC h => tw_sound (ok_Mo_fill hC) 50 pr_Mo_fill (ok_Mo_fill hC) _ _ _ (tw_fn_get h))

-- TwinHostModel.flush(I)V: 24 instructions, depth 1, calls Mo_add
theorem d_Mo_flush_0 : decode b_Mo_flush 0 = .ok (.bipush 16, 2) := by decide +kernel
theorem d_Mo_flush_2 : decode b_Mo_flush 2 = .ok (.iload_n 1, 1) := by decide +kernel
theorem d_Mo_flush_3 : decode b_Mo_flush 3 = .ok (.imul, 1) := by decide +kernel
theorem d_Mo_flush_4 : decode b_Mo_flush 4 = .ok (.istore_n 2, 1) := by decide +kernel
theorem d_Mo_flush_5 : decode b_Mo_flush 5 = .ok (.iload_n 2, 1) := by decide +kernel
theorem d_Mo_flush_6 : decode b_Mo_flush 6 = .ok (.bipush 16, 2) := by decide +kernel
theorem d_Mo_flush_8 : decode b_Mo_flush 8 = .ok (.iload_n 1, 1) := by decide +kernel
theorem d_Mo_flush_9 : decode b_Mo_flush 9 = .ok (.imul, 1) := by decide +kernel
theorem d_Mo_flush_10 : decode b_Mo_flush 10 = .ok (.bipush 16, 2) := by decide +kernel
theorem d_Mo_flush_12 : decode b_Mo_flush 12 = .ok (.iadd, 1) := by decide +kernel
theorem d_Mo_flush_13 : decode b_Mo_flush 13 = .ok (.if_icmp .ge 16, 3) := by decide +kernel
theorem d_Mo_flush_16 : decode b_Mo_flush 16 = .ok (.aload_n 0, 1) := by decide +kernel
theorem d_Mo_flush_17 : decode b_Mo_flush 17 = .ok (.getfield 38, 3) := by decide +kernel
theorem d_Mo_flush_20 : decode b_Mo_flush 20 = .ok (.iload_n 2, 1) := by decide +kernel
theorem d_Mo_flush_21 : decode b_Mo_flush 21 = .ok (.iconst (-1), 1) := by decide +kernel
theorem d_Mo_flush_22 : decode b_Mo_flush 22 = .ok (.iastore, 1) := by decide +kernel
theorem d_Mo_flush_23 : decode b_Mo_flush 23 = .ok (.iinc 2 1, 3) := by decide +kernel
theorem d_Mo_flush_26 : decode b_Mo_flush 26 = .ok (.goto (-21), 3) := by decide +kernel
theorem d_Mo_flush_29 : decode b_Mo_flush 29 = .ok (.aload_n 0, 1) := by decide +kernel
theorem d_Mo_flush_30 : decode b_Mo_flush 30 = .ok (.iload_n 1, 1) := by decide +kernel
theorem d_Mo_flush_31 : decode b_Mo_flush 31 = .ok (.iconst 5, 1) := by decide +kernel
theorem d_Mo_flush_32 : decode b_Mo_flush 32 = .ok (.iconst 1, 1) := by decide +kernel
theorem d_Mo_flush_33 : decode b_Mo_flush 33 = .ok (.invokevirtual 58, 3) := by decide +kernel
theorem d_Mo_flush_36 : decode b_Mo_flush 36 = .ok (.return_, 1) := by decide +kernel
def pr_Mo_flush : List (Nat × tw_Op) := [(0, tw_ic (16)), (2, tw_il 1), (3, tw_bin (· * ·)), (4, tw_is 2), (5, tw_il 2), (6, tw_ic (16)), (8, tw_il 1), (9, tw_bin (· * ·)), (10, tw_ic (16)), (12, tw_bin (· + ·)), (13, tw_cge 29), (16, tw_al 0), (17, tw_gr 22 32), (20, tw_il 2), (21, tw_ic (-1)), (22, tw_ias 22 37), (23, tw_inc 2 (1)), (26, tw_jmp 5), (29, tw_al 0), (30, tw_il 1), (31, tw_ic 5), (32, tw_ic 1), (33, tw_cv 3 22 fn_Mo_add), (36, tw_r0)]
set_option maxRecDepth 100000 in
set_option maxHeartbeats 4000000 in
theorem ok_Mo_flush {p : Program} {l : Launch} {e : Env} {s : State} {m : MethodId} {args : Array Value} {below : List Frame} {meth : Method} {c : Code} {E : tw_E} {D : va_G} {ρ : tw_R} (hC : tw_Cx p s m args meth c b_Mo_flush 3 none "TwinHostModel" E D) : tw_Ok p l e (tw_rmd 1) s m args below meth c 0 0 (MQ below (tw_Qc E D ρ) args s 0 0 (tw_A E)) 3 E D ρ pr_Mo_flush :=
  ⟨ts_bipush hC d_Mo_flush_0 (by decide),
   ts_iload_n hC d_Mo_flush_2 rfl,
   ts_imul hC d_Mo_flush_3,
   ts_istore_n hC d_Mo_flush_4 rfl (by decide),
   ts_iload_n hC d_Mo_flush_5 rfl,
   ts_bipush hC d_Mo_flush_6 (by decide),
   ts_iload_n hC d_Mo_flush_8 rfl,
   ts_imul hC d_Mo_flush_9,
   ts_bipush hC d_Mo_flush_10 (by decide),
   ts_iadd hC d_Mo_flush_12,
   ts_cge hC d_Mo_flush_13 (by decide),
   ts_aload_n hC d_Mo_flush_16 rfl,
   ts_gr (j := 12) (C := R_Mo) (T := T_Mo) hC rfl rfl rfl (by decide) u_Mo wd_468 rfl d_Mo_flush_17,
   ts_iload_n hC d_Mo_flush_20 rfl,
   ts_iconst hC d_Mo_flush_21 (by decide),
   ts_iastore hC d_Mo_flush_22,
   ts_iinc hC d_Mo_flush_23 (by decide) (by decide),
   ts_goto hC d_Mo_flush_26 (by decide),
   ts_aload_n hC d_Mo_flush_29 rfl,
   ts_iload_n hC d_Mo_flush_30 rfl,
   ts_iconst hC d_Mo_flush_31 (by decide),
   ts_iconst hC d_Mo_flush_32 (by decide),
   ts_callv (C := R_Mo) (T := T_Mo) hC con_Mo_add wd_540 wd_30 (by decide +kernel) ⟨by decide, by decide⟩ ⟨Nat.zero_le _, Nat.zero_le _⟩ wd_537 rfl rfl wd_539 wd_2 d_Mo_flush_33,
   ts_vret hC rfl d_Mo_flush_36,
   trivial⟩
def fn_Mo_flush : tw_Fn := tw_fn 2 3 400 pr_Mo_flush
theorem con_Mo_flush : tw_Con y_Mo_flush b_Mo_flush 3 none 1 fn_Mo_flush := tw_met (by decide +kernel) (tw_fn_len (n := 2) (by decide)) (fun p l e s m args below meth c E D vs σ ρ hC h => tw_sound (ok_Mo_flush hC) 400 pr_Mo_flush (ok_Mo_flush hC) _ _ _ (tw_fn_get h))

-- TwinHostModel.give(III)Z: 17 instructions, depth 1, calls Mo_guest Mo_put
theorem d_Mo_give_0 : decode b_Mo_give 0 = .ok (.iload_n 1, 1) := by decide +kernel
theorem d_Mo_give_1 : decode b_Mo_give 1 = .ok (.invokestatic 62, 3) := by decide +kernel
theorem d_Mo_give_4 : decode b_Mo_give 4 = .ok (.ifCond .eq 13, 3) := by decide +kernel
theorem d_Mo_give_7 : decode b_Mo_give 7 = .ok (.iload_n 2, 1) := by decide +kernel
theorem d_Mo_give_8 : decode b_Mo_give 8 = .ok (.ifCond .lt 9, 3) := by decide +kernel
theorem d_Mo_give_11 : decode b_Mo_give 11 = .ok (.iload_n 2, 1) := by decide +kernel
theorem d_Mo_give_12 : decode b_Mo_give 12 = .ok (.bipush 7, 2) := by decide +kernel
theorem d_Mo_give_14 : decode b_Mo_give 14 = .ok (.if_icmp .le 5, 3) := by decide +kernel
theorem d_Mo_give_17 : decode b_Mo_give 17 = .ok (.iconst 0, 1) := by decide +kernel
theorem d_Mo_give_18 : decode b_Mo_give 18 = .ok (.ireturn, 1) := by decide +kernel
theorem d_Mo_give_19 : decode b_Mo_give 19 = .ok (.aload_n 0, 1) := by decide +kernel
theorem d_Mo_give_20 : decode b_Mo_give 20 = .ok (.iload_n 1, 1) := by decide +kernel
theorem d_Mo_give_21 : decode b_Mo_give 21 = .ok (.iload_n 2, 1) := by decide +kernel
theorem d_Mo_give_22 : decode b_Mo_give 22 = .ok (.iload_n 3, 1) := by decide +kernel
theorem d_Mo_give_23 : decode b_Mo_give 23 = .ok (.invokevirtual 70, 3) := by decide +kernel
theorem d_Mo_give_26 : decode b_Mo_give 26 = .ok (.iconst 1, 1) := by decide +kernel
theorem d_Mo_give_27 : decode b_Mo_give 27 = .ok (.ireturn, 1) := by decide +kernel
def pr_Mo_give : List (Nat × tw_Op) := [(0, tw_il 1), (1, tw_cs 1 fn_Mo_guest), (4, tw_ifeq 17), (7, tw_il 2), (8, tw_iflt 17), (11, tw_il 2), (12, tw_ic (7)), (14, tw_cle 19), (17, tw_ic 0), (18, tw_rz), (19, tw_al 0), (20, tw_il 1), (21, tw_il 2), (22, tw_il 3), (23, tw_cv 3 22 fn_Mo_put), (26, tw_ic 1), (27, tw_rz)]
set_option maxRecDepth 100000 in
set_option maxHeartbeats 4000000 in
theorem ok_Mo_give {p : Program} {l : Launch} {e : Env} {s : State} {m : MethodId} {args : Array Value} {below : List Frame} {meth : Method} {c : Code} {E : tw_E} {D : va_G} {ρ : tw_R} (hC : tw_Cx p s m args meth c b_Mo_give 4 (some .boolean) "TwinHostModel" E D) : tw_Ok p l e (tw_rmd 1) s m args below meth c 0 0 (MQ below (tw_Qc E D ρ) args s 0 0 (tw_A E)) 4 E D ρ pr_Mo_give :=
  ⟨ts_iload_n hC d_Mo_give_0 rfl,
   ts_calls hC con_Mo_guest wd_524 wd_30 (by decide +kernel) ⟨by decide, by decide⟩ ⟨Nat.zero_le _, Nat.zero_le _⟩ wd_522 wd_523 d_Mo_give_1,
   ts_ifeq hC d_Mo_give_4 (by decide),
   ts_iload_n hC d_Mo_give_7 rfl,
   ts_iflt hC d_Mo_give_8 (by decide),
   ts_iload_n hC d_Mo_give_11 rfl,
   ts_bipush hC d_Mo_give_12 (by decide),
   ts_cle hC d_Mo_give_14 (by decide),
   ts_iconst hC d_Mo_give_17 (by decide),
   ts_zret hC rfl d_Mo_give_18,
   ts_aload_n hC d_Mo_give_19 rfl,
   ts_iload_n hC d_Mo_give_20 rfl,
   ts_iload_n hC d_Mo_give_21 rfl,
   ts_iload_n hC d_Mo_give_22 rfl,
   ts_callv (C := R_Mo) (T := T_Mo) hC con_Mo_put wd_552 wd_30 (by decide +kernel) ⟨by decide, by decide⟩ ⟨Nat.zero_le _, Nat.zero_le _⟩ wd_549 rfl rfl wd_551 wd_3 d_Mo_give_23,
   ts_iconst hC d_Mo_give_26 (by decide),
   ts_zret hC rfl d_Mo_give_27,
   trivial⟩
def fn_Mo_give : tw_Fn := tw_fn 4 4 19 pr_Mo_give
theorem con_Mo_give : tw_Con y_Mo_give b_Mo_give 4 (some .boolean) 1 fn_Mo_give := tw_met (by decide +kernel) (tw_fn_len (n := 4) (by decide)) (fun p l e s m args below meth c E D vs σ ρ hC h => tw_sound (ok_Mo_give hC) 19 pr_Mo_give (ok_Mo_give hC) _ _ _ (tw_fn_get h))

-- TwinHostModel.input(III)Z: 49 instructions, depth 1, calls Mo_guest
theorem d_Mo_input_0 : decode b_Mo_input 0 = .ok (.iload_n 1, 1) := by decide +kernel
theorem d_Mo_input_1 : decode b_Mo_input 1 = .ok (.invokestatic 62, 3) := by decide +kernel
theorem d_Mo_input_4 : decode b_Mo_input 4 = .ok (.ifCond .eq 18, 3) := by decide +kernel
theorem d_Mo_input_7 : decode b_Mo_input 7 = .ok (.iload_n 2, 1) := by decide +kernel
theorem d_Mo_input_8 : decode b_Mo_input 8 = .ok (.ifCond .lt 14, 3) := by decide +kernel
theorem d_Mo_input_11 : decode b_Mo_input 11 = .ok (.aload_n 0, 1) := by decide +kernel
theorem d_Mo_input_12 : decode b_Mo_input 12 = .ok (.getfield 26, 3) := by decide +kernel
theorem d_Mo_input_15 : decode b_Mo_input 15 = .ok (.iload_n 1, 1) := by decide +kernel
theorem d_Mo_input_16 : decode b_Mo_input 16 = .ok (.iaload, 1) := by decide +kernel
theorem d_Mo_input_17 : decode b_Mo_input 17 = .ok (.bipush 6, 2) := by decide +kernel
theorem d_Mo_input_19 : decode b_Mo_input 19 = .ok (.if_icmp .lt 5, 3) := by decide +kernel
theorem d_Mo_input_22 : decode b_Mo_input 22 = .ok (.iconst 0, 1) := by decide +kernel
theorem d_Mo_input_23 : decode b_Mo_input 23 = .ok (.ireturn, 1) := by decide +kernel
theorem d_Mo_input_24 : decode b_Mo_input 24 = .ok (.aload_n 0, 1) := by decide +kernel
theorem d_Mo_input_25 : decode b_Mo_input 25 = .ok (.getfield 29, 3) := by decide +kernel
theorem d_Mo_input_28 : decode b_Mo_input 28 = .ok (.bipush 6, 2) := by decide +kernel
theorem d_Mo_input_30 : decode b_Mo_input 30 = .ok (.iload_n 1, 1) := by decide +kernel
theorem d_Mo_input_31 : decode b_Mo_input 31 = .ok (.imul, 1) := by decide +kernel
theorem d_Mo_input_32 : decode b_Mo_input 32 = .ok (.aload_n 0, 1) := by decide +kernel
theorem d_Mo_input_33 : decode b_Mo_input 33 = .ok (.getfield 26, 3) := by decide +kernel
theorem d_Mo_input_36 : decode b_Mo_input 36 = .ok (.iload_n 1, 1) := by decide +kernel
theorem d_Mo_input_37 : decode b_Mo_input 37 = .ok (.iaload, 1) := by decide +kernel
theorem d_Mo_input_38 : decode b_Mo_input 38 = .ok (.iadd, 1) := by decide +kernel
theorem d_Mo_input_39 : decode b_Mo_input 39 = .ok (.iload_n 2, 1) := by decide +kernel
theorem d_Mo_input_40 : decode b_Mo_input 40 = .ok (.iastore, 1) := by decide +kernel
theorem d_Mo_input_41 : decode b_Mo_input 41 = .ok (.aload_n 0, 1) := by decide +kernel
theorem d_Mo_input_42 : decode b_Mo_input 42 = .ok (.getfield 32, 3) := by decide +kernel
theorem d_Mo_input_45 : decode b_Mo_input 45 = .ok (.bipush 6, 2) := by decide +kernel
theorem d_Mo_input_47 : decode b_Mo_input 47 = .ok (.iload_n 1, 1) := by decide +kernel
theorem d_Mo_input_48 : decode b_Mo_input 48 = .ok (.imul, 1) := by decide +kernel
theorem d_Mo_input_49 : decode b_Mo_input 49 = .ok (.aload_n 0, 1) := by decide +kernel
theorem d_Mo_input_50 : decode b_Mo_input 50 = .ok (.getfield 26, 3) := by decide +kernel
theorem d_Mo_input_53 : decode b_Mo_input 53 = .ok (.iload_n 1, 1) := by decide +kernel
theorem d_Mo_input_54 : decode b_Mo_input 54 = .ok (.iaload, 1) := by decide +kernel
theorem d_Mo_input_55 : decode b_Mo_input 55 = .ok (.iadd, 1) := by decide +kernel
theorem d_Mo_input_56 : decode b_Mo_input 56 = .ok (.iload_n 3, 1) := by decide +kernel
theorem d_Mo_input_57 : decode b_Mo_input 57 = .ok (.iastore, 1) := by decide +kernel
theorem d_Mo_input_58 : decode b_Mo_input 58 = .ok (.aload_n 0, 1) := by decide +kernel
theorem d_Mo_input_59 : decode b_Mo_input 59 = .ok (.getfield 26, 3) := by decide +kernel
theorem d_Mo_input_62 : decode b_Mo_input 62 = .ok (.iload_n 1, 1) := by decide +kernel
theorem d_Mo_input_63 : decode b_Mo_input 63 = .ok (.aload_n 0, 1) := by decide +kernel
theorem d_Mo_input_64 : decode b_Mo_input 64 = .ok (.getfield 26, 3) := by decide +kernel
theorem d_Mo_input_67 : decode b_Mo_input 67 = .ok (.iload_n 1, 1) := by decide +kernel
theorem d_Mo_input_68 : decode b_Mo_input 68 = .ok (.iaload, 1) := by decide +kernel
theorem d_Mo_input_69 : decode b_Mo_input 69 = .ok (.iconst 1, 1) := by decide +kernel
theorem d_Mo_input_70 : decode b_Mo_input 70 = .ok (.iadd, 1) := by decide +kernel
theorem d_Mo_input_71 : decode b_Mo_input 71 = .ok (.iastore, 1) := by decide +kernel
theorem d_Mo_input_72 : decode b_Mo_input 72 = .ok (.iconst 1, 1) := by decide +kernel
theorem d_Mo_input_73 : decode b_Mo_input 73 = .ok (.ireturn, 1) := by decide +kernel
def pr_Mo_input : List (Nat × tw_Op) := [(0, tw_il 1), (1, tw_cs 1 fn_Mo_guest), (4, tw_ifeq 22), (7, tw_il 2), (8, tw_iflt 22), (11, tw_al 0), (12, tw_gr 22 28), (15, tw_il 1), (16, tw_ia), (17, tw_ic (6)), (19, tw_clt 24), (22, tw_ic 0), (23, tw_rz), (24, tw_al 0), (25, tw_gr 22 29), (28, tw_ic (6)), (30, tw_il 1), (31, tw_bin (· * ·)), (32, tw_al 0), (33, tw_gr 22 28), (36, tw_il 1), (37, tw_ia), (38, tw_bin (· + ·)), (39, tw_il 2), (40, tw_ias 22 37), (41, tw_al 0), (42, tw_gr 22 30), (45, tw_ic (6)), (47, tw_il 1), (48, tw_bin (· * ·)), (49, tw_al 0), (50, tw_gr 22 28), (53, tw_il 1), (54, tw_ia), (55, tw_bin (· + ·)), (56, tw_il 3), (57, tw_ias 22 37), (58, tw_al 0), (59, tw_gr 22 28), (62, tw_il 1), (63, tw_al 0), (64, tw_gr 22 28), (67, tw_il 1), (68, tw_ia), (69, tw_ic 1), (70, tw_bin (· + ·)), (71, tw_ias 22 37), (72, tw_ic 1), (73, tw_rz)]
set_option maxRecDepth 100000 in
set_option maxHeartbeats 4000000 in
theorem ok_Mo_input {p : Program} {l : Launch} {e : Env} {s : State} {m : MethodId} {args : Array Value} {below : List Frame} {meth : Method} {c : Code} {E : tw_E} {D : va_G} {ρ : tw_R} (hC : tw_Cx p s m args meth c b_Mo_input 4 (some .boolean) "TwinHostModel" E D) : tw_Ok p l e (tw_rmd 1) s m args below meth c 0 0 (MQ below (tw_Qc E D ρ) args s 0 0 (tw_A E)) 4 E D ρ pr_Mo_input :=
  ⟨ts_iload_n hC d_Mo_input_0 rfl,
   ts_calls hC con_Mo_guest wd_524 wd_30 (by decide +kernel) ⟨by decide, by decide⟩ ⟨Nat.zero_le _, Nat.zero_le _⟩ wd_522 wd_523 d_Mo_input_1,
   ts_ifeq hC d_Mo_input_4 (by decide),
   ts_iload_n hC d_Mo_input_7 rfl,
   ts_iflt hC d_Mo_input_8 (by decide),
   ts_aload_n hC d_Mo_input_11 rfl,
   ts_gr (j := 8) (C := R_Mo) (T := T_Mo) hC rfl rfl rfl (by decide) u_Mo wd_464 rfl d_Mo_input_12,
   ts_iload_n hC d_Mo_input_15 rfl,
   ts_iaload hC d_Mo_input_16,
   ts_bipush hC d_Mo_input_17 (by decide),
   ts_clt hC d_Mo_input_19 (by decide),
   ts_iconst hC d_Mo_input_22 (by decide),
   ts_zret hC rfl d_Mo_input_23,
   ts_aload_n hC d_Mo_input_24 rfl,
   ts_gr (j := 9) (C := R_Mo) (T := T_Mo) hC rfl rfl rfl (by decide) u_Mo wd_465 rfl d_Mo_input_25,
   ts_bipush hC d_Mo_input_28 (by decide),
   ts_iload_n hC d_Mo_input_30 rfl,
   ts_imul hC d_Mo_input_31,
   ts_aload_n hC d_Mo_input_32 rfl,
   ts_gr (j := 8) (C := R_Mo) (T := T_Mo) hC rfl rfl rfl (by decide) u_Mo wd_464 rfl d_Mo_input_33,
   ts_iload_n hC d_Mo_input_36 rfl,
   ts_iaload hC d_Mo_input_37,
   ts_iadd hC d_Mo_input_38,
   ts_iload_n hC d_Mo_input_39 rfl,
   ts_iastore hC d_Mo_input_40,
   ts_aload_n hC d_Mo_input_41 rfl,
   ts_gr (j := 10) (C := R_Mo) (T := T_Mo) hC rfl rfl rfl (by decide) u_Mo wd_466 rfl d_Mo_input_42,
   ts_bipush hC d_Mo_input_45 (by decide),
   ts_iload_n hC d_Mo_input_47 rfl,
   ts_imul hC d_Mo_input_48,
   ts_aload_n hC d_Mo_input_49 rfl,
   ts_gr (j := 8) (C := R_Mo) (T := T_Mo) hC rfl rfl rfl (by decide) u_Mo wd_464 rfl d_Mo_input_50,
   ts_iload_n hC d_Mo_input_53 rfl,
   ts_iaload hC d_Mo_input_54,
   ts_iadd hC d_Mo_input_55,
   ts_iload_n hC d_Mo_input_56 rfl,
   ts_iastore hC d_Mo_input_57,
   ts_aload_n hC d_Mo_input_58 rfl,
   ts_gr (j := 8) (C := R_Mo) (T := T_Mo) hC rfl rfl rfl (by decide) u_Mo wd_464 rfl d_Mo_input_59,
   ts_iload_n hC d_Mo_input_62 rfl,
   ts_aload_n hC d_Mo_input_63 rfl,
   ts_gr (j := 8) (C := R_Mo) (T := T_Mo) hC rfl rfl rfl (by decide) u_Mo wd_464 rfl d_Mo_input_64,
   ts_iload_n hC d_Mo_input_67 rfl,
   ts_iaload hC d_Mo_input_68,
   ts_iconst hC d_Mo_input_69 (by decide),
   ts_iadd hC d_Mo_input_70,
   ts_iastore hC d_Mo_input_71,
   ts_iconst hC d_Mo_input_72 (by decide),
   ts_zret hC rfl d_Mo_input_73,
   trivial⟩
def fn_Mo_input : tw_Fn := tw_fn 4 4 51 pr_Mo_input
theorem con_Mo_input : tw_Con y_Mo_input b_Mo_input 4 (some .boolean) 1 fn_Mo_input := tw_met (by decide +kernel) (tw_fn_len (n := 4) (by decide)) (fun p l e s m args below meth c E D vs σ ρ hC h => tw_sound (ok_Mo_input hC) 51 pr_Mo_input (ok_Mo_input hC) _ _ _ (tw_fn_get h))

-- TwinHostModel.pc(I)I: 10 instructions, depth 1, calls Mo_guest
theorem d_Mo_pc_0 : decode b_Mo_pc 0 = .ok (.iload_n 1, 1) := by decide +kernel
theorem d_Mo_pc_1 : decode b_Mo_pc 1 = .ok (.invokestatic 62, 3) := by decide +kernel
theorem d_Mo_pc_4 : decode b_Mo_pc 4 = .ok (.ifCond .eq 12, 3) := by decide +kernel
theorem d_Mo_pc_7 : decode b_Mo_pc 7 = .ok (.aload_n 0, 1) := by decide +kernel
theorem d_Mo_pc_8 : decode b_Mo_pc 8 = .ok (.getfield 19, 3) := by decide +kernel
theorem d_Mo_pc_11 : decode b_Mo_pc 11 = .ok (.iload_n 1, 1) := by decide +kernel
theorem d_Mo_pc_12 : decode b_Mo_pc 12 = .ok (.iaload, 1) := by decide +kernel
theorem d_Mo_pc_13 : decode b_Mo_pc 13 = .ok (.goto 4, 3) := by decide +kernel
theorem d_Mo_pc_16 : decode b_Mo_pc 16 = .ok (.iconst 0, 1) := by decide +kernel
theorem d_Mo_pc_17 : decode b_Mo_pc 17 = .ok (.ireturn, 1) := by decide +kernel
def pr_Mo_pc : List (Nat × tw_Op) := [(0, tw_il 1), (1, tw_cs 1 fn_Mo_guest), (4, tw_ifeq 16), (7, tw_al 0), (8, tw_gr 22 26), (11, tw_il 1), (12, tw_ia), (13, tw_jmp 17), (16, tw_ic 0), (17, tw_ri)]
set_option maxRecDepth 100000 in
set_option maxHeartbeats 4000000 in
theorem ok_Mo_pc {p : Program} {l : Launch} {e : Env} {s : State} {m : MethodId} {args : Array Value} {below : List Frame} {meth : Method} {c : Code} {E : tw_E} {D : va_G} {ρ : tw_R} (hC : tw_Cx p s m args meth c b_Mo_pc 2 (some .int) "TwinHostModel" E D) : tw_Ok p l e (tw_rmd 1) s m args below meth c 0 0 (MQ below (tw_Qc E D ρ) args s 0 0 (tw_A E)) 2 E D ρ pr_Mo_pc :=
  ⟨ts_iload_n hC d_Mo_pc_0 rfl,
   ts_calls hC con_Mo_guest wd_524 wd_30 (by decide +kernel) ⟨by decide, by decide⟩ ⟨Nat.zero_le _, Nat.zero_le _⟩ wd_522 wd_523 d_Mo_pc_1,
   ts_ifeq hC d_Mo_pc_4 (by decide),
   ts_aload_n hC d_Mo_pc_7 rfl,
   ts_gr (j := 6) (C := R_Mo) (T := T_Mo) hC rfl rfl rfl (by decide) u_Mo wd_462 rfl d_Mo_pc_8,
   ts_iload_n hC d_Mo_pc_11 rfl,
   ts_iaload hC d_Mo_pc_12,
   ts_goto hC d_Mo_pc_13 (by decide),
   ts_iconst hC d_Mo_pc_16 (by decide),
   ts_iret hC rfl d_Mo_pc_17,
   trivial⟩
def fn_Mo_pc : tw_Fn := tw_fn 2 2 12 pr_Mo_pc
theorem con_Mo_pc : tw_Con y_Mo_pc b_Mo_pc 2 (some .int) 1 fn_Mo_pc := tw_met (by decide +kernel) (tw_fn_len (n := 2) (by decide)) (fun p l e s m args below meth c E D vs σ ρ hC h => tw_sound (ok_Mo_pc hC) 12 pr_Mo_pc (ok_Mo_pc hC) _ _ _ (tw_fn_get h))

-- TwinHostModel.peek(II)I: 19 instructions, depth 1, calls Mo_guest
theorem d_Mo_peek_0 : decode b_Mo_peek 0 = .ok (.iload_n 1, 1) := by decide +kernel
theorem d_Mo_peek_1 : decode b_Mo_peek 1 = .ok (.invokestatic 62, 3) := by decide +kernel
theorem d_Mo_peek_4 : decode b_Mo_peek 4 = .ok (.ifCond .eq 28, 3) := by decide +kernel
theorem d_Mo_peek_7 : decode b_Mo_peek 7 = .ok (.iload_n 2, 1) := by decide +kernel
theorem d_Mo_peek_8 : decode b_Mo_peek 8 = .ok (.ifCond .lt 24, 3) := by decide +kernel
theorem d_Mo_peek_11 : decode b_Mo_peek 11 = .ok (.iload_n 2, 1) := by decide +kernel
theorem d_Mo_peek_12 : decode b_Mo_peek 12 = .ok (.bipush 127, 2) := by decide +kernel
theorem d_Mo_peek_14 : decode b_Mo_peek 14 = .ok (.if_icmp .gt 18, 3) := by decide +kernel
theorem d_Mo_peek_17 : decode b_Mo_peek 17 = .ok (.aload_n 0, 1) := by decide +kernel
theorem d_Mo_peek_18 : decode b_Mo_peek 18 = .ok (.getfield 7, 3) := by decide +kernel
theorem d_Mo_peek_21 : decode b_Mo_peek 21 = .ok (.sipush 128, 3) := by decide +kernel
theorem d_Mo_peek_24 : decode b_Mo_peek 24 = .ok (.iload_n 1, 1) := by decide +kernel
theorem d_Mo_peek_25 : decode b_Mo_peek 25 = .ok (.imul, 1) := by decide +kernel
theorem d_Mo_peek_26 : decode b_Mo_peek 26 = .ok (.iload_n 2, 1) := by decide +kernel
theorem d_Mo_peek_27 : decode b_Mo_peek 27 = .ok (.iadd, 1) := by decide +kernel
theorem d_Mo_peek_28 : decode b_Mo_peek 28 = .ok (.iaload, 1) := by decide +kernel
theorem d_Mo_peek_29 : decode b_Mo_peek 29 = .ok (.goto 4, 3) := by decide +kernel
theorem d_Mo_peek_32 : decode b_Mo_peek 32 = .ok (.iconst 0, 1) := by decide +kernel
theorem d_Mo_peek_33 : decode b_Mo_peek 33 = .ok (.ireturn, 1) := by decide +kernel
def pr_Mo_peek : List (Nat × tw_Op) := [(0, tw_il 1), (1, tw_cs 1 fn_Mo_guest), (4, tw_ifeq 32), (7, tw_il 2), (8, tw_iflt 32), (11, tw_il 2), (12, tw_ic (127)), (14, tw_cgt 32), (17, tw_al 0), (18, tw_gr 22 23), (21, tw_ic (128)), (24, tw_il 1), (25, tw_bin (· * ·)), (26, tw_il 2), (27, tw_bin (· + ·)), (28, tw_ia), (29, tw_jmp 33), (32, tw_ic 0), (33, tw_ri)]
set_option maxRecDepth 100000 in
set_option maxHeartbeats 4000000 in
theorem ok_Mo_peek {p : Program} {l : Launch} {e : Env} {s : State} {m : MethodId} {args : Array Value} {below : List Frame} {meth : Method} {c : Code} {E : tw_E} {D : va_G} {ρ : tw_R} (hC : tw_Cx p s m args meth c b_Mo_peek 3 (some .int) "TwinHostModel" E D) : tw_Ok p l e (tw_rmd 1) s m args below meth c 0 0 (MQ below (tw_Qc E D ρ) args s 0 0 (tw_A E)) 3 E D ρ pr_Mo_peek :=
  ⟨ts_iload_n hC d_Mo_peek_0 rfl,
   ts_calls hC con_Mo_guest wd_524 wd_30 (by decide +kernel) ⟨by decide, by decide⟩ ⟨Nat.zero_le _, Nat.zero_le _⟩ wd_522 wd_523 d_Mo_peek_1,
   ts_ifeq hC d_Mo_peek_4 (by decide),
   ts_iload_n hC d_Mo_peek_7 rfl,
   ts_iflt hC d_Mo_peek_8 (by decide),
   ts_iload_n hC d_Mo_peek_11 rfl,
   ts_bipush hC d_Mo_peek_12 (by decide),
   ts_cgt hC d_Mo_peek_14 (by decide),
   ts_aload_n hC d_Mo_peek_17 rfl,
   ts_gr (j := 3) (C := R_Mo) (T := T_Mo) hC rfl rfl rfl (by decide) u_Mo wd_459 rfl d_Mo_peek_18,
   ts_sipush hC d_Mo_peek_21 (by decide),
   ts_iload_n hC d_Mo_peek_24 rfl,
   ts_imul hC d_Mo_peek_25,
   ts_iload_n hC d_Mo_peek_26 rfl,
   ts_iadd hC d_Mo_peek_27,
   ts_iaload hC d_Mo_peek_28,
   ts_goto hC d_Mo_peek_29 (by decide),
   ts_iconst hC d_Mo_peek_32 (by decide),
   ts_iret hC rfl d_Mo_peek_33,
   trivial⟩
def fn_Mo_peek : tw_Fn := tw_fn 3 3 21 pr_Mo_peek
theorem con_Mo_peek : tw_Con y_Mo_peek b_Mo_peek 3 (some .int) 1 fn_Mo_peek := tw_met (by decide +kernel) (tw_fn_len (n := 3) (by decide)) (fun p l e s m args below meth c E D vs σ ρ hC h => tw_sound (ok_Mo_peek hC) 21 pr_Mo_peek (ok_Mo_peek hC) _ _ _ (tw_fn_get h))

-- TwinHostModel.pending(I)I: 29 instructions, depth 1, calls Mo_isThere
theorem d_Mo_pending_0 : decode b_Mo_pending 0 = .ok (.aload_n 0, 1) := by decide +kernel
theorem d_Mo_pending_1 : decode b_Mo_pending 1 = .ok (.getfield 16, 3) := by decide +kernel
theorem d_Mo_pending_4 : decode b_Mo_pending 4 = .ok (.bipush 12, 2) := by decide +kernel
theorem d_Mo_pending_6 : decode b_Mo_pending 6 = .ok (.iload_n 1, 1) := by decide +kernel
theorem d_Mo_pending_7 : decode b_Mo_pending 7 = .ok (.imul, 1) := by decide +kernel
theorem d_Mo_pending_8 : decode b_Mo_pending 8 = .ok (.bipush 10, 2) := by decide +kernel
theorem d_Mo_pending_10 : decode b_Mo_pending 10 = .ok (.iadd, 1) := by decide +kernel
theorem d_Mo_pending_11 : decode b_Mo_pending 11 = .ok (.iaload, 1) := by decide +kernel
theorem d_Mo_pending_12 : decode b_Mo_pending 12 = .ok (.aload_n 0, 1) := by decide +kernel
theorem d_Mo_pending_13 : decode b_Mo_pending 13 = .ok (.getfield 16, 3) := by decide +kernel
theorem d_Mo_pending_16 : decode b_Mo_pending 16 = .ok (.bipush 12, 2) := by decide +kernel
theorem d_Mo_pending_18 : decode b_Mo_pending 18 = .ok (.iload_n 1, 1) := by decide +kernel
theorem d_Mo_pending_19 : decode b_Mo_pending 19 = .ok (.imul, 1) := by decide +kernel
theorem d_Mo_pending_20 : decode b_Mo_pending 20 = .ok (.bipush 9, 2) := by decide +kernel
theorem d_Mo_pending_22 : decode b_Mo_pending 22 = .ok (.iadd, 1) := by decide +kernel
theorem d_Mo_pending_23 : decode b_Mo_pending 23 = .ok (.iaload, 1) := by decide +kernel
theorem d_Mo_pending_24 : decode b_Mo_pending 24 = .ok (.if_icmp .lt 7, 3) := by decide +kernel
theorem d_Mo_pending_27 : decode b_Mo_pending 27 = .ok (.iconst 1, 1) := by decide +kernel
theorem d_Mo_pending_28 : decode b_Mo_pending 28 = .ok (.goto 4, 3) := by decide +kernel
theorem d_Mo_pending_31 : decode b_Mo_pending 31 = .ok (.iconst 0, 1) := by decide +kernel
theorem d_Mo_pending_32 : decode b_Mo_pending 32 = .ok (.aload_n 0, 1) := by decide +kernel
theorem d_Mo_pending_33 : decode b_Mo_pending 33 = .ok (.iload_n 1, 1) := by decide +kernel
theorem d_Mo_pending_34 : decode b_Mo_pending 34 = .ok (.invokevirtual 83, 3) := by decide +kernel
theorem d_Mo_pending_37 : decode b_Mo_pending 37 = .ok (.ifCond .eq 7, 3) := by decide +kernel
theorem d_Mo_pending_40 : decode b_Mo_pending 40 = .ok (.iconst 2, 1) := by decide +kernel
theorem d_Mo_pending_41 : decode b_Mo_pending 41 = .ok (.goto 4, 3) := by decide +kernel
theorem d_Mo_pending_44 : decode b_Mo_pending 44 = .ok (.iconst 0, 1) := by decide +kernel
theorem d_Mo_pending_45 : decode b_Mo_pending 45 = .ok (.iadd, 1) := by decide +kernel
theorem d_Mo_pending_46 : decode b_Mo_pending 46 = .ok (.ireturn, 1) := by decide +kernel
def pr_Mo_pending : List (Nat × tw_Op) := [(0, tw_al 0), (1, tw_gr 22 25), (4, tw_ic (12)), (6, tw_il 1), (7, tw_bin (· * ·)), (8, tw_ic (10)), (10, tw_bin (· + ·)), (11, tw_ia), (12, tw_al 0), (13, tw_gr 22 25), (16, tw_ic (12)), (18, tw_il 1), (19, tw_bin (· * ·)), (20, tw_ic (9)), (22, tw_bin (· + ·)), (23, tw_ia), (24, tw_clt 31), (27, tw_ic 1), (28, tw_jmp 32), (31, tw_ic 0), (32, tw_al 0), (33, tw_il 1), (34, tw_cv 1 22 fn_Mo_isThere), (37, tw_ifeq 44), (40, tw_ic 2), (41, tw_jmp 45), (44, tw_ic 0), (45, tw_bin (· + ·)), (46, tw_ri)]
set_option maxRecDepth 100000 in
set_option maxHeartbeats 4000000 in
theorem ok_Mo_pending {p : Program} {l : Launch} {e : Env} {s : State} {m : MethodId} {args : Array Value} {below : List Frame} {meth : Method} {c : Code} {E : tw_E} {D : va_G} {ρ : tw_R} (hC : tw_Cx p s m args meth c b_Mo_pending 2 (some .int) "TwinHostModel" E D) : tw_Ok p l e (tw_rmd 1) s m args below meth c 0 0 (MQ below (tw_Qc E D ρ) args s 0 0 (tw_A E)) 2 E D ρ pr_Mo_pending :=
  ⟨ts_aload_n hC d_Mo_pending_0 rfl,
   ts_gr (j := 5) (C := R_Mo) (T := T_Mo) hC rfl rfl rfl (by decide) u_Mo wd_461 rfl d_Mo_pending_1,
   ts_bipush hC d_Mo_pending_4 (by decide),
   ts_iload_n hC d_Mo_pending_6 rfl,
   ts_imul hC d_Mo_pending_7,
   ts_bipush hC d_Mo_pending_8 (by decide),
   ts_iadd hC d_Mo_pending_10,
   ts_iaload hC d_Mo_pending_11,
   ts_aload_n hC d_Mo_pending_12 rfl,
   ts_gr (j := 5) (C := R_Mo) (T := T_Mo) hC rfl rfl rfl (by decide) u_Mo wd_461 rfl d_Mo_pending_13,
   ts_bipush hC d_Mo_pending_16 (by decide),
   ts_iload_n hC d_Mo_pending_18 rfl,
   ts_imul hC d_Mo_pending_19,
   ts_bipush hC d_Mo_pending_20 (by decide),
   ts_iadd hC d_Mo_pending_22,
   ts_iaload hC d_Mo_pending_23,
   ts_clt hC d_Mo_pending_24 (by decide),
   ts_iconst hC d_Mo_pending_27 (by decide),
   ts_goto hC d_Mo_pending_28 (by decide),
   ts_iconst hC d_Mo_pending_31 (by decide),
   ts_aload_n hC d_Mo_pending_32 rfl,
   ts_iload_n hC d_Mo_pending_33 rfl,
   ts_callv (C := R_Mo) (T := T_Mo) hC con_Mo_isThere wd_579 wd_30 (by decide +kernel) ⟨by decide, by decide⟩ ⟨Nat.zero_le _, Nat.zero_le _⟩ wd_576 rfl rfl wd_578 wd_6 d_Mo_pending_34,
   ts_ifeq hC d_Mo_pending_37 (by decide),
   ts_iconst hC d_Mo_pending_40 (by decide),
   ts_goto hC d_Mo_pending_41 (by decide),
   ts_iconst hC d_Mo_pending_44 (by decide),
   ts_iadd hC d_Mo_pending_45,
   ts_iret hC rfl d_Mo_pending_46,
   trivial⟩
def fn_Mo_pending : tw_Fn := tw_fn 2 2 31 pr_Mo_pending
theorem con_Mo_pending : tw_Con y_Mo_pending b_Mo_pending 2 (some .int) 1 fn_Mo_pending := tw_met (by decide +kernel) (tw_fn_len (n := 2) (by decide)) (fun p l e s m args below meth c E D vs σ ρ hC h => tw_sound (ok_Mo_pending hC) 31 pr_Mo_pending (ok_Mo_pending hC) _ _ _ (tw_fn_get h))

-- TwinHostModel.place(IIZ)Z: 17 instructions, depth 1, calls Mo_guest
theorem d_Mo_place_0 : decode b_Mo_place 0 = .ok (.iload_n 1, 1) := by decide +kernel
theorem d_Mo_place_1 : decode b_Mo_place 1 = .ok (.invokestatic 62, 3) := by decide +kernel
theorem d_Mo_place_4 : decode b_Mo_place 4 = .ok (.ifCond .ne 5, 3) := by decide +kernel
theorem d_Mo_place_7 : decode b_Mo_place 7 = .ok (.iconst 0, 1) := by decide +kernel
theorem d_Mo_place_8 : decode b_Mo_place 8 = .ok (.ireturn, 1) := by decide +kernel
theorem d_Mo_place_9 : decode b_Mo_place 9 = .ok (.aload_n 0, 1) := by decide +kernel
theorem d_Mo_place_10 : decode b_Mo_place 10 = .ok (.getfield 19, 3) := by decide +kernel
theorem d_Mo_place_13 : decode b_Mo_place 13 = .ok (.iload_n 1, 1) := by decide +kernel
theorem d_Mo_place_14 : decode b_Mo_place 14 = .ok (.iload_n 2, 1) := by decide +kernel
theorem d_Mo_place_15 : decode b_Mo_place 15 = .ok (.iastore, 1) := by decide +kernel
theorem d_Mo_place_16 : decode b_Mo_place 16 = .ok (.aload_n 0, 1) := by decide +kernel
theorem d_Mo_place_17 : decode b_Mo_place 17 = .ok (.getfield 22, 3) := by decide +kernel
theorem d_Mo_place_20 : decode b_Mo_place 20 = .ok (.iload_n 1, 1) := by decide +kernel
theorem d_Mo_place_21 : decode b_Mo_place 21 = .ok (.iload_n 3, 1) := by decide +kernel
theorem d_Mo_place_22 : decode b_Mo_place 22 = .ok (.bastore, 1) := by decide +kernel
theorem d_Mo_place_23 : decode b_Mo_place 23 = .ok (.iconst 1, 1) := by decide +kernel
theorem d_Mo_place_24 : decode b_Mo_place 24 = .ok (.ireturn, 1) := by decide +kernel
def pr_Mo_place : List (Nat × tw_Op) := [(0, tw_il 1), (1, tw_cs 1 fn_Mo_guest), (4, tw_ifne 9), (7, tw_ic 0), (8, tw_rz), (9, tw_al 0), (10, tw_gr 22 26), (13, tw_il 1), (14, tw_il 2), (15, tw_ias 22 37), (16, tw_al 0), (17, tw_gr 22 27), (20, tw_il 1), (21, tw_il 3), (22, tw_zas 22 37), (23, tw_ic 1), (24, tw_rz)]
set_option maxRecDepth 100000 in
set_option maxHeartbeats 4000000 in
theorem ok_Mo_place {p : Program} {l : Launch} {e : Env} {s : State} {m : MethodId} {args : Array Value} {below : List Frame} {meth : Method} {c : Code} {E : tw_E} {D : va_G} {ρ : tw_R} (hC : tw_Cx p s m args meth c b_Mo_place 4 (some .boolean) "TwinHostModel" E D) : tw_Ok p l e (tw_rmd 1) s m args below meth c 0 0 (MQ below (tw_Qc E D ρ) args s 0 0 (tw_A E)) 4 E D ρ pr_Mo_place :=
  ⟨ts_iload_n hC d_Mo_place_0 rfl,
   ts_calls hC con_Mo_guest wd_524 wd_30 (by decide +kernel) ⟨by decide, by decide⟩ ⟨Nat.zero_le _, Nat.zero_le _⟩ wd_522 wd_523 d_Mo_place_1,
   ts_ifne hC d_Mo_place_4 (by decide),
   ts_iconst hC d_Mo_place_7 (by decide),
   ts_zret hC rfl d_Mo_place_8,
   ts_aload_n hC d_Mo_place_9 rfl,
   ts_gr (j := 6) (C := R_Mo) (T := T_Mo) hC rfl rfl rfl (by decide) u_Mo wd_462 rfl d_Mo_place_10,
   ts_iload_n hC d_Mo_place_13 rfl,
   ts_iload_n hC d_Mo_place_14 rfl,
   ts_iastore hC d_Mo_place_15,
   ts_aload_n hC d_Mo_place_16 rfl,
   ts_gr (j := 7) (C := R_Mo) (T := T_Mo) hC rfl rfl rfl (by decide) u_Mo wd_463 rfl d_Mo_place_17,
   ts_iload_n hC d_Mo_place_20 rfl,
   ts_iload_n hC d_Mo_place_21 rfl,
   ts_bastore hC d_Mo_place_22,
   ts_iconst hC d_Mo_place_23 (by decide),
   ts_zret hC rfl d_Mo_place_24,
   trivial⟩
def fn_Mo_place : tw_Fn := tw_fn 4 4 19 pr_Mo_place
theorem con_Mo_place : tw_Con y_Mo_place b_Mo_place 4 (some .boolean) 1 fn_Mo_place := tw_met (by decide +kernel) (tw_fn_len (n := 4) (by decide)) (fun p l e s m args below meth c E D vs σ ρ hC h => tw_sound (ok_Mo_place hC) 19 pr_Mo_place (ok_Mo_place hC) _ _ _ (tw_fn_get h))

-- TwinHostModel.register(II)I: 19 instructions, depth 1, calls Mo_guest
theorem d_Mo_register_0 : decode b_Mo_register 0 = .ok (.iload_n 1, 1) := by decide +kernel
theorem d_Mo_register_1 : decode b_Mo_register 1 = .ok (.invokestatic 62, 3) := by decide +kernel
theorem d_Mo_register_4 : decode b_Mo_register 4 = .ok (.ifCond .eq 27, 3) := by decide +kernel
theorem d_Mo_register_7 : decode b_Mo_register 7 = .ok (.iload_n 2, 1) := by decide +kernel
theorem d_Mo_register_8 : decode b_Mo_register 8 = .ok (.ifCond .lt 23, 3) := by decide +kernel
theorem d_Mo_register_11 : decode b_Mo_register 11 = .ok (.iload_n 2, 1) := by decide +kernel
theorem d_Mo_register_12 : decode b_Mo_register 12 = .ok (.bipush 7, 2) := by decide +kernel
theorem d_Mo_register_14 : decode b_Mo_register 14 = .ok (.if_icmp .gt 17, 3) := by decide +kernel
theorem d_Mo_register_17 : decode b_Mo_register 17 = .ok (.aload_n 0, 1) := by decide +kernel
theorem d_Mo_register_18 : decode b_Mo_register 18 = .ok (.getfield 13, 3) := by decide +kernel
theorem d_Mo_register_21 : decode b_Mo_register 21 = .ok (.bipush 8, 2) := by decide +kernel
theorem d_Mo_register_23 : decode b_Mo_register 23 = .ok (.iload_n 1, 1) := by decide +kernel
theorem d_Mo_register_24 : decode b_Mo_register 24 = .ok (.imul, 1) := by decide +kernel
theorem d_Mo_register_25 : decode b_Mo_register 25 = .ok (.iload_n 2, 1) := by decide +kernel
theorem d_Mo_register_26 : decode b_Mo_register 26 = .ok (.iadd, 1) := by decide +kernel
theorem d_Mo_register_27 : decode b_Mo_register 27 = .ok (.iaload, 1) := by decide +kernel
theorem d_Mo_register_28 : decode b_Mo_register 28 = .ok (.goto 4, 3) := by decide +kernel
theorem d_Mo_register_31 : decode b_Mo_register 31 = .ok (.iconst 0, 1) := by decide +kernel
theorem d_Mo_register_32 : decode b_Mo_register 32 = .ok (.ireturn, 1) := by decide +kernel
def pr_Mo_register : List (Nat × tw_Op) := [(0, tw_il 1), (1, tw_cs 1 fn_Mo_guest), (4, tw_ifeq 31), (7, tw_il 2), (8, tw_iflt 31), (11, tw_il 2), (12, tw_ic (7)), (14, tw_cgt 31), (17, tw_al 0), (18, tw_gr 22 24), (21, tw_ic (8)), (23, tw_il 1), (24, tw_bin (· * ·)), (25, tw_il 2), (26, tw_bin (· + ·)), (27, tw_ia), (28, tw_jmp 32), (31, tw_ic 0), (32, tw_ri)]
set_option maxRecDepth 100000 in
set_option maxHeartbeats 4000000 in
theorem ok_Mo_register {p : Program} {l : Launch} {e : Env} {s : State} {m : MethodId} {args : Array Value} {below : List Frame} {meth : Method} {c : Code} {E : tw_E} {D : va_G} {ρ : tw_R} (hC : tw_Cx p s m args meth c b_Mo_register 3 (some .int) "TwinHostModel" E D) : tw_Ok p l e (tw_rmd 1) s m args below meth c 0 0 (MQ below (tw_Qc E D ρ) args s 0 0 (tw_A E)) 3 E D ρ pr_Mo_register :=
  ⟨ts_iload_n hC d_Mo_register_0 rfl,
   ts_calls hC con_Mo_guest wd_524 wd_30 (by decide +kernel) ⟨by decide, by decide⟩ ⟨Nat.zero_le _, Nat.zero_le _⟩ wd_522 wd_523 d_Mo_register_1,
   ts_ifeq hC d_Mo_register_4 (by decide),
   ts_iload_n hC d_Mo_register_7 rfl,
   ts_iflt hC d_Mo_register_8 (by decide),
   ts_iload_n hC d_Mo_register_11 rfl,
   ts_bipush hC d_Mo_register_12 (by decide),
   ts_cgt hC d_Mo_register_14 (by decide),
   ts_aload_n hC d_Mo_register_17 rfl,
   ts_gr (j := 4) (C := R_Mo) (T := T_Mo) hC rfl rfl rfl (by decide) u_Mo wd_460 rfl d_Mo_register_18,
   ts_bipush hC d_Mo_register_21 (by decide),
   ts_iload_n hC d_Mo_register_23 rfl,
   ts_imul hC d_Mo_register_24,
   ts_iload_n hC d_Mo_register_25 rfl,
   ts_iadd hC d_Mo_register_26,
   ts_iaload hC d_Mo_register_27,
   ts_goto hC d_Mo_register_28 (by decide),
   ts_iconst hC d_Mo_register_31 (by decide),
   ts_iret hC rfl d_Mo_register_32,
   trivial⟩
def fn_Mo_register : tw_Fn := tw_fn 3 3 21 pr_Mo_register
theorem con_Mo_register : tw_Con y_Mo_register b_Mo_register 3 (some .int) 1 fn_Mo_register := tw_met (by decide +kernel) (tw_fn_len (n := 3) (by decide)) (fun p l e s m args below meth c E D vs σ ρ hC h => tw_sound (ok_Mo_register hC) 21 pr_Mo_register (ok_Mo_register hC) _ _ _ (tw_fn_get h))

-- TwinHostModel.shadow(II)I: 46 instructions, depth 1, calls Mo_guest
theorem d_Mo_shadow_0 : decode b_Mo_shadow 0 = .ok (.iload_n 1, 1) := by decide +kernel
theorem d_Mo_shadow_1 : decode b_Mo_shadow 1 = .ok (.invokestatic 62, 3) := by decide +kernel
theorem d_Mo_shadow_4 : decode b_Mo_shadow 4 = .ok (.ifCond .eq 27, 3) := by decide +kernel
theorem d_Mo_shadow_7 : decode b_Mo_shadow 7 = .ok (.iload_n 2, 1) := by decide +kernel
theorem d_Mo_shadow_8 : decode b_Mo_shadow 8 = .ok (.ifCond .lt 23, 3) := by decide +kernel
theorem d_Mo_shadow_11 : decode b_Mo_shadow 11 = .ok (.iload_n 2, 1) := by decide +kernel
theorem d_Mo_shadow_12 : decode b_Mo_shadow 12 = .ok (.bipush 15, 2) := by decide +kernel
theorem d_Mo_shadow_14 : decode b_Mo_shadow 14 = .ok (.if_icmp .gt 17, 3) := by decide +kernel
theorem d_Mo_shadow_17 : decode b_Mo_shadow 17 = .ok (.aload_n 0, 1) := by decide +kernel
theorem d_Mo_shadow_18 : decode b_Mo_shadow 18 = .ok (.getfield 38, 3) := by decide +kernel
theorem d_Mo_shadow_21 : decode b_Mo_shadow 21 = .ok (.bipush 16, 2) := by decide +kernel
theorem d_Mo_shadow_23 : decode b_Mo_shadow 23 = .ok (.iload_n 1, 1) := by decide +kernel
theorem d_Mo_shadow_24 : decode b_Mo_shadow 24 = .ok (.imul, 1) := by decide +kernel
theorem d_Mo_shadow_25 : decode b_Mo_shadow 25 = .ok (.iload_n 2, 1) := by decide +kernel
theorem d_Mo_shadow_26 : decode b_Mo_shadow 26 = .ok (.iadd, 1) := by decide +kernel
theorem d_Mo_shadow_27 : decode b_Mo_shadow 27 = .ok (.iaload, 1) := by decide +kernel
theorem d_Mo_shadow_28 : decode b_Mo_shadow 28 = .ok (.ifCond .ge 5, 3) := by decide +kernel
theorem d_Mo_shadow_31 : decode b_Mo_shadow 31 = .ok (.iconst (-1), 1) := by decide +kernel
theorem d_Mo_shadow_32 : decode b_Mo_shadow 32 = .ok (.ireturn, 1) := by decide +kernel
theorem d_Mo_shadow_33 : decode b_Mo_shadow 33 = .ok (.bipush 16, 2) := by decide +kernel
theorem d_Mo_shadow_35 : decode b_Mo_shadow 35 = .ok (.iload_n 1, 1) := by decide +kernel
theorem d_Mo_shadow_36 : decode b_Mo_shadow 36 = .ok (.imul, 1) := by decide +kernel
theorem d_Mo_shadow_37 : decode b_Mo_shadow 37 = .ok (.iload_n 2, 1) := by decide +kernel
theorem d_Mo_shadow_38 : decode b_Mo_shadow 38 = .ok (.iadd, 1) := by decide +kernel
theorem d_Mo_shadow_39 : decode b_Mo_shadow 39 = .ok (.istore_n 3, 1) := by decide +kernel
theorem d_Mo_shadow_40 : decode b_Mo_shadow 40 = .ok (.aload_n 0, 1) := by decide +kernel
theorem d_Mo_shadow_41 : decode b_Mo_shadow 41 = .ok (.getfield 38, 3) := by decide +kernel
theorem d_Mo_shadow_44 : decode b_Mo_shadow 44 = .ok (.iload_n 3, 1) := by decide +kernel
theorem d_Mo_shadow_45 : decode b_Mo_shadow 45 = .ok (.iaload, 1) := by decide +kernel
theorem d_Mo_shadow_46 : decode b_Mo_shadow 46 = .ok (.bipush 8, 2) := by decide +kernel
theorem d_Mo_shadow_48 : decode b_Mo_shadow 48 = .ok (.aload_n 0, 1) := by decide +kernel
theorem d_Mo_shadow_49 : decode b_Mo_shadow 49 = .ok (.getfield 41, 3) := by decide +kernel
theorem d_Mo_shadow_52 : decode b_Mo_shadow 52 = .ok (.iload_n 3, 1) := by decide +kernel
theorem d_Mo_shadow_53 : decode b_Mo_shadow 53 = .ok (.iaload, 1) := by decide +kernel
theorem d_Mo_shadow_54 : decode b_Mo_shadow 54 = .ok (.imul, 1) := by decide +kernel
theorem d_Mo_shadow_55 : decode b_Mo_shadow 55 = .ok (.iadd, 1) := by decide +kernel
theorem d_Mo_shadow_56 : decode b_Mo_shadow 56 = .ok (.aload_n 0, 1) := by decide +kernel
theorem d_Mo_shadow_57 : decode b_Mo_shadow 57 = .ok (.getfield 44, 3) := by decide +kernel
theorem d_Mo_shadow_60 : decode b_Mo_shadow 60 = .ok (.iload_n 3, 1) := by decide +kernel
theorem d_Mo_shadow_61 : decode b_Mo_shadow 61 = .ok (.baload, 1) := by decide +kernel
theorem d_Mo_shadow_62 : decode b_Mo_shadow 62 = .ok (.ifCond .eq 9, 3) := by decide +kernel
theorem d_Mo_shadow_65 : decode b_Mo_shadow 65 = .ok (.sipush 512, 3) := by decide +kernel
theorem d_Mo_shadow_68 : decode b_Mo_shadow 68 = .ok (.goto 4, 3) := by decide +kernel
theorem d_Mo_shadow_71 : decode b_Mo_shadow 71 = .ok (.iconst 0, 1) := by decide +kernel
theorem d_Mo_shadow_72 : decode b_Mo_shadow 72 = .ok (.iadd, 1) := by decide +kernel
theorem d_Mo_shadow_73 : decode b_Mo_shadow 73 = .ok (.ireturn, 1) := by decide +kernel
def pr_Mo_shadow : List (Nat × tw_Op) := [(0, tw_il 1), (1, tw_cs 1 fn_Mo_guest), (4, tw_ifeq 31), (7, tw_il 2), (8, tw_iflt 31), (11, tw_il 2), (12, tw_ic (15)), (14, tw_cgt 31), (17, tw_al 0), (18, tw_gr 22 32), (21, tw_ic (16)), (23, tw_il 1), (24, tw_bin (· * ·)), (25, tw_il 2), (26, tw_bin (· + ·)), (27, tw_ia), (28, tw_ifge 33), (31, tw_ic (-1)), (32, tw_ri), (33, tw_ic (16)), (35, tw_il 1), (36, tw_bin (· * ·)), (37, tw_il 2), (38, tw_bin (· + ·)), (39, tw_is 3), (40, tw_al 0), (41, tw_gr 22 32), (44, tw_il 3), (45, tw_ia), (46, tw_ic (8)), (48, tw_al 0), (49, tw_gr 22 33), (52, tw_il 3), (53, tw_ia), (54, tw_bin (· * ·)), (55, tw_bin (· + ·)), (56, tw_al 0), (57, tw_gr 22 34), (60, tw_il 3), (61, tw_za), (62, tw_ifeq 71), (65, tw_ic (512)), (68, tw_jmp 72), (71, tw_ic 0), (72, tw_bin (· + ·)), (73, tw_ri)]
set_option maxRecDepth 100000 in
set_option maxHeartbeats 4000000 in
theorem ok_Mo_shadow {p : Program} {l : Launch} {e : Env} {s : State} {m : MethodId} {args : Array Value} {below : List Frame} {meth : Method} {c : Code} {E : tw_E} {D : va_G} {ρ : tw_R} (hC : tw_Cx p s m args meth c b_Mo_shadow 4 (some .int) "TwinHostModel" E D) : tw_Ok p l e (tw_rmd 1) s m args below meth c 0 0 (MQ below (tw_Qc E D ρ) args s 0 0 (tw_A E)) 4 E D ρ pr_Mo_shadow :=
  ⟨ts_iload_n hC d_Mo_shadow_0 rfl,
   ts_calls hC con_Mo_guest wd_524 wd_30 (by decide +kernel) ⟨by decide, by decide⟩ ⟨Nat.zero_le _, Nat.zero_le _⟩ wd_522 wd_523 d_Mo_shadow_1,
   ts_ifeq hC d_Mo_shadow_4 (by decide),
   ts_iload_n hC d_Mo_shadow_7 rfl,
   ts_iflt hC d_Mo_shadow_8 (by decide),
   ts_iload_n hC d_Mo_shadow_11 rfl,
   ts_bipush hC d_Mo_shadow_12 (by decide),
   ts_cgt hC d_Mo_shadow_14 (by decide),
   ts_aload_n hC d_Mo_shadow_17 rfl,
   ts_gr (j := 12) (C := R_Mo) (T := T_Mo) hC rfl rfl rfl (by decide) u_Mo wd_468 rfl d_Mo_shadow_18,
   ts_bipush hC d_Mo_shadow_21 (by decide),
   ts_iload_n hC d_Mo_shadow_23 rfl,
   ts_imul hC d_Mo_shadow_24,
   ts_iload_n hC d_Mo_shadow_25 rfl,
   ts_iadd hC d_Mo_shadow_26,
   ts_iaload hC d_Mo_shadow_27,
   ts_ifge hC d_Mo_shadow_28 (by decide),
   ts_iconst hC d_Mo_shadow_31 (by decide),
   ts_iret hC rfl d_Mo_shadow_32,
   ts_bipush hC d_Mo_shadow_33 (by decide),
   ts_iload_n hC d_Mo_shadow_35 rfl,
   ts_imul hC d_Mo_shadow_36,
   ts_iload_n hC d_Mo_shadow_37 rfl,
   ts_iadd hC d_Mo_shadow_38,
   ts_istore_n hC d_Mo_shadow_39 rfl (by decide),
   ts_aload_n hC d_Mo_shadow_40 rfl,
   ts_gr (j := 12) (C := R_Mo) (T := T_Mo) hC rfl rfl rfl (by decide) u_Mo wd_468 rfl d_Mo_shadow_41,
   ts_iload_n hC d_Mo_shadow_44 rfl,
   ts_iaload hC d_Mo_shadow_45,
   ts_bipush hC d_Mo_shadow_46 (by decide),
   ts_aload_n hC d_Mo_shadow_48 rfl,
   ts_gr (j := 13) (C := R_Mo) (T := T_Mo) hC rfl rfl rfl (by decide) u_Mo wd_469 rfl d_Mo_shadow_49,
   ts_iload_n hC d_Mo_shadow_52 rfl,
   ts_iaload hC d_Mo_shadow_53,
   ts_imul hC d_Mo_shadow_54,
   ts_iadd hC d_Mo_shadow_55,
   ts_aload_n hC d_Mo_shadow_56 rfl,
   ts_gr (j := 14) (C := R_Mo) (T := T_Mo) hC rfl rfl rfl (by decide) u_Mo wd_470 rfl d_Mo_shadow_57,
   ts_iload_n hC d_Mo_shadow_60 rfl,
   ts_baload hC d_Mo_shadow_61,
   ts_ifeq hC d_Mo_shadow_62 (by decide),
   ts_sipush hC d_Mo_shadow_65 (by decide),
   ts_goto hC d_Mo_shadow_68 (by decide),
   ts_iconst hC d_Mo_shadow_71 (by decide),
   ts_iadd hC d_Mo_shadow_72,
   ts_iret hC rfl d_Mo_shadow_73,
   trivial⟩
def fn_Mo_shadow : tw_Fn := tw_fn 3 4 48 pr_Mo_shadow
theorem con_Mo_shadow : tw_Con y_Mo_shadow b_Mo_shadow 4 (some .int) 1 fn_Mo_shadow := tw_met (by decide +kernel) (tw_fn_len (n := 3) (by decide)) (fun p l e s m args below meth c E D vs σ ρ hC h => tw_sound (ok_Mo_shadow hC) 48 pr_Mo_shadow (ok_Mo_shadow hC) _ _ _ (tw_fn_get h))

-- TwinHostModel.traced(II)Z: 59 instructions, depth 1, calls Mo_guest
theorem d_Mo_traced_0 : decode b_Mo_traced 0 = .ok (.iload_n 1, 1) := by decide +kernel
theorem d_Mo_traced_1 : decode b_Mo_traced 1 = .ok (.invokestatic 62, 3) := by decide +kernel
theorem d_Mo_traced_4 : decode b_Mo_traced 4 = .ok (.ifCond .eq 13, 3) := by decide +kernel
theorem d_Mo_traced_7 : decode b_Mo_traced 7 = .ok (.iload_n 2, 1) := by decide +kernel
theorem d_Mo_traced_8 : decode b_Mo_traced 8 = .ok (.ifCond .lt 9, 3) := by decide +kernel
theorem d_Mo_traced_11 : decode b_Mo_traced 11 = .ok (.iload_n 2, 1) := by decide +kernel
theorem d_Mo_traced_12 : decode b_Mo_traced 12 = .ok (.bipush 7, 2) := by decide +kernel
theorem d_Mo_traced_14 : decode b_Mo_traced 14 = .ok (.if_icmp .le 5, 3) := by decide +kernel
theorem d_Mo_traced_17 : decode b_Mo_traced 17 = .ok (.iconst 0, 1) := by decide +kernel
theorem d_Mo_traced_18 : decode b_Mo_traced 18 = .ok (.ireturn, 1) := by decide +kernel
theorem d_Mo_traced_19 : decode b_Mo_traced 19 = .ok (.iconst 0, 1) := by decide +kernel
theorem d_Mo_traced_20 : decode b_Mo_traced 20 = .ok (.istore_n 3, 1) := by decide +kernel
theorem d_Mo_traced_21 : decode b_Mo_traced 21 = .ok (.bipush 16, 2) := by decide +kernel
theorem d_Mo_traced_23 : decode b_Mo_traced 23 = .ok (.iload_n 1, 1) := by decide +kernel
theorem d_Mo_traced_24 : decode b_Mo_traced 24 = .ok (.imul, 1) := by decide +kernel
theorem d_Mo_traced_25 : decode b_Mo_traced 25 = .ok (.istore 4, 2) := by decide +kernel
theorem d_Mo_traced_27 : decode b_Mo_traced 27 = .ok (.iload 4, 2) := by decide +kernel
theorem d_Mo_traced_29 : decode b_Mo_traced 29 = .ok (.bipush 16, 2) := by decide +kernel
theorem d_Mo_traced_31 : decode b_Mo_traced 31 = .ok (.iload_n 1, 1) := by decide +kernel
theorem d_Mo_traced_32 : decode b_Mo_traced 32 = .ok (.imul, 1) := by decide +kernel
theorem d_Mo_traced_33 : decode b_Mo_traced 33 = .ok (.bipush 16, 2) := by decide +kernel
theorem d_Mo_traced_35 : decode b_Mo_traced 35 = .ok (.iadd, 1) := by decide +kernel
theorem d_Mo_traced_36 : decode b_Mo_traced 36 = .ok (.if_icmp .ge 67, 3) := by decide +kernel
theorem d_Mo_traced_39 : decode b_Mo_traced 39 = .ok (.iload_n 3, 1) := by decide +kernel
theorem d_Mo_traced_40 : decode b_Mo_traced 40 = .ok (.ifCond .ne 51, 3) := by decide +kernel
theorem d_Mo_traced_43 : decode b_Mo_traced 43 = .ok (.aload_n 0, 1) := by decide +kernel
theorem d_Mo_traced_44 : decode b_Mo_traced 44 = .ok (.getfield 38, 3) := by decide +kernel
theorem d_Mo_traced_47 : decode b_Mo_traced 47 = .ok (.iload 4, 2) := by decide +kernel
theorem d_Mo_traced_49 : decode b_Mo_traced 49 = .ok (.iaload, 1) := by decide +kernel
theorem d_Mo_traced_50 : decode b_Mo_traced 50 = .ok (.ifCond .lt 45, 3) := by decide +kernel
theorem d_Mo_traced_53 : decode b_Mo_traced 53 = .ok (.aload_n 0, 1) := by decide +kernel
theorem d_Mo_traced_54 : decode b_Mo_traced 54 = .ok (.getfield 47, 3) := by decide +kernel
theorem d_Mo_traced_57 : decode b_Mo_traced 57 = .ok (.iload 4, 2) := by decide +kernel
theorem d_Mo_traced_59 : decode b_Mo_traced 59 = .ok (.iaload, 1) := by decide +kernel
theorem d_Mo_traced_60 : decode b_Mo_traced 60 = .ok (.bipush 16, 2) := by decide +kernel
theorem d_Mo_traced_62 : decode b_Mo_traced 62 = .ok (.idiv, 1) := by decide +kernel
theorem d_Mo_traced_63 : decode b_Mo_traced 63 = .ok (.iload_n 2, 1) := by decide +kernel
theorem d_Mo_traced_64 : decode b_Mo_traced 64 = .ok (.if_icmp .eq 27, 3) := by decide +kernel
theorem d_Mo_traced_67 : decode b_Mo_traced 67 = .ok (.aload_n 0, 1) := by decide +kernel
theorem d_Mo_traced_68 : decode b_Mo_traced 68 = .ok (.getfield 50, 3) := by decide +kernel
theorem d_Mo_traced_71 : decode b_Mo_traced 71 = .ok (.iload 4, 2) := by decide +kernel
theorem d_Mo_traced_73 : decode b_Mo_traced 73 = .ok (.iaload, 1) := by decide +kernel
theorem d_Mo_traced_74 : decode b_Mo_traced 74 = .ok (.ifCond .lt 21, 3) := by decide +kernel
theorem d_Mo_traced_77 : decode b_Mo_traced 77 = .ok (.aload_n 0, 1) := by decide +kernel
theorem d_Mo_traced_78 : decode b_Mo_traced 78 = .ok (.getfield 50, 3) := by decide +kernel
theorem d_Mo_traced_81 : decode b_Mo_traced 81 = .ok (.iload 4, 2) := by decide +kernel
theorem d_Mo_traced_83 : decode b_Mo_traced 83 = .ok (.iaload, 1) := by decide +kernel
theorem d_Mo_traced_84 : decode b_Mo_traced 84 = .ok (.bipush 16, 2) := by decide +kernel
theorem d_Mo_traced_86 : decode b_Mo_traced 86 = .ok (.idiv, 1) := by decide +kernel
theorem d_Mo_traced_87 : decode b_Mo_traced 87 = .ok (.iload_n 2, 1) := by decide +kernel
theorem d_Mo_traced_88 : decode b_Mo_traced 88 = .ok (.if_icmp .ne 7, 3) := by decide +kernel
theorem d_Mo_traced_91 : decode b_Mo_traced 91 = .ok (.iconst 1, 1) := by decide +kernel
theorem d_Mo_traced_92 : decode b_Mo_traced 92 = .ok (.goto 4, 3) := by decide +kernel
theorem d_Mo_traced_95 : decode b_Mo_traced 95 = .ok (.iconst 0, 1) := by decide +kernel
theorem d_Mo_traced_96 : decode b_Mo_traced 96 = .ok (.istore_n 3, 1) := by decide +kernel
theorem d_Mo_traced_97 : decode b_Mo_traced 97 = .ok (.iinc 4 1, 3) := by decide +kernel
theorem d_Mo_traced_100 : decode b_Mo_traced 100 = .ok (.goto (-73), 3) := by decide +kernel
theorem d_Mo_traced_103 : decode b_Mo_traced 103 = .ok (.iload_n 3, 1) := by decide +kernel
theorem d_Mo_traced_104 : decode b_Mo_traced 104 = .ok (.ireturn, 1) := by decide +kernel
def pr_Mo_traced : List (Nat × tw_Op) := [(0, tw_il 1), (1, tw_cs 1 fn_Mo_guest), (4, tw_ifeq 17), (7, tw_il 2), (8, tw_iflt 17), (11, tw_il 2), (12, tw_ic (7)), (14, tw_cle 19), (17, tw_ic 0), (18, tw_rz), (19, tw_ic 0), (20, tw_is 3), (21, tw_ic (16)), (23, tw_il 1), (24, tw_bin (· * ·)), (25, tw_is 4), (27, tw_il 4), (29, tw_ic (16)), (31, tw_il 1), (32, tw_bin (· * ·)), (33, tw_ic (16)), (35, tw_bin (· + ·)), (36, tw_cge 103), (39, tw_il 3), (40, tw_ifne 91), (43, tw_al 0), (44, tw_gr 22 32), (47, tw_il 4), (49, tw_ia), (50, tw_iflt 95), (53, tw_al 0), (54, tw_gr 22 35), (57, tw_il 4), (59, tw_ia), (60, tw_ic (16)), (62, tw_div), (63, tw_il 2), (64, tw_ceq 91), (67, tw_al 0), (68, tw_gr 22 36), (71, tw_il 4), (73, tw_ia), (74, tw_iflt 95), (77, tw_al 0), (78, tw_gr 22 36), (81, tw_il 4), (83, tw_ia), (84, tw_ic (16)), (86, tw_div), (87, tw_il 2), (88, tw_cne 95), (91, tw_ic 1), (92, tw_jmp 96), (95, tw_ic 0), (96, tw_is 3), (97, tw_inc 4 (1)), (100, tw_jmp 27), (103, tw_il 3), (104, tw_rz)]
set_option maxRecDepth 100000 in
set_option maxHeartbeats 4000000 in
theorem ok_Mo_traced {p : Program} {l : Launch} {e : Env} {s : State} {m : MethodId} {args : Array Value} {below : List Frame} {meth : Method} {c : Code} {E : tw_E} {D : va_G} {ρ : tw_R} (hC : tw_Cx p s m args meth c b_Mo_traced 5 (some .boolean) "TwinHostModel" E D) : tw_Ok p l e (tw_rmd 1) s m args below meth c 0 0 (MQ below (tw_Qc E D ρ) args s 0 0 (tw_A E)) 5 E D ρ pr_Mo_traced :=
  ⟨ts_iload_n hC d_Mo_traced_0 rfl,
   ts_calls hC con_Mo_guest wd_524 wd_30 (by decide +kernel) ⟨by decide, by decide⟩ ⟨Nat.zero_le _, Nat.zero_le _⟩ wd_522 wd_523 d_Mo_traced_1,
   ts_ifeq hC d_Mo_traced_4 (by decide),
   ts_iload_n hC d_Mo_traced_7 rfl,
   ts_iflt hC d_Mo_traced_8 (by decide),
   ts_iload_n hC d_Mo_traced_11 rfl,
   ts_bipush hC d_Mo_traced_12 (by decide),
   ts_cle hC d_Mo_traced_14 (by decide),
   ts_iconst hC d_Mo_traced_17 (by decide),
   ts_zret hC rfl d_Mo_traced_18,
   ts_iconst hC d_Mo_traced_19 (by decide),
   ts_istore_n hC d_Mo_traced_20 rfl (by decide),
   ts_bipush hC d_Mo_traced_21 (by decide),
   ts_iload_n hC d_Mo_traced_23 rfl,
   ts_imul hC d_Mo_traced_24,
   ts_istore hC d_Mo_traced_25 (by decide),
   ts_iload hC d_Mo_traced_27,
   ts_bipush hC d_Mo_traced_29 (by decide),
   ts_iload_n hC d_Mo_traced_31 rfl,
   ts_imul hC d_Mo_traced_32,
   ts_bipush hC d_Mo_traced_33 (by decide),
   ts_iadd hC d_Mo_traced_35,
   ts_cge hC d_Mo_traced_36 (by decide),
   ts_iload_n hC d_Mo_traced_39 rfl,
   ts_ifne hC d_Mo_traced_40 (by decide),
   ts_aload_n hC d_Mo_traced_43 rfl,
   ts_gr (j := 12) (C := R_Mo) (T := T_Mo) hC rfl rfl rfl (by decide) u_Mo wd_468 rfl d_Mo_traced_44,
   ts_iload hC d_Mo_traced_47,
   ts_iaload hC d_Mo_traced_49,
   ts_iflt hC d_Mo_traced_50 (by decide),
   ts_aload_n hC d_Mo_traced_53 rfl,
   ts_gr (j := 15) (C := R_Mo) (T := T_Mo) hC rfl rfl rfl (by decide) u_Mo wd_471 rfl d_Mo_traced_54,
   ts_iload hC d_Mo_traced_57,
   ts_iaload hC d_Mo_traced_59,
   ts_bipush hC d_Mo_traced_60 (by decide),
   ts_idiv hC d_Mo_traced_62,
   ts_iload_n hC d_Mo_traced_63 rfl,
   ts_ceq hC d_Mo_traced_64 (by decide),
   ts_aload_n hC d_Mo_traced_67 rfl,
   ts_gr (j := 16) (C := R_Mo) (T := T_Mo) hC rfl rfl rfl (by decide) u_Mo wd_472 rfl d_Mo_traced_68,
   ts_iload hC d_Mo_traced_71,
   ts_iaload hC d_Mo_traced_73,
   ts_iflt hC d_Mo_traced_74 (by decide),
   ts_aload_n hC d_Mo_traced_77 rfl,
   ts_gr (j := 16) (C := R_Mo) (T := T_Mo) hC rfl rfl rfl (by decide) u_Mo wd_472 rfl d_Mo_traced_78,
   ts_iload hC d_Mo_traced_81,
   ts_iaload hC d_Mo_traced_83,
   ts_bipush hC d_Mo_traced_84 (by decide),
   ts_idiv hC d_Mo_traced_86,
   ts_iload_n hC d_Mo_traced_87 rfl,
   ts_cne hC d_Mo_traced_88 (by decide),
   ts_iconst hC d_Mo_traced_91 (by decide),
   ts_goto hC d_Mo_traced_92 (by decide),
   ts_iconst hC d_Mo_traced_95 (by decide),
   ts_istore_n hC d_Mo_traced_96 rfl (by decide),
   ts_iinc hC d_Mo_traced_97 (by decide) (by decide),
   ts_goto hC d_Mo_traced_100 (by decide),
   ts_iload_n hC d_Mo_traced_103 rfl,
   ts_zret hC rfl d_Mo_traced_104,
   trivial⟩
def fn_Mo_traced : tw_Fn := tw_fn 3 5 1200 pr_Mo_traced
theorem con_Mo_traced : tw_Con y_Mo_traced b_Mo_traced 5 (some .boolean) 1 fn_Mo_traced := tw_met (by decide +kernel) (tw_fn_len (n := 3) (by decide)) (fun p l e s m args below meth c E D vs σ ρ hC h => tw_sound (ok_Mo_traced hC) 1200 pr_Mo_traced (ok_Mo_traced hC) _ _ _ (tw_fn_get h))

-- TwinHostModel.trap(III)V: 97 instructions, depth 1, calls Mo_add
theorem d_Mo_trap_0 : decode b_Mo_trap 0 = .ok (.bipush 12, 2) := by decide +kernel
theorem d_Mo_trap_2 : decode b_Mo_trap 2 = .ok (.iload_n 1, 1) := by decide +kernel
theorem d_Mo_trap_3 : decode b_Mo_trap 3 = .ok (.imul, 1) := by decide +kernel
theorem d_Mo_trap_4 : decode b_Mo_trap 4 = .ok (.istore 4, 2) := by decide +kernel
theorem d_Mo_trap_6 : decode b_Mo_trap 6 = .ok (.aload_n 0, 1) := by decide +kernel
theorem d_Mo_trap_7 : decode b_Mo_trap 7 = .ok (.getfield 16, 3) := by decide +kernel
theorem d_Mo_trap_10 : decode b_Mo_trap 10 = .ok (.iload 4, 2) := by decide +kernel
theorem d_Mo_trap_12 : decode b_Mo_trap 12 = .ok (.iconst 3, 1) := by decide +kernel
theorem d_Mo_trap_13 : decode b_Mo_trap 13 = .ok (.iadd, 1) := by decide +kernel
theorem d_Mo_trap_14 : decode b_Mo_trap 14 = .ok (.iload_n 2, 1) := by decide +kernel
theorem d_Mo_trap_15 : decode b_Mo_trap 15 = .ok (.iastore, 1) := by decide +kernel
theorem d_Mo_trap_16 : decode b_Mo_trap 16 = .ok (.aload_n 0, 1) := by decide +kernel
theorem d_Mo_trap_17 : decode b_Mo_trap 17 = .ok (.getfield 16, 3) := by decide +kernel
theorem d_Mo_trap_20 : decode b_Mo_trap 20 = .ok (.iload 4, 2) := by decide +kernel
theorem d_Mo_trap_22 : decode b_Mo_trap 22 = .ok (.iconst 4, 1) := by decide +kernel
theorem d_Mo_trap_23 : decode b_Mo_trap 23 = .ok (.iadd, 1) := by decide +kernel
theorem d_Mo_trap_24 : decode b_Mo_trap 24 = .ok (.iload_n 3, 1) := by decide +kernel
theorem d_Mo_trap_25 : decode b_Mo_trap 25 = .ok (.iastore, 1) := by decide +kernel
theorem d_Mo_trap_26 : decode b_Mo_trap 26 = .ok (.aload_n 0, 1) := by decide +kernel
theorem d_Mo_trap_27 : decode b_Mo_trap 27 = .ok (.getfield 16, 3) := by decide +kernel
theorem d_Mo_trap_30 : decode b_Mo_trap 30 = .ok (.iload 4, 2) := by decide +kernel
theorem d_Mo_trap_32 : decode b_Mo_trap 32 = .ok (.iconst 2, 1) := by decide +kernel
theorem d_Mo_trap_33 : decode b_Mo_trap 33 = .ok (.iadd, 1) := by decide +kernel
theorem d_Mo_trap_34 : decode b_Mo_trap 34 = .ok (.aload_n 0, 1) := by decide +kernel
theorem d_Mo_trap_35 : decode b_Mo_trap 35 = .ok (.getfield 19, 3) := by decide +kernel
theorem d_Mo_trap_38 : decode b_Mo_trap 38 = .ok (.iload_n 1, 1) := by decide +kernel
theorem d_Mo_trap_39 : decode b_Mo_trap 39 = .ok (.iaload, 1) := by decide +kernel
theorem d_Mo_trap_40 : decode b_Mo_trap 40 = .ok (.iastore, 1) := by decide +kernel
theorem d_Mo_trap_41 : decode b_Mo_trap 41 = .ok (.aload_n 0, 1) := by decide +kernel
theorem d_Mo_trap_42 : decode b_Mo_trap 42 = .ok (.getfield 16, 3) := by decide +kernel
theorem d_Mo_trap_45 : decode b_Mo_trap 45 = .ok (.iload 4, 2) := by decide +kernel
theorem d_Mo_trap_47 : decode b_Mo_trap 47 = .ok (.iaload, 1) := by decide +kernel
theorem d_Mo_trap_48 : decode b_Mo_trap 48 = .ok (.iconst 1, 1) := by decide +kernel
theorem d_Mo_trap_49 : decode b_Mo_trap 49 = .ok (.iand, 1) := by decide +kernel
theorem d_Mo_trap_50 : decode b_Mo_trap 50 = .ok (.istore 5, 2) := by decide +kernel
theorem d_Mo_trap_52 : decode b_Mo_trap 52 = .ok (.aload_n 0, 1) := by decide +kernel
theorem d_Mo_trap_53 : decode b_Mo_trap 53 = .ok (.getfield 16, 3) := by decide +kernel
theorem d_Mo_trap_56 : decode b_Mo_trap 56 = .ok (.iload 4, 2) := by decide +kernel
theorem d_Mo_trap_58 : decode b_Mo_trap 58 = .ok (.aload_n 0, 1) := by decide +kernel
theorem d_Mo_trap_59 : decode b_Mo_trap 59 = .ok (.getfield 16, 3) := by decide +kernel
theorem d_Mo_trap_62 : decode b_Mo_trap 62 = .ok (.iload 4, 2) := by decide +kernel
theorem d_Mo_trap_64 : decode b_Mo_trap 64 = .ok (.iaload, 1) := by decide +kernel
theorem d_Mo_trap_65 : decode b_Mo_trap 65 = .ok (.bipush 8, 2) := by decide +kernel
theorem d_Mo_trap_67 : decode b_Mo_trap 67 = .ok (.iand, 1) := by decide +kernel
theorem d_Mo_trap_68 : decode b_Mo_trap 68 = .ok (.iload 5, 2) := by decide +kernel
theorem d_Mo_trap_70 : decode b_Mo_trap 70 = .ok (.iconst 1, 1) := by decide +kernel
theorem d_Mo_trap_71 : decode b_Mo_trap 71 = .ok (.ishl, 1) := by decide +kernel
theorem d_Mo_trap_72 : decode b_Mo_trap 72 = .ok (.ior, 1) := by decide +kernel
theorem d_Mo_trap_73 : decode b_Mo_trap 73 = .ok (.aload_n 0, 1) := by decide +kernel
theorem d_Mo_trap_74 : decode b_Mo_trap 74 = .ok (.getfield 22, 3) := by decide +kernel
theorem d_Mo_trap_77 : decode b_Mo_trap 77 = .ok (.iload_n 1, 1) := by decide +kernel
theorem d_Mo_trap_78 : decode b_Mo_trap 78 = .ok (.baload, 1) := by decide +kernel
theorem d_Mo_trap_79 : decode b_Mo_trap 79 = .ok (.ifCond .eq 7, 3) := by decide +kernel
theorem d_Mo_trap_82 : decode b_Mo_trap 82 = .ok (.iconst 0, 1) := by decide +kernel
theorem d_Mo_trap_83 : decode b_Mo_trap 83 = .ok (.goto 4, 3) := by decide +kernel
theorem d_Mo_trap_86 : decode b_Mo_trap 86 = .ok (.iconst 4, 1) := by decide +kernel
theorem d_Mo_trap_87 : decode b_Mo_trap 87 = .ok (.ior, 1) := by decide +kernel
theorem d_Mo_trap_88 : decode b_Mo_trap 88 = .ok (.iastore, 1) := by decide +kernel
theorem d_Mo_trap_89 : decode b_Mo_trap 89 = .ok (.aload_n 0, 1) := by decide +kernel
theorem d_Mo_trap_90 : decode b_Mo_trap 90 = .ok (.getfield 22, 3) := by decide +kernel
theorem d_Mo_trap_93 : decode b_Mo_trap 93 = .ok (.iload_n 1, 1) := by decide +kernel
theorem d_Mo_trap_94 : decode b_Mo_trap 94 = .ok (.iconst 0, 1) := by decide +kernel
theorem d_Mo_trap_95 : decode b_Mo_trap 95 = .ok (.bastore, 1) := by decide +kernel
theorem d_Mo_trap_96 : decode b_Mo_trap 96 = .ok (.aload_n 0, 1) := by decide +kernel
theorem d_Mo_trap_97 : decode b_Mo_trap 97 = .ok (.getfield 19, 3) := by decide +kernel
theorem d_Mo_trap_100 : decode b_Mo_trap 100 = .ok (.iload_n 1, 1) := by decide +kernel
theorem d_Mo_trap_101 : decode b_Mo_trap 101 = .ok (.aload_n 0, 1) := by decide +kernel
theorem d_Mo_trap_102 : decode b_Mo_trap 102 = .ok (.getfield 16, 3) := by decide +kernel
theorem d_Mo_trap_105 : decode b_Mo_trap 105 = .ok (.iload 4, 2) := by decide +kernel
theorem d_Mo_trap_107 : decode b_Mo_trap 107 = .ok (.iconst 1, 1) := by decide +kernel
theorem d_Mo_trap_108 : decode b_Mo_trap 108 = .ok (.iadd, 1) := by decide +kernel
theorem d_Mo_trap_109 : decode b_Mo_trap 109 = .ok (.iaload, 1) := by decide +kernel
theorem d_Mo_trap_110 : decode b_Mo_trap 110 = .ok (.iastore, 1) := by decide +kernel
theorem d_Mo_trap_111 : decode b_Mo_trap 111 = .ok (.iload_n 2, 1) := by decide +kernel
theorem d_Mo_trap_112 : decode b_Mo_trap 112 = .ok (.iconst 1, 1) := by decide +kernel
theorem d_Mo_trap_113 : decode b_Mo_trap 113 = .ok (.if_icmp .eq 32, 3) := by decide +kernel
theorem d_Mo_trap_116 : decode b_Mo_trap 116 = .ok (.iload_n 2, 1) := by decide +kernel
theorem d_Mo_trap_117 : decode b_Mo_trap 117 = .ok (.iconst 5, 1) := by decide +kernel
theorem d_Mo_trap_118 : decode b_Mo_trap 118 = .ok (.if_icmp .eq 27, 3) := by decide +kernel
theorem d_Mo_trap_121 : decode b_Mo_trap 121 = .ok (.iload_n 2, 1) := by decide +kernel
theorem d_Mo_trap_122 : decode b_Mo_trap 122 = .ok (.bipush 7, 2) := by decide +kernel
theorem d_Mo_trap_124 : decode b_Mo_trap 124 = .ok (.if_icmp .eq 21, 3) := by decide +kernel
theorem d_Mo_trap_127 : decode b_Mo_trap 127 = .ok (.iload_n 2, 1) := by decide +kernel
theorem d_Mo_trap_128 : decode b_Mo_trap 128 = .ok (.bipush 12, 2) := by decide +kernel
theorem d_Mo_trap_130 : decode b_Mo_trap 130 = .ok (.if_icmp .eq 15, 3) := by decide +kernel
theorem d_Mo_trap_133 : decode b_Mo_trap 133 = .ok (.iload_n 2, 1) := by decide +kernel
theorem d_Mo_trap_134 : decode b_Mo_trap 134 = .ok (.bipush 13, 2) := by decide +kernel
theorem d_Mo_trap_136 : decode b_Mo_trap 136 = .ok (.if_icmp .eq 9, 3) := by decide +kernel
theorem d_Mo_trap_139 : decode b_Mo_trap 139 = .ok (.iload_n 2, 1) := by decide +kernel
theorem d_Mo_trap_140 : decode b_Mo_trap 140 = .ok (.bipush 15, 2) := by decide +kernel
theorem d_Mo_trap_142 : decode b_Mo_trap 142 = .ok (.if_icmp .ne 10, 3) := by decide +kernel
theorem d_Mo_trap_145 : decode b_Mo_trap 145 = .ok (.aload_n 0, 1) := by decide +kernel
theorem d_Mo_trap_146 : decode b_Mo_trap 146 = .ok (.iload_n 1, 1) := by decide +kernel
theorem d_Mo_trap_147 : decode b_Mo_trap 147 = .ok (.iconst 2, 1) := by decide +kernel
theorem d_Mo_trap_148 : decode b_Mo_trap 148 = .ok (.iconst 1, 1) := by decide +kernel
theorem d_Mo_trap_149 : decode b_Mo_trap 149 = .ok (.invokevirtual 58, 3) := by decide +kernel
theorem d_Mo_trap_152 : decode b_Mo_trap 152 = .ok (.return_, 1) := by decide +kernel
def pr_Mo_trap : List (Nat × tw_Op) := [(0, tw_ic (12)), (2, tw_il 1), (3, tw_bin (· * ·)), (4, tw_is 4), (6, tw_al 0), (7, tw_gr 22 25), (10, tw_il 4), (12, tw_ic 3), (13, tw_bin (· + ·)), (14, tw_il 2), (15, tw_ias 22 37), (16, tw_al 0), (17, tw_gr 22 25), (20, tw_il 4), (22, tw_ic 4), (23, tw_bin (· + ·)), (24, tw_il 3), (25, tw_ias 22 37), (26, tw_al 0), (27, tw_gr 22 25), (30, tw_il 4), (32, tw_ic 2), (33, tw_bin (· + ·)), (34, tw_al 0), (35, tw_gr 22 26), (38, tw_il 1), (39, tw_ia), (40, tw_ias 22 37), (41, tw_al 0), (42, tw_gr 22 25), (45, tw_il 4), (47, tw_ia), (48, tw_ic 1), (49, tw_bin (· &&& ·)), (50, tw_is 5), (52, tw_al 0), (53, tw_gr 22 25), (56, tw_il 4), (58, tw_al 0), (59, tw_gr 22 25), (62, tw_il 4), (64, tw_ia), (65, tw_ic (8)), (67, tw_bin (· &&& ·)), (68, tw_il 5), (70, tw_ic 1), (71, tw_bin (fun x y => x <<< (y &&& 31))), (72, tw_bin (· ||| ·)), (73, tw_al 0), (74, tw_gr 22 27), (77, tw_il 1), (78, tw_za), (79, tw_ifeq 86), (82, tw_ic 0), (83, tw_jmp 87), (86, tw_ic 4), (87, tw_bin (· ||| ·)), (88, tw_ias 22 37), (89, tw_al 0), (90, tw_gr 22 27), (93, tw_il 1), (94, tw_ic 0), (95, tw_zas 22 37), (96, tw_al 0), (97, tw_gr 22 26), (100, tw_il 1), (101, tw_al 0), (102, tw_gr 22 25), (105, tw_il 4), (107, tw_ic 1), (108, tw_bin (· + ·)), (109, tw_ia), (110, tw_ias 22 37), (111, tw_il 2), (112, tw_ic 1), (113, tw_ceq 145), (116, tw_il 2), (117, tw_ic 5), (118, tw_ceq 145), (121, tw_il 2), (122, tw_ic (7)), (124, tw_ceq 145), (127, tw_il 2), (128, tw_ic (12)), (130, tw_ceq 145), (133, tw_il 2), (134, tw_ic (13)), (136, tw_ceq 145), (139, tw_il 2), (140, tw_ic (15)), (142, tw_cne 152), (145, tw_al 0), (146, tw_il 1), (147, tw_ic 2), (148, tw_ic 1), (149, tw_cv 3 22 fn_Mo_add), (152, tw_r0)]
set_option maxRecDepth 100000 in
set_option maxHeartbeats 4000000 in
theorem ok_Mo_trap {p : Program} {l : Launch} {e : Env} {s : State} {m : MethodId} {args : Array Value} {below : List Frame} {meth : Method} {c : Code} {E : tw_E} {D : va_G} {ρ : tw_R} (hC : tw_Cx p s m args meth c b_Mo_trap 6 none "TwinHostModel" E D) : tw_Ok p l e (tw_rmd 1) s m args below meth c 0 0 (MQ below (tw_Qc E D ρ) args s 0 0 (tw_A E)) 6 E D ρ pr_Mo_trap :=
  ⟨ts_bipush hC d_Mo_trap_0 (by decide),
   ts_iload_n hC d_Mo_trap_2 rfl,
   ts_imul hC d_Mo_trap_3,
   ts_istore hC d_Mo_trap_4 (by decide),
   ts_aload_n hC d_Mo_trap_6 rfl,
   ts_gr (j := 5) (C := R_Mo) (T := T_Mo) hC rfl rfl rfl (by decide) u_Mo wd_461 rfl d_Mo_trap_7,
   ts_iload hC d_Mo_trap_10,
   ts_iconst hC d_Mo_trap_12 (by decide),
   ts_iadd hC d_Mo_trap_13,
   ts_iload_n hC d_Mo_trap_14 rfl,
   ts_iastore hC d_Mo_trap_15,
   ts_aload_n hC d_Mo_trap_16 rfl,
   ts_gr (j := 5) (C := R_Mo) (T := T_Mo) hC rfl rfl rfl (by decide) u_Mo wd_461 rfl d_Mo_trap_17,
   ts_iload hC d_Mo_trap_20,
   ts_iconst hC d_Mo_trap_22 (by decide),
   ts_iadd hC d_Mo_trap_23,
   ts_iload_n hC d_Mo_trap_24 rfl,
   ts_iastore hC d_Mo_trap_25,
   ts_aload_n hC d_Mo_trap_26 rfl,
   ts_gr (j := 5) (C := R_Mo) (T := T_Mo) hC rfl rfl rfl (by decide) u_Mo wd_461 rfl d_Mo_trap_27,
   ts_iload hC d_Mo_trap_30,
   ts_iconst hC d_Mo_trap_32 (by decide),
   ts_iadd hC d_Mo_trap_33,
   ts_aload_n hC d_Mo_trap_34 rfl,
   ts_gr (j := 6) (C := R_Mo) (T := T_Mo) hC rfl rfl rfl (by decide) u_Mo wd_462 rfl d_Mo_trap_35,
   ts_iload_n hC d_Mo_trap_38 rfl,
   ts_iaload hC d_Mo_trap_39,
   ts_iastore hC d_Mo_trap_40,
   ts_aload_n hC d_Mo_trap_41 rfl,
   ts_gr (j := 5) (C := R_Mo) (T := T_Mo) hC rfl rfl rfl (by decide) u_Mo wd_461 rfl d_Mo_trap_42,
   ts_iload hC d_Mo_trap_45,
   ts_iaload hC d_Mo_trap_47,
   ts_iconst hC d_Mo_trap_48 (by decide),
   ts_iand hC d_Mo_trap_49,
   ts_istore hC d_Mo_trap_50 (by decide),
   ts_aload_n hC d_Mo_trap_52 rfl,
   ts_gr (j := 5) (C := R_Mo) (T := T_Mo) hC rfl rfl rfl (by decide) u_Mo wd_461 rfl d_Mo_trap_53,
   ts_iload hC d_Mo_trap_56,
   ts_aload_n hC d_Mo_trap_58 rfl,
   ts_gr (j := 5) (C := R_Mo) (T := T_Mo) hC rfl rfl rfl (by decide) u_Mo wd_461 rfl d_Mo_trap_59,
   ts_iload hC d_Mo_trap_62,
   ts_iaload hC d_Mo_trap_64,
   ts_bipush hC d_Mo_trap_65 (by decide),
   ts_iand hC d_Mo_trap_67,
   ts_iload hC d_Mo_trap_68,
   ts_iconst hC d_Mo_trap_70 (by decide),
   ts_ishl hC d_Mo_trap_71,
   ts_ior hC d_Mo_trap_72,
   ts_aload_n hC d_Mo_trap_73 rfl,
   ts_gr (j := 7) (C := R_Mo) (T := T_Mo) hC rfl rfl rfl (by decide) u_Mo wd_463 rfl d_Mo_trap_74,
   ts_iload_n hC d_Mo_trap_77 rfl,
   ts_baload hC d_Mo_trap_78,
   ts_ifeq hC d_Mo_trap_79 (by decide),
   ts_iconst hC d_Mo_trap_82 (by decide),
   ts_goto hC d_Mo_trap_83 (by decide),
   ts_iconst hC d_Mo_trap_86 (by decide),
   ts_ior hC d_Mo_trap_87,
   ts_iastore hC d_Mo_trap_88,
   ts_aload_n hC d_Mo_trap_89 rfl,
   ts_gr (j := 7) (C := R_Mo) (T := T_Mo) hC rfl rfl rfl (by decide) u_Mo wd_463 rfl d_Mo_trap_90,
   ts_iload_n hC d_Mo_trap_93 rfl,
   ts_iconst hC d_Mo_trap_94 (by decide),
   ts_bastore hC d_Mo_trap_95,
   ts_aload_n hC d_Mo_trap_96 rfl,
   ts_gr (j := 6) (C := R_Mo) (T := T_Mo) hC rfl rfl rfl (by decide) u_Mo wd_462 rfl d_Mo_trap_97,
   ts_iload_n hC d_Mo_trap_100 rfl,
   ts_aload_n hC d_Mo_trap_101 rfl,
   ts_gr (j := 5) (C := R_Mo) (T := T_Mo) hC rfl rfl rfl (by decide) u_Mo wd_461 rfl d_Mo_trap_102,
   ts_iload hC d_Mo_trap_105,
   ts_iconst hC d_Mo_trap_107 (by decide),
   ts_iadd hC d_Mo_trap_108,
   ts_iaload hC d_Mo_trap_109,
   ts_iastore hC d_Mo_trap_110,
   ts_iload_n hC d_Mo_trap_111 rfl,
   ts_iconst hC d_Mo_trap_112 (by decide),
   ts_ceq hC d_Mo_trap_113 (by decide),
   ts_iload_n hC d_Mo_trap_116 rfl,
   ts_iconst hC d_Mo_trap_117 (by decide),
   ts_ceq hC d_Mo_trap_118 (by decide),
   ts_iload_n hC d_Mo_trap_121 rfl,
   ts_bipush hC d_Mo_trap_122 (by decide),
   ts_ceq hC d_Mo_trap_124 (by decide),
   ts_iload_n hC d_Mo_trap_127 rfl,
   ts_bipush hC d_Mo_trap_128 (by decide),
   ts_ceq hC d_Mo_trap_130 (by decide),
   ts_iload_n hC d_Mo_trap_133 rfl,
   ts_bipush hC d_Mo_trap_134 (by decide),
   ts_ceq hC d_Mo_trap_136 (by decide),
   ts_iload_n hC d_Mo_trap_139 rfl,
   ts_bipush hC d_Mo_trap_140 (by decide),
   ts_cne hC d_Mo_trap_142 (by decide),
   ts_aload_n hC d_Mo_trap_145 rfl,
   ts_iload_n hC d_Mo_trap_146 rfl,
   ts_iconst hC d_Mo_trap_147 (by decide),
   ts_iconst hC d_Mo_trap_148 (by decide),
   ts_callv (C := R_Mo) (T := T_Mo) hC con_Mo_add wd_540 wd_30 (by decide +kernel) ⟨by decide, by decide⟩ ⟨Nat.zero_le _, Nat.zero_le _⟩ wd_537 rfl rfl wd_539 wd_2 d_Mo_trap_149,
   ts_vret hC rfl d_Mo_trap_152,
   trivial⟩
def fn_Mo_trap : tw_Fn := tw_fn 4 6 99 pr_Mo_trap
theorem con_Mo_trap : tw_Con y_Mo_trap b_Mo_trap 6 none 1 fn_Mo_trap := tw_met (by decide +kernel) (tw_fn_len (n := 4) (by decide)) (fun p l e s m args below meth c E D vs σ ρ hC h => tw_sound (ok_Mo_trap hC) 99 pr_Mo_trap (ok_Mo_trap hC) _ _ _ (tw_fn_get h))

-- TwinHostModel.user(I)Z: 12 instructions, depth 1, calls Mo_guest
theorem d_Mo_user_0 : decode b_Mo_user 0 = .ok (.iload_n 1, 1) := by decide +kernel
theorem d_Mo_user_1 : decode b_Mo_user 1 = .ok (.invokestatic 62, 3) := by decide +kernel
theorem d_Mo_user_4 : decode b_Mo_user 4 = .ok (.ifCond .eq 16, 3) := by decide +kernel
theorem d_Mo_user_7 : decode b_Mo_user 7 = .ok (.aload_n 0, 1) := by decide +kernel
theorem d_Mo_user_8 : decode b_Mo_user 8 = .ok (.getfield 22, 3) := by decide +kernel
theorem d_Mo_user_11 : decode b_Mo_user 11 = .ok (.iload_n 1, 1) := by decide +kernel
theorem d_Mo_user_12 : decode b_Mo_user 12 = .ok (.baload, 1) := by decide +kernel
theorem d_Mo_user_13 : decode b_Mo_user 13 = .ok (.ifCond .eq 7, 3) := by decide +kernel
theorem d_Mo_user_16 : decode b_Mo_user 16 = .ok (.iconst 1, 1) := by decide +kernel
theorem d_Mo_user_17 : decode b_Mo_user 17 = .ok (.goto 4, 3) := by decide +kernel
theorem d_Mo_user_20 : decode b_Mo_user 20 = .ok (.iconst 0, 1) := by decide +kernel
theorem d_Mo_user_21 : decode b_Mo_user 21 = .ok (.ireturn, 1) := by decide +kernel
def pr_Mo_user : List (Nat × tw_Op) := [(0, tw_il 1), (1, tw_cs 1 fn_Mo_guest), (4, tw_ifeq 20), (7, tw_al 0), (8, tw_gr 22 27), (11, tw_il 1), (12, tw_za), (13, tw_ifeq 20), (16, tw_ic 1), (17, tw_jmp 21), (20, tw_ic 0), (21, tw_rz)]
set_option maxRecDepth 100000 in
set_option maxHeartbeats 4000000 in
theorem ok_Mo_user {p : Program} {l : Launch} {e : Env} {s : State} {m : MethodId} {args : Array Value} {below : List Frame} {meth : Method} {c : Code} {E : tw_E} {D : va_G} {ρ : tw_R} (hC : tw_Cx p s m args meth c b_Mo_user 2 (some .boolean) "TwinHostModel" E D) : tw_Ok p l e (tw_rmd 1) s m args below meth c 0 0 (MQ below (tw_Qc E D ρ) args s 0 0 (tw_A E)) 2 E D ρ pr_Mo_user :=
  ⟨ts_iload_n hC d_Mo_user_0 rfl,
   ts_calls hC con_Mo_guest wd_524 wd_30 (by decide +kernel) ⟨by decide, by decide⟩ ⟨Nat.zero_le _, Nat.zero_le _⟩ wd_522 wd_523 d_Mo_user_1,
   ts_ifeq hC d_Mo_user_4 (by decide),
   ts_aload_n hC d_Mo_user_7 rfl,
   ts_gr (j := 7) (C := R_Mo) (T := T_Mo) hC rfl rfl rfl (by decide) u_Mo wd_463 rfl d_Mo_user_8,
   ts_iload_n hC d_Mo_user_11 rfl,
   ts_baload hC d_Mo_user_12,
   ts_ifeq hC d_Mo_user_13 (by decide),
   ts_iconst hC d_Mo_user_16 (by decide),
   ts_goto hC d_Mo_user_17 (by decide),
   ts_iconst hC d_Mo_user_20 (by decide),
   ts_zret hC rfl d_Mo_user_21,
   trivial⟩
def fn_Mo_user : tw_Fn := tw_fn 2 2 14 pr_Mo_user
theorem con_Mo_user : tw_Con y_Mo_user b_Mo_user 2 (some .boolean) 1 fn_Mo_user := tw_met (by decide +kernel) (tw_fn_len (n := 2) (by decide)) (fun p l e s m args below meth c E D vs σ ρ hC h => tw_sound (ok_Mo_user hC) 14 pr_Mo_user (ok_Mo_user hC) _ _ _ (tw_fn_get h))
end
section
-- TwinHostModel.assign(III)V: 36 instructions, depth 2, calls Mo_flush
theorem d_Mo_assign_0 : decode b_Mo_assign 0 = .ok (.aload_n 0, 1) := by decide +kernel
theorem d_Mo_assign_1 : decode b_Mo_assign 1 = .ok (.getfield 16, 3) := by decide +kernel
theorem d_Mo_assign_4 : decode b_Mo_assign 4 = .ok (.bipush 12, 2) := by decide +kernel
theorem d_Mo_assign_6 : decode b_Mo_assign 6 = .ok (.iload_n 1, 1) := by decide +kernel
theorem d_Mo_assign_7 : decode b_Mo_assign 7 = .ok (.imul, 1) := by decide +kernel
theorem d_Mo_assign_8 : decode b_Mo_assign 8 = .ok (.iload_n 2, 1) := by decide +kernel
theorem d_Mo_assign_9 : decode b_Mo_assign 9 = .ok (.iadd, 1) := by decide +kernel
theorem d_Mo_assign_10 : decode b_Mo_assign 10 = .ok (.iload_n 2, 1) := by decide +kernel
theorem d_Mo_assign_11 : decode b_Mo_assign 11 = .ok (.ifCond .ne 10, 3) := by decide +kernel
theorem d_Mo_assign_14 : decode b_Mo_assign 14 = .ok (.iload_n 3, 1) := by decide +kernel
theorem d_Mo_assign_15 : decode b_Mo_assign 15 = .ok (.bipush 15, 2) := by decide +kernel
theorem d_Mo_assign_17 : decode b_Mo_assign 17 = .ok (.iand, 1) := by decide +kernel
theorem d_Mo_assign_18 : decode b_Mo_assign 18 = .ok (.goto 30, 3) := by decide +kernel
theorem d_Mo_assign_21 : decode b_Mo_assign 21 = .ok (.iload_n 2, 1) := by decide +kernel
theorem d_Mo_assign_22 : decode b_Mo_assign 22 = .ok (.bipush 6, 2) := by decide +kernel
theorem d_Mo_assign_24 : decode b_Mo_assign 24 = .ok (.if_icmp .ne 11, 3) := by decide +kernel
theorem d_Mo_assign_27 : decode b_Mo_assign 27 = .ok (.iload_n 3, 1) := by decide +kernel
theorem d_Mo_assign_28 : decode b_Mo_assign 28 = .ok (.sipush 143, 3) := by decide +kernel
theorem d_Mo_assign_31 : decode b_Mo_assign 31 = .ok (.iand, 1) := by decide +kernel
theorem d_Mo_assign_32 : decode b_Mo_assign 32 = .ok (.goto 16, 3) := by decide +kernel
theorem d_Mo_assign_35 : decode b_Mo_assign 35 = .ok (.iload_n 2, 1) := by decide +kernel
theorem d_Mo_assign_36 : decode b_Mo_assign 36 = .ok (.bipush 7, 2) := by decide +kernel
theorem d_Mo_assign_38 : decode b_Mo_assign 38 = .ok (.if_icmp .ne 9, 3) := by decide +kernel
theorem d_Mo_assign_41 : decode b_Mo_assign 41 = .ok (.iload_n 3, 1) := by decide +kernel
theorem d_Mo_assign_42 : decode b_Mo_assign 42 = .ok (.iconst 3, 1) := by decide +kernel
theorem d_Mo_assign_43 : decode b_Mo_assign 43 = .ok (.iand, 1) := by decide +kernel
theorem d_Mo_assign_44 : decode b_Mo_assign 44 = .ok (.goto 4, 3) := by decide +kernel
theorem d_Mo_assign_47 : decode b_Mo_assign 47 = .ok (.iload_n 3, 1) := by decide +kernel
theorem d_Mo_assign_48 : decode b_Mo_assign 48 = .ok (.iastore, 1) := by decide +kernel
theorem d_Mo_assign_49 : decode b_Mo_assign 49 = .ok (.iload_n 2, 1) := by decide +kernel
theorem d_Mo_assign_50 : decode b_Mo_assign 50 = .ok (.bipush 6, 2) := by decide +kernel
theorem d_Mo_assign_52 : decode b_Mo_assign 52 = .ok (.if_icmp .ne 8, 3) := by decide +kernel
theorem d_Mo_assign_55 : decode b_Mo_assign 55 = .ok (.aload_n 0, 1) := by decide +kernel
theorem d_Mo_assign_56 : decode b_Mo_assign 56 = .ok (.iload_n 1, 1) := by decide +kernel
theorem d_Mo_assign_57 : decode b_Mo_assign 57 = .ok (.invokevirtual 73, 3) := by decide +kernel
theorem d_Mo_assign_60 : decode b_Mo_assign 60 = .ok (.return_, 1) := by decide +kernel
def pr_Mo_assign : List (Nat × tw_Op) := [(0, tw_al 0), (1, tw_gr 22 25), (4, tw_ic (12)), (6, tw_il 1), (7, tw_bin (· * ·)), (8, tw_il 2), (9, tw_bin (· + ·)), (10, tw_il 2), (11, tw_ifne 21), (14, tw_il 3), (15, tw_ic (15)), (17, tw_bin (· &&& ·)), (18, tw_jmp 48), (21, tw_il 2), (22, tw_ic (6)), (24, tw_cne 35), (27, tw_il 3), (28, tw_ic (143)), (31, tw_bin (· &&& ·)), (32, tw_jmp 48), (35, tw_il 2), (36, tw_ic (7)), (38, tw_cne 47), (41, tw_il 3), (42, tw_ic 3), (43, tw_bin (· &&& ·)), (44, tw_jmp 48), (47, tw_il 3), (48, tw_ias 22 37), (49, tw_il 2), (50, tw_ic (6)), (52, tw_cne 60), (55, tw_al 0), (56, tw_il 1), (57, tw_cv 1 22 fn_Mo_flush), (60, tw_r0)]
set_option maxRecDepth 100000 in
set_option maxHeartbeats 4000000 in
theorem ok_Mo_assign {p : Program} {l : Launch} {e : Env} {s : State} {m : MethodId} {args : Array Value} {below : List Frame} {meth : Method} {c : Code} {E : tw_E} {D : va_G} {ρ : tw_R} (hC : tw_Cx p s m args meth c b_Mo_assign 4 none "TwinHostModel" E D) : tw_Ok p l e (tw_rmd 2) s m args below meth c 0 0 (MQ below (tw_Qc E D ρ) args s 0 0 (tw_A E)) 4 E D ρ pr_Mo_assign :=
  ⟨ts_aload_n hC d_Mo_assign_0 rfl,
   ts_gr (j := 5) (C := R_Mo) (T := T_Mo) hC rfl rfl rfl (by decide) u_Mo wd_461 rfl d_Mo_assign_1,
   ts_bipush hC d_Mo_assign_4 (by decide),
   ts_iload_n hC d_Mo_assign_6 rfl,
   ts_imul hC d_Mo_assign_7,
   ts_iload_n hC d_Mo_assign_8 rfl,
   ts_iadd hC d_Mo_assign_9,
   ts_iload_n hC d_Mo_assign_10 rfl,
   ts_ifne hC d_Mo_assign_11 (by decide),
   ts_iload_n hC d_Mo_assign_14 rfl,
   ts_bipush hC d_Mo_assign_15 (by decide),
   ts_iand hC d_Mo_assign_17,
   ts_goto hC d_Mo_assign_18 (by decide),
   ts_iload_n hC d_Mo_assign_21 rfl,
   ts_bipush hC d_Mo_assign_22 (by decide),
   ts_cne hC d_Mo_assign_24 (by decide),
   ts_iload_n hC d_Mo_assign_27 rfl,
   ts_sipush hC d_Mo_assign_28 (by decide),
   ts_iand hC d_Mo_assign_31,
   ts_goto hC d_Mo_assign_32 (by decide),
   ts_iload_n hC d_Mo_assign_35 rfl,
   ts_bipush hC d_Mo_assign_36 (by decide),
   ts_cne hC d_Mo_assign_38 (by decide),
   ts_iload_n hC d_Mo_assign_41 rfl,
   ts_iconst hC d_Mo_assign_42 (by decide),
   ts_iand hC d_Mo_assign_43,
   ts_goto hC d_Mo_assign_44 (by decide),
   ts_iload_n hC d_Mo_assign_47 rfl,
   ts_iastore hC d_Mo_assign_48,
   ts_iload_n hC d_Mo_assign_49 rfl,
   ts_bipush hC d_Mo_assign_50 (by decide),
   ts_cne hC d_Mo_assign_52 (by decide),
   ts_aload_n hC d_Mo_assign_55 rfl,
   ts_iload_n hC d_Mo_assign_56 rfl,
   ts_callv (C := R_Mo) (T := T_Mo) hC con_Mo_flush wd_571 wd_30 (by decide +kernel) ⟨by decide, by decide⟩ ⟨Nat.zero_le _, Nat.zero_le _⟩ wd_568 rfl rfl wd_570 wd_5 d_Mo_assign_57,
   ts_vret hC rfl d_Mo_assign_60,
   trivial⟩
def fn_Mo_assign : tw_Fn := tw_fn 4 4 38 pr_Mo_assign
theorem con_Mo_assign : tw_Con y_Mo_assign b_Mo_assign 4 none 2 fn_Mo_assign := tw_met (by decide +kernel) (tw_fn_len (n := 4) (by decide)) (fun p l e s m args below meth c E D vs σ ρ hC h => tw_sound (ok_Mo_assign hC) 38 pr_Mo_assign (ok_Mo_assign hC) _ _ _ (tw_fn_get h))

-- TwinHostModel.control(II)I: 42 instructions, depth 2, calls Mo_guest Mo_isThere Mo_pending
theorem d_Mo_control_0 : decode b_Mo_control 0 = .ok (.iload_n 1, 1) := by decide +kernel
theorem d_Mo_control_1 : decode b_Mo_control 1 = .ok (.invokestatic 62, 3) := by decide +kernel
theorem d_Mo_control_4 : decode b_Mo_control 4 = .ok (.ifCond .eq 13, 3) := by decide +kernel
theorem d_Mo_control_7 : decode b_Mo_control 7 = .ok (.iload_n 2, 1) := by decide +kernel
theorem d_Mo_control_8 : decode b_Mo_control 8 = .ok (.ifCond .lt 9, 3) := by decide +kernel
theorem d_Mo_control_11 : decode b_Mo_control 11 = .ok (.iload_n 2, 1) := by decide +kernel
theorem d_Mo_control_12 : decode b_Mo_control 12 = .ok (.bipush 11, 2) := by decide +kernel
theorem d_Mo_control_14 : decode b_Mo_control 14 = .ok (.if_icmp .le 5, 3) := by decide +kernel
theorem d_Mo_control_17 : decode b_Mo_control 17 = .ok (.iconst 0, 1) := by decide +kernel
theorem d_Mo_control_18 : decode b_Mo_control 18 = .ok (.ireturn, 1) := by decide +kernel
theorem d_Mo_control_19 : decode b_Mo_control 19 = .ok (.iload_n 2, 1) := by decide +kernel
theorem d_Mo_control_20 : decode b_Mo_control 20 = .ok (.bipush 11, 2) := by decide +kernel
theorem d_Mo_control_22 : decode b_Mo_control 22 = .ok (.if_icmp .ne 25, 3) := by decide +kernel
theorem d_Mo_control_25 : decode b_Mo_control 25 = .ok (.aload_n 0, 1) := by decide +kernel
theorem d_Mo_control_26 : decode b_Mo_control 26 = .ok (.iload_n 1, 1) := by decide +kernel
theorem d_Mo_control_27 : decode b_Mo_control 27 = .ok (.invokevirtual 83, 3) := by decide +kernel
theorem d_Mo_control_30 : decode b_Mo_control 30 = .ok (.ifCond .eq 15, 3) := by decide +kernel
theorem d_Mo_control_33 : decode b_Mo_control 33 = .ok (.aload_n 0, 1) := by decide +kernel
theorem d_Mo_control_34 : decode b_Mo_control 34 = .ok (.getfield 32, 3) := by decide +kernel
theorem d_Mo_control_37 : decode b_Mo_control 37 = .ok (.bipush 6, 2) := by decide +kernel
theorem d_Mo_control_39 : decode b_Mo_control 39 = .ok (.iload_n 1, 1) := by decide +kernel
theorem d_Mo_control_40 : decode b_Mo_control 40 = .ok (.imul, 1) := by decide +kernel
theorem d_Mo_control_41 : decode b_Mo_control 41 = .ok (.iaload, 1) := by decide +kernel
theorem d_Mo_control_42 : decode b_Mo_control 42 = .ok (.goto 4, 3) := by decide +kernel
theorem d_Mo_control_45 : decode b_Mo_control 45 = .ok (.iconst 0, 1) := by decide +kernel
theorem d_Mo_control_46 : decode b_Mo_control 46 = .ok (.ireturn, 1) := by decide +kernel
theorem d_Mo_control_47 : decode b_Mo_control 47 = .ok (.iload_n 2, 1) := by decide +kernel
theorem d_Mo_control_48 : decode b_Mo_control 48 = .ok (.bipush 8, 2) := by decide +kernel
theorem d_Mo_control_50 : decode b_Mo_control 50 = .ok (.if_icmp .ne 11, 3) := by decide +kernel
theorem d_Mo_control_53 : decode b_Mo_control 53 = .ok (.aload_n 0, 1) := by decide +kernel
theorem d_Mo_control_54 : decode b_Mo_control 54 = .ok (.iload_n 1, 1) := by decide +kernel
theorem d_Mo_control_55 : decode b_Mo_control 55 = .ok (.invokevirtual 86, 3) := by decide +kernel
theorem d_Mo_control_58 : decode b_Mo_control 58 = .ok (.goto 14, 3) := by decide +kernel
theorem d_Mo_control_61 : decode b_Mo_control 61 = .ok (.aload_n 0, 1) := by decide +kernel
theorem d_Mo_control_62 : decode b_Mo_control 62 = .ok (.getfield 16, 3) := by decide +kernel
theorem d_Mo_control_65 : decode b_Mo_control 65 = .ok (.bipush 12, 2) := by decide +kernel
theorem d_Mo_control_67 : decode b_Mo_control 67 = .ok (.iload_n 1, 1) := by decide +kernel
theorem d_Mo_control_68 : decode b_Mo_control 68 = .ok (.imul, 1) := by decide +kernel
theorem d_Mo_control_69 : decode b_Mo_control 69 = .ok (.iload_n 2, 1) := by decide +kernel
theorem d_Mo_control_70 : decode b_Mo_control 70 = .ok (.iadd, 1) := by decide +kernel
theorem d_Mo_control_71 : decode b_Mo_control 71 = .ok (.iaload, 1) := by decide +kernel
theorem d_Mo_control_72 : decode b_Mo_control 72 = .ok (.ireturn, 1) := by decide +kernel
def pr_Mo_control : List (Nat × tw_Op) := [(0, tw_il 1), (1, tw_cs 1 fn_Mo_guest), (4, tw_ifeq 17), (7, tw_il 2), (8, tw_iflt 17), (11, tw_il 2), (12, tw_ic (11)), (14, tw_cle 19), (17, tw_ic 0), (18, tw_ri), (19, tw_il 2), (20, tw_ic (11)), (22, tw_cne 47), (25, tw_al 0), (26, tw_il 1), (27, tw_cv 1 22 fn_Mo_isThere), (30, tw_ifeq 45), (33, tw_al 0), (34, tw_gr 22 30), (37, tw_ic (6)), (39, tw_il 1), (40, tw_bin (· * ·)), (41, tw_ia), (42, tw_jmp 46), (45, tw_ic 0), (46, tw_ri), (47, tw_il 2), (48, tw_ic (8)), (50, tw_cne 61), (53, tw_al 0), (54, tw_il 1), (55, tw_cv 1 22 fn_Mo_pending), (58, tw_jmp 72), (61, tw_al 0), (62, tw_gr 22 25), (65, tw_ic (12)), (67, tw_il 1), (68, tw_bin (· * ·)), (69, tw_il 2), (70, tw_bin (· + ·)), (71, tw_ia), (72, tw_ri)]
set_option maxRecDepth 100000 in
set_option maxHeartbeats 4000000 in
theorem ok_Mo_control {p : Program} {l : Launch} {e : Env} {s : State} {m : MethodId} {args : Array Value} {below : List Frame} {meth : Method} {c : Code} {E : tw_E} {D : va_G} {ρ : tw_R} (hC : tw_Cx p s m args meth c b_Mo_control 3 (some .int) "TwinHostModel" E D) : tw_Ok p l e (tw_rmd 2) s m args below meth c 0 0 (MQ below (tw_Qc E D ρ) args s 0 0 (tw_A E)) 3 E D ρ pr_Mo_control :=
  ⟨ts_iload_n hC d_Mo_control_0 rfl,
   ts_calls hC con_Mo_guest wd_524 wd_30 (by decide +kernel) ⟨by decide, by decide⟩ ⟨Nat.zero_le _, Nat.zero_le _⟩ wd_522 wd_523 d_Mo_control_1,
   ts_ifeq hC d_Mo_control_4 (by decide),
   ts_iload_n hC d_Mo_control_7 rfl,
   ts_iflt hC d_Mo_control_8 (by decide),
   ts_iload_n hC d_Mo_control_11 rfl,
   ts_bipush hC d_Mo_control_12 (by decide),
   ts_cle hC d_Mo_control_14 (by decide),
   ts_iconst hC d_Mo_control_17 (by decide),
   ts_iret hC rfl d_Mo_control_18,
   ts_iload_n hC d_Mo_control_19 rfl,
   ts_bipush hC d_Mo_control_20 (by decide),
   ts_cne hC d_Mo_control_22 (by decide),
   ts_aload_n hC d_Mo_control_25 rfl,
   ts_iload_n hC d_Mo_control_26 rfl,
   ts_callv (C := R_Mo) (T := T_Mo) hC con_Mo_isThere wd_579 wd_30 (by decide +kernel) ⟨by decide, by decide⟩ ⟨Nat.zero_le _, Nat.zero_le _⟩ wd_576 rfl rfl wd_578 wd_6 d_Mo_control_27,
   ts_ifeq hC d_Mo_control_30 (by decide),
   ts_aload_n hC d_Mo_control_33 rfl,
   ts_gr (j := 10) (C := R_Mo) (T := T_Mo) hC rfl rfl rfl (by decide) u_Mo wd_466 rfl d_Mo_control_34,
   ts_bipush hC d_Mo_control_37 (by decide),
   ts_iload_n hC d_Mo_control_39 rfl,
   ts_imul hC d_Mo_control_40,
   ts_iaload hC d_Mo_control_41,
   ts_goto hC d_Mo_control_42 (by decide),
   ts_iconst hC d_Mo_control_45 (by decide),
   ts_iret hC rfl d_Mo_control_46,
   ts_iload_n hC d_Mo_control_47 rfl,
   ts_bipush hC d_Mo_control_48 (by decide),
   ts_cne hC d_Mo_control_50 (by decide),
   ts_aload_n hC d_Mo_control_53 rfl,
   ts_iload_n hC d_Mo_control_54 rfl,
   ts_callv (C := R_Mo) (T := T_Mo) hC con_Mo_pending wd_583 wd_30 (by decide +kernel) ⟨by decide, by decide⟩ ⟨Nat.zero_le _, Nat.zero_le _⟩ wd_580 rfl rfl wd_582 wd_7 d_Mo_control_55,
   ts_goto hC d_Mo_control_58 (by decide),
   ts_aload_n hC d_Mo_control_61 rfl,
   ts_gr (j := 5) (C := R_Mo) (T := T_Mo) hC rfl rfl rfl (by decide) u_Mo wd_461 rfl d_Mo_control_62,
   ts_bipush hC d_Mo_control_65 (by decide),
   ts_iload_n hC d_Mo_control_67 rfl,
   ts_imul hC d_Mo_control_68,
   ts_iload_n hC d_Mo_control_69 rfl,
   ts_iadd hC d_Mo_control_70,
   ts_iaload hC d_Mo_control_71,
   ts_iret hC rfl d_Mo_control_72,
   trivial⟩
def fn_Mo_control : tw_Fn := tw_fn 3 3 44 pr_Mo_control
theorem con_Mo_control : tw_Con y_Mo_control b_Mo_control 3 (some .int) 2 fn_Mo_control := tw_met (by decide +kernel) (tw_fn_len (n := 3) (by decide)) (fun p l e s m args below meth c E D vs σ ρ hC h => tw_sound (ok_Mo_control hC) 44 pr_Mo_control (ok_Mo_control hC) _ _ _ (tw_fn_get h))

-- TwinHostModel.fault(III)I: 16 instructions, depth 2, calls Mo_trap
theorem d_Mo_fault_0 : decode b_Mo_fault 0 = .ok (.aload_n 0, 1) := by decide +kernel
theorem d_Mo_fault_1 : decode b_Mo_fault 1 = .ok (.iload_n 1, 1) := by decide +kernel
theorem d_Mo_fault_2 : decode b_Mo_fault 2 = .ok (.iload_n 3, 1) := by decide +kernel
theorem d_Mo_fault_3 : decode b_Mo_fault 3 = .ok (.ifCond .ne 8, 3) := by decide +kernel
theorem d_Mo_fault_6 : decode b_Mo_fault 6 = .ok (.bipush 12, 2) := by decide +kernel
theorem d_Mo_fault_8 : decode b_Mo_fault 8 = .ok (.goto 15, 3) := by decide +kernel
theorem d_Mo_fault_11 : decode b_Mo_fault 11 = .ok (.iload_n 3, 1) := by decide +kernel
theorem d_Mo_fault_12 : decode b_Mo_fault 12 = .ok (.iconst 1, 1) := by decide +kernel
theorem d_Mo_fault_13 : decode b_Mo_fault 13 = .ok (.if_icmp .ne 8, 3) := by decide +kernel
theorem d_Mo_fault_16 : decode b_Mo_fault 16 = .ok (.bipush 13, 2) := by decide +kernel
theorem d_Mo_fault_18 : decode b_Mo_fault 18 = .ok (.goto 5, 3) := by decide +kernel
theorem d_Mo_fault_21 : decode b_Mo_fault 21 = .ok (.bipush 15, 2) := by decide +kernel
theorem d_Mo_fault_23 : decode b_Mo_fault 23 = .ok (.iload_n 2, 1) := by decide +kernel
theorem d_Mo_fault_24 : decode b_Mo_fault 24 = .ok (.invokevirtual 90, 3) := by decide +kernel
theorem d_Mo_fault_27 : decode b_Mo_fault 27 = .ok (.iconst (-1), 1) := by decide +kernel
theorem d_Mo_fault_28 : decode b_Mo_fault 28 = .ok (.ireturn, 1) := by decide +kernel
def pr_Mo_fault : List (Nat × tw_Op) := [(0, tw_al 0), (1, tw_il 1), (2, tw_il 3), (3, tw_ifne 11), (6, tw_ic (12)), (8, tw_jmp 23), (11, tw_il 3), (12, tw_ic 1), (13, tw_cne 21), (16, tw_ic (13)), (18, tw_jmp 23), (21, tw_ic (15)), (23, tw_il 2), (24, tw_cv 3 22 fn_Mo_trap), (27, tw_ic (-1)), (28, tw_ri)]
set_option maxRecDepth 100000 in
set_option maxHeartbeats 4000000 in
theorem ok_Mo_fault {p : Program} {l : Launch} {e : Env} {s : State} {m : MethodId} {args : Array Value} {below : List Frame} {meth : Method} {c : Code} {E : tw_E} {D : va_G} {ρ : tw_R} (hC : tw_Cx p s m args meth c b_Mo_fault 4 (some .int) "TwinHostModel" E D) : tw_Ok p l e (tw_rmd 2) s m args below meth c 0 0 (MQ below (tw_Qc E D ρ) args s 0 0 (tw_A E)) 4 E D ρ pr_Mo_fault :=
  ⟨ts_aload_n hC d_Mo_fault_0 rfl,
   ts_iload_n hC d_Mo_fault_1 rfl,
   ts_iload_n hC d_Mo_fault_2 rfl,
   ts_ifne hC d_Mo_fault_3 (by decide),
   ts_bipush hC d_Mo_fault_6 (by decide),
   ts_goto hC d_Mo_fault_8 (by decide),
   ts_iload_n hC d_Mo_fault_11 rfl,
   ts_iconst hC d_Mo_fault_12 (by decide),
   ts_cne hC d_Mo_fault_13 (by decide),
   ts_bipush hC d_Mo_fault_16 (by decide),
   ts_goto hC d_Mo_fault_18 (by decide),
   ts_bipush hC d_Mo_fault_21 (by decide),
   ts_iload_n hC d_Mo_fault_23 rfl,
   ts_callv (C := R_Mo) (T := T_Mo) hC con_Mo_trap wd_612 wd_30 (by decide +kernel) ⟨by decide, by decide⟩ ⟨Nat.zero_le _, Nat.zero_le _⟩ wd_609 rfl rfl wd_611 wd_9 d_Mo_fault_24,
   ts_iconst hC d_Mo_fault_27 (by decide),
   ts_iret hC rfl d_Mo_fault_28,
   trivial⟩
def fn_Mo_fault : tw_Fn := tw_fn 4 4 18 pr_Mo_fault
theorem con_Mo_fault : tw_Con y_Mo_fault b_Mo_fault 4 (some .int) 2 fn_Mo_fault := tw_met (by decide +kernel) (tw_fn_len (n := 4) (by decide)) (fun p l e s m args below meth c E D vs σ ρ hC h => tw_sound (ok_Mo_fault hC) 18 pr_Mo_fault (ok_Mo_fault hC) _ _ _ (tw_fn_get h))

-- TwinHostModel.illegal(II)I: 7 instructions, depth 2, calls Mo_trap
theorem d_Mo_illegal_0 : decode b_Mo_illegal 0 = .ok (.aload_n 0, 1) := by decide +kernel
theorem d_Mo_illegal_1 : decode b_Mo_illegal 1 = .ok (.iload_n 1, 1) := by decide +kernel
theorem d_Mo_illegal_2 : decode b_Mo_illegal 2 = .ok (.iconst 2, 1) := by decide +kernel
theorem d_Mo_illegal_3 : decode b_Mo_illegal 3 = .ok (.iload_n 2, 1) := by decide +kernel
theorem d_Mo_illegal_4 : decode b_Mo_illegal 4 = .ok (.invokevirtual 90, 3) := by decide +kernel
theorem d_Mo_illegal_7 : decode b_Mo_illegal 7 = .ok (.iconst 0, 1) := by decide +kernel
theorem d_Mo_illegal_8 : decode b_Mo_illegal 8 = .ok (.ireturn, 1) := by decide +kernel
def pr_Mo_illegal : List (Nat × tw_Op) := [(0, tw_al 0), (1, tw_il 1), (2, tw_ic 2), (3, tw_il 2), (4, tw_cv 3 22 fn_Mo_trap), (7, tw_ic 0), (8, tw_ri)]
set_option maxRecDepth 100000 in
set_option maxHeartbeats 4000000 in
theorem ok_Mo_illegal {p : Program} {l : Launch} {e : Env} {s : State} {m : MethodId} {args : Array Value} {below : List Frame} {meth : Method} {c : Code} {E : tw_E} {D : va_G} {ρ : tw_R} (hC : tw_Cx p s m args meth c b_Mo_illegal 3 (some .int) "TwinHostModel" E D) : tw_Ok p l e (tw_rmd 2) s m args below meth c 0 0 (MQ below (tw_Qc E D ρ) args s 0 0 (tw_A E)) 3 E D ρ pr_Mo_illegal :=
  ⟨ts_aload_n hC d_Mo_illegal_0 rfl,
   ts_iload_n hC d_Mo_illegal_1 rfl,
   ts_iconst hC d_Mo_illegal_2 (by decide),
   ts_iload_n hC d_Mo_illegal_3 rfl,
   ts_callv (C := R_Mo) (T := T_Mo) hC con_Mo_trap wd_612 wd_30 (by decide +kernel) ⟨by decide, by decide⟩ ⟨Nat.zero_le _, Nat.zero_le _⟩ wd_609 rfl rfl wd_611 wd_9 d_Mo_illegal_4,
   ts_iconst hC d_Mo_illegal_7 (by decide),
   ts_iret hC rfl d_Mo_illegal_8,
   trivial⟩
def fn_Mo_illegal : tw_Fn := tw_fn 3 3 9 pr_Mo_illegal
theorem con_Mo_illegal : tw_Con y_Mo_illegal b_Mo_illegal 3 (some .int) 2 fn_Mo_illegal := tw_met (by decide +kernel) (tw_fn_len (n := 3) (by decide)) (fun p l e s m args below meth c E D vs σ ρ hC h => tw_sound (ok_Mo_illegal hC) 9 pr_Mo_illegal (ok_Mo_illegal hC) _ _ _ (tw_fn_get h))

-- TwinHostModel.outside(III)I: 16 instructions, depth 2, calls Mo_trap
theorem d_Mo_outside_0 : decode b_Mo_outside 0 = .ok (.aload_n 0, 1) := by decide +kernel
theorem d_Mo_outside_1 : decode b_Mo_outside 1 = .ok (.iload_n 1, 1) := by decide +kernel
theorem d_Mo_outside_2 : decode b_Mo_outside 2 = .ok (.iload_n 3, 1) := by decide +kernel
theorem d_Mo_outside_3 : decode b_Mo_outside 3 = .ok (.ifCond .ne 7, 3) := by decide +kernel
theorem d_Mo_outside_6 : decode b_Mo_outside 6 = .ok (.iconst 1, 1) := by decide +kernel
theorem d_Mo_outside_7 : decode b_Mo_outside 7 = .ok (.goto 14, 3) := by decide +kernel
theorem d_Mo_outside_10 : decode b_Mo_outside 10 = .ok (.iload_n 3, 1) := by decide +kernel
theorem d_Mo_outside_11 : decode b_Mo_outside 11 = .ok (.iconst 1, 1) := by decide +kernel
theorem d_Mo_outside_12 : decode b_Mo_outside 12 = .ok (.if_icmp .ne 7, 3) := by decide +kernel
theorem d_Mo_outside_15 : decode b_Mo_outside 15 = .ok (.iconst 5, 1) := by decide +kernel
theorem d_Mo_outside_16 : decode b_Mo_outside 16 = .ok (.goto 5, 3) := by decide +kernel
theorem d_Mo_outside_19 : decode b_Mo_outside 19 = .ok (.bipush 7, 2) := by decide +kernel
theorem d_Mo_outside_21 : decode b_Mo_outside 21 = .ok (.iload_n 2, 1) := by decide +kernel
theorem d_Mo_outside_22 : decode b_Mo_outside 22 = .ok (.invokevirtual 90, 3) := by decide +kernel
theorem d_Mo_outside_25 : decode b_Mo_outside 25 = .ok (.iconst (-1), 1) := by decide +kernel
theorem d_Mo_outside_26 : decode b_Mo_outside 26 = .ok (.ireturn, 1) := by decide +kernel
def pr_Mo_outside : List (Nat × tw_Op) := [(0, tw_al 0), (1, tw_il 1), (2, tw_il 3), (3, tw_ifne 10), (6, tw_ic 1), (7, tw_jmp 21), (10, tw_il 3), (11, tw_ic 1), (12, tw_cne 19), (15, tw_ic 5), (16, tw_jmp 21), (19, tw_ic (7)), (21, tw_il 2), (22, tw_cv 3 22 fn_Mo_trap), (25, tw_ic (-1)), (26, tw_ri)]
set_option maxRecDepth 100000 in
set_option maxHeartbeats 4000000 in
theorem ok_Mo_outside {p : Program} {l : Launch} {e : Env} {s : State} {m : MethodId} {args : Array Value} {below : List Frame} {meth : Method} {c : Code} {E : tw_E} {D : va_G} {ρ : tw_R} (hC : tw_Cx p s m args meth c b_Mo_outside 4 (some .int) "TwinHostModel" E D) : tw_Ok p l e (tw_rmd 2) s m args below meth c 0 0 (MQ below (tw_Qc E D ρ) args s 0 0 (tw_A E)) 4 E D ρ pr_Mo_outside :=
  ⟨ts_aload_n hC d_Mo_outside_0 rfl,
   ts_iload_n hC d_Mo_outside_1 rfl,
   ts_iload_n hC d_Mo_outside_2 rfl,
   ts_ifne hC d_Mo_outside_3 (by decide),
   ts_iconst hC d_Mo_outside_6 (by decide),
   ts_goto hC d_Mo_outside_7 (by decide),
   ts_iload_n hC d_Mo_outside_10 rfl,
   ts_iconst hC d_Mo_outside_11 (by decide),
   ts_cne hC d_Mo_outside_12 (by decide),
   ts_iconst hC d_Mo_outside_15 (by decide),
   ts_goto hC d_Mo_outside_16 (by decide),
   ts_bipush hC d_Mo_outside_19 (by decide),
   ts_iload_n hC d_Mo_outside_21 rfl,
   ts_callv (C := R_Mo) (T := T_Mo) hC con_Mo_trap wd_612 wd_30 (by decide +kernel) ⟨by decide, by decide⟩ ⟨Nat.zero_le _, Nat.zero_le _⟩ wd_609 rfl rfl wd_611 wd_9 d_Mo_outside_22,
   ts_iconst hC d_Mo_outside_25 (by decide),
   ts_iret hC rfl d_Mo_outside_26,
   trivial⟩
def fn_Mo_outside : tw_Fn := tw_fn 4 4 18 pr_Mo_outside
theorem con_Mo_outside : tw_Con y_Mo_outside b_Mo_outside 4 (some .int) 2 fn_Mo_outside := tw_met (by decide +kernel) (tw_fn_len (n := 4) (by decide)) (fun p l e s m args below meth c E D vs σ ρ hC h => tw_sound (ok_Mo_outside hC) 18 pr_Mo_outside (ok_Mo_outside hC) _ _ _ (tw_fn_get h))

-- TwinHostModel.poke(III)I: 34 instructions, depth 2, calls Mo_guest Mo_drop
theorem d_Mo_poke_0 : decode b_Mo_poke 0 = .ok (.iload_n 1, 1) := by decide +kernel
theorem d_Mo_poke_1 : decode b_Mo_poke 1 = .ok (.invokestatic 62, 3) := by decide +kernel
theorem d_Mo_poke_4 : decode b_Mo_poke 4 = .ok (.ifCond .eq 13, 3) := by decide +kernel
theorem d_Mo_poke_7 : decode b_Mo_poke 7 = .ok (.iload_n 2, 1) := by decide +kernel
theorem d_Mo_poke_8 : decode b_Mo_poke 8 = .ok (.ifCond .lt 9, 3) := by decide +kernel
theorem d_Mo_poke_11 : decode b_Mo_poke 11 = .ok (.iload_n 2, 1) := by decide +kernel
theorem d_Mo_poke_12 : decode b_Mo_poke 12 = .ok (.bipush 127, 2) := by decide +kernel
theorem d_Mo_poke_14 : decode b_Mo_poke 14 = .ok (.if_icmp .le 5, 3) := by decide +kernel
theorem d_Mo_poke_17 : decode b_Mo_poke 17 = .ok (.iconst 0, 1) := by decide +kernel
theorem d_Mo_poke_18 : decode b_Mo_poke 18 = .ok (.ireturn, 1) := by decide +kernel
theorem d_Mo_poke_19 : decode b_Mo_poke 19 = .ok (.aload_n 0, 1) := by decide +kernel
theorem d_Mo_poke_20 : decode b_Mo_poke 20 = .ok (.getfield 7, 3) := by decide +kernel
theorem d_Mo_poke_23 : decode b_Mo_poke 23 = .ok (.sipush 128, 3) := by decide +kernel
theorem d_Mo_poke_26 : decode b_Mo_poke 26 = .ok (.iload_n 1, 1) := by decide +kernel
theorem d_Mo_poke_27 : decode b_Mo_poke 27 = .ok (.imul, 1) := by decide +kernel
theorem d_Mo_poke_28 : decode b_Mo_poke 28 = .ok (.iload_n 2, 1) := by decide +kernel
theorem d_Mo_poke_29 : decode b_Mo_poke 29 = .ok (.iadd, 1) := by decide +kernel
theorem d_Mo_poke_30 : decode b_Mo_poke 30 = .ok (.iaload, 1) := by decide +kernel
theorem d_Mo_poke_31 : decode b_Mo_poke 31 = .ok (.istore 4, 2) := by decide +kernel
theorem d_Mo_poke_33 : decode b_Mo_poke 33 = .ok (.aload_n 0, 1) := by decide +kernel
theorem d_Mo_poke_34 : decode b_Mo_poke 34 = .ok (.getfield 7, 3) := by decide +kernel
theorem d_Mo_poke_37 : decode b_Mo_poke 37 = .ok (.sipush 128, 3) := by decide +kernel
theorem d_Mo_poke_40 : decode b_Mo_poke 40 = .ok (.iload_n 1, 1) := by decide +kernel
theorem d_Mo_poke_41 : decode b_Mo_poke 41 = .ok (.imul, 1) := by decide +kernel
theorem d_Mo_poke_42 : decode b_Mo_poke 42 = .ok (.iload_n 2, 1) := by decide +kernel
theorem d_Mo_poke_43 : decode b_Mo_poke 43 = .ok (.iadd, 1) := by decide +kernel
theorem d_Mo_poke_44 : decode b_Mo_poke 44 = .ok (.iload_n 3, 1) := by decide +kernel
theorem d_Mo_poke_45 : decode b_Mo_poke 45 = .ok (.iastore, 1) := by decide +kernel
theorem d_Mo_poke_46 : decode b_Mo_poke 46 = .ok (.aload_n 0, 1) := by decide +kernel
theorem d_Mo_poke_47 : decode b_Mo_poke 47 = .ok (.iload_n 1, 1) := by decide +kernel
theorem d_Mo_poke_48 : decode b_Mo_poke 48 = .ok (.iload_n 2, 1) := by decide +kernel
theorem d_Mo_poke_49 : decode b_Mo_poke 49 = .ok (.invokevirtual 66, 3) := by decide +kernel
theorem d_Mo_poke_52 : decode b_Mo_poke 52 = .ok (.iload 4, 2) := by decide +kernel
theorem d_Mo_poke_54 : decode b_Mo_poke 54 = .ok (.ireturn, 1) := by decide +kernel
def pr_Mo_poke : List (Nat × tw_Op) := [(0, tw_il 1), (1, tw_cs 1 fn_Mo_guest), (4, tw_ifeq 17), (7, tw_il 2), (8, tw_iflt 17), (11, tw_il 2), (12, tw_ic (127)), (14, tw_cle 19), (17, tw_ic 0), (18, tw_ri), (19, tw_al 0), (20, tw_gr 22 23), (23, tw_ic (128)), (26, tw_il 1), (27, tw_bin (· * ·)), (28, tw_il 2), (29, tw_bin (· + ·)), (30, tw_ia), (31, tw_is 4), (33, tw_al 0), (34, tw_gr 22 23), (37, tw_ic (128)), (40, tw_il 1), (41, tw_bin (· * ·)), (42, tw_il 2), (43, tw_bin (· + ·)), (44, tw_il 3), (45, tw_ias 22 37), (46, tw_al 0), (47, tw_il 1), (48, tw_il 2), (49, tw_cv 2 22 fn_Mo_drop), (52, tw_il 4), (54, tw_ri)]
set_option maxRecDepth 100000 in
set_option maxHeartbeats 4000000 in
theorem ok_Mo_poke {p : Program} {l : Launch} {e : Env} {s : State} {m : MethodId} {args : Array Value} {below : List Frame} {meth : Method} {c : Code} {E : tw_E} {D : va_G} {ρ : tw_R} (hC : tw_Cx p s m args meth c b_Mo_poke 5 (some .int) "TwinHostModel" E D) : tw_Ok p l e (tw_rmd 2) s m args below meth c 0 0 (MQ below (tw_Qc E D ρ) args s 0 0 (tw_A E)) 5 E D ρ pr_Mo_poke :=
  ⟨ts_iload_n hC d_Mo_poke_0 rfl,
   ts_calls hC con_Mo_guest wd_524 wd_30 (by decide +kernel) ⟨by decide, by decide⟩ ⟨Nat.zero_le _, Nat.zero_le _⟩ wd_522 wd_523 d_Mo_poke_1,
   ts_ifeq hC d_Mo_poke_4 (by decide),
   ts_iload_n hC d_Mo_poke_7 rfl,
   ts_iflt hC d_Mo_poke_8 (by decide),
   ts_iload_n hC d_Mo_poke_11 rfl,
   ts_bipush hC d_Mo_poke_12 (by decide),
   ts_cle hC d_Mo_poke_14 (by decide),
   ts_iconst hC d_Mo_poke_17 (by decide),
   ts_iret hC rfl d_Mo_poke_18,
   ts_aload_n hC d_Mo_poke_19 rfl,
   ts_gr (j := 3) (C := R_Mo) (T := T_Mo) hC rfl rfl rfl (by decide) u_Mo wd_459 rfl d_Mo_poke_20,
   ts_sipush hC d_Mo_poke_23 (by decide),
   ts_iload_n hC d_Mo_poke_26 rfl,
   ts_imul hC d_Mo_poke_27,
   ts_iload_n hC d_Mo_poke_28 rfl,
   ts_iadd hC d_Mo_poke_29,
   ts_iaload hC d_Mo_poke_30,
   ts_istore hC d_Mo_poke_31 (by decide),
   ts_aload_n hC d_Mo_poke_33 rfl,
   ts_gr (j := 3) (C := R_Mo) (T := T_Mo) hC rfl rfl rfl (by decide) u_Mo wd_459 rfl d_Mo_poke_34,
   ts_sipush hC d_Mo_poke_37 (by decide),
   ts_iload_n hC d_Mo_poke_40 rfl,
   ts_imul hC d_Mo_poke_41,
   ts_iload_n hC d_Mo_poke_42 rfl,
   ts_iadd hC d_Mo_poke_43,
   ts_iload_n hC d_Mo_poke_44 rfl,
   ts_iastore hC d_Mo_poke_45,
   ts_aload_n hC d_Mo_poke_46 rfl,
   ts_iload_n hC d_Mo_poke_47 rfl,
   ts_iload_n hC d_Mo_poke_48 rfl,
   ts_callv (C := R_Mo) (T := T_Mo) hC con_Mo_drop wd_536 wd_30 (by decide +kernel) ⟨by decide, by decide⟩ ⟨Nat.zero_le _, Nat.zero_le _⟩ wd_533 rfl rfl wd_535 wd_1 d_Mo_poke_49,
   ts_iload hC d_Mo_poke_52,
   ts_iret hC rfl d_Mo_poke_54,
   trivial⟩
def fn_Mo_poke : tw_Fn := tw_fn 4 5 36 pr_Mo_poke
theorem con_Mo_poke : tw_Con y_Mo_poke b_Mo_poke 5 (some .int) 2 fn_Mo_poke := tw_met (by decide +kernel) (tw_fn_len (n := 4) (by decide)) (fun p l e s m args below meth c E D vs σ ρ hC h => tw_sound (ok_Mo_poke hC) 36 pr_Mo_poke (ok_Mo_poke hC) _ _ _ (tw_fn_get h))
end
section
-- TwinHostModel.command(III)Z: 15 instructions, depth 3, calls Mo_guest Mo_isStored Mo_assign
theorem d_Mo_command_0 : decode b_Mo_command 0 = .ok (.iload_n 1, 1) := by decide +kernel
theorem d_Mo_command_1 : decode b_Mo_command 1 = .ok (.invokestatic 62, 3) := by decide +kernel
theorem d_Mo_command_4 : decode b_Mo_command 4 = .ok (.ifCond .eq 10, 3) := by decide +kernel
theorem d_Mo_command_7 : decode b_Mo_command 7 = .ok (.iload_n 2, 1) := by decide +kernel
theorem d_Mo_command_8 : decode b_Mo_command 8 = .ok (.invokestatic 77, 3) := by decide +kernel
theorem d_Mo_command_11 : decode b_Mo_command 11 = .ok (.ifCond .ne 5, 3) := by decide +kernel
theorem d_Mo_command_14 : decode b_Mo_command 14 = .ok (.iconst 0, 1) := by decide +kernel
theorem d_Mo_command_15 : decode b_Mo_command 15 = .ok (.ireturn, 1) := by decide +kernel
theorem d_Mo_command_16 : decode b_Mo_command 16 = .ok (.aload_n 0, 1) := by decide +kernel
theorem d_Mo_command_17 : decode b_Mo_command 17 = .ok (.iload_n 1, 1) := by decide +kernel
theorem d_Mo_command_18 : decode b_Mo_command 18 = .ok (.iload_n 2, 1) := by decide +kernel
theorem d_Mo_command_19 : decode b_Mo_command 19 = .ok (.iload_n 3, 1) := by decide +kernel
theorem d_Mo_command_20 : decode b_Mo_command 20 = .ok (.invokevirtual 80, 3) := by decide +kernel
theorem d_Mo_command_23 : decode b_Mo_command 23 = .ok (.iconst 1, 1) := by decide +kernel
theorem d_Mo_command_24 : decode b_Mo_command 24 = .ok (.ireturn, 1) := by decide +kernel
def pr_Mo_command : List (Nat × tw_Op) := [(0, tw_il 1), (1, tw_cs 1 fn_Mo_guest), (4, tw_ifeq 14), (7, tw_il 2), (8, tw_cs 1 fn_Mo_isStored), (11, tw_ifne 16), (14, tw_ic 0), (15, tw_rz), (16, tw_al 0), (17, tw_il 1), (18, tw_il 2), (19, tw_il 3), (20, tw_cv 3 22 fn_Mo_assign), (23, tw_ic 1), (24, tw_rz)]
set_option maxRecDepth 100000 in
set_option maxHeartbeats 4000000 in
theorem ok_Mo_command {p : Program} {l : Launch} {e : Env} {s : State} {m : MethodId} {args : Array Value} {below : List Frame} {meth : Method} {c : Code} {E : tw_E} {D : va_G} {ρ : tw_R} (hC : tw_Cx p s m args meth c b_Mo_command 4 (some .boolean) "TwinHostModel" E D) : tw_Ok p l e (tw_rmd 3) s m args below meth c 0 0 (MQ below (tw_Qc E D ρ) args s 0 0 (tw_A E)) 4 E D ρ pr_Mo_command :=
  ⟨ts_iload_n hC d_Mo_command_0 rfl,
   ts_calls hC con_Mo_guest wd_524 wd_30 (by decide +kernel) ⟨by decide, by decide⟩ ⟨Nat.zero_le _, Nat.zero_le _⟩ wd_522 wd_523 d_Mo_command_1,
   ts_ifeq hC d_Mo_command_4 (by decide),
   ts_iload_n hC d_Mo_command_7 rfl,
   ts_calls hC con_Mo_isStored wd_563 wd_30 (by decide +kernel) ⟨by decide, by decide⟩ ⟨Nat.zero_le _, Nat.zero_le _⟩ wd_561 wd_562 d_Mo_command_8,
   ts_ifne hC d_Mo_command_11 (by decide),
   ts_iconst hC d_Mo_command_14 (by decide),
   ts_zret hC rfl d_Mo_command_15,
   ts_aload_n hC d_Mo_command_16 rfl,
   ts_iload_n hC d_Mo_command_17 rfl,
   ts_iload_n hC d_Mo_command_18 rfl,
   ts_iload_n hC d_Mo_command_19 rfl,
   ts_callv (C := R_Mo) (T := T_Mo) hC con_Mo_assign wd_567 wd_30 (by decide +kernel) ⟨by decide, by decide⟩ ⟨Nat.zero_le _, Nat.zero_le _⟩ wd_564 rfl rfl wd_566 wd_4 d_Mo_command_20,
   ts_iconst hC d_Mo_command_23 (by decide),
   ts_zret hC rfl d_Mo_command_24,
   trivial⟩
def fn_Mo_command : tw_Fn := tw_fn 4 4 17 pr_Mo_command
theorem con_Mo_command : tw_Con y_Mo_command b_Mo_command 4 (some .boolean) 3 fn_Mo_command := tw_met (by decide +kernel) (tw_fn_len (n := 4) (by decide)) (fun p l e s m args below meth c E D vs σ ρ hC h => tw_sound (ok_Mo_command hC) 17 pr_Mo_command (ok_Mo_command hC) _ _ _ (tw_fn_get h))

-- TwinHostModel.controls(III)I: 100 instructions, depth 3, calls Mo_isStored Mo_illegal Mo_control Mo_isThere Mo_takeInput Mo_put Mo_assign Mo_retire
theorem d_Mo_controls_0 : decode b_Mo_controls 0 = .ok (.iload_n 2, 1) := by decide +kernel
theorem d_Mo_controls_1 : decode b_Mo_controls 1 = .ok (.bipush 16, 2) := by decide +kernel
theorem d_Mo_controls_3 : decode b_Mo_controls 3 = .ok (.ishr, 1) := by decide +kernel
theorem d_Mo_controls_4 : decode b_Mo_controls 4 = .ok (.istore 4, 2) := by decide +kernel
theorem d_Mo_controls_6 : decode b_Mo_controls 6 = .ok (.iload_n 2, 1) := by decide +kernel
theorem d_Mo_controls_7 : decode b_Mo_controls 7 = .ok (.bipush 8, 2) := by decide +kernel
theorem d_Mo_controls_9 : decode b_Mo_controls 9 = .ok (.ishr, 1) := by decide +kernel
theorem d_Mo_controls_10 : decode b_Mo_controls 10 = .ok (.bipush 7, 2) := by decide +kernel
theorem d_Mo_controls_12 : decode b_Mo_controls 12 = .ok (.iand, 1) := by decide +kernel
theorem d_Mo_controls_13 : decode b_Mo_controls 13 = .ok (.istore 5, 2) := by decide +kernel
theorem d_Mo_controls_15 : decode b_Mo_controls 15 = .ok (.iload_n 3, 1) := by decide +kernel
theorem d_Mo_controls_16 : decode b_Mo_controls 16 = .ok (.bipush 19, 2) := by decide +kernel
theorem d_Mo_controls_18 : decode b_Mo_controls 18 = .ok (.if_icmp .eq 8, 3) := by decide +kernel
theorem d_Mo_controls_21 : decode b_Mo_controls 21 = .ok (.iload 5, 2) := by decide +kernel
theorem d_Mo_controls_23 : decode b_Mo_controls 23 = .ok (.ifCond .eq 7, 3) := by decide +kernel
theorem d_Mo_controls_26 : decode b_Mo_controls 26 = .ok (.iconst 1, 1) := by decide +kernel
theorem d_Mo_controls_27 : decode b_Mo_controls 27 = .ok (.goto 4, 3) := by decide +kernel
theorem d_Mo_controls_30 : decode b_Mo_controls 30 = .ok (.iconst 0, 1) := by decide +kernel
theorem d_Mo_controls_31 : decode b_Mo_controls 31 = .ok (.istore 6, 2) := by decide +kernel
theorem d_Mo_controls_33 : decode b_Mo_controls 33 = .ok (.iload 4, 2) := by decide +kernel
theorem d_Mo_controls_35 : decode b_Mo_controls 35 = .ok (.ifCond .lt 23, 3) := by decide +kernel
theorem d_Mo_controls_38 : decode b_Mo_controls 38 = .ok (.iload 4, 2) := by decide +kernel
theorem d_Mo_controls_40 : decode b_Mo_controls 40 = .ok (.bipush 11, 2) := by decide +kernel
theorem d_Mo_controls_42 : decode b_Mo_controls 42 = .ok (.if_icmp .gt 16, 3) := by decide +kernel
theorem d_Mo_controls_45 : decode b_Mo_controls 45 = .ok (.iload 6, 2) := by decide +kernel
theorem d_Mo_controls_47 : decode b_Mo_controls 47 = .ok (.ifCond .eq 18, 3) := by decide +kernel
theorem d_Mo_controls_50 : decode b_Mo_controls 50 = .ok (.iload 4, 2) := by decide +kernel
theorem d_Mo_controls_52 : decode b_Mo_controls 52 = .ok (.invokestatic 77, 3) := by decide +kernel
theorem d_Mo_controls_55 : decode b_Mo_controls 55 = .ok (.ifCond .ne 10, 3) := by decide +kernel
theorem d_Mo_controls_58 : decode b_Mo_controls 58 = .ok (.aload_n 0, 1) := by decide +kernel
theorem d_Mo_controls_59 : decode b_Mo_controls 59 = .ok (.iload_n 1, 1) := by decide +kernel
theorem d_Mo_controls_60 : decode b_Mo_controls 60 = .ok (.iload_n 2, 1) := by decide +kernel
theorem d_Mo_controls_61 : decode b_Mo_controls 61 = .ok (.invokevirtual 150, 3) := by decide +kernel
theorem d_Mo_controls_64 : decode b_Mo_controls 64 = .ok (.ireturn, 1) := by decide +kernel
theorem d_Mo_controls_65 : decode b_Mo_controls 65 = .ok (.aload_n 0, 1) := by decide +kernel
theorem d_Mo_controls_66 : decode b_Mo_controls 66 = .ok (.getfield 13, 3) := by decide +kernel
theorem d_Mo_controls_69 : decode b_Mo_controls 69 = .ok (.bipush 8, 2) := by decide +kernel
theorem d_Mo_controls_71 : decode b_Mo_controls 71 = .ok (.iload_n 1, 1) := by decide +kernel
theorem d_Mo_controls_72 : decode b_Mo_controls 72 = .ok (.imul, 1) := by decide +kernel
theorem d_Mo_controls_73 : decode b_Mo_controls 73 = .ok (.iload 5, 2) := by decide +kernel
theorem d_Mo_controls_75 : decode b_Mo_controls 75 = .ok (.iadd, 1) := by decide +kernel
theorem d_Mo_controls_76 : decode b_Mo_controls 76 = .ok (.iaload, 1) := by decide +kernel
theorem d_Mo_controls_77 : decode b_Mo_controls 77 = .ok (.istore 7, 2) := by decide +kernel
theorem d_Mo_controls_79 : decode b_Mo_controls 79 = .ok (.aload_n 0, 1) := by decide +kernel
theorem d_Mo_controls_80 : decode b_Mo_controls 80 = .ok (.iload_n 1, 1) := by decide +kernel
theorem d_Mo_controls_81 : decode b_Mo_controls 81 = .ok (.iload 4, 2) := by decide +kernel
theorem d_Mo_controls_83 : decode b_Mo_controls 83 = .ok (.invokevirtual 156, 3) := by decide +kernel
theorem d_Mo_controls_86 : decode b_Mo_controls 86 = .ok (.istore 8, 2) := by decide +kernel
theorem d_Mo_controls_88 : decode b_Mo_controls 88 = .ok (.iload 4, 2) := by decide +kernel
theorem d_Mo_controls_90 : decode b_Mo_controls 90 = .ok (.bipush 11, 2) := by decide +kernel
theorem d_Mo_controls_92 : decode b_Mo_controls 92 = .ok (.if_icmp .ne 16, 3) := by decide +kernel
theorem d_Mo_controls_95 : decode b_Mo_controls 95 = .ok (.aload_n 0, 1) := by decide +kernel
theorem d_Mo_controls_96 : decode b_Mo_controls 96 = .ok (.iload_n 1, 1) := by decide +kernel
theorem d_Mo_controls_97 : decode b_Mo_controls 97 = .ok (.invokevirtual 83, 3) := by decide +kernel
theorem d_Mo_controls_100 : decode b_Mo_controls 100 = .ok (.ifCond .eq 8, 3) := by decide +kernel
theorem d_Mo_controls_103 : decode b_Mo_controls 103 = .ok (.aload_n 0, 1) := by decide +kernel
theorem d_Mo_controls_104 : decode b_Mo_controls 104 = .ok (.iload_n 1, 1) := by decide +kernel
theorem d_Mo_controls_105 : decode b_Mo_controls 105 = .ok (.invokevirtual 158, 3) := by decide +kernel
theorem d_Mo_controls_108 : decode b_Mo_controls 108 = .ok (.aload_n 0, 1) := by decide +kernel
theorem d_Mo_controls_109 : decode b_Mo_controls 109 = .ok (.iload_n 1, 1) := by decide +kernel
theorem d_Mo_controls_110 : decode b_Mo_controls 110 = .ok (.iload_n 2, 1) := by decide +kernel
theorem d_Mo_controls_111 : decode b_Mo_controls 111 = .ok (.iconst 5, 1) := by decide +kernel
theorem d_Mo_controls_112 : decode b_Mo_controls 112 = .ok (.ishr, 1) := by decide +kernel
theorem d_Mo_controls_113 : decode b_Mo_controls 113 = .ok (.bipush 7, 2) := by decide +kernel
theorem d_Mo_controls_115 : decode b_Mo_controls 115 = .ok (.iand, 1) := by decide +kernel
theorem d_Mo_controls_116 : decode b_Mo_controls 116 = .ok (.iload 8, 2) := by decide +kernel
theorem d_Mo_controls_118 : decode b_Mo_controls 118 = .ok (.invokevirtual 70, 3) := by decide +kernel
theorem d_Mo_controls_121 : decode b_Mo_controls 121 = .ok (.iload 6, 2) := by decide +kernel
theorem d_Mo_controls_123 : decode b_Mo_controls 123 = .ok (.ifCond .eq 42, 3) := by decide +kernel
theorem d_Mo_controls_126 : decode b_Mo_controls 126 = .ok (.aload_n 0, 1) := by decide +kernel
theorem d_Mo_controls_127 : decode b_Mo_controls 127 = .ok (.iload_n 1, 1) := by decide +kernel
theorem d_Mo_controls_128 : decode b_Mo_controls 128 = .ok (.iload 4, 2) := by decide +kernel
theorem d_Mo_controls_130 : decode b_Mo_controls 130 = .ok (.iload_n 3, 1) := by decide +kernel
theorem d_Mo_controls_131 : decode b_Mo_controls 131 = .ok (.bipush 19, 2) := by decide +kernel
theorem d_Mo_controls_133 : decode b_Mo_controls 133 = .ok (.if_icmp .ne 8, 3) := by decide +kernel
theorem d_Mo_controls_136 : decode b_Mo_controls 136 = .ok (.iload 7, 2) := by decide +kernel
theorem d_Mo_controls_138 : decode b_Mo_controls 138 = .ok (.goto 24, 3) := by decide +kernel
theorem d_Mo_controls_141 : decode b_Mo_controls 141 = .ok (.iload_n 3, 1) := by decide +kernel
theorem d_Mo_controls_142 : decode b_Mo_controls 142 = .ok (.bipush 20, 2) := by decide +kernel
theorem d_Mo_controls_144 : decode b_Mo_controls 144 = .ok (.if_icmp .ne 11, 3) := by decide +kernel
theorem d_Mo_controls_147 : decode b_Mo_controls 147 = .ok (.iload 8, 2) := by decide +kernel
theorem d_Mo_controls_149 : decode b_Mo_controls 149 = .ok (.iload 7, 2) := by decide +kernel
theorem d_Mo_controls_151 : decode b_Mo_controls 151 = .ok (.ior, 1) := by decide +kernel
theorem d_Mo_controls_152 : decode b_Mo_controls 152 = .ok (.goto 10, 3) := by decide +kernel
theorem d_Mo_controls_155 : decode b_Mo_controls 155 = .ok (.iload 8, 2) := by decide +kernel
theorem d_Mo_controls_157 : decode b_Mo_controls 157 = .ok (.iload 7, 2) := by decide +kernel
theorem d_Mo_controls_159 : decode b_Mo_controls 159 = .ok (.iconst (-1), 1) := by decide +kernel
theorem d_Mo_controls_160 : decode b_Mo_controls 160 = .ok (.ixor, 1) := by decide +kernel
theorem d_Mo_controls_161 : decode b_Mo_controls 161 = .ok (.iand, 1) := by decide +kernel
theorem d_Mo_controls_162 : decode b_Mo_controls 162 = .ok (.invokevirtual 80, 3) := by decide +kernel
theorem d_Mo_controls_165 : decode b_Mo_controls 165 = .ok (.aload_n 0, 1) := by decide +kernel
theorem d_Mo_controls_166 : decode b_Mo_controls 166 = .ok (.iload_n 1, 1) := by decide +kernel
theorem d_Mo_controls_167 : decode b_Mo_controls 167 = .ok (.aload_n 0, 1) := by decide +kernel
theorem d_Mo_controls_168 : decode b_Mo_controls 168 = .ok (.getfield 19, 3) := by decide +kernel
theorem d_Mo_controls_171 : decode b_Mo_controls 171 = .ok (.iload_n 1, 1) := by decide +kernel
theorem d_Mo_controls_172 : decode b_Mo_controls 172 = .ok (.iaload, 1) := by decide +kernel
theorem d_Mo_controls_173 : decode b_Mo_controls 173 = .ok (.iconst 1, 1) := by decide +kernel
theorem d_Mo_controls_174 : decode b_Mo_controls 174 = .ok (.iadd, 1) := by decide +kernel
theorem d_Mo_controls_175 : decode b_Mo_controls 175 = .ok (.invokevirtual 138, 3) := by decide +kernel
theorem d_Mo_controls_178 : decode b_Mo_controls 178 = .ok (.ireturn, 1) := by decide +kernel
def pr_Mo_controls : List (Nat × tw_Op) := [(0, tw_il 2), (1, tw_ic (16)), (3, tw_bin (fun x y => x >>> (y &&& 31))), (4, tw_is 4), (6, tw_il 2), (7, tw_ic (8)), (9, tw_bin (fun x y => x >>> (y &&& 31))), (10, tw_ic (7)), (12, tw_bin (· &&& ·)), (13, tw_is 5), (15, tw_il 3), (16, tw_ic (19)), (18, tw_ceq 26), (21, tw_il 5), (23, tw_ifeq 30), (26, tw_ic 1), (27, tw_jmp 31), (30, tw_ic 0), (31, tw_is 6), (33, tw_il 4), (35, tw_iflt 58), (38, tw_il 4), (40, tw_ic (11)), (42, tw_cgt 58), (45, tw_il 6), (47, tw_ifeq 65), (50, tw_il 4), (52, tw_cs 1 fn_Mo_isStored), (55, tw_ifne 65), (58, tw_al 0), (59, tw_il 1), (60, tw_il 2), (61, tw_cv 2 22 fn_Mo_illegal), (64, tw_ri), (65, tw_al 0), (66, tw_gr 22 24), (69, tw_ic (8)), (71, tw_il 1), (72, tw_bin (· * ·)), (73, tw_il 5), (75, tw_bin (· + ·)), (76, tw_ia), (77, tw_is 7), (79, tw_al 0), (80, tw_il 1), (81, tw_il 4), (83, tw_cv 2 22 fn_Mo_control), (86, tw_is 8), (88, tw_il 4), (90, tw_ic (11)), (92, tw_cne 108), (95, tw_al 0), (96, tw_il 1), (97, tw_cv 1 22 fn_Mo_isThere), (100, tw_ifeq 108), (103, tw_al 0), (104, tw_il 1), (105, tw_cv 1 22 fn_Mo_takeInput), (108, tw_al 0), (109, tw_il 1), (110, tw_il 2), (111, tw_ic 5), (112, tw_bin (fun x y => x >>> (y &&& 31))), (113, tw_ic (7)), (115, tw_bin (· &&& ·)), (116, tw_il 8), (118, tw_cv 3 22 fn_Mo_put), (121, tw_il 6), (123, tw_ifeq 165), (126, tw_al 0), (127, tw_il 1), (128, tw_il 4), (130, tw_il 3), (131, tw_ic (19)), (133, tw_cne 141), (136, tw_il 7), (138, tw_jmp 162), (141, tw_il 3), (142, tw_ic (20)), (144, tw_cne 155), (147, tw_il 8), (149, tw_il 7), (151, tw_bin (· ||| ·)), (152, tw_jmp 162), (155, tw_il 8), (157, tw_il 7), (159, tw_ic (-1)), (160, tw_bin (· ^^^ ·)), (161, tw_bin (· &&& ·)), (162, tw_cv 3 22 fn_Mo_assign), (165, tw_al 0), (166, tw_il 1), (167, tw_al 0), (168, tw_gr 22 26), (171, tw_il 1), (172, tw_ia), (173, tw_ic 1), (174, tw_bin (· + ·)), (175, tw_cv 2 22 fn_Mo_retire), (178, tw_ri)]
set_option maxRecDepth 100000 in
set_option maxHeartbeats 4000000 in
theorem ok_Mo_controls {p : Program} {l : Launch} {e : Env} {s : State} {m : MethodId} {args : Array Value} {below : List Frame} {meth : Method} {c : Code} {E : tw_E} {D : va_G} {ρ : tw_R} (hC : tw_Cx p s m args meth c b_Mo_controls 9 (some .int) "TwinHostModel" E D) : tw_Ok p l e (tw_rmd 3) s m args below meth c 0 0 (MQ below (tw_Qc E D ρ) args s 0 0 (tw_A E)) 9 E D ρ pr_Mo_controls :=
  ⟨ts_iload_n hC d_Mo_controls_0 rfl,
   ts_bipush hC d_Mo_controls_1 (by decide),
   ts_ishr hC d_Mo_controls_3,
   ts_istore hC d_Mo_controls_4 (by decide),
   ts_iload_n hC d_Mo_controls_6 rfl,
   ts_bipush hC d_Mo_controls_7 (by decide),
   ts_ishr hC d_Mo_controls_9,
   ts_bipush hC d_Mo_controls_10 (by decide),
   ts_iand hC d_Mo_controls_12,
   ts_istore hC d_Mo_controls_13 (by decide),
   ts_iload_n hC d_Mo_controls_15 rfl,
   ts_bipush hC d_Mo_controls_16 (by decide),
   ts_ceq hC d_Mo_controls_18 (by decide),
   ts_iload hC d_Mo_controls_21,
   ts_ifeq hC d_Mo_controls_23 (by decide),
   ts_iconst hC d_Mo_controls_26 (by decide),
   ts_goto hC d_Mo_controls_27 (by decide),
   ts_iconst hC d_Mo_controls_30 (by decide),
   ts_istore hC d_Mo_controls_31 (by decide),
   ts_iload hC d_Mo_controls_33,
   ts_iflt hC d_Mo_controls_35 (by decide),
   ts_iload hC d_Mo_controls_38,
   ts_bipush hC d_Mo_controls_40 (by decide),
   ts_cgt hC d_Mo_controls_42 (by decide),
   ts_iload hC d_Mo_controls_45,
   ts_ifeq hC d_Mo_controls_47 (by decide),
   ts_iload hC d_Mo_controls_50,
   ts_calls hC con_Mo_isStored wd_563 wd_30 (by decide +kernel) ⟨by decide, by decide⟩ ⟨Nat.zero_le _, Nat.zero_le _⟩ wd_561 wd_562 d_Mo_controls_52,
   ts_ifne hC d_Mo_controls_55 (by decide),
   ts_aload_n hC d_Mo_controls_58 rfl,
   ts_iload_n hC d_Mo_controls_59 rfl,
   ts_iload_n hC d_Mo_controls_60 rfl,
   ts_callv (C := R_Mo) (T := T_Mo) hC con_Mo_illegal wd_651 wd_30 (by decide +kernel) ⟨by decide, by decide⟩ ⟨Nat.zero_le _, Nat.zero_le _⟩ wd_648 rfl rfl wd_650 wd_18 d_Mo_controls_61,
   ts_iret hC rfl d_Mo_controls_64,
   ts_aload_n hC d_Mo_controls_65 rfl,
   ts_gr (j := 4) (C := R_Mo) (T := T_Mo) hC rfl rfl rfl (by decide) u_Mo wd_460 rfl d_Mo_controls_66,
   ts_bipush hC d_Mo_controls_69 (by decide),
   ts_iload_n hC d_Mo_controls_71 rfl,
   ts_imul hC d_Mo_controls_72,
   ts_iload hC d_Mo_controls_73,
   ts_iadd hC d_Mo_controls_75,
   ts_iaload hC d_Mo_controls_76,
   ts_istore hC d_Mo_controls_77 (by decide),
   ts_aload_n hC d_Mo_controls_79 rfl,
   ts_iload_n hC d_Mo_controls_80 rfl,
   ts_iload hC d_Mo_controls_81,
   ts_callv (C := R_Mo) (T := T_Mo) hC con_Mo_control wd_575 wd_30 (by decide +kernel) ⟨by decide, by decide⟩ ⟨Nat.zero_le _, Nat.zero_le _⟩ wd_656 rfl rfl wd_573 wd_574 d_Mo_controls_83,
   ts_istore hC d_Mo_controls_86 (by decide),
   ts_iload hC d_Mo_controls_88,
   ts_bipush hC d_Mo_controls_90 (by decide),
   ts_cne hC d_Mo_controls_92 (by decide),
   ts_aload_n hC d_Mo_controls_95 rfl,
   ts_iload_n hC d_Mo_controls_96 rfl,
   ts_callv (C := R_Mo) (T := T_Mo) hC con_Mo_isThere wd_579 wd_30 (by decide +kernel) ⟨by decide, by decide⟩ ⟨Nat.zero_le _, Nat.zero_le _⟩ wd_576 rfl rfl wd_578 wd_6 d_Mo_controls_97,
   ts_ifeq hC d_Mo_controls_100 (by decide),
   ts_aload_n hC d_Mo_controls_103 rfl,
   ts_iload_n hC d_Mo_controls_104 rfl,
   ts_callv (C := R_Mo) (T := T_Mo) hC con_Mo_takeInput wd_660 wd_30 (by decide +kernel) ⟨by decide, by decide⟩ ⟨Nat.zero_le _, Nat.zero_le _⟩ wd_657 rfl rfl wd_659 wd_20 d_Mo_controls_105,
   ts_aload_n hC d_Mo_controls_108 rfl,
   ts_iload_n hC d_Mo_controls_109 rfl,
   ts_iload_n hC d_Mo_controls_110 rfl,
   ts_iconst hC d_Mo_controls_111 (by decide),
   ts_ishr hC d_Mo_controls_112,
   ts_bipush hC d_Mo_controls_113 (by decide),
   ts_iand hC d_Mo_controls_115,
   ts_iload hC d_Mo_controls_116,
   ts_callv (C := R_Mo) (T := T_Mo) hC con_Mo_put wd_552 wd_30 (by decide +kernel) ⟨by decide, by decide⟩ ⟨Nat.zero_le _, Nat.zero_le _⟩ wd_549 rfl rfl wd_551 wd_3 d_Mo_controls_118,
   ts_iload hC d_Mo_controls_121,
   ts_ifeq hC d_Mo_controls_123 (by decide),
   ts_aload_n hC d_Mo_controls_126 rfl,
   ts_iload_n hC d_Mo_controls_127 rfl,
   ts_iload hC d_Mo_controls_128,
   ts_iload_n hC d_Mo_controls_130 rfl,
   ts_bipush hC d_Mo_controls_131 (by decide),
   ts_cne hC d_Mo_controls_133 (by decide),
   ts_iload hC d_Mo_controls_136,
   ts_goto hC d_Mo_controls_138 (by decide),
   ts_iload_n hC d_Mo_controls_141 rfl,
   ts_bipush hC d_Mo_controls_142 (by decide),
   ts_cne hC d_Mo_controls_144 (by decide),
   ts_iload hC d_Mo_controls_147,
   ts_iload hC d_Mo_controls_149,
   ts_ior hC d_Mo_controls_151,
   ts_goto hC d_Mo_controls_152 (by decide),
   ts_iload hC d_Mo_controls_155,
   ts_iload hC d_Mo_controls_157,
   ts_iconst hC d_Mo_controls_159 (by decide),
   ts_ixor hC d_Mo_controls_160,
   ts_iand hC d_Mo_controls_161,
   ts_callv (C := R_Mo) (T := T_Mo) hC con_Mo_assign wd_567 wd_30 (by decide +kernel) ⟨by decide, by decide⟩ ⟨Nat.zero_le _, Nat.zero_le _⟩ wd_564 rfl rfl wd_566 wd_4 d_Mo_controls_162,
   ts_aload_n hC d_Mo_controls_165 rfl,
   ts_iload_n hC d_Mo_controls_166 rfl,
   ts_aload_n hC d_Mo_controls_167 rfl,
   ts_gr (j := 6) (C := R_Mo) (T := T_Mo) hC rfl rfl rfl (by decide) u_Mo wd_462 rfl d_Mo_controls_168,
   ts_iload_n hC d_Mo_controls_171 rfl,
   ts_iaload hC d_Mo_controls_172,
   ts_iconst hC d_Mo_controls_173 (by decide),
   ts_iadd hC d_Mo_controls_174,
   ts_callv (C := R_Mo) (T := T_Mo) hC con_Mo_retire wd_664 wd_30 (by decide +kernel) ⟨by decide, by decide⟩ ⟨Nat.zero_le _, Nat.zero_le _⟩ wd_661 rfl rfl wd_663 wd_21 d_Mo_controls_175,
   ts_iret hC rfl d_Mo_controls_178,
   trivial⟩
def fn_Mo_controls : tw_Fn := tw_fn 4 9 102 pr_Mo_controls
theorem con_Mo_controls : tw_Con y_Mo_controls b_Mo_controls 9 (some .int) 3 fn_Mo_controls := tw_met (by decide +kernel) (tw_fn_len (n := 4) (by decide)) (fun p l e s m args below meth c E D vs σ ρ hC h => tw_sound (ok_Mo_controls hC) 102 pr_Mo_controls (ok_Mo_controls hC) _ _ _ (tw_fn_get h))

-- TwinHostModel.reach(IIII)I: 73 instructions, depth 3, calls Mo_allowed Mo_fault Mo_outside Mo_fill
theorem d_Mo_reach_0 : decode b_Mo_reach 0 = .ok (.aload_n 0, 1) := by decide +kernel
theorem d_Mo_reach_1 : decode b_Mo_reach 1 = .ok (.getfield 7, 3) := by decide +kernel
theorem d_Mo_reach_4 : decode b_Mo_reach 4 = .ok (.sipush 128, 3) := by decide +kernel
theorem d_Mo_reach_7 : decode b_Mo_reach 7 = .ok (.iload_n 1, 1) := by decide +kernel
theorem d_Mo_reach_8 : decode b_Mo_reach 8 = .ok (.imul, 1) := by decide +kernel
theorem d_Mo_reach_9 : decode b_Mo_reach 9 = .ok (.aload_n 0, 1) := by decide +kernel
theorem d_Mo_reach_10 : decode b_Mo_reach 10 = .ok (.getfield 114, 3) := by decide +kernel
theorem d_Mo_reach_13 : decode b_Mo_reach 13 = .ok (.iadd, 1) := by decide +kernel
theorem d_Mo_reach_14 : decode b_Mo_reach 14 = .ok (.iaload, 1) := by decide +kernel
theorem d_Mo_reach_15 : decode b_Mo_reach 15 = .ok (.istore 5, 2) := by decide +kernel
theorem d_Mo_reach_17 : decode b_Mo_reach 17 = .ok (.aload_n 0, 1) := by decide +kernel
theorem d_Mo_reach_18 : decode b_Mo_reach 18 = .ok (.iload_n 1, 1) := by decide +kernel
theorem d_Mo_reach_19 : decode b_Mo_reach 19 = .ok (.iload 5, 2) := by decide +kernel
theorem d_Mo_reach_21 : decode b_Mo_reach 21 = .ok (.iload_n 3, 1) := by decide +kernel
theorem d_Mo_reach_22 : decode b_Mo_reach 22 = .ok (.invokevirtual 100, 3) := by decide +kernel
theorem d_Mo_reach_25 : decode b_Mo_reach 25 = .ok (.ifCond .ne 11, 3) := by decide +kernel
theorem d_Mo_reach_28 : decode b_Mo_reach 28 = .ok (.aload_n 0, 1) := by decide +kernel
theorem d_Mo_reach_29 : decode b_Mo_reach 29 = .ok (.iload_n 1, 1) := by decide +kernel
theorem d_Mo_reach_30 : decode b_Mo_reach 30 = .ok (.iload_n 2, 1) := by decide +kernel
theorem d_Mo_reach_31 : decode b_Mo_reach 31 = .ok (.iload_n 3, 1) := by decide +kernel
theorem d_Mo_reach_32 : decode b_Mo_reach 32 = .ok (.invokevirtual 97, 3) := by decide +kernel
theorem d_Mo_reach_35 : decode b_Mo_reach 35 = .ok (.ireturn, 1) := by decide +kernel
theorem d_Mo_reach_36 : decode b_Mo_reach 36 = .ok (.iload 4, 2) := by decide +kernel
theorem d_Mo_reach_38 : decode b_Mo_reach 38 = .ok (.bipush 8, 2) := by decide +kernel
theorem d_Mo_reach_40 : decode b_Mo_reach 40 = .ok (.if_icmp .lt 11, 3) := by decide +kernel
theorem d_Mo_reach_43 : decode b_Mo_reach 43 = .ok (.aload_n 0, 1) := by decide +kernel
theorem d_Mo_reach_44 : decode b_Mo_reach 44 = .ok (.iload_n 1, 1) := by decide +kernel
theorem d_Mo_reach_45 : decode b_Mo_reach 45 = .ok (.iload_n 2, 1) := by decide +kernel
theorem d_Mo_reach_46 : decode b_Mo_reach 46 = .ok (.iload_n 3, 1) := by decide +kernel
theorem d_Mo_reach_47 : decode b_Mo_reach 47 = .ok (.invokevirtual 93, 3) := by decide +kernel
theorem d_Mo_reach_50 : decode b_Mo_reach 50 = .ok (.ireturn, 1) := by decide +kernel
theorem d_Mo_reach_51 : decode b_Mo_reach 51 = .ok (.iload 5, 2) := by decide +kernel
theorem d_Mo_reach_53 : decode b_Mo_reach 53 = .ok (.iload_n 3, 1) := by decide +kernel
theorem d_Mo_reach_54 : decode b_Mo_reach 54 = .ok (.iconst 2, 1) := by decide +kernel
theorem d_Mo_reach_55 : decode b_Mo_reach 55 = .ok (.if_icmp .ne 8, 3) := by decide +kernel
theorem d_Mo_reach_58 : decode b_Mo_reach 58 = .ok (.bipush 96, 2) := by decide +kernel
theorem d_Mo_reach_60 : decode b_Mo_reach 60 = .ok (.goto 5, 3) := by decide +kernel
theorem d_Mo_reach_63 : decode b_Mo_reach 63 = .ok (.bipush 32, 2) := by decide +kernel
theorem d_Mo_reach_65 : decode b_Mo_reach 65 = .ok (.ior, 1) := by decide +kernel
theorem d_Mo_reach_66 : decode b_Mo_reach 66 = .ok (.istore 5, 2) := by decide +kernel
theorem d_Mo_reach_68 : decode b_Mo_reach 68 = .ok (.aload_n 0, 1) := by decide +kernel
theorem d_Mo_reach_69 : decode b_Mo_reach 69 = .ok (.getfield 7, 3) := by decide +kernel
theorem d_Mo_reach_72 : decode b_Mo_reach 72 = .ok (.sipush 128, 3) := by decide +kernel
theorem d_Mo_reach_75 : decode b_Mo_reach 75 = .ok (.iload_n 1, 1) := by decide +kernel
theorem d_Mo_reach_76 : decode b_Mo_reach 76 = .ok (.imul, 1) := by decide +kernel
theorem d_Mo_reach_77 : decode b_Mo_reach 77 = .ok (.aload_n 0, 1) := by decide +kernel
theorem d_Mo_reach_78 : decode b_Mo_reach 78 = .ok (.getfield 114, 3) := by decide +kernel
theorem d_Mo_reach_81 : decode b_Mo_reach 81 = .ok (.iadd, 1) := by decide +kernel
theorem d_Mo_reach_82 : decode b_Mo_reach 82 = .ok (.iload 5, 2) := by decide +kernel
theorem d_Mo_reach_84 : decode b_Mo_reach 84 = .ok (.iastore, 1) := by decide +kernel
theorem d_Mo_reach_85 : decode b_Mo_reach 85 = .ok (.aload_n 0, 1) := by decide +kernel
theorem d_Mo_reach_86 : decode b_Mo_reach 86 = .ok (.getfield 104, 3) := by decide +kernel
theorem d_Mo_reach_89 : decode b_Mo_reach 89 = .ok (.ifCond .ne 20, 3) := by decide +kernel
theorem d_Mo_reach_92 : decode b_Mo_reach 92 = .ok (.aload_n 0, 1) := by decide +kernel
theorem d_Mo_reach_93 : decode b_Mo_reach 93 = .ok (.iload_n 1, 1) := by decide +kernel
theorem d_Mo_reach_94 : decode b_Mo_reach 94 = .ok (.bipush 16, 2) := by decide +kernel
theorem d_Mo_reach_96 : decode b_Mo_reach 96 = .ok (.iload_n 1, 1) := by decide +kernel
theorem d_Mo_reach_97 : decode b_Mo_reach 97 = .ok (.imul, 1) := by decide +kernel
theorem d_Mo_reach_98 : decode b_Mo_reach 98 = .ok (.iload_n 2, 1) := by decide +kernel
theorem d_Mo_reach_99 : decode b_Mo_reach 99 = .ok (.iconst 4, 1) := by decide +kernel
theorem d_Mo_reach_100 : decode b_Mo_reach 100 = .ok (.ishr, 1) := by decide +kernel
theorem d_Mo_reach_101 : decode b_Mo_reach 101 = .ok (.iadd, 1) := by decide +kernel
theorem d_Mo_reach_102 : decode b_Mo_reach 102 = .ok (.iload 4, 2) := by decide +kernel
theorem d_Mo_reach_104 : decode b_Mo_reach 104 = .ok (.iload 5, 2) := by decide +kernel
theorem d_Mo_reach_106 : decode b_Mo_reach 106 = .ok (.invokevirtual 124, 3) := by decide +kernel
theorem d_Mo_reach_109 : decode b_Mo_reach 109 = .ok (.bipush 16, 2) := by decide +kernel
theorem d_Mo_reach_111 : decode b_Mo_reach 111 = .ok (.iload 4, 2) := by decide +kernel
theorem d_Mo_reach_113 : decode b_Mo_reach 113 = .ok (.imul, 1) := by decide +kernel
theorem d_Mo_reach_114 : decode b_Mo_reach 114 = .ok (.iload_n 2, 1) := by decide +kernel
theorem d_Mo_reach_115 : decode b_Mo_reach 115 = .ok (.bipush 15, 2) := by decide +kernel
theorem d_Mo_reach_117 : decode b_Mo_reach 117 = .ok (.iand, 1) := by decide +kernel
theorem d_Mo_reach_118 : decode b_Mo_reach 118 = .ok (.iadd, 1) := by decide +kernel
theorem d_Mo_reach_119 : decode b_Mo_reach 119 = .ok (.ireturn, 1) := by decide +kernel
def pr_Mo_reach : List (Nat × tw_Op) := [(0, tw_al 0), (1, tw_gr 22 23), (4, tw_ic (128)), (7, tw_il 1), (8, tw_bin (· * ·)), (9, tw_al 0), (10, tw_gi 22 17), (13, tw_bin (· + ·)), (14, tw_ia), (15, tw_is 5), (17, tw_al 0), (18, tw_il 1), (19, tw_il 5), (21, tw_il 3), (22, tw_cv 3 22 fn_Mo_allowed), (25, tw_ifne 36), (28, tw_al 0), (29, tw_il 1), (30, tw_il 2), (31, tw_il 3), (32, tw_cv 3 22 fn_Mo_fault), (35, tw_ri), (36, tw_il 4), (38, tw_ic (8)), (40, tw_clt 51), (43, tw_al 0), (44, tw_il 1), (45, tw_il 2), (46, tw_il 3), (47, tw_cv 3 22 fn_Mo_outside), (50, tw_ri), (51, tw_il 5), (53, tw_il 3), (54, tw_ic 2), (55, tw_cne 63), (58, tw_ic (96)), (60, tw_jmp 65), (63, tw_ic (32)), (65, tw_bin (· ||| ·)), (66, tw_is 5), (68, tw_al 0), (69, tw_gr 22 23), (72, tw_ic (128)), (75, tw_il 1), (76, tw_bin (· * ·)), (77, tw_al 0), (78, tw_gi 22 17), (81, tw_bin (· + ·)), (82, tw_il 5), (84, tw_ias 22 37), (85, tw_al 0), (86, tw_gi 22 19), (89, tw_ifne 109), (92, tw_al 0), (93, tw_il 1), (94, tw_ic (16)), (96, tw_il 1), (97, tw_bin (· * ·)), (98, tw_il 2), (99, tw_ic 4), (100, tw_bin (fun x y => x >>> (y &&& 31))), (101, tw_bin (· + ·)), (102, tw_il 4), (104, tw_il 5), (106, tw_cv 4 22 fn_Mo_fill), (109, tw_ic (16)), (111, tw_il 4), (113, tw_bin (· * ·)), (114, tw_il 2), (115, tw_ic (15)), (117, tw_bin (· &&& ·)), (118, tw_bin (· + ·)), (119, tw_ri)]
set_option maxRecDepth 100000 in
set_option maxHeartbeats 4000000 in
theorem ok_Mo_reach {p : Program} {l : Launch} {e : Env} {s : State} {m : MethodId} {args : Array Value} {below : List Frame} {meth : Method} {c : Code} {E : tw_E} {D : va_G} {ρ : tw_R} (hC : tw_Cx p s m args meth c b_Mo_reach 6 (some .int) "TwinHostModel" E D) : tw_Ok p l e (tw_rmd 3) s m args below meth c 0 0 (MQ below (tw_Qc E D ρ) args s 0 0 (tw_A E)) 6 E D ρ pr_Mo_reach :=
  ⟨ts_aload_n hC d_Mo_reach_0 rfl,
   ts_gr (j := 3) (C := R_Mo) (T := T_Mo) hC rfl rfl rfl (by decide) u_Mo wd_459 rfl d_Mo_reach_1,
   ts_sipush hC d_Mo_reach_4 (by decide),
   ts_iload_n hC d_Mo_reach_7 rfl,
   ts_imul hC d_Mo_reach_8,
   ts_aload_n hC d_Mo_reach_9 rfl,
   ts_gi (j := 17) (C := R_Mo) (T := T_Mo) hC rfl rfl rfl (by decide) u_Mo wd_473 rfl d_Mo_reach_10,
   ts_iadd hC d_Mo_reach_13,
   ts_iaload hC d_Mo_reach_14,
   ts_istore hC d_Mo_reach_15 (by decide),
   ts_aload_n hC d_Mo_reach_17 rfl,
   ts_iload_n hC d_Mo_reach_18 rfl,
   ts_iload hC d_Mo_reach_19,
   ts_iload_n hC d_Mo_reach_21 rfl,
   ts_callv (C := R_Mo) (T := T_Mo) hC con_Mo_allowed wd_628 wd_30 (by decide +kernel) ⟨by decide, by decide⟩ ⟨Nat.zero_le _, Nat.zero_le _⟩ wd_625 rfl rfl wd_627 wd_13 d_Mo_reach_22,
   ts_ifne hC d_Mo_reach_25 (by decide),
   ts_aload_n hC d_Mo_reach_28 rfl,
   ts_iload_n hC d_Mo_reach_29 rfl,
   ts_iload_n hC d_Mo_reach_30 rfl,
   ts_iload_n hC d_Mo_reach_31 rfl,
   ts_callv (C := R_Mo) (T := T_Mo) hC con_Mo_fault wd_624 wd_30 (by decide +kernel) ⟨by decide, by decide⟩ ⟨Nat.zero_le _, Nat.zero_le _⟩ wd_621 rfl rfl wd_623 wd_12 d_Mo_reach_32,
   ts_iret hC rfl d_Mo_reach_35,
   ts_iload hC d_Mo_reach_36,
   ts_bipush hC d_Mo_reach_38 (by decide),
   ts_clt hC d_Mo_reach_40 (by decide),
   ts_aload_n hC d_Mo_reach_43 rfl,
   ts_iload_n hC d_Mo_reach_44 rfl,
   ts_iload_n hC d_Mo_reach_45 rfl,
   ts_iload_n hC d_Mo_reach_46 rfl,
   ts_callv (C := R_Mo) (T := T_Mo) hC con_Mo_outside wd_620 wd_30 (by decide +kernel) ⟨by decide, by decide⟩ ⟨Nat.zero_le _, Nat.zero_le _⟩ wd_617 rfl rfl wd_619 wd_11 d_Mo_reach_47,
   ts_iret hC rfl d_Mo_reach_50,
   ts_iload hC d_Mo_reach_51,
   ts_iload_n hC d_Mo_reach_53 rfl,
   ts_iconst hC d_Mo_reach_54 (by decide),
   ts_cne hC d_Mo_reach_55 (by decide),
   ts_bipush hC d_Mo_reach_58 (by decide),
   ts_goto hC d_Mo_reach_60 (by decide),
   ts_bipush hC d_Mo_reach_63 (by decide),
   ts_ior hC d_Mo_reach_65,
   ts_istore hC d_Mo_reach_66 (by decide),
   ts_aload_n hC d_Mo_reach_68 rfl,
   ts_gr (j := 3) (C := R_Mo) (T := T_Mo) hC rfl rfl rfl (by decide) u_Mo wd_459 rfl d_Mo_reach_69,
   ts_sipush hC d_Mo_reach_72 (by decide),
   ts_iload_n hC d_Mo_reach_75 rfl,
   ts_imul hC d_Mo_reach_76,
   ts_aload_n hC d_Mo_reach_77 rfl,
   ts_gi (j := 17) (C := R_Mo) (T := T_Mo) hC rfl rfl rfl (by decide) u_Mo wd_473 rfl d_Mo_reach_78,
   ts_iadd hC d_Mo_reach_81,
   ts_iload hC d_Mo_reach_82,
   ts_iastore hC d_Mo_reach_84,
   ts_aload_n hC d_Mo_reach_85 rfl,
   ts_gi (j := 19) (C := R_Mo) (T := T_Mo) hC rfl rfl rfl (by decide) u_Mo wd_475 rfl d_Mo_reach_86,
   ts_ifne hC d_Mo_reach_89 (by decide),
   ts_aload_n hC d_Mo_reach_92 rfl,
   ts_iload_n hC d_Mo_reach_93 rfl,
   ts_bipush hC d_Mo_reach_94 (by decide),
   ts_iload_n hC d_Mo_reach_96 rfl,
   ts_imul hC d_Mo_reach_97,
   ts_iload_n hC d_Mo_reach_98 rfl,
   ts_iconst hC d_Mo_reach_99 (by decide),
   ts_ishr hC d_Mo_reach_100,
   ts_iadd hC d_Mo_reach_101,
   ts_iload hC d_Mo_reach_102,
   ts_iload hC d_Mo_reach_104,
   ts_callv (C := R_Mo) (T := T_Mo) hC con_Mo_fill wd_643 wd_30 (by decide +kernel) ⟨by decide, by decide⟩ ⟨Nat.zero_le _, Nat.zero_le _⟩ wd_640 rfl rfl wd_642 wd_16 d_Mo_reach_106,
   ts_bipush hC d_Mo_reach_109 (by decide),
   ts_iload hC d_Mo_reach_111,
   ts_imul hC d_Mo_reach_113,
   ts_iload_n hC d_Mo_reach_114 rfl,
   ts_bipush hC d_Mo_reach_115 (by decide),
   ts_iand hC d_Mo_reach_117,
   ts_iadd hC d_Mo_reach_118,
   ts_iret hC rfl d_Mo_reach_119,
   trivial⟩
def fn_Mo_reach : tw_Fn := tw_fn 5 6 75 pr_Mo_reach
theorem con_Mo_reach : tw_Con y_Mo_reach b_Mo_reach 6 (some .int) 3 fn_Mo_reach := tw_met (by decide +kernel) (tw_fn_len (n := 5) (by decide)) (fun p l e s m args below meth c E D vs σ ρ hC h => tw_sound (ok_Mo_reach hC) 75 pr_Mo_reach (ok_Mo_reach hC) _ _ _ (tw_fn_get h))
end
section
-- TwinHostModel.special(IIII)I: 122 instructions, depth 4, calls Mo_trap Mo_illegal Mo_controls Mo_retire Mo_flush
theorem d_Mo_special_0 : decode b_Mo_special 0 = .ok (.bipush 12, 2) := by decide +kernel
theorem d_Mo_special_2 : decode b_Mo_special 2 = .ok (.iload_n 1, 1) := by decide +kernel
theorem d_Mo_special_3 : decode b_Mo_special 3 = .ok (.imul, 1) := by decide +kernel
theorem d_Mo_special_4 : decode b_Mo_special 4 = .ok (.istore 5, 2) := by decide +kernel
theorem d_Mo_special_6 : decode b_Mo_special 6 = .ok (.iload_n 3, 1) := by decide +kernel
theorem d_Mo_special_7 : decode b_Mo_special 7 = .ok (.bipush 17, 2) := by decide +kernel
theorem d_Mo_special_9 : decode b_Mo_special 9 = .ok (.if_icmp .eq 9, 3) := by decide +kernel
theorem d_Mo_special_12 : decode b_Mo_special 12 = .ok (.iload_n 3, 1) := by decide +kernel
theorem d_Mo_special_13 : decode b_Mo_special 13 = .ok (.bipush 18, 2) := by decide +kernel
theorem d_Mo_special_15 : decode b_Mo_special 15 = .ok (.if_icmp .ne 37, 3) := by decide +kernel
theorem d_Mo_special_18 : decode b_Mo_special 18 = .ok (.aload_n 0, 1) := by decide +kernel
theorem d_Mo_special_19 : decode b_Mo_special 19 = .ok (.iload_n 1, 1) := by decide +kernel
theorem d_Mo_special_20 : decode b_Mo_special 20 = .ok (.iload_n 3, 1) := by decide +kernel
theorem d_Mo_special_21 : decode b_Mo_special 21 = .ok (.bipush 18, 2) := by decide +kernel
theorem d_Mo_special_23 : decode b_Mo_special 23 = .ok (.if_icmp .ne 7, 3) := by decide +kernel
theorem d_Mo_special_26 : decode b_Mo_special 26 = .ok (.iconst 3, 1) := by decide +kernel
theorem d_Mo_special_27 : decode b_Mo_special 27 = .ok (.goto 19, 3) := by decide +kernel
theorem d_Mo_special_30 : decode b_Mo_special 30 = .ok (.aload_n 0, 1) := by decide +kernel
theorem d_Mo_special_31 : decode b_Mo_special 31 = .ok (.getfield 22, 3) := by decide +kernel
theorem d_Mo_special_34 : decode b_Mo_special 34 = .ok (.iload_n 1, 1) := by decide +kernel
theorem d_Mo_special_35 : decode b_Mo_special 35 = .ok (.baload, 1) := by decide +kernel
theorem d_Mo_special_36 : decode b_Mo_special 36 = .ok (.ifCond .eq 8, 3) := by decide +kernel
theorem d_Mo_special_39 : decode b_Mo_special 39 = .ok (.bipush 8, 2) := by decide +kernel
theorem d_Mo_special_41 : decode b_Mo_special 41 = .ok (.goto 5, 3) := by decide +kernel
theorem d_Mo_special_44 : decode b_Mo_special 44 = .ok (.bipush 9, 2) := by decide +kernel
theorem d_Mo_special_46 : decode b_Mo_special 46 = .ok (.iconst 0, 1) := by decide +kernel
theorem d_Mo_special_47 : decode b_Mo_special 47 = .ok (.invokevirtual 90, 3) := by decide +kernel
theorem d_Mo_special_50 : decode b_Mo_special 50 = .ok (.iconst 0, 1) := by decide +kernel
theorem d_Mo_special_51 : decode b_Mo_special 51 = .ok (.ireturn, 1) := by decide +kernel
theorem d_Mo_special_52 : decode b_Mo_special 52 = .ok (.iload_n 3, 1) := by decide +kernel
theorem d_Mo_special_53 : decode b_Mo_special 53 = .ok (.bipush 24, 2) := by decide +kernel
theorem d_Mo_special_55 : decode b_Mo_special 55 = .ok (.if_icmp .gt 12, 3) := by decide +kernel
theorem d_Mo_special_58 : decode b_Mo_special 58 = .ok (.aload_n 0, 1) := by decide +kernel
theorem d_Mo_special_59 : decode b_Mo_special 59 = .ok (.getfield 22, 3) := by decide +kernel
theorem d_Mo_special_62 : decode b_Mo_special 62 = .ok (.iload_n 1, 1) := by decide +kernel
theorem d_Mo_special_63 : decode b_Mo_special 63 = .ok (.baload, 1) := by decide +kernel
theorem d_Mo_special_64 : decode b_Mo_special 64 = .ok (.ifCond .eq 10, 3) := by decide +kernel
theorem d_Mo_special_67 : decode b_Mo_special 67 = .ok (.aload_n 0, 1) := by decide +kernel
theorem d_Mo_special_68 : decode b_Mo_special 68 = .ok (.iload_n 1, 1) := by decide +kernel
theorem d_Mo_special_69 : decode b_Mo_special 69 = .ok (.iload_n 2, 1) := by decide +kernel
theorem d_Mo_special_70 : decode b_Mo_special 70 = .ok (.invokevirtual 150, 3) := by decide +kernel
theorem d_Mo_special_73 : decode b_Mo_special 73 = .ok (.ireturn, 1) := by decide +kernel
theorem d_Mo_special_74 : decode b_Mo_special 74 = .ok (.iload_n 3, 1) := by decide +kernel
theorem d_Mo_special_75 : decode b_Mo_special 75 = .ok (.bipush 22, 2) := by decide +kernel
theorem d_Mo_special_77 : decode b_Mo_special 77 = .ok (.if_icmp .ge 11, 3) := by decide +kernel
theorem d_Mo_special_80 : decode b_Mo_special 80 = .ok (.aload_n 0, 1) := by decide +kernel
theorem d_Mo_special_81 : decode b_Mo_special 81 = .ok (.iload_n 1, 1) := by decide +kernel
theorem d_Mo_special_82 : decode b_Mo_special 82 = .ok (.iload_n 2, 1) := by decide +kernel
theorem d_Mo_special_83 : decode b_Mo_special 83 = .ok (.iload_n 3, 1) := by decide +kernel
theorem d_Mo_special_84 : decode b_Mo_special 84 = .ok (.invokevirtual 153, 3) := by decide +kernel
theorem d_Mo_special_87 : decode b_Mo_special 87 = .ok (.ireturn, 1) := by decide +kernel
theorem d_Mo_special_88 : decode b_Mo_special 88 = .ok (.iload_n 3, 1) := by decide +kernel
theorem d_Mo_special_89 : decode b_Mo_special 89 = .ok (.bipush 22, 2) := by decide +kernel
theorem d_Mo_special_91 : decode b_Mo_special 91 = .ok (.if_icmp .ne 72, 3) := by decide +kernel
theorem d_Mo_special_94 : decode b_Mo_special 94 = .ok (.aload_n 0, 1) := by decide +kernel
theorem d_Mo_special_95 : decode b_Mo_special 95 = .ok (.getfield 22, 3) := by decide +kernel
theorem d_Mo_special_98 : decode b_Mo_special 98 = .ok (.iload_n 1, 1) := by decide +kernel
theorem d_Mo_special_99 : decode b_Mo_special 99 = .ok (.aload_n 0, 1) := by decide +kernel
theorem d_Mo_special_100 : decode b_Mo_special 100 = .ok (.getfield 16, 3) := by decide +kernel
theorem d_Mo_special_103 : decode b_Mo_special 103 = .ok (.iload 5, 2) := by decide +kernel
theorem d_Mo_special_105 : decode b_Mo_special 105 = .ok (.iaload, 1) := by decide +kernel
theorem d_Mo_special_106 : decode b_Mo_special 106 = .ok (.iconst 4, 1) := by decide +kernel
theorem d_Mo_special_107 : decode b_Mo_special 107 = .ok (.iand, 1) := by decide +kernel
theorem d_Mo_special_108 : decode b_Mo_special 108 = .ok (.ifCond .ne 7, 3) := by decide +kernel
theorem d_Mo_special_111 : decode b_Mo_special 111 = .ok (.iconst 1, 1) := by decide +kernel
theorem d_Mo_special_112 : decode b_Mo_special 112 = .ok (.goto 4, 3) := by decide +kernel
theorem d_Mo_special_115 : decode b_Mo_special 115 = .ok (.iconst 0, 1) := by decide +kernel
theorem d_Mo_special_116 : decode b_Mo_special 116 = .ok (.bastore, 1) := by decide +kernel
theorem d_Mo_special_117 : decode b_Mo_special 117 = .ok (.aload_n 0, 1) := by decide +kernel
theorem d_Mo_special_118 : decode b_Mo_special 118 = .ok (.getfield 16, 3) := by decide +kernel
theorem d_Mo_special_121 : decode b_Mo_special 121 = .ok (.iload 5, 2) := by decide +kernel
theorem d_Mo_special_123 : decode b_Mo_special 123 = .ok (.aload_n 0, 1) := by decide +kernel
theorem d_Mo_special_124 : decode b_Mo_special 124 = .ok (.getfield 16, 3) := by decide +kernel
theorem d_Mo_special_127 : decode b_Mo_special 127 = .ok (.iload 5, 2) := by decide +kernel
theorem d_Mo_special_129 : decode b_Mo_special 129 = .ok (.iaload, 1) := by decide +kernel
theorem d_Mo_special_130 : decode b_Mo_special 130 = .ok (.bipush 8, 2) := by decide +kernel
theorem d_Mo_special_132 : decode b_Mo_special 132 = .ok (.iand, 1) := by decide +kernel
theorem d_Mo_special_133 : decode b_Mo_special 133 = .ok (.iconst 2, 1) := by decide +kernel
theorem d_Mo_special_134 : decode b_Mo_special 134 = .ok (.ior, 1) := by decide +kernel
theorem d_Mo_special_135 : decode b_Mo_special 135 = .ok (.aload_n 0, 1) := by decide +kernel
theorem d_Mo_special_136 : decode b_Mo_special 136 = .ok (.getfield 16, 3) := by decide +kernel
theorem d_Mo_special_139 : decode b_Mo_special 139 = .ok (.iload 5, 2) := by decide +kernel
theorem d_Mo_special_141 : decode b_Mo_special 141 = .ok (.iaload, 1) := by decide +kernel
theorem d_Mo_special_142 : decode b_Mo_special 142 = .ok (.iconst 1, 1) := by decide +kernel
theorem d_Mo_special_143 : decode b_Mo_special 143 = .ok (.ishr, 1) := by decide +kernel
theorem d_Mo_special_144 : decode b_Mo_special 144 = .ok (.iconst 1, 1) := by decide +kernel
theorem d_Mo_special_145 : decode b_Mo_special 145 = .ok (.iand, 1) := by decide +kernel
theorem d_Mo_special_146 : decode b_Mo_special 146 = .ok (.ior, 1) := by decide +kernel
theorem d_Mo_special_147 : decode b_Mo_special 147 = .ok (.iastore, 1) := by decide +kernel
theorem d_Mo_special_148 : decode b_Mo_special 148 = .ok (.aload_n 0, 1) := by decide +kernel
theorem d_Mo_special_149 : decode b_Mo_special 149 = .ok (.iload_n 1, 1) := by decide +kernel
theorem d_Mo_special_150 : decode b_Mo_special 150 = .ok (.aload_n 0, 1) := by decide +kernel
theorem d_Mo_special_151 : decode b_Mo_special 151 = .ok (.getfield 16, 3) := by decide +kernel
theorem d_Mo_special_154 : decode b_Mo_special 154 = .ok (.iload 5, 2) := by decide +kernel
theorem d_Mo_special_156 : decode b_Mo_special 156 = .ok (.iconst 2, 1) := by decide +kernel
theorem d_Mo_special_157 : decode b_Mo_special 157 = .ok (.iadd, 1) := by decide +kernel
theorem d_Mo_special_158 : decode b_Mo_special 158 = .ok (.iaload, 1) := by decide +kernel
theorem d_Mo_special_159 : decode b_Mo_special 159 = .ok (.invokevirtual 138, 3) := by decide +kernel
theorem d_Mo_special_162 : decode b_Mo_special 162 = .ok (.ireturn, 1) := by decide +kernel
theorem d_Mo_special_163 : decode b_Mo_special 163 = .ok (.iload_n 3, 1) := by decide +kernel
theorem d_Mo_special_164 : decode b_Mo_special 164 = .ok (.bipush 23, 2) := by decide +kernel
theorem d_Mo_special_166 : decode b_Mo_special 166 = .ok (.if_icmp .ne 8, 3) := by decide +kernel
theorem d_Mo_special_169 : decode b_Mo_special 169 = .ok (.aload_n 0, 1) := by decide +kernel
theorem d_Mo_special_170 : decode b_Mo_special 170 = .ok (.iload_n 1, 1) := by decide +kernel
theorem d_Mo_special_171 : decode b_Mo_special 171 = .ok (.invokevirtual 73, 3) := by decide +kernel
theorem d_Mo_special_174 : decode b_Mo_special 174 = .ok (.iload_n 3, 1) := by decide +kernel
theorem d_Mo_special_175 : decode b_Mo_special 175 = .ok (.bipush 24, 2) := by decide +kernel
theorem d_Mo_special_177 : decode b_Mo_special 177 = .ok (.if_icmp .ne 12, 3) := by decide +kernel
theorem d_Mo_special_180 : decode b_Mo_special 180 = .ok (.iload 4, 2) := by decide +kernel
theorem d_Mo_special_182 : decode b_Mo_special 182 = .ok (.ifCond .ne 7, 3) := by decide +kernel
theorem d_Mo_special_185 : decode b_Mo_special 185 = .ok (.iconst 2, 1) := by decide +kernel
theorem d_Mo_special_186 : decode b_Mo_special 186 = .ok (.goto 16, 3) := by decide +kernel
theorem d_Mo_special_189 : decode b_Mo_special 189 = .ok (.aload_n 0, 1) := by decide +kernel
theorem d_Mo_special_190 : decode b_Mo_special 190 = .ok (.iload_n 1, 1) := by decide +kernel
theorem d_Mo_special_191 : decode b_Mo_special 191 = .ok (.aload_n 0, 1) := by decide +kernel
theorem d_Mo_special_192 : decode b_Mo_special 192 = .ok (.getfield 19, 3) := by decide +kernel
theorem d_Mo_special_195 : decode b_Mo_special 195 = .ok (.iload_n 1, 1) := by decide +kernel
theorem d_Mo_special_196 : decode b_Mo_special 196 = .ok (.iaload, 1) := by decide +kernel
theorem d_Mo_special_197 : decode b_Mo_special 197 = .ok (.iconst 1, 1) := by decide +kernel
theorem d_Mo_special_198 : decode b_Mo_special 198 = .ok (.iadd, 1) := by decide +kernel
theorem d_Mo_special_199 : decode b_Mo_special 199 = .ok (.invokevirtual 138, 3) := by decide +kernel
theorem d_Mo_special_202 : decode b_Mo_special 202 = .ok (.ireturn, 1) := by decide +kernel
def pr_Mo_special : List (Nat × tw_Op) := [(0, tw_ic (12)), (2, tw_il 1), (3, tw_bin (· * ·)), (4, tw_is 5), (6, tw_il 3), (7, tw_ic (17)), (9, tw_ceq 18), (12, tw_il 3), (13, tw_ic (18)), (15, tw_cne 52), (18, tw_al 0), (19, tw_il 1), (20, tw_il 3), (21, tw_ic (18)), (23, tw_cne 30), (26, tw_ic 3), (27, tw_jmp 46), (30, tw_al 0), (31, tw_gr 22 27), (34, tw_il 1), (35, tw_za), (36, tw_ifeq 44), (39, tw_ic (8)), (41, tw_jmp 46), (44, tw_ic (9)), (46, tw_ic 0), (47, tw_cv 3 22 fn_Mo_trap), (50, tw_ic 0), (51, tw_ri), (52, tw_il 3), (53, tw_ic (24)), (55, tw_cgt 67), (58, tw_al 0), (59, tw_gr 22 27), (62, tw_il 1), (63, tw_za), (64, tw_ifeq 74), (67, tw_al 0), (68, tw_il 1), (69, tw_il 2), (70, tw_cv 2 22 fn_Mo_illegal), (73, tw_ri), (74, tw_il 3), (75, tw_ic (22)), (77, tw_cge 88), (80, tw_al 0), (81, tw_il 1), (82, tw_il 2), (83, tw_il 3), (84, tw_cv 3 22 fn_Mo_controls), (87, tw_ri), (88, tw_il 3), (89, tw_ic (22)), (91, tw_cne 163), (94, tw_al 0), (95, tw_gr 22 27), (98, tw_il 1), (99, tw_al 0), (100, tw_gr 22 25), (103, tw_il 5), (105, tw_ia), (106, tw_ic 4), (107, tw_bin (· &&& ·)), (108, tw_ifne 115), (111, tw_ic 1), (112, tw_jmp 116), (115, tw_ic 0), (116, tw_zas 22 37), (117, tw_al 0), (118, tw_gr 22 25), (121, tw_il 5), (123, tw_al 0), (124, tw_gr 22 25), (127, tw_il 5), (129, tw_ia), (130, tw_ic (8)), (132, tw_bin (· &&& ·)), (133, tw_ic 2), (134, tw_bin (· ||| ·)), (135, tw_al 0), (136, tw_gr 22 25), (139, tw_il 5), (141, tw_ia), (142, tw_ic 1), (143, tw_bin (fun x y => x >>> (y &&& 31))), (144, tw_ic 1), (145, tw_bin (· &&& ·)), (146, tw_bin (· ||| ·)), (147, tw_ias 22 37), (148, tw_al 0), (149, tw_il 1), (150, tw_al 0), (151, tw_gr 22 25), (154, tw_il 5), (156, tw_ic 2), (157, tw_bin (· + ·)), (158, tw_ia), (159, tw_cv 2 22 fn_Mo_retire), (162, tw_ri), (163, tw_il 3), (164, tw_ic (23)), (166, tw_cne 174), (169, tw_al 0), (170, tw_il 1), (171, tw_cv 1 22 fn_Mo_flush), (174, tw_il 3), (175, tw_ic (24)), (177, tw_cne 189), (180, tw_il 4), (182, tw_ifne 189), (185, tw_ic 2), (186, tw_jmp 202), (189, tw_al 0), (190, tw_il 1), (191, tw_al 0), (192, tw_gr 22 26), (195, tw_il 1), (196, tw_ia), (197, tw_ic 1), (198, tw_bin (· + ·)), (199, tw_cv 2 22 fn_Mo_retire), (202, tw_ri)]
set_option maxRecDepth 100000 in
set_option maxHeartbeats 4000000 in
theorem ok_Mo_special {p : Program} {l : Launch} {e : Env} {s : State} {m : MethodId} {args : Array Value} {below : List Frame} {meth : Method} {c : Code} {E : tw_E} {D : va_G} {ρ : tw_R} (hC : tw_Cx p s m args meth c b_Mo_special 6 (some .int) "TwinHostModel" E D) : tw_Ok p l e (tw_rmd 4) s m args below meth c 0 0 (MQ below (tw_Qc E D ρ) args s 0 0 (tw_A E)) 6 E D ρ pr_Mo_special :=
  ⟨ts_bipush hC d_Mo_special_0 (by decide),
   ts_iload_n hC d_Mo_special_2 rfl,
   ts_imul hC d_Mo_special_3,
   ts_istore hC d_Mo_special_4 (by decide),
   ts_iload_n hC d_Mo_special_6 rfl,
   ts_bipush hC d_Mo_special_7 (by decide),
   ts_ceq hC d_Mo_special_9 (by decide),
   ts_iload_n hC d_Mo_special_12 rfl,
   ts_bipush hC d_Mo_special_13 (by decide),
   ts_cne hC d_Mo_special_15 (by decide),
   ts_aload_n hC d_Mo_special_18 rfl,
   ts_iload_n hC d_Mo_special_19 rfl,
   ts_iload_n hC d_Mo_special_20 rfl,
   ts_bipush hC d_Mo_special_21 (by decide),
   ts_cne hC d_Mo_special_23 (by decide),
   ts_iconst hC d_Mo_special_26 (by decide),
   ts_goto hC d_Mo_special_27 (by decide),
   ts_aload_n hC d_Mo_special_30 rfl,
   ts_gr (j := 7) (C := R_Mo) (T := T_Mo) hC rfl rfl rfl (by decide) u_Mo wd_463 rfl d_Mo_special_31,
   ts_iload_n hC d_Mo_special_34 rfl,
   ts_baload hC d_Mo_special_35,
   ts_ifeq hC d_Mo_special_36 (by decide),
   ts_bipush hC d_Mo_special_39 (by decide),
   ts_goto hC d_Mo_special_41 (by decide),
   ts_bipush hC d_Mo_special_44 (by decide),
   ts_iconst hC d_Mo_special_46 (by decide),
   ts_callv (C := R_Mo) (T := T_Mo) hC con_Mo_trap wd_612 wd_30 (by decide +kernel) ⟨by decide, by decide⟩ ⟨Nat.zero_le _, Nat.zero_le _⟩ wd_609 rfl rfl wd_611 wd_9 d_Mo_special_47,
   ts_iconst hC d_Mo_special_50 (by decide),
   ts_iret hC rfl d_Mo_special_51,
   ts_iload_n hC d_Mo_special_52 rfl,
   ts_bipush hC d_Mo_special_53 (by decide),
   ts_cgt hC d_Mo_special_55 (by decide),
   ts_aload_n hC d_Mo_special_58 rfl,
   ts_gr (j := 7) (C := R_Mo) (T := T_Mo) hC rfl rfl rfl (by decide) u_Mo wd_463 rfl d_Mo_special_59,
   ts_iload_n hC d_Mo_special_62 rfl,
   ts_baload hC d_Mo_special_63,
   ts_ifeq hC d_Mo_special_64 (by decide),
   ts_aload_n hC d_Mo_special_67 rfl,
   ts_iload_n hC d_Mo_special_68 rfl,
   ts_iload_n hC d_Mo_special_69 rfl,
   ts_callv (C := R_Mo) (T := T_Mo) hC con_Mo_illegal wd_651 wd_30 (by decide +kernel) ⟨by decide, by decide⟩ ⟨Nat.zero_le _, Nat.zero_le _⟩ wd_648 rfl rfl wd_650 wd_18 d_Mo_special_70,
   ts_iret hC rfl d_Mo_special_73,
   ts_iload_n hC d_Mo_special_74 rfl,
   ts_bipush hC d_Mo_special_75 (by decide),
   ts_cge hC d_Mo_special_77 (by decide),
   ts_aload_n hC d_Mo_special_80 rfl,
   ts_iload_n hC d_Mo_special_81 rfl,
   ts_iload_n hC d_Mo_special_82 rfl,
   ts_iload_n hC d_Mo_special_83 rfl,
   ts_callv (C := R_Mo) (T := T_Mo) hC con_Mo_controls wd_655 wd_30 (by decide +kernel) ⟨by decide, by decide⟩ ⟨Nat.zero_le _, Nat.zero_le _⟩ wd_652 rfl rfl wd_654 wd_19 d_Mo_special_84,
   ts_iret hC rfl d_Mo_special_87,
   ts_iload_n hC d_Mo_special_88 rfl,
   ts_bipush hC d_Mo_special_89 (by decide),
   ts_cne hC d_Mo_special_91 (by decide),
   ts_aload_n hC d_Mo_special_94 rfl,
   ts_gr (j := 7) (C := R_Mo) (T := T_Mo) hC rfl rfl rfl (by decide) u_Mo wd_463 rfl d_Mo_special_95,
   ts_iload_n hC d_Mo_special_98 rfl,
   ts_aload_n hC d_Mo_special_99 rfl,
   ts_gr (j := 5) (C := R_Mo) (T := T_Mo) hC rfl rfl rfl (by decide) u_Mo wd_461 rfl d_Mo_special_100,
   ts_iload hC d_Mo_special_103,
   ts_iaload hC d_Mo_special_105,
   ts_iconst hC d_Mo_special_106 (by decide),
   ts_iand hC d_Mo_special_107,
   ts_ifne hC d_Mo_special_108 (by decide),
   ts_iconst hC d_Mo_special_111 (by decide),
   ts_goto hC d_Mo_special_112 (by decide),
   ts_iconst hC d_Mo_special_115 (by decide),
   ts_bastore hC d_Mo_special_116,
   ts_aload_n hC d_Mo_special_117 rfl,
   ts_gr (j := 5) (C := R_Mo) (T := T_Mo) hC rfl rfl rfl (by decide) u_Mo wd_461 rfl d_Mo_special_118,
   ts_iload hC d_Mo_special_121,
   ts_aload_n hC d_Mo_special_123 rfl,
   ts_gr (j := 5) (C := R_Mo) (T := T_Mo) hC rfl rfl rfl (by decide) u_Mo wd_461 rfl d_Mo_special_124,
   ts_iload hC d_Mo_special_127,
   ts_iaload hC d_Mo_special_129,
   ts_bipush hC d_Mo_special_130 (by decide),
   ts_iand hC d_Mo_special_132,
   ts_iconst hC d_Mo_special_133 (by decide),
   ts_ior hC d_Mo_special_134,
   ts_aload_n hC d_Mo_special_135 rfl,
   ts_gr (j := 5) (C := R_Mo) (T := T_Mo) hC rfl rfl rfl (by decide) u_Mo wd_461 rfl d_Mo_special_136,
   ts_iload hC d_Mo_special_139,
   ts_iaload hC d_Mo_special_141,
   ts_iconst hC d_Mo_special_142 (by decide),
   ts_ishr hC d_Mo_special_143,
   ts_iconst hC d_Mo_special_144 (by decide),
   ts_iand hC d_Mo_special_145,
   ts_ior hC d_Mo_special_146,
   ts_iastore hC d_Mo_special_147,
   ts_aload_n hC d_Mo_special_148 rfl,
   ts_iload_n hC d_Mo_special_149 rfl,
   ts_aload_n hC d_Mo_special_150 rfl,
   ts_gr (j := 5) (C := R_Mo) (T := T_Mo) hC rfl rfl rfl (by decide) u_Mo wd_461 rfl d_Mo_special_151,
   ts_iload hC d_Mo_special_154,
   ts_iconst hC d_Mo_special_156 (by decide),
   ts_iadd hC d_Mo_special_157,
   ts_iaload hC d_Mo_special_158,
   ts_callv (C := R_Mo) (T := T_Mo) hC con_Mo_retire wd_664 wd_30 (by decide +kernel) ⟨by decide, by decide⟩ ⟨Nat.zero_le _, Nat.zero_le _⟩ wd_661 rfl rfl wd_663 wd_21 d_Mo_special_159,
   ts_iret hC rfl d_Mo_special_162,
   ts_iload_n hC d_Mo_special_163 rfl,
   ts_bipush hC d_Mo_special_164 (by decide),
   ts_cne hC d_Mo_special_166 (by decide),
   ts_aload_n hC d_Mo_special_169 rfl,
   ts_iload_n hC d_Mo_special_170 rfl,
   ts_callv (C := R_Mo) (T := T_Mo) hC con_Mo_flush wd_571 wd_30 (by decide +kernel) ⟨by decide, by decide⟩ ⟨Nat.zero_le _, Nat.zero_le _⟩ wd_568 rfl rfl wd_570 wd_5 d_Mo_special_171,
   ts_iload_n hC d_Mo_special_174 rfl,
   ts_bipush hC d_Mo_special_175 (by decide),
   ts_cne hC d_Mo_special_177 (by decide),
   ts_iload hC d_Mo_special_180,
   ts_ifne hC d_Mo_special_182 (by decide),
   ts_iconst hC d_Mo_special_185 (by decide),
   ts_goto hC d_Mo_special_186 (by decide),
   ts_aload_n hC d_Mo_special_189 rfl,
   ts_iload_n hC d_Mo_special_190 rfl,
   ts_aload_n hC d_Mo_special_191 rfl,
   ts_gr (j := 6) (C := R_Mo) (T := T_Mo) hC rfl rfl rfl (by decide) u_Mo wd_462 rfl d_Mo_special_192,
   ts_iload_n hC d_Mo_special_195 rfl,
   ts_iaload hC d_Mo_special_196,
   ts_iconst hC d_Mo_special_197 (by decide),
   ts_iadd hC d_Mo_special_198,
   ts_callv (C := R_Mo) (T := T_Mo) hC con_Mo_retire wd_664 wd_30 (by decide +kernel) ⟨by decide, by decide⟩ ⟨Nat.zero_le _, Nat.zero_le _⟩ wd_661 rfl rfl wd_663 wd_21 d_Mo_special_199,
   ts_iret hC rfl d_Mo_special_202,
   trivial⟩
def fn_Mo_special : tw_Fn := tw_fn 5 6 124 pr_Mo_special
theorem con_Mo_special : tw_Con y_Mo_special b_Mo_special 6 (some .int) 4 fn_Mo_special := tw_met (by decide +kernel) (tw_fn_len (n := 5) (by decide)) (fun p l e s m args below meth c E D vs σ ρ hC h => tw_sound (ok_Mo_special hC) 124 pr_Mo_special (ok_Mo_special hC) _ _ _ (tw_fn_get h))

-- TwinHostModel.walk(III)I: 139 instructions, depth 4, calls Mo_outside Mo_broken Mo_fault Mo_reach
theorem d_Mo_walk_0 : decode b_Mo_walk 0 = .ok (.aload_n 0, 1) := by decide +kernel
theorem d_Mo_walk_1 : decode b_Mo_walk 1 = .ok (.getfield 16, 3) := by decide +kernel
theorem d_Mo_walk_4 : decode b_Mo_walk 4 = .ok (.bipush 12, 2) := by decide +kernel
theorem d_Mo_walk_6 : decode b_Mo_walk 6 = .ok (.iload_n 1, 1) := by decide +kernel
theorem d_Mo_walk_7 : decode b_Mo_walk 7 = .ok (.imul, 1) := by decide +kernel
theorem d_Mo_walk_8 : decode b_Mo_walk 8 = .ok (.bipush 6, 2) := by decide +kernel
theorem d_Mo_walk_10 : decode b_Mo_walk 10 = .ok (.iadd, 1) := by decide +kernel
theorem d_Mo_walk_11 : decode b_Mo_walk 11 = .ok (.iaload, 1) := by decide +kernel
theorem d_Mo_walk_12 : decode b_Mo_walk 12 = .ok (.bipush 15, 2) := by decide +kernel
theorem d_Mo_walk_14 : decode b_Mo_walk 14 = .ok (.iand, 1) := by decide +kernel
theorem d_Mo_walk_15 : decode b_Mo_walk 15 = .ok (.istore 4, 2) := by decide +kernel
theorem d_Mo_walk_17 : decode b_Mo_walk 17 = .ok (.iload 4, 2) := by decide +kernel
theorem d_Mo_walk_19 : decode b_Mo_walk 19 = .ok (.bipush 8, 2) := by decide +kernel
theorem d_Mo_walk_21 : decode b_Mo_walk 21 = .ok (.if_icmp .lt 11, 3) := by decide +kernel
theorem d_Mo_walk_24 : decode b_Mo_walk 24 = .ok (.aload_n 0, 1) := by decide +kernel
theorem d_Mo_walk_25 : decode b_Mo_walk 25 = .ok (.iload_n 1, 1) := by decide +kernel
theorem d_Mo_walk_26 : decode b_Mo_walk 26 = .ok (.iload_n 2, 1) := by decide +kernel
theorem d_Mo_walk_27 : decode b_Mo_walk 27 = .ok (.iload_n 3, 1) := by decide +kernel
theorem d_Mo_walk_28 : decode b_Mo_walk 28 = .ok (.invokevirtual 93, 3) := by decide +kernel
theorem d_Mo_walk_31 : decode b_Mo_walk 31 = .ok (.ireturn, 1) := by decide +kernel
theorem d_Mo_walk_32 : decode b_Mo_walk 32 = .ok (.aload_n 0, 1) := by decide +kernel
theorem d_Mo_walk_33 : decode b_Mo_walk 33 = .ok (.bipush 16, 2) := by decide +kernel
theorem d_Mo_walk_35 : decode b_Mo_walk 35 = .ok (.iload 4, 2) := by decide +kernel
theorem d_Mo_walk_37 : decode b_Mo_walk 37 = .ok (.imul, 1) := by decide +kernel
theorem d_Mo_walk_38 : decode b_Mo_walk 38 = .ok (.iload_n 2, 1) := by decide +kernel
theorem d_Mo_walk_39 : decode b_Mo_walk 39 = .ok (.bipush 6, 2) := by decide +kernel
theorem d_Mo_walk_41 : decode b_Mo_walk 41 = .ok (.ishr, 1) := by decide +kernel
theorem d_Mo_walk_42 : decode b_Mo_walk 42 = .ok (.iadd, 1) := by decide +kernel
theorem d_Mo_walk_43 : decode b_Mo_walk 43 = .ok (.putfield 111, 3) := by decide +kernel
theorem d_Mo_walk_46 : decode b_Mo_walk 46 = .ok (.aload_n 0, 1) := by decide +kernel
theorem d_Mo_walk_47 : decode b_Mo_walk 47 = .ok (.aload_n 0, 1) := by decide +kernel
theorem d_Mo_walk_48 : decode b_Mo_walk 48 = .ok (.getfield 111, 3) := by decide +kernel
theorem d_Mo_walk_51 : decode b_Mo_walk 51 = .ok (.putfield 114, 3) := by decide +kernel
theorem d_Mo_walk_54 : decode b_Mo_walk 54 = .ok (.aload_n 0, 1) := by decide +kernel
theorem d_Mo_walk_55 : decode b_Mo_walk 55 = .ok (.getfield 7, 3) := by decide +kernel
theorem d_Mo_walk_58 : decode b_Mo_walk 58 = .ok (.sipush 128, 3) := by decide +kernel
theorem d_Mo_walk_61 : decode b_Mo_walk 61 = .ok (.iload_n 1, 1) := by decide +kernel
theorem d_Mo_walk_62 : decode b_Mo_walk 62 = .ok (.imul, 1) := by decide +kernel
theorem d_Mo_walk_63 : decode b_Mo_walk 63 = .ok (.aload_n 0, 1) := by decide +kernel
theorem d_Mo_walk_64 : decode b_Mo_walk 64 = .ok (.getfield 111, 3) := by decide +kernel
theorem d_Mo_walk_67 : decode b_Mo_walk 67 = .ok (.iadd, 1) := by decide +kernel
theorem d_Mo_walk_68 : decode b_Mo_walk 68 = .ok (.iaload, 1) := by decide +kernel
theorem d_Mo_walk_69 : decode b_Mo_walk 69 = .ok (.istore 5, 2) := by decide +kernel
theorem d_Mo_walk_71 : decode b_Mo_walk 71 = .ok (.iload 5, 2) := by decide +kernel
theorem d_Mo_walk_73 : decode b_Mo_walk 73 = .ok (.invokestatic 117, 3) := by decide +kernel
theorem d_Mo_walk_76 : decode b_Mo_walk 76 = .ok (.ifCond .eq 11, 3) := by decide +kernel
theorem d_Mo_walk_79 : decode b_Mo_walk 79 = .ok (.aload_n 0, 1) := by decide +kernel
theorem d_Mo_walk_80 : decode b_Mo_walk 80 = .ok (.iload_n 1, 1) := by decide +kernel
theorem d_Mo_walk_81 : decode b_Mo_walk 81 = .ok (.iload_n 2, 1) := by decide +kernel
theorem d_Mo_walk_82 : decode b_Mo_walk 82 = .ok (.iload_n 3, 1) := by decide +kernel
theorem d_Mo_walk_83 : decode b_Mo_walk 83 = .ok (.invokevirtual 97, 3) := by decide +kernel
theorem d_Mo_walk_86 : decode b_Mo_walk 86 = .ok (.ireturn, 1) := by decide +kernel
theorem d_Mo_walk_87 : decode b_Mo_walk 87 = .ok (.iload 5, 2) := by decide +kernel
theorem d_Mo_walk_89 : decode b_Mo_walk 89 = .ok (.bipush 8, 2) := by decide +kernel
theorem d_Mo_walk_91 : decode b_Mo_walk 91 = .ok (.ishr, 1) := by decide +kernel
theorem d_Mo_walk_92 : decode b_Mo_walk 92 = .ok (.bipush 15, 2) := by decide +kernel
theorem d_Mo_walk_94 : decode b_Mo_walk 94 = .ok (.iand, 1) := by decide +kernel
theorem d_Mo_walk_95 : decode b_Mo_walk 95 = .ok (.istore 6, 2) := by decide +kernel
theorem d_Mo_walk_97 : decode b_Mo_walk 97 = .ok (.iload 5, 2) := by decide +kernel
theorem d_Mo_walk_99 : decode b_Mo_walk 99 = .ok (.bipush 10, 2) := by decide +kernel
theorem d_Mo_walk_101 : decode b_Mo_walk 101 = .ok (.iand, 1) := by decide +kernel
theorem d_Mo_walk_102 : decode b_Mo_walk 102 = .ok (.ifCond .eq 36, 3) := by decide +kernel
theorem d_Mo_walk_105 : decode b_Mo_walk 105 = .ok (.iload 6, 2) := by decide +kernel
theorem d_Mo_walk_107 : decode b_Mo_walk 107 = .ok (.iconst 3, 1) := by decide +kernel
theorem d_Mo_walk_108 : decode b_Mo_walk 108 = .ok (.iand, 1) := by decide +kernel
theorem d_Mo_walk_109 : decode b_Mo_walk 109 = .ok (.ifCond .eq 13, 3) := by decide +kernel
theorem d_Mo_walk_112 : decode b_Mo_walk 112 = .ok (.aload_n 0, 1) := by decide +kernel
theorem d_Mo_walk_113 : decode b_Mo_walk 113 = .ok (.iload_n 1, 1) := by decide +kernel
theorem d_Mo_walk_114 : decode b_Mo_walk 114 = .ok (.iload_n 2, 1) := by decide +kernel
theorem d_Mo_walk_115 : decode b_Mo_walk 115 = .ok (.iload_n 3, 1) := by decide +kernel
theorem d_Mo_walk_116 : decode b_Mo_walk 116 = .ok (.invokevirtual 97, 3) := by decide +kernel
theorem d_Mo_walk_119 : decode b_Mo_walk 119 = .ok (.goto 18, 3) := by decide +kernel
theorem d_Mo_walk_122 : decode b_Mo_walk 122 = .ok (.aload_n 0, 1) := by decide +kernel
theorem d_Mo_walk_123 : decode b_Mo_walk 123 = .ok (.iload_n 1, 1) := by decide +kernel
theorem d_Mo_walk_124 : decode b_Mo_walk 124 = .ok (.iload_n 2, 1) := by decide +kernel
theorem d_Mo_walk_125 : decode b_Mo_walk 125 = .ok (.iload_n 3, 1) := by decide +kernel
theorem d_Mo_walk_126 : decode b_Mo_walk 126 = .ok (.iload 6, 2) := by decide +kernel
theorem d_Mo_walk_128 : decode b_Mo_walk 128 = .ok (.iload_n 2, 1) := by decide +kernel
theorem d_Mo_walk_129 : decode b_Mo_walk 129 = .ok (.iconst 4, 1) := by decide +kernel
theorem d_Mo_walk_130 : decode b_Mo_walk 130 = .ok (.ishr, 1) := by decide +kernel
theorem d_Mo_walk_131 : decode b_Mo_walk 131 = .ok (.iconst 3, 1) := by decide +kernel
theorem d_Mo_walk_132 : decode b_Mo_walk 132 = .ok (.iand, 1) := by decide +kernel
theorem d_Mo_walk_133 : decode b_Mo_walk 133 = .ok (.iadd, 1) := by decide +kernel
theorem d_Mo_walk_134 : decode b_Mo_walk 134 = .ok (.invokevirtual 120, 3) := by decide +kernel
theorem d_Mo_walk_137 : decode b_Mo_walk 137 = .ok (.ireturn, 1) := by decide +kernel
theorem d_Mo_walk_138 : decode b_Mo_walk 138 = .ok (.iload 6, 2) := by decide +kernel
theorem d_Mo_walk_140 : decode b_Mo_walk 140 = .ok (.bipush 8, 2) := by decide +kernel
theorem d_Mo_walk_142 : decode b_Mo_walk 142 = .ok (.if_icmp .lt 11, 3) := by decide +kernel
theorem d_Mo_walk_145 : decode b_Mo_walk 145 = .ok (.aload_n 0, 1) := by decide +kernel
theorem d_Mo_walk_146 : decode b_Mo_walk 146 = .ok (.iload_n 1, 1) := by decide +kernel
theorem d_Mo_walk_147 : decode b_Mo_walk 147 = .ok (.iload_n 2, 1) := by decide +kernel
theorem d_Mo_walk_148 : decode b_Mo_walk 148 = .ok (.iload_n 3, 1) := by decide +kernel
theorem d_Mo_walk_149 : decode b_Mo_walk 149 = .ok (.invokevirtual 93, 3) := by decide +kernel
theorem d_Mo_walk_152 : decode b_Mo_walk 152 = .ok (.ireturn, 1) := by decide +kernel
theorem d_Mo_walk_153 : decode b_Mo_walk 153 = .ok (.aload_n 0, 1) := by decide +kernel
theorem d_Mo_walk_154 : decode b_Mo_walk 154 = .ok (.bipush 16, 2) := by decide +kernel
theorem d_Mo_walk_156 : decode b_Mo_walk 156 = .ok (.iload 6, 2) := by decide +kernel
theorem d_Mo_walk_158 : decode b_Mo_walk 158 = .ok (.imul, 1) := by decide +kernel
theorem d_Mo_walk_159 : decode b_Mo_walk 159 = .ok (.iload_n 2, 1) := by decide +kernel
theorem d_Mo_walk_160 : decode b_Mo_walk 160 = .ok (.iconst 4, 1) := by decide +kernel
theorem d_Mo_walk_161 : decode b_Mo_walk 161 = .ok (.ishr, 1) := by decide +kernel
theorem d_Mo_walk_162 : decode b_Mo_walk 162 = .ok (.iconst 3, 1) := by decide +kernel
theorem d_Mo_walk_163 : decode b_Mo_walk 163 = .ok (.iand, 1) := by decide +kernel
theorem d_Mo_walk_164 : decode b_Mo_walk 164 = .ok (.iadd, 1) := by decide +kernel
theorem d_Mo_walk_165 : decode b_Mo_walk 165 = .ok (.putfield 114, 3) := by decide +kernel
theorem d_Mo_walk_168 : decode b_Mo_walk 168 = .ok (.aload_n 0, 1) := by decide +kernel
theorem d_Mo_walk_169 : decode b_Mo_walk 169 = .ok (.getfield 7, 3) := by decide +kernel
theorem d_Mo_walk_172 : decode b_Mo_walk 172 = .ok (.sipush 128, 3) := by decide +kernel
theorem d_Mo_walk_175 : decode b_Mo_walk 175 = .ok (.iload_n 1, 1) := by decide +kernel
theorem d_Mo_walk_176 : decode b_Mo_walk 176 = .ok (.imul, 1) := by decide +kernel
theorem d_Mo_walk_177 : decode b_Mo_walk 177 = .ok (.aload_n 0, 1) := by decide +kernel
theorem d_Mo_walk_178 : decode b_Mo_walk 178 = .ok (.getfield 114, 3) := by decide +kernel
theorem d_Mo_walk_181 : decode b_Mo_walk 181 = .ok (.iadd, 1) := by decide +kernel
theorem d_Mo_walk_182 : decode b_Mo_walk 182 = .ok (.iaload, 1) := by decide +kernel
theorem d_Mo_walk_183 : decode b_Mo_walk 183 = .ok (.istore 5, 2) := by decide +kernel
theorem d_Mo_walk_185 : decode b_Mo_walk 185 = .ok (.iload 5, 2) := by decide +kernel
theorem d_Mo_walk_187 : decode b_Mo_walk 187 = .ok (.invokestatic 117, 3) := by decide +kernel
theorem d_Mo_walk_190 : decode b_Mo_walk 190 = .ok (.ifCond .ne 11, 3) := by decide +kernel
theorem d_Mo_walk_193 : decode b_Mo_walk 193 = .ok (.iload 5, 2) := by decide +kernel
theorem d_Mo_walk_195 : decode b_Mo_walk 195 = .ok (.bipush 10, 2) := by decide +kernel
theorem d_Mo_walk_197 : decode b_Mo_walk 197 = .ok (.iand, 1) := by decide +kernel
theorem d_Mo_walk_198 : decode b_Mo_walk 198 = .ok (.ifCond .ne 11, 3) := by decide +kernel
theorem d_Mo_walk_201 : decode b_Mo_walk 201 = .ok (.aload_n 0, 1) := by decide +kernel
theorem d_Mo_walk_202 : decode b_Mo_walk 202 = .ok (.iload_n 1, 1) := by decide +kernel
theorem d_Mo_walk_203 : decode b_Mo_walk 203 = .ok (.iload_n 2, 1) := by decide +kernel
theorem d_Mo_walk_204 : decode b_Mo_walk 204 = .ok (.iload_n 3, 1) := by decide +kernel
theorem d_Mo_walk_205 : decode b_Mo_walk 205 = .ok (.invokevirtual 97, 3) := by decide +kernel
theorem d_Mo_walk_208 : decode b_Mo_walk 208 = .ok (.ireturn, 1) := by decide +kernel
theorem d_Mo_walk_209 : decode b_Mo_walk 209 = .ok (.aload_n 0, 1) := by decide +kernel
theorem d_Mo_walk_210 : decode b_Mo_walk 210 = .ok (.iload_n 1, 1) := by decide +kernel
theorem d_Mo_walk_211 : decode b_Mo_walk 211 = .ok (.iload_n 2, 1) := by decide +kernel
theorem d_Mo_walk_212 : decode b_Mo_walk 212 = .ok (.iload_n 3, 1) := by decide +kernel
theorem d_Mo_walk_213 : decode b_Mo_walk 213 = .ok (.iload 5, 2) := by decide +kernel
theorem d_Mo_walk_215 : decode b_Mo_walk 215 = .ok (.bipush 8, 2) := by decide +kernel
theorem d_Mo_walk_217 : decode b_Mo_walk 217 = .ok (.ishr, 1) := by decide +kernel
theorem d_Mo_walk_218 : decode b_Mo_walk 218 = .ok (.bipush 15, 2) := by decide +kernel
theorem d_Mo_walk_220 : decode b_Mo_walk 220 = .ok (.iand, 1) := by decide +kernel
theorem d_Mo_walk_221 : decode b_Mo_walk 221 = .ok (.invokevirtual 120, 3) := by decide +kernel
theorem d_Mo_walk_224 : decode b_Mo_walk 224 = .ok (.ireturn, 1) := by decide +kernel
def pr_Mo_walk : List (Nat × tw_Op) := [(0, tw_al 0), (1, tw_gr 22 25), (4, tw_ic (12)), (6, tw_il 1), (7, tw_bin (· * ·)), (8, tw_ic (6)), (10, tw_bin (· + ·)), (11, tw_ia), (12, tw_ic (15)), (14, tw_bin (· &&& ·)), (15, tw_is 4), (17, tw_il 4), (19, tw_ic (8)), (21, tw_clt 32), (24, tw_al 0), (25, tw_il 1), (26, tw_il 2), (27, tw_il 3), (28, tw_cv 3 22 fn_Mo_outside), (31, tw_ri), (32, tw_al 0), (33, tw_ic (16)), (35, tw_il 4), (37, tw_bin (· * ·)), (38, tw_il 2), (39, tw_ic (6)), (41, tw_bin (fun x y => x >>> (y &&& 31))), (42, tw_bin (· + ·)), (43, tw_pi 22 18), (46, tw_al 0), (47, tw_al 0), (48, tw_gi 22 18), (51, tw_pi 22 17), (54, tw_al 0), (55, tw_gr 22 23), (58, tw_ic (128)), (61, tw_il 1), (62, tw_bin (· * ·)), (63, tw_al 0), (64, tw_gi 22 18), (67, tw_bin (· + ·)), (68, tw_ia), (69, tw_is 5), (71, tw_il 5), (73, tw_cs 1 fn_Mo_broken), (76, tw_ifeq 87), (79, tw_al 0), (80, tw_il 1), (81, tw_il 2), (82, tw_il 3), (83, tw_cv 3 22 fn_Mo_fault), (86, tw_ri), (87, tw_il 5), (89, tw_ic (8)), (91, tw_bin (fun x y => x >>> (y &&& 31))), (92, tw_ic (15)), (94, tw_bin (· &&& ·)), (95, tw_is 6), (97, tw_il 5), (99, tw_ic (10)), (101, tw_bin (· &&& ·)), (102, tw_ifeq 138), (105, tw_il 6), (107, tw_ic 3), (108, tw_bin (· &&& ·)), (109, tw_ifeq 122), (112, tw_al 0), (113, tw_il 1), (114, tw_il 2), (115, tw_il 3), (116, tw_cv 3 22 fn_Mo_fault), (119, tw_jmp 137), (122, tw_al 0), (123, tw_il 1), (124, tw_il 2), (125, tw_il 3), (126, tw_il 6), (128, tw_il 2), (129, tw_ic 4), (130, tw_bin (fun x y => x >>> (y &&& 31))), (131, tw_ic 3), (132, tw_bin (· &&& ·)), (133, tw_bin (· + ·)), (134, tw_cv 4 22 fn_Mo_reach), (137, tw_ri), (138, tw_il 6), (140, tw_ic (8)), (142, tw_clt 153), (145, tw_al 0), (146, tw_il 1), (147, tw_il 2), (148, tw_il 3), (149, tw_cv 3 22 fn_Mo_outside), (152, tw_ri), (153, tw_al 0), (154, tw_ic (16)), (156, tw_il 6), (158, tw_bin (· * ·)), (159, tw_il 2), (160, tw_ic 4), (161, tw_bin (fun x y => x >>> (y &&& 31))), (162, tw_ic 3), (163, tw_bin (· &&& ·)), (164, tw_bin (· + ·)), (165, tw_pi 22 17), (168, tw_al 0), (169, tw_gr 22 23), (172, tw_ic (128)), (175, tw_il 1), (176, tw_bin (· * ·)), (177, tw_al 0), (178, tw_gi 22 17), (181, tw_bin (· + ·)), (182, tw_ia), (183, tw_is 5), (185, tw_il 5), (187, tw_cs 1 fn_Mo_broken), (190, tw_ifne 201), (193, tw_il 5), (195, tw_ic (10)), (197, tw_bin (· &&& ·)), (198, tw_ifne 209), (201, tw_al 0), (202, tw_il 1), (203, tw_il 2), (204, tw_il 3), (205, tw_cv 3 22 fn_Mo_fault), (208, tw_ri), (209, tw_al 0), (210, tw_il 1), (211, tw_il 2), (212, tw_il 3), (213, tw_il 5), (215, tw_ic (8)), (217, tw_bin (fun x y => x >>> (y &&& 31))), (218, tw_ic (15)), (220, tw_bin (· &&& ·)), (221, tw_cv 4 22 fn_Mo_reach), (224, tw_ri)]
set_option maxRecDepth 100000 in
set_option maxHeartbeats 4000000 in
theorem ok_Mo_walk {p : Program} {l : Launch} {e : Env} {s : State} {m : MethodId} {args : Array Value} {below : List Frame} {meth : Method} {c : Code} {E : tw_E} {D : va_G} {ρ : tw_R} (hC : tw_Cx p s m args meth c b_Mo_walk 7 (some .int) "TwinHostModel" E D) : tw_Ok p l e (tw_rmd 4) s m args below meth c 0 0 (MQ below (tw_Qc E D ρ) args s 0 0 (tw_A E)) 7 E D ρ pr_Mo_walk :=
  ⟨ts_aload_n hC d_Mo_walk_0 rfl,
   ts_gr (j := 5) (C := R_Mo) (T := T_Mo) hC rfl rfl rfl (by decide) u_Mo wd_461 rfl d_Mo_walk_1,
   ts_bipush hC d_Mo_walk_4 (by decide),
   ts_iload_n hC d_Mo_walk_6 rfl,
   ts_imul hC d_Mo_walk_7,
   ts_bipush hC d_Mo_walk_8 (by decide),
   ts_iadd hC d_Mo_walk_10,
   ts_iaload hC d_Mo_walk_11,
   ts_bipush hC d_Mo_walk_12 (by decide),
   ts_iand hC d_Mo_walk_14,
   ts_istore hC d_Mo_walk_15 (by decide),
   ts_iload hC d_Mo_walk_17,
   ts_bipush hC d_Mo_walk_19 (by decide),
   ts_clt hC d_Mo_walk_21 (by decide),
   ts_aload_n hC d_Mo_walk_24 rfl,
   ts_iload_n hC d_Mo_walk_25 rfl,
   ts_iload_n hC d_Mo_walk_26 rfl,
   ts_iload_n hC d_Mo_walk_27 rfl,
   ts_callv (C := R_Mo) (T := T_Mo) hC con_Mo_outside wd_620 wd_30 (by decide +kernel) ⟨by decide, by decide⟩ ⟨Nat.zero_le _, Nat.zero_le _⟩ wd_617 rfl rfl wd_619 wd_11 d_Mo_walk_28,
   ts_iret hC rfl d_Mo_walk_31,
   ts_aload_n hC d_Mo_walk_32 rfl,
   ts_bipush hC d_Mo_walk_33 (by decide),
   ts_iload hC d_Mo_walk_35,
   ts_imul hC d_Mo_walk_37,
   ts_iload_n hC d_Mo_walk_38 rfl,
   ts_bipush hC d_Mo_walk_39 (by decide),
   ts_ishr hC d_Mo_walk_41,
   ts_iadd hC d_Mo_walk_42,
   ts_pi (j := 18) (C := R_Mo) (T := T_Mo) hC rfl rfl rfl (by decide) u_Mo wd_474 rfl t_Mo_ok n_Mo rfl (by decide +kernel) d_Mo_walk_43,
   ts_aload_n hC d_Mo_walk_46 rfl,
   ts_aload_n hC d_Mo_walk_47 rfl,
   ts_gi (j := 18) (C := R_Mo) (T := T_Mo) hC rfl rfl rfl (by decide) u_Mo wd_474 rfl d_Mo_walk_48,
   ts_pi (j := 17) (C := R_Mo) (T := T_Mo) hC rfl rfl rfl (by decide) u_Mo wd_473 rfl t_Mo_ok n_Mo rfl (by decide +kernel) d_Mo_walk_51,
   ts_aload_n hC d_Mo_walk_54 rfl,
   ts_gr (j := 3) (C := R_Mo) (T := T_Mo) hC rfl rfl rfl (by decide) u_Mo wd_459 rfl d_Mo_walk_55,
   ts_sipush hC d_Mo_walk_58 (by decide),
   ts_iload_n hC d_Mo_walk_61 rfl,
   ts_imul hC d_Mo_walk_62,
   ts_aload_n hC d_Mo_walk_63 rfl,
   ts_gi (j := 18) (C := R_Mo) (T := T_Mo) hC rfl rfl rfl (by decide) u_Mo wd_474 rfl d_Mo_walk_64,
   ts_iadd hC d_Mo_walk_67,
   ts_iaload hC d_Mo_walk_68,
   ts_istore hC d_Mo_walk_69 (by decide),
   ts_iload hC d_Mo_walk_71,
   ts_calls hC con_Mo_broken wd_635 wd_30 (by decide +kernel) ⟨by decide, by decide⟩ ⟨Nat.zero_le _, Nat.zero_le _⟩ wd_633 wd_634 d_Mo_walk_73,
   ts_ifeq hC d_Mo_walk_76 (by decide),
   ts_aload_n hC d_Mo_walk_79 rfl,
   ts_iload_n hC d_Mo_walk_80 rfl,
   ts_iload_n hC d_Mo_walk_81 rfl,
   ts_iload_n hC d_Mo_walk_82 rfl,
   ts_callv (C := R_Mo) (T := T_Mo) hC con_Mo_fault wd_624 wd_30 (by decide +kernel) ⟨by decide, by decide⟩ ⟨Nat.zero_le _, Nat.zero_le _⟩ wd_621 rfl rfl wd_623 wd_12 d_Mo_walk_83,
   ts_iret hC rfl d_Mo_walk_86,
   ts_iload hC d_Mo_walk_87,
   ts_bipush hC d_Mo_walk_89 (by decide),
   ts_ishr hC d_Mo_walk_91,
   ts_bipush hC d_Mo_walk_92 (by decide),
   ts_iand hC d_Mo_walk_94,
   ts_istore hC d_Mo_walk_95 (by decide),
   ts_iload hC d_Mo_walk_97,
   ts_bipush hC d_Mo_walk_99 (by decide),
   ts_iand hC d_Mo_walk_101,
   ts_ifeq hC d_Mo_walk_102 (by decide),
   ts_iload hC d_Mo_walk_105,
   ts_iconst hC d_Mo_walk_107 (by decide),
   ts_iand hC d_Mo_walk_108,
   ts_ifeq hC d_Mo_walk_109 (by decide),
   ts_aload_n hC d_Mo_walk_112 rfl,
   ts_iload_n hC d_Mo_walk_113 rfl,
   ts_iload_n hC d_Mo_walk_114 rfl,
   ts_iload_n hC d_Mo_walk_115 rfl,
   ts_callv (C := R_Mo) (T := T_Mo) hC con_Mo_fault wd_624 wd_30 (by decide +kernel) ⟨by decide, by decide⟩ ⟨Nat.zero_le _, Nat.zero_le _⟩ wd_621 rfl rfl wd_623 wd_12 d_Mo_walk_116,
   ts_goto hC d_Mo_walk_119 (by decide),
   ts_aload_n hC d_Mo_walk_122 rfl,
   ts_iload_n hC d_Mo_walk_123 rfl,
   ts_iload_n hC d_Mo_walk_124 rfl,
   ts_iload_n hC d_Mo_walk_125 rfl,
   ts_iload hC d_Mo_walk_126,
   ts_iload_n hC d_Mo_walk_128 rfl,
   ts_iconst hC d_Mo_walk_129 (by decide),
   ts_ishr hC d_Mo_walk_130,
   ts_iconst hC d_Mo_walk_131 (by decide),
   ts_iand hC d_Mo_walk_132,
   ts_iadd hC d_Mo_walk_133,
   ts_callv (C := R_Mo) (T := T_Mo) hC con_Mo_reach wd_639 wd_30 (by decide +kernel) ⟨by decide, by decide⟩ ⟨Nat.zero_le _, Nat.zero_le _⟩ wd_636 rfl rfl wd_638 wd_15 d_Mo_walk_134,
   ts_iret hC rfl d_Mo_walk_137,
   ts_iload hC d_Mo_walk_138,
   ts_bipush hC d_Mo_walk_140 (by decide),
   ts_clt hC d_Mo_walk_142 (by decide),
   ts_aload_n hC d_Mo_walk_145 rfl,
   ts_iload_n hC d_Mo_walk_146 rfl,
   ts_iload_n hC d_Mo_walk_147 rfl,
   ts_iload_n hC d_Mo_walk_148 rfl,
   ts_callv (C := R_Mo) (T := T_Mo) hC con_Mo_outside wd_620 wd_30 (by decide +kernel) ⟨by decide, by decide⟩ ⟨Nat.zero_le _, Nat.zero_le _⟩ wd_617 rfl rfl wd_619 wd_11 d_Mo_walk_149,
   ts_iret hC rfl d_Mo_walk_152,
   ts_aload_n hC d_Mo_walk_153 rfl,
   ts_bipush hC d_Mo_walk_154 (by decide),
   ts_iload hC d_Mo_walk_156,
   ts_imul hC d_Mo_walk_158,
   ts_iload_n hC d_Mo_walk_159 rfl,
   ts_iconst hC d_Mo_walk_160 (by decide),
   ts_ishr hC d_Mo_walk_161,
   ts_iconst hC d_Mo_walk_162 (by decide),
   ts_iand hC d_Mo_walk_163,
   ts_iadd hC d_Mo_walk_164,
   ts_pi (j := 17) (C := R_Mo) (T := T_Mo) hC rfl rfl rfl (by decide) u_Mo wd_473 rfl t_Mo_ok n_Mo rfl (by decide +kernel) d_Mo_walk_165,
   ts_aload_n hC d_Mo_walk_168 rfl,
   ts_gr (j := 3) (C := R_Mo) (T := T_Mo) hC rfl rfl rfl (by decide) u_Mo wd_459 rfl d_Mo_walk_169,
   ts_sipush hC d_Mo_walk_172 (by decide),
   ts_iload_n hC d_Mo_walk_175 rfl,
   ts_imul hC d_Mo_walk_176,
   ts_aload_n hC d_Mo_walk_177 rfl,
   ts_gi (j := 17) (C := R_Mo) (T := T_Mo) hC rfl rfl rfl (by decide) u_Mo wd_473 rfl d_Mo_walk_178,
   ts_iadd hC d_Mo_walk_181,
   ts_iaload hC d_Mo_walk_182,
   ts_istore hC d_Mo_walk_183 (by decide),
   ts_iload hC d_Mo_walk_185,
   ts_calls hC con_Mo_broken wd_635 wd_30 (by decide +kernel) ⟨by decide, by decide⟩ ⟨Nat.zero_le _, Nat.zero_le _⟩ wd_633 wd_634 d_Mo_walk_187,
   ts_ifne hC d_Mo_walk_190 (by decide),
   ts_iload hC d_Mo_walk_193,
   ts_bipush hC d_Mo_walk_195 (by decide),
   ts_iand hC d_Mo_walk_197,
   ts_ifne hC d_Mo_walk_198 (by decide),
   ts_aload_n hC d_Mo_walk_201 rfl,
   ts_iload_n hC d_Mo_walk_202 rfl,
   ts_iload_n hC d_Mo_walk_203 rfl,
   ts_iload_n hC d_Mo_walk_204 rfl,
   ts_callv (C := R_Mo) (T := T_Mo) hC con_Mo_fault wd_624 wd_30 (by decide +kernel) ⟨by decide, by decide⟩ ⟨Nat.zero_le _, Nat.zero_le _⟩ wd_621 rfl rfl wd_623 wd_12 d_Mo_walk_205,
   ts_iret hC rfl d_Mo_walk_208,
   ts_aload_n hC d_Mo_walk_209 rfl,
   ts_iload_n hC d_Mo_walk_210 rfl,
   ts_iload_n hC d_Mo_walk_211 rfl,
   ts_iload_n hC d_Mo_walk_212 rfl,
   ts_iload hC d_Mo_walk_213,
   ts_bipush hC d_Mo_walk_215 (by decide),
   ts_ishr hC d_Mo_walk_217,
   ts_bipush hC d_Mo_walk_218 (by decide),
   ts_iand hC d_Mo_walk_220,
   ts_callv (C := R_Mo) (T := T_Mo) hC con_Mo_reach wd_639 wd_30 (by decide +kernel) ⟨by decide, by decide⟩ ⟨Nat.zero_le _, Nat.zero_le _⟩ wd_636 rfl rfl wd_638 wd_15 d_Mo_walk_221,
   ts_iret hC rfl d_Mo_walk_224,
   trivial⟩
def fn_Mo_walk : tw_Fn := tw_fn 4 7 141 pr_Mo_walk
theorem con_Mo_walk : tw_Con y_Mo_walk b_Mo_walk 7 (some .int) 4 fn_Mo_walk := tw_met (by decide +kernel) (tw_fn_len (n := 4) (by decide)) (fun p l e s m args below meth c E D vs σ ρ hC h => tw_sound (ok_Mo_walk hC) 141 pr_Mo_walk (ok_Mo_walk hC) _ _ _ (tw_fn_get h))
end
section
-- TwinHostModel.access(III)I: 76 instructions, depth 5, calls Mo_outside Mo_fault Mo_allowed Mo_walk
theorem d_Mo_access_0 : decode b_Mo_access 0 = .ok (.aload_n 0, 1) := by decide +kernel
theorem d_Mo_access_1 : decode b_Mo_access 1 = .ok (.getfield 16, 3) := by decide +kernel
theorem d_Mo_access_4 : decode b_Mo_access 4 = .ok (.bipush 12, 2) := by decide +kernel
theorem d_Mo_access_6 : decode b_Mo_access 6 = .ok (.iload_n 1, 1) := by decide +kernel
theorem d_Mo_access_7 : decode b_Mo_access 7 = .ok (.imul, 1) := by decide +kernel
theorem d_Mo_access_8 : decode b_Mo_access 8 = .ok (.bipush 6, 2) := by decide +kernel
theorem d_Mo_access_10 : decode b_Mo_access 10 = .ok (.iadd, 1) := by decide +kernel
theorem d_Mo_access_11 : decode b_Mo_access 11 = .ok (.iaload, 1) := by decide +kernel
theorem d_Mo_access_12 : decode b_Mo_access 12 = .ok (.sipush 128, 3) := by decide +kernel
theorem d_Mo_access_15 : decode b_Mo_access 15 = .ok (.iand, 1) := by decide +kernel
theorem d_Mo_access_16 : decode b_Mo_access 16 = .ok (.ifCond .ne 25, 3) := by decide +kernel
theorem d_Mo_access_19 : decode b_Mo_access 19 = .ok (.iload_n 2, 1) := by decide +kernel
theorem d_Mo_access_20 : decode b_Mo_access 20 = .ok (.ifCond .lt 13, 3) := by decide +kernel
theorem d_Mo_access_23 : decode b_Mo_access 23 = .ok (.iload_n 2, 1) := by decide +kernel
theorem d_Mo_access_24 : decode b_Mo_access 24 = .ok (.bipush 127, 2) := by decide +kernel
theorem d_Mo_access_26 : decode b_Mo_access 26 = .ok (.if_icmp .gt 7, 3) := by decide +kernel
theorem d_Mo_access_29 : decode b_Mo_access 29 = .ok (.iload_n 2, 1) := by decide +kernel
theorem d_Mo_access_30 : decode b_Mo_access 30 = .ok (.goto 10, 3) := by decide +kernel
theorem d_Mo_access_33 : decode b_Mo_access 33 = .ok (.aload_n 0, 1) := by decide +kernel
theorem d_Mo_access_34 : decode b_Mo_access 34 = .ok (.iload_n 1, 1) := by decide +kernel
theorem d_Mo_access_35 : decode b_Mo_access 35 = .ok (.iload_n 2, 1) := by decide +kernel
theorem d_Mo_access_36 : decode b_Mo_access 36 = .ok (.iload_n 3, 1) := by decide +kernel
theorem d_Mo_access_37 : decode b_Mo_access 37 = .ok (.invokevirtual 93, 3) := by decide +kernel
theorem d_Mo_access_40 : decode b_Mo_access 40 = .ok (.ireturn, 1) := by decide +kernel
theorem d_Mo_access_41 : decode b_Mo_access 41 = .ok (.iload_n 2, 1) := by decide +kernel
theorem d_Mo_access_42 : decode b_Mo_access 42 = .ok (.ifCond .lt 10, 3) := by decide +kernel
theorem d_Mo_access_45 : decode b_Mo_access 45 = .ok (.iload_n 2, 1) := by decide +kernel
theorem d_Mo_access_46 : decode b_Mo_access 46 = .ok (.sipush 255, 3) := by decide +kernel
theorem d_Mo_access_49 : decode b_Mo_access 49 = .ok (.if_icmp .le 11, 3) := by decide +kernel
theorem d_Mo_access_52 : decode b_Mo_access 52 = .ok (.aload_n 0, 1) := by decide +kernel
theorem d_Mo_access_53 : decode b_Mo_access 53 = .ok (.iload_n 1, 1) := by decide +kernel
theorem d_Mo_access_54 : decode b_Mo_access 54 = .ok (.iload_n 2, 1) := by decide +kernel
theorem d_Mo_access_55 : decode b_Mo_access 55 = .ok (.iload_n 3, 1) := by decide +kernel
theorem d_Mo_access_56 : decode b_Mo_access 56 = .ok (.invokevirtual 97, 3) := by decide +kernel
theorem d_Mo_access_59 : decode b_Mo_access 59 = .ok (.ireturn, 1) := by decide +kernel
theorem d_Mo_access_60 : decode b_Mo_access 60 = .ok (.bipush 16, 2) := by decide +kernel
theorem d_Mo_access_62 : decode b_Mo_access 62 = .ok (.iload_n 1, 1) := by decide +kernel
theorem d_Mo_access_63 : decode b_Mo_access 63 = .ok (.imul, 1) := by decide +kernel
theorem d_Mo_access_64 : decode b_Mo_access 64 = .ok (.iload_n 2, 1) := by decide +kernel
theorem d_Mo_access_65 : decode b_Mo_access 65 = .ok (.iconst 4, 1) := by decide +kernel
theorem d_Mo_access_66 : decode b_Mo_access 66 = .ok (.ishr, 1) := by decide +kernel
theorem d_Mo_access_67 : decode b_Mo_access 67 = .ok (.iadd, 1) := by decide +kernel
theorem d_Mo_access_68 : decode b_Mo_access 68 = .ok (.istore 4, 2) := by decide +kernel
theorem d_Mo_access_70 : decode b_Mo_access 70 = .ok (.aload_n 0, 1) := by decide +kernel
theorem d_Mo_access_71 : decode b_Mo_access 71 = .ok (.aload_n 0, 1) := by decide +kernel
theorem d_Mo_access_72 : decode b_Mo_access 72 = .ok (.getfield 38, 3) := by decide +kernel
theorem d_Mo_access_75 : decode b_Mo_access 75 = .ok (.iload 4, 2) := by decide +kernel
theorem d_Mo_access_77 : decode b_Mo_access 77 = .ok (.iaload, 1) := by decide +kernel
theorem d_Mo_access_78 : decode b_Mo_access 78 = .ok (.ifCond .lt 38, 3) := by decide +kernel
theorem d_Mo_access_81 : decode b_Mo_access 81 = .ok (.aload_n 0, 1) := by decide +kernel
theorem d_Mo_access_82 : decode b_Mo_access 82 = .ok (.iload_n 1, 1) := by decide +kernel
theorem d_Mo_access_83 : decode b_Mo_access 83 = .ok (.aload_n 0, 1) := by decide +kernel
theorem d_Mo_access_84 : decode b_Mo_access 84 = .ok (.getfield 41, 3) := by decide +kernel
theorem d_Mo_access_87 : decode b_Mo_access 87 = .ok (.iload 4, 2) := by decide +kernel
theorem d_Mo_access_89 : decode b_Mo_access 89 = .ok (.iaload, 1) := by decide +kernel
theorem d_Mo_access_90 : decode b_Mo_access 90 = .ok (.iload_n 3, 1) := by decide +kernel
theorem d_Mo_access_91 : decode b_Mo_access 91 = .ok (.invokevirtual 100, 3) := by decide +kernel
theorem d_Mo_access_94 : decode b_Mo_access 94 = .ok (.ifCond .eq 22, 3) := by decide +kernel
theorem d_Mo_access_97 : decode b_Mo_access 97 = .ok (.iload_n 3, 1) := by decide +kernel
theorem d_Mo_access_98 : decode b_Mo_access 98 = .ok (.iconst 2, 1) := by decide +kernel
theorem d_Mo_access_99 : decode b_Mo_access 99 = .ok (.if_icmp .lt 13, 3) := by decide +kernel
theorem d_Mo_access_102 : decode b_Mo_access 102 = .ok (.aload_n 0, 1) := by decide +kernel
theorem d_Mo_access_103 : decode b_Mo_access 103 = .ok (.getfield 44, 3) := by decide +kernel
theorem d_Mo_access_106 : decode b_Mo_access 106 = .ok (.iload 4, 2) := by decide +kernel
theorem d_Mo_access_108 : decode b_Mo_access 108 = .ok (.baload, 1) := by decide +kernel
theorem d_Mo_access_109 : decode b_Mo_access 109 = .ok (.ifCond .eq 7, 3) := by decide +kernel
theorem d_Mo_access_112 : decode b_Mo_access 112 = .ok (.iconst 1, 1) := by decide +kernel
theorem d_Mo_access_113 : decode b_Mo_access 113 = .ok (.goto 4, 3) := by decide +kernel
theorem d_Mo_access_116 : decode b_Mo_access 116 = .ok (.iconst 0, 1) := by decide +kernel
theorem d_Mo_access_117 : decode b_Mo_access 117 = .ok (.putfield 104, 3) := by decide +kernel
theorem d_Mo_access_120 : decode b_Mo_access 120 = .ok (.aload_n 0, 1) := by decide +kernel
theorem d_Mo_access_121 : decode b_Mo_access 121 = .ok (.iload_n 1, 1) := by decide +kernel
theorem d_Mo_access_122 : decode b_Mo_access 122 = .ok (.iload_n 2, 1) := by decide +kernel
theorem d_Mo_access_123 : decode b_Mo_access 123 = .ok (.iload_n 3, 1) := by decide +kernel
theorem d_Mo_access_124 : decode b_Mo_access 124 = .ok (.invokevirtual 108, 3) := by decide +kernel
theorem d_Mo_access_127 : decode b_Mo_access 127 = .ok (.ireturn, 1) := by decide +kernel
def pr_Mo_access : List (Nat × tw_Op) := [(0, tw_al 0), (1, tw_gr 22 25), (4, tw_ic (12)), (6, tw_il 1), (7, tw_bin (· * ·)), (8, tw_ic (6)), (10, tw_bin (· + ·)), (11, tw_ia), (12, tw_ic (128)), (15, tw_bin (· &&& ·)), (16, tw_ifne 41), (19, tw_il 2), (20, tw_iflt 33), (23, tw_il 2), (24, tw_ic (127)), (26, tw_cgt 33), (29, tw_il 2), (30, tw_jmp 40), (33, tw_al 0), (34, tw_il 1), (35, tw_il 2), (36, tw_il 3), (37, tw_cv 3 22 fn_Mo_outside), (40, tw_ri), (41, tw_il 2), (42, tw_iflt 52), (45, tw_il 2), (46, tw_ic (255)), (49, tw_cle 60), (52, tw_al 0), (53, tw_il 1), (54, tw_il 2), (55, tw_il 3), (56, tw_cv 3 22 fn_Mo_fault), (59, tw_ri), (60, tw_ic (16)), (62, tw_il 1), (63, tw_bin (· * ·)), (64, tw_il 2), (65, tw_ic 4), (66, tw_bin (fun x y => x >>> (y &&& 31))), (67, tw_bin (· + ·)), (68, tw_is 4), (70, tw_al 0), (71, tw_al 0), (72, tw_gr 22 32), (75, tw_il 4), (77, tw_ia), (78, tw_iflt 116), (81, tw_al 0), (82, tw_il 1), (83, tw_al 0), (84, tw_gr 22 33), (87, tw_il 4), (89, tw_ia), (90, tw_il 3), (91, tw_cv 3 22 fn_Mo_allowed), (94, tw_ifeq 116), (97, tw_il 3), (98, tw_ic 2), (99, tw_clt 112), (102, tw_al 0), (103, tw_gr 22 34), (106, tw_il 4), (108, tw_za), (109, tw_ifeq 116), (112, tw_ic 1), (113, tw_jmp 117), (116, tw_ic 0), (117, tw_pz 22 19), (120, tw_al 0), (121, tw_il 1), (122, tw_il 2), (123, tw_il 3), (124, tw_cv 3 22 fn_Mo_walk), (127, tw_ri)]
set_option maxRecDepth 100000 in
set_option maxHeartbeats 4000000 in
theorem ok_Mo_access {p : Program} {l : Launch} {e : Env} {s : State} {m : MethodId} {args : Array Value} {below : List Frame} {meth : Method} {c : Code} {E : tw_E} {D : va_G} {ρ : tw_R} (hC : tw_Cx p s m args meth c b_Mo_access 5 (some .int) "TwinHostModel" E D) : tw_Ok p l e (tw_rmd 5) s m args below meth c 0 0 (MQ below (tw_Qc E D ρ) args s 0 0 (tw_A E)) 5 E D ρ pr_Mo_access :=
  ⟨ts_aload_n hC d_Mo_access_0 rfl,
   ts_gr (j := 5) (C := R_Mo) (T := T_Mo) hC rfl rfl rfl (by decide) u_Mo wd_461 rfl d_Mo_access_1,
   ts_bipush hC d_Mo_access_4 (by decide),
   ts_iload_n hC d_Mo_access_6 rfl,
   ts_imul hC d_Mo_access_7,
   ts_bipush hC d_Mo_access_8 (by decide),
   ts_iadd hC d_Mo_access_10,
   ts_iaload hC d_Mo_access_11,
   ts_sipush hC d_Mo_access_12 (by decide),
   ts_iand hC d_Mo_access_15,
   ts_ifne hC d_Mo_access_16 (by decide),
   ts_iload_n hC d_Mo_access_19 rfl,
   ts_iflt hC d_Mo_access_20 (by decide),
   ts_iload_n hC d_Mo_access_23 rfl,
   ts_bipush hC d_Mo_access_24 (by decide),
   ts_cgt hC d_Mo_access_26 (by decide),
   ts_iload_n hC d_Mo_access_29 rfl,
   ts_goto hC d_Mo_access_30 (by decide),
   ts_aload_n hC d_Mo_access_33 rfl,
   ts_iload_n hC d_Mo_access_34 rfl,
   ts_iload_n hC d_Mo_access_35 rfl,
   ts_iload_n hC d_Mo_access_36 rfl,
   ts_callv (C := R_Mo) (T := T_Mo) hC con_Mo_outside wd_620 wd_30 (by decide +kernel) ⟨by decide, by decide⟩ ⟨Nat.zero_le _, Nat.zero_le _⟩ wd_617 rfl rfl wd_619 wd_11 d_Mo_access_37,
   ts_iret hC rfl d_Mo_access_40,
   ts_iload_n hC d_Mo_access_41 rfl,
   ts_iflt hC d_Mo_access_42 (by decide),
   ts_iload_n hC d_Mo_access_45 rfl,
   ts_sipush hC d_Mo_access_46 (by decide),
   ts_cle hC d_Mo_access_49 (by decide),
   ts_aload_n hC d_Mo_access_52 rfl,
   ts_iload_n hC d_Mo_access_53 rfl,
   ts_iload_n hC d_Mo_access_54 rfl,
   ts_iload_n hC d_Mo_access_55 rfl,
   ts_callv (C := R_Mo) (T := T_Mo) hC con_Mo_fault wd_624 wd_30 (by decide +kernel) ⟨by decide, by decide⟩ ⟨Nat.zero_le _, Nat.zero_le _⟩ wd_621 rfl rfl wd_623 wd_12 d_Mo_access_56,
   ts_iret hC rfl d_Mo_access_59,
   ts_bipush hC d_Mo_access_60 (by decide),
   ts_iload_n hC d_Mo_access_62 rfl,
   ts_imul hC d_Mo_access_63,
   ts_iload_n hC d_Mo_access_64 rfl,
   ts_iconst hC d_Mo_access_65 (by decide),
   ts_ishr hC d_Mo_access_66,
   ts_iadd hC d_Mo_access_67,
   ts_istore hC d_Mo_access_68 (by decide),
   ts_aload_n hC d_Mo_access_70 rfl,
   ts_aload_n hC d_Mo_access_71 rfl,
   ts_gr (j := 12) (C := R_Mo) (T := T_Mo) hC rfl rfl rfl (by decide) u_Mo wd_468 rfl d_Mo_access_72,
   ts_iload hC d_Mo_access_75,
   ts_iaload hC d_Mo_access_77,
   ts_iflt hC d_Mo_access_78 (by decide),
   ts_aload_n hC d_Mo_access_81 rfl,
   ts_iload_n hC d_Mo_access_82 rfl,
   ts_aload_n hC d_Mo_access_83 rfl,
   ts_gr (j := 13) (C := R_Mo) (T := T_Mo) hC rfl rfl rfl (by decide) u_Mo wd_469 rfl d_Mo_access_84,
   ts_iload hC d_Mo_access_87,
   ts_iaload hC d_Mo_access_89,
   ts_iload_n hC d_Mo_access_90 rfl,
   ts_callv (C := R_Mo) (T := T_Mo) hC con_Mo_allowed wd_628 wd_30 (by decide +kernel) ⟨by decide, by decide⟩ ⟨Nat.zero_le _, Nat.zero_le _⟩ wd_625 rfl rfl wd_627 wd_13 d_Mo_access_91,
   ts_ifeq hC d_Mo_access_94 (by decide),
   ts_iload_n hC d_Mo_access_97 rfl,
   ts_iconst hC d_Mo_access_98 (by decide),
   ts_clt hC d_Mo_access_99 (by decide),
   ts_aload_n hC d_Mo_access_102 rfl,
   ts_gr (j := 14) (C := R_Mo) (T := T_Mo) hC rfl rfl rfl (by decide) u_Mo wd_470 rfl d_Mo_access_103,
   ts_iload hC d_Mo_access_106,
   ts_baload hC d_Mo_access_108,
   ts_ifeq hC d_Mo_access_109 (by decide),
   ts_iconst hC d_Mo_access_112 (by decide),
   ts_goto hC d_Mo_access_113 (by decide),
   ts_iconst hC d_Mo_access_116 (by decide),
   ts_pz (j := 19) (C := R_Mo) (T := T_Mo) hC rfl rfl rfl (by decide) u_Mo wd_475 rfl t_Mo_ok n_Mo rfl (by decide +kernel) d_Mo_access_117,
   ts_aload_n hC d_Mo_access_120 rfl,
   ts_iload_n hC d_Mo_access_121 rfl,
   ts_iload_n hC d_Mo_access_122 rfl,
   ts_iload_n hC d_Mo_access_123 rfl,
   ts_callv (C := R_Mo) (T := T_Mo) hC con_Mo_walk wd_632 wd_30 (by decide +kernel) ⟨by decide, by decide⟩ ⟨Nat.zero_le _, Nat.zero_le _⟩ wd_629 rfl rfl wd_631 wd_14 d_Mo_access_124,
   ts_iret hC rfl d_Mo_access_127,
   trivial⟩
def fn_Mo_access : tw_Fn := tw_fn 4 5 78 pr_Mo_access
theorem con_Mo_access : tw_Con y_Mo_access b_Mo_access 5 (some .int) 5 fn_Mo_access := tw_met (by decide +kernel) (tw_fn_len (n := 4) (by decide)) (fun p l e s m args below meth c E D vs σ ρ hC h => tw_sound (ok_Mo_access hC) 78 pr_Mo_access (ok_Mo_access hC) _ _ _ (tw_fn_get h))
end
section
-- TwinHostModel.data(IIIII)I: 65 instructions, depth 6, calls Mo_access Mo_put Mo_traced Mo_add Mo_drop Mo_retire
theorem d_Mo_data_0 : decode b_Mo_data 0 = .ok (.aload_n 0, 1) := by decide +kernel
theorem d_Mo_data_1 : decode b_Mo_data 1 = .ok (.iload_n 1, 1) := by decide +kernel
theorem d_Mo_data_2 : decode b_Mo_data 2 = .ok (.iload 4, 2) := by decide +kernel
theorem d_Mo_data_4 : decode b_Mo_data 4 = .ok (.iload_n 2, 1) := by decide +kernel
theorem d_Mo_data_5 : decode b_Mo_data 5 = .ok (.bipush 9, 2) := by decide +kernel
theorem d_Mo_data_7 : decode b_Mo_data 7 = .ok (.isub, 1) := by decide +kernel
theorem d_Mo_data_8 : decode b_Mo_data 8 = .ok (.invokevirtual 129, 3) := by decide +kernel
theorem d_Mo_data_11 : decode b_Mo_data 11 = .ok (.istore 6, 2) := by decide +kernel
theorem d_Mo_data_13 : decode b_Mo_data 13 = .ok (.iload 6, 2) := by decide +kernel
theorem d_Mo_data_15 : decode b_Mo_data 15 = .ok (.ifCond .ge 5, 3) := by decide +kernel
theorem d_Mo_data_18 : decode b_Mo_data 18 = .ok (.iconst 0, 1) := by decide +kernel
theorem d_Mo_data_19 : decode b_Mo_data 19 = .ok (.ireturn, 1) := by decide +kernel
theorem d_Mo_data_20 : decode b_Mo_data 20 = .ok (.iload_n 2, 1) := by decide +kernel
theorem d_Mo_data_21 : decode b_Mo_data 21 = .ok (.bipush 10, 2) := by decide +kernel
theorem d_Mo_data_23 : decode b_Mo_data 23 = .ok (.if_icmp .ne 25, 3) := by decide +kernel
theorem d_Mo_data_26 : decode b_Mo_data 26 = .ok (.aload_n 0, 1) := by decide +kernel
theorem d_Mo_data_27 : decode b_Mo_data 27 = .ok (.iload_n 1, 1) := by decide +kernel
theorem d_Mo_data_28 : decode b_Mo_data 28 = .ok (.iload_n 3, 1) := by decide +kernel
theorem d_Mo_data_29 : decode b_Mo_data 29 = .ok (.aload_n 0, 1) := by decide +kernel
theorem d_Mo_data_30 : decode b_Mo_data 30 = .ok (.getfield 7, 3) := by decide +kernel
theorem d_Mo_data_33 : decode b_Mo_data 33 = .ok (.sipush 128, 3) := by decide +kernel
theorem d_Mo_data_36 : decode b_Mo_data 36 = .ok (.iload_n 1, 1) := by decide +kernel
theorem d_Mo_data_37 : decode b_Mo_data 37 = .ok (.imul, 1) := by decide +kernel
theorem d_Mo_data_38 : decode b_Mo_data 38 = .ok (.iload 6, 2) := by decide +kernel
theorem d_Mo_data_40 : decode b_Mo_data 40 = .ok (.iadd, 1) := by decide +kernel
theorem d_Mo_data_41 : decode b_Mo_data 41 = .ok (.iaload, 1) := by decide +kernel
theorem d_Mo_data_42 : decode b_Mo_data 42 = .ok (.invokevirtual 70, 3) := by decide +kernel
theorem d_Mo_data_45 : decode b_Mo_data 45 = .ok (.goto 49, 3) := by decide +kernel
theorem d_Mo_data_48 : decode b_Mo_data 48 = .ok (.aload_n 0, 1) := by decide +kernel
theorem d_Mo_data_49 : decode b_Mo_data 49 = .ok (.iload_n 1, 1) := by decide +kernel
theorem d_Mo_data_50 : decode b_Mo_data 50 = .ok (.iload 6, 2) := by decide +kernel
theorem d_Mo_data_52 : decode b_Mo_data 52 = .ok (.bipush 16, 2) := by decide +kernel
theorem d_Mo_data_54 : decode b_Mo_data 54 = .ok (.idiv, 1) := by decide +kernel
theorem d_Mo_data_55 : decode b_Mo_data 55 = .ok (.invokevirtual 146, 3) := by decide +kernel
theorem d_Mo_data_58 : decode b_Mo_data 58 = .ok (.istore 7, 2) := by decide +kernel
theorem d_Mo_data_60 : decode b_Mo_data 60 = .ok (.aload_n 0, 1) := by decide +kernel
theorem d_Mo_data_61 : decode b_Mo_data 61 = .ok (.getfield 7, 3) := by decide +kernel
theorem d_Mo_data_64 : decode b_Mo_data 64 = .ok (.sipush 128, 3) := by decide +kernel
theorem d_Mo_data_67 : decode b_Mo_data 67 = .ok (.iload_n 1, 1) := by decide +kernel
theorem d_Mo_data_68 : decode b_Mo_data 68 = .ok (.imul, 1) := by decide +kernel
theorem d_Mo_data_69 : decode b_Mo_data 69 = .ok (.iload 6, 2) := by decide +kernel
theorem d_Mo_data_71 : decode b_Mo_data 71 = .ok (.iadd, 1) := by decide +kernel
theorem d_Mo_data_72 : decode b_Mo_data 72 = .ok (.iload 5, 2) := by decide +kernel
theorem d_Mo_data_74 : decode b_Mo_data 74 = .ok (.iastore, 1) := by decide +kernel
theorem d_Mo_data_75 : decode b_Mo_data 75 = .ok (.iload 7, 2) := by decide +kernel
theorem d_Mo_data_77 : decode b_Mo_data 77 = .ok (.ifCond .eq 10, 3) := by decide +kernel
theorem d_Mo_data_80 : decode b_Mo_data 80 = .ok (.aload_n 0, 1) := by decide +kernel
theorem d_Mo_data_81 : decode b_Mo_data 81 = .ok (.iload_n 1, 1) := by decide +kernel
theorem d_Mo_data_82 : decode b_Mo_data 82 = .ok (.iconst 3, 1) := by decide +kernel
theorem d_Mo_data_83 : decode b_Mo_data 83 = .ok (.iconst 1, 1) := by decide +kernel
theorem d_Mo_data_84 : decode b_Mo_data 84 = .ok (.invokevirtual 58, 3) := by decide +kernel
theorem d_Mo_data_87 : decode b_Mo_data 87 = .ok (.aload_n 0, 1) := by decide +kernel
theorem d_Mo_data_88 : decode b_Mo_data 88 = .ok (.iload_n 1, 1) := by decide +kernel
theorem d_Mo_data_89 : decode b_Mo_data 89 = .ok (.iload 6, 2) := by decide +kernel
theorem d_Mo_data_91 : decode b_Mo_data 91 = .ok (.invokevirtual 66, 3) := by decide +kernel
theorem d_Mo_data_94 : decode b_Mo_data 94 = .ok (.aload_n 0, 1) := by decide +kernel
theorem d_Mo_data_95 : decode b_Mo_data 95 = .ok (.iload_n 1, 1) := by decide +kernel
theorem d_Mo_data_96 : decode b_Mo_data 96 = .ok (.aload_n 0, 1) := by decide +kernel
theorem d_Mo_data_97 : decode b_Mo_data 97 = .ok (.getfield 19, 3) := by decide +kernel
theorem d_Mo_data_100 : decode b_Mo_data 100 = .ok (.iload_n 1, 1) := by decide +kernel
theorem d_Mo_data_101 : decode b_Mo_data 101 = .ok (.iaload, 1) := by decide +kernel
theorem d_Mo_data_102 : decode b_Mo_data 102 = .ok (.iconst 1, 1) := by decide +kernel
theorem d_Mo_data_103 : decode b_Mo_data 103 = .ok (.iadd, 1) := by decide +kernel
theorem d_Mo_data_104 : decode b_Mo_data 104 = .ok (.invokevirtual 138, 3) := by decide +kernel
theorem d_Mo_data_107 : decode b_Mo_data 107 = .ok (.ireturn, 1) := by decide +kernel
def pr_Mo_data : List (Nat × tw_Op) := [(0, tw_al 0), (1, tw_il 1), (2, tw_il 4), (4, tw_il 2), (5, tw_ic (9)), (7, tw_bin (· - ·)), (8, tw_cv 3 22 fn_Mo_access), (11, tw_is 6), (13, tw_il 6), (15, tw_ifge 20), (18, tw_ic 0), (19, tw_ri), (20, tw_il 2), (21, tw_ic (10)), (23, tw_cne 48), (26, tw_al 0), (27, tw_il 1), (28, tw_il 3), (29, tw_al 0), (30, tw_gr 22 23), (33, tw_ic (128)), (36, tw_il 1), (37, tw_bin (· * ·)), (38, tw_il 6), (40, tw_bin (· + ·)), (41, tw_ia), (42, tw_cv 3 22 fn_Mo_put), (45, tw_jmp 94), (48, tw_al 0), (49, tw_il 1), (50, tw_il 6), (52, tw_ic (16)), (54, tw_div), (55, tw_cv 2 22 fn_Mo_traced), (58, tw_is 7), (60, tw_al 0), (61, tw_gr 22 23), (64, tw_ic (128)), (67, tw_il 1), (68, tw_bin (· * ·)), (69, tw_il 6), (71, tw_bin (· + ·)), (72, tw_il 5), (74, tw_ias 22 37), (75, tw_il 7), (77, tw_ifeq 87), (80, tw_al 0), (81, tw_il 1), (82, tw_ic 3), (83, tw_ic 1), (84, tw_cv 3 22 fn_Mo_add), (87, tw_al 0), (88, tw_il 1), (89, tw_il 6), (91, tw_cv 2 22 fn_Mo_drop), (94, tw_al 0), (95, tw_il 1), (96, tw_al 0), (97, tw_gr 22 26), (100, tw_il 1), (101, tw_ia), (102, tw_ic 1), (103, tw_bin (· + ·)), (104, tw_cv 2 22 fn_Mo_retire), (107, tw_ri)]
set_option maxRecDepth 100000 in
set_option maxHeartbeats 4000000 in
theorem ok_Mo_data {p : Program} {l : Launch} {e : Env} {s : State} {m : MethodId} {args : Array Value} {below : List Frame} {meth : Method} {c : Code} {E : tw_E} {D : va_G} {ρ : tw_R} (hC : tw_Cx p s m args meth c b_Mo_data 8 (some .int) "TwinHostModel" E D) : tw_Ok p l e (tw_rmd 6) s m args below meth c 0 0 (MQ below (tw_Qc E D ρ) args s 0 0 (tw_A E)) 8 E D ρ pr_Mo_data :=
  ⟨ts_aload_n hC d_Mo_data_0 rfl,
   ts_iload_n hC d_Mo_data_1 rfl,
   ts_iload hC d_Mo_data_2,
   ts_iload_n hC d_Mo_data_4 rfl,
   ts_bipush hC d_Mo_data_5 (by decide),
   ts_isub hC d_Mo_data_7,
   ts_callv (C := R_Mo) (T := T_Mo) hC con_Mo_access wd_616 wd_30 (by decide +kernel) ⟨by decide, by decide⟩ ⟨Nat.zero_le _, Nat.zero_le _⟩ wd_613 rfl rfl wd_615 wd_10 d_Mo_data_8,
   ts_istore hC d_Mo_data_11 (by decide),
   ts_iload hC d_Mo_data_13,
   ts_ifge hC d_Mo_data_15 (by decide),
   ts_iconst hC d_Mo_data_18 (by decide),
   ts_iret hC rfl d_Mo_data_19,
   ts_iload_n hC d_Mo_data_20 rfl,
   ts_bipush hC d_Mo_data_21 (by decide),
   ts_cne hC d_Mo_data_23 (by decide),
   ts_aload_n hC d_Mo_data_26 rfl,
   ts_iload_n hC d_Mo_data_27 rfl,
   ts_iload_n hC d_Mo_data_28 rfl,
   ts_aload_n hC d_Mo_data_29 rfl,
   ts_gr (j := 3) (C := R_Mo) (T := T_Mo) hC rfl rfl rfl (by decide) u_Mo wd_459 rfl d_Mo_data_30,
   ts_sipush hC d_Mo_data_33 (by decide),
   ts_iload_n hC d_Mo_data_36 rfl,
   ts_imul hC d_Mo_data_37,
   ts_iload hC d_Mo_data_38,
   ts_iadd hC d_Mo_data_40,
   ts_iaload hC d_Mo_data_41,
   ts_callv (C := R_Mo) (T := T_Mo) hC con_Mo_put wd_552 wd_30 (by decide +kernel) ⟨by decide, by decide⟩ ⟨Nat.zero_le _, Nat.zero_le _⟩ wd_549 rfl rfl wd_551 wd_3 d_Mo_data_42,
   ts_goto hC d_Mo_data_45 (by decide),
   ts_aload_n hC d_Mo_data_48 rfl,
   ts_iload_n hC d_Mo_data_49 rfl,
   ts_iload hC d_Mo_data_50,
   ts_bipush hC d_Mo_data_52 (by decide),
   ts_idiv hC d_Mo_data_54,
   ts_callv (C := R_Mo) (T := T_Mo) hC con_Mo_traced wd_528 wd_30 (by decide +kernel) ⟨by decide, by decide⟩ ⟨Nat.zero_le _, Nat.zero_le _⟩ wd_672 rfl rfl wd_526 wd_527 d_Mo_data_55,
   ts_istore hC d_Mo_data_58 (by decide),
   ts_aload_n hC d_Mo_data_60 rfl,
   ts_gr (j := 3) (C := R_Mo) (T := T_Mo) hC rfl rfl rfl (by decide) u_Mo wd_459 rfl d_Mo_data_61,
   ts_sipush hC d_Mo_data_64 (by decide),
   ts_iload_n hC d_Mo_data_67 rfl,
   ts_imul hC d_Mo_data_68,
   ts_iload hC d_Mo_data_69,
   ts_iadd hC d_Mo_data_71,
   ts_iload hC d_Mo_data_72,
   ts_iastore hC d_Mo_data_74,
   ts_iload hC d_Mo_data_75,
   ts_ifeq hC d_Mo_data_77 (by decide),
   ts_aload_n hC d_Mo_data_80 rfl,
   ts_iload_n hC d_Mo_data_81 rfl,
   ts_iconst hC d_Mo_data_82 (by decide),
   ts_iconst hC d_Mo_data_83 (by decide),
   ts_callv (C := R_Mo) (T := T_Mo) hC con_Mo_add wd_540 wd_30 (by decide +kernel) ⟨by decide, by decide⟩ ⟨Nat.zero_le _, Nat.zero_le _⟩ wd_537 rfl rfl wd_539 wd_2 d_Mo_data_84,
   ts_aload_n hC d_Mo_data_87 rfl,
   ts_iload_n hC d_Mo_data_88 rfl,
   ts_iload hC d_Mo_data_89,
   ts_callv (C := R_Mo) (T := T_Mo) hC con_Mo_drop wd_536 wd_30 (by decide +kernel) ⟨by decide, by decide⟩ ⟨Nat.zero_le _, Nat.zero_le _⟩ wd_533 rfl rfl wd_535 wd_1 d_Mo_data_91,
   ts_aload_n hC d_Mo_data_94 rfl,
   ts_iload_n hC d_Mo_data_95 rfl,
   ts_aload_n hC d_Mo_data_96 rfl,
   ts_gr (j := 6) (C := R_Mo) (T := T_Mo) hC rfl rfl rfl (by decide) u_Mo wd_462 rfl d_Mo_data_97,
   ts_iload_n hC d_Mo_data_100 rfl,
   ts_iaload hC d_Mo_data_101,
   ts_iconst hC d_Mo_data_102 (by decide),
   ts_iadd hC d_Mo_data_103,
   ts_callv (C := R_Mo) (T := T_Mo) hC con_Mo_retire wd_664 wd_30 (by decide +kernel) ⟨by decide, by decide⟩ ⟨Nat.zero_le _, Nat.zero_le _⟩ wd_661 rfl rfl wd_663 wd_21 d_Mo_data_104,
   ts_iret hC rfl d_Mo_data_107,
   trivial⟩
def fn_Mo_data : tw_Fn := tw_fn 6 8 67 pr_Mo_data
theorem con_Mo_data : tw_Con y_Mo_data b_Mo_data 8 (some .int) 6 fn_Mo_data := tw_met (by decide +kernel) (tw_fn_len (n := 6) (by decide)) (fun p l e s m args below meth c E D vs σ ρ hC h => tw_sound (ok_Mo_data hC) 67 pr_Mo_data (ok_Mo_data hC) _ _ _ (tw_fn_get h))
end
section
-- TwinHostModel.step(I)I: 239 instructions, depth 7, calls Mo_pending Mo_add Mo_trap Mo_access Mo_special Mo_calculate Mo_put Mo_retire Mo_data
theorem d_Mo_step_0 : decode b_Mo_step 0 = .ok (.bipush 12, 2) := by decide +kernel
theorem d_Mo_step_2 : decode b_Mo_step 2 = .ok (.iload_n 1, 1) := by decide +kernel
theorem d_Mo_step_3 : decode b_Mo_step 3 = .ok (.imul, 1) := by decide +kernel
theorem d_Mo_step_4 : decode b_Mo_step 4 = .ok (.istore_n 2, 1) := by decide +kernel
theorem d_Mo_step_5 : decode b_Mo_step 5 = .ok (.aload_n 0, 1) := by decide +kernel
theorem d_Mo_step_6 : decode b_Mo_step 6 = .ok (.getfield 16, 3) := by decide +kernel
theorem d_Mo_step_9 : decode b_Mo_step 9 = .ok (.iload_n 2, 1) := by decide +kernel
theorem d_Mo_step_10 : decode b_Mo_step 10 = .ok (.bipush 7, 2) := by decide +kernel
theorem d_Mo_step_12 : decode b_Mo_step 12 = .ok (.iadd, 1) := by decide +kernel
theorem d_Mo_step_13 : decode b_Mo_step 13 = .ok (.iaload, 1) := by decide +kernel
theorem d_Mo_step_14 : decode b_Mo_step 14 = .ok (.aload_n 0, 1) := by decide +kernel
theorem d_Mo_step_15 : decode b_Mo_step 15 = .ok (.iload_n 1, 1) := by decide +kernel
theorem d_Mo_step_16 : decode b_Mo_step 16 = .ok (.invokevirtual 86, 3) := by decide +kernel
theorem d_Mo_step_19 : decode b_Mo_step 19 = .ok (.iand, 1) := by decide +kernel
theorem d_Mo_step_20 : decode b_Mo_step 20 = .ok (.istore_n 3, 1) := by decide +kernel
theorem d_Mo_step_21 : decode b_Mo_step 21 = .ok (.iload_n 3, 1) := by decide +kernel
theorem d_Mo_step_22 : decode b_Mo_step 22 = .ok (.ifCond .eq 54, 3) := by decide +kernel
theorem d_Mo_step_25 : decode b_Mo_step 25 = .ok (.aload_n 0, 1) := by decide +kernel
theorem d_Mo_step_26 : decode b_Mo_step 26 = .ok (.getfield 22, 3) := by decide +kernel
theorem d_Mo_step_29 : decode b_Mo_step 29 = .ok (.iload_n 1, 1) := by decide +kernel
theorem d_Mo_step_30 : decode b_Mo_step 30 = .ok (.baload, 1) := by decide +kernel
theorem d_Mo_step_31 : decode b_Mo_step 31 = .ok (.ifCond .ne 14, 3) := by decide +kernel
theorem d_Mo_step_34 : decode b_Mo_step 34 = .ok (.aload_n 0, 1) := by decide +kernel
theorem d_Mo_step_35 : decode b_Mo_step 35 = .ok (.getfield 16, 3) := by decide +kernel
theorem d_Mo_step_38 : decode b_Mo_step 38 = .ok (.iload_n 2, 1) := by decide +kernel
theorem d_Mo_step_39 : decode b_Mo_step 39 = .ok (.iaload, 1) := by decide +kernel
theorem d_Mo_step_40 : decode b_Mo_step 40 = .ok (.iconst 1, 1) := by decide +kernel
theorem d_Mo_step_41 : decode b_Mo_step 41 = .ok (.iand, 1) := by decide +kernel
theorem d_Mo_step_42 : decode b_Mo_step 42 = .ok (.ifCond .eq 34, 3) := by decide +kernel
theorem d_Mo_step_45 : decode b_Mo_step 45 = .ok (.aload_n 0, 1) := by decide +kernel
theorem d_Mo_step_46 : decode b_Mo_step 46 = .ok (.iload_n 1, 1) := by decide +kernel
theorem d_Mo_step_47 : decode b_Mo_step 47 = .ok (.bipush 6, 2) := by decide +kernel
theorem d_Mo_step_49 : decode b_Mo_step 49 = .ok (.iconst 1, 1) := by decide +kernel
theorem d_Mo_step_50 : decode b_Mo_step 50 = .ok (.invokevirtual 58, 3) := by decide +kernel
theorem d_Mo_step_53 : decode b_Mo_step 53 = .ok (.aload_n 0, 1) := by decide +kernel
theorem d_Mo_step_54 : decode b_Mo_step 54 = .ok (.iload_n 1, 1) := by decide +kernel
theorem d_Mo_step_55 : decode b_Mo_step 55 = .ok (.ldc 128, 2) := by decide +kernel
theorem d_Mo_step_57 : decode b_Mo_step 57 = .ok (.iload_n 3, 1) := by decide +kernel
theorem d_Mo_step_58 : decode b_Mo_step 58 = .ok (.iconst 2, 1) := by decide +kernel
theorem d_Mo_step_59 : decode b_Mo_step 59 = .ok (.iand, 1) := by decide +kernel
theorem d_Mo_step_60 : decode b_Mo_step 60 = .ok (.ifCond .eq 8, 3) := by decide +kernel
theorem d_Mo_step_63 : decode b_Mo_step 63 = .ok (.bipush 9, 2) := by decide +kernel
theorem d_Mo_step_65 : decode b_Mo_step 65 = .ok (.goto 4, 3) := by decide +kernel
theorem d_Mo_step_68 : decode b_Mo_step 68 = .ok (.iconst 5, 1) := by decide +kernel
theorem d_Mo_step_69 : decode b_Mo_step 69 = .ok (.iadd, 1) := by decide +kernel
theorem d_Mo_step_70 : decode b_Mo_step 70 = .ok (.iconst 0, 1) := by decide +kernel
theorem d_Mo_step_71 : decode b_Mo_step 71 = .ok (.invokevirtual 90, 3) := by decide +kernel
theorem d_Mo_step_74 : decode b_Mo_step 74 = .ok (.iconst 0, 1) := by decide +kernel
theorem d_Mo_step_75 : decode b_Mo_step 75 = .ok (.ireturn, 1) := by decide +kernel
theorem d_Mo_step_76 : decode b_Mo_step 76 = .ok (.aload_n 0, 1) := by decide +kernel
theorem d_Mo_step_77 : decode b_Mo_step 77 = .ok (.iload_n 1, 1) := by decide +kernel
theorem d_Mo_step_78 : decode b_Mo_step 78 = .ok (.aload_n 0, 1) := by decide +kernel
theorem d_Mo_step_79 : decode b_Mo_step 79 = .ok (.getfield 19, 3) := by decide +kernel
theorem d_Mo_step_82 : decode b_Mo_step 82 = .ok (.iload_n 1, 1) := by decide +kernel
theorem d_Mo_step_83 : decode b_Mo_step 83 = .ok (.iaload, 1) := by decide +kernel
theorem d_Mo_step_84 : decode b_Mo_step 84 = .ok (.iconst 0, 1) := by decide +kernel
theorem d_Mo_step_85 : decode b_Mo_step 85 = .ok (.invokevirtual 129, 3) := by decide +kernel
theorem d_Mo_step_88 : decode b_Mo_step 88 = .ok (.istore 4, 2) := by decide +kernel
theorem d_Mo_step_90 : decode b_Mo_step 90 = .ok (.iload 4, 2) := by decide +kernel
theorem d_Mo_step_92 : decode b_Mo_step 92 = .ok (.ifCond .ge 5, 3) := by decide +kernel
theorem d_Mo_step_95 : decode b_Mo_step 95 = .ok (.iconst 0, 1) := by decide +kernel
theorem d_Mo_step_96 : decode b_Mo_step 96 = .ok (.ireturn, 1) := by decide +kernel
theorem d_Mo_step_97 : decode b_Mo_step 97 = .ok (.aload_n 0, 1) := by decide +kernel
theorem d_Mo_step_98 : decode b_Mo_step 98 = .ok (.getfield 7, 3) := by decide +kernel
theorem d_Mo_step_101 : decode b_Mo_step 101 = .ok (.sipush 128, 3) := by decide +kernel
theorem d_Mo_step_104 : decode b_Mo_step 104 = .ok (.iload_n 1, 1) := by decide +kernel
theorem d_Mo_step_105 : decode b_Mo_step 105 = .ok (.imul, 1) := by decide +kernel
theorem d_Mo_step_106 : decode b_Mo_step 106 = .ok (.iload 4, 2) := by decide +kernel
theorem d_Mo_step_108 : decode b_Mo_step 108 = .ok (.iadd, 1) := by decide +kernel
theorem d_Mo_step_109 : decode b_Mo_step 109 = .ok (.iaload, 1) := by decide +kernel
theorem d_Mo_step_110 : decode b_Mo_step 110 = .ok (.istore 5, 2) := by decide +kernel
theorem d_Mo_step_112 : decode b_Mo_step 112 = .ok (.iload 5, 2) := by decide +kernel
theorem d_Mo_step_114 : decode b_Mo_step 114 = .ok (.bipush 31, 2) := by decide +kernel
theorem d_Mo_step_116 : decode b_Mo_step 116 = .ok (.iand, 1) := by decide +kernel
theorem d_Mo_step_117 : decode b_Mo_step 117 = .ok (.istore 6, 2) := by decide +kernel
theorem d_Mo_step_119 : decode b_Mo_step 119 = .ok (.iload 6, 2) := by decide +kernel
theorem d_Mo_step_121 : decode b_Mo_step 121 = .ok (.bipush 17, 2) := by decide +kernel
theorem d_Mo_step_123 : decode b_Mo_step 123 = .ok (.if_icmp .lt 21, 3) := by decide +kernel
theorem d_Mo_step_126 : decode b_Mo_step 126 = .ok (.aload_n 0, 1) := by decide +kernel
theorem d_Mo_step_127 : decode b_Mo_step 127 = .ok (.iload_n 1, 1) := by decide +kernel
theorem d_Mo_step_128 : decode b_Mo_step 128 = .ok (.iconst 0, 1) := by decide +kernel
theorem d_Mo_step_129 : decode b_Mo_step 129 = .ok (.iconst 1, 1) := by decide +kernel
theorem d_Mo_step_130 : decode b_Mo_step 130 = .ok (.invokevirtual 58, 3) := by decide +kernel
theorem d_Mo_step_133 : decode b_Mo_step 133 = .ok (.aload_n 0, 1) := by decide +kernel
theorem d_Mo_step_134 : decode b_Mo_step 134 = .ok (.iload_n 1, 1) := by decide +kernel
theorem d_Mo_step_135 : decode b_Mo_step 135 = .ok (.iload 5, 2) := by decide +kernel
theorem d_Mo_step_137 : decode b_Mo_step 137 = .ok (.iload 6, 2) := by decide +kernel
theorem d_Mo_step_139 : decode b_Mo_step 139 = .ok (.iload_n 3, 1) := by decide +kernel
theorem d_Mo_step_140 : decode b_Mo_step 140 = .ok (.invokevirtual 132, 3) := by decide +kernel
theorem d_Mo_step_143 : decode b_Mo_step 143 = .ok (.ireturn, 1) := by decide +kernel
theorem d_Mo_step_144 : decode b_Mo_step 144 = .ok (.aload_n 0, 1) := by decide +kernel
theorem d_Mo_step_145 : decode b_Mo_step 145 = .ok (.getfield 13, 3) := by decide +kernel
theorem d_Mo_step_148 : decode b_Mo_step 148 = .ok (.bipush 8, 2) := by decide +kernel
theorem d_Mo_step_150 : decode b_Mo_step 150 = .ok (.iload_n 1, 1) := by decide +kernel
theorem d_Mo_step_151 : decode b_Mo_step 151 = .ok (.imul, 1) := by decide +kernel
theorem d_Mo_step_152 : decode b_Mo_step 152 = .ok (.iload 5, 2) := by decide +kernel
theorem d_Mo_step_154 : decode b_Mo_step 154 = .ok (.bipush 8, 2) := by decide +kernel
theorem d_Mo_step_156 : decode b_Mo_step 156 = .ok (.ishr, 1) := by decide +kernel
theorem d_Mo_step_157 : decode b_Mo_step 157 = .ok (.bipush 7, 2) := by decide +kernel
theorem d_Mo_step_159 : decode b_Mo_step 159 = .ok (.iand, 1) := by decide +kernel
theorem d_Mo_step_160 : decode b_Mo_step 160 = .ok (.iadd, 1) := by decide +kernel
theorem d_Mo_step_161 : decode b_Mo_step 161 = .ok (.iaload, 1) := by decide +kernel
theorem d_Mo_step_162 : decode b_Mo_step 162 = .ok (.istore 7, 2) := by decide +kernel
theorem d_Mo_step_164 : decode b_Mo_step 164 = .ok (.aload_n 0, 1) := by decide +kernel
theorem d_Mo_step_165 : decode b_Mo_step 165 = .ok (.getfield 13, 3) := by decide +kernel
theorem d_Mo_step_168 : decode b_Mo_step 168 = .ok (.bipush 8, 2) := by decide +kernel
theorem d_Mo_step_170 : decode b_Mo_step 170 = .ok (.iload_n 1, 1) := by decide +kernel
theorem d_Mo_step_171 : decode b_Mo_step 171 = .ok (.imul, 1) := by decide +kernel
theorem d_Mo_step_172 : decode b_Mo_step 172 = .ok (.iload 5, 2) := by decide +kernel
theorem d_Mo_step_174 : decode b_Mo_step 174 = .ok (.bipush 11, 2) := by decide +kernel
theorem d_Mo_step_176 : decode b_Mo_step 176 = .ok (.ishr, 1) := by decide +kernel
theorem d_Mo_step_177 : decode b_Mo_step 177 = .ok (.bipush 7, 2) := by decide +kernel
theorem d_Mo_step_179 : decode b_Mo_step 179 = .ok (.iand, 1) := by decide +kernel
theorem d_Mo_step_180 : decode b_Mo_step 180 = .ok (.iadd, 1) := by decide +kernel
theorem d_Mo_step_181 : decode b_Mo_step 181 = .ok (.iaload, 1) := by decide +kernel
theorem d_Mo_step_182 : decode b_Mo_step 182 = .ok (.istore 8, 2) := by decide +kernel
theorem d_Mo_step_184 : decode b_Mo_step 184 = .ok (.iload 5, 2) := by decide +kernel
theorem d_Mo_step_186 : decode b_Mo_step 186 = .ok (.bipush 16, 2) := by decide +kernel
theorem d_Mo_step_188 : decode b_Mo_step 188 = .ok (.ishr, 1) := by decide +kernel
theorem d_Mo_step_189 : decode b_Mo_step 189 = .ok (.istore 9, 2) := by decide +kernel
theorem d_Mo_step_191 : decode b_Mo_step 191 = .ok (.iload 5, 2) := by decide +kernel
theorem d_Mo_step_193 : decode b_Mo_step 193 = .ok (.iconst 5, 1) := by decide +kernel
theorem d_Mo_step_194 : decode b_Mo_step 194 = .ok (.ishr, 1) := by decide +kernel
theorem d_Mo_step_195 : decode b_Mo_step 195 = .ok (.bipush 7, 2) := by decide +kernel
theorem d_Mo_step_197 : decode b_Mo_step 197 = .ok (.iand, 1) := by decide +kernel
theorem d_Mo_step_198 : decode b_Mo_step 198 = .ok (.istore 10, 2) := by decide +kernel
theorem d_Mo_step_200 : decode b_Mo_step 200 = .ok (.iload 6, 2) := by decide +kernel
theorem d_Mo_step_202 : decode b_Mo_step 202 = .ok (.bipush 10, 2) := by decide +kernel
theorem d_Mo_step_204 : decode b_Mo_step 204 = .ok (.if_icmp .ge 39, 3) := by decide +kernel
theorem d_Mo_step_207 : decode b_Mo_step 207 = .ok (.iload 6, 2) := by decide +kernel
theorem d_Mo_step_209 : decode b_Mo_step 209 = .ok (.iload 7, 2) := by decide +kernel
theorem d_Mo_step_211 : decode b_Mo_step 211 = .ok (.iload 8, 2) := by decide +kernel
theorem d_Mo_step_213 : decode b_Mo_step 213 = .ok (.iload 9, 2) := by decide +kernel
theorem d_Mo_step_215 : decode b_Mo_step 215 = .ok (.invokestatic 135, 3) := by decide +kernel
theorem d_Mo_step_218 : decode b_Mo_step 218 = .ok (.istore 11, 2) := by decide +kernel
theorem d_Mo_step_220 : decode b_Mo_step 220 = .ok (.aload_n 0, 1) := by decide +kernel
theorem d_Mo_step_221 : decode b_Mo_step 221 = .ok (.iload_n 1, 1) := by decide +kernel
theorem d_Mo_step_222 : decode b_Mo_step 222 = .ok (.iload 10, 2) := by decide +kernel
theorem d_Mo_step_224 : decode b_Mo_step 224 = .ok (.iload 11, 2) := by decide +kernel
theorem d_Mo_step_226 : decode b_Mo_step 226 = .ok (.invokevirtual 70, 3) := by decide +kernel
theorem d_Mo_step_229 : decode b_Mo_step 229 = .ok (.aload_n 0, 1) := by decide +kernel
theorem d_Mo_step_230 : decode b_Mo_step 230 = .ok (.iload_n 1, 1) := by decide +kernel
theorem d_Mo_step_231 : decode b_Mo_step 231 = .ok (.aload_n 0, 1) := by decide +kernel
theorem d_Mo_step_232 : decode b_Mo_step 232 = .ok (.getfield 19, 3) := by decide +kernel
theorem d_Mo_step_235 : decode b_Mo_step 235 = .ok (.iload_n 1, 1) := by decide +kernel
theorem d_Mo_step_236 : decode b_Mo_step 236 = .ok (.iaload, 1) := by decide +kernel
theorem d_Mo_step_237 : decode b_Mo_step 237 = .ok (.iconst 1, 1) := by decide +kernel
theorem d_Mo_step_238 : decode b_Mo_step 238 = .ok (.iadd, 1) := by decide +kernel
theorem d_Mo_step_239 : decode b_Mo_step 239 = .ok (.invokevirtual 138, 3) := by decide +kernel
theorem d_Mo_step_242 : decode b_Mo_step 242 = .ok (.ireturn, 1) := by decide +kernel
theorem d_Mo_step_243 : decode b_Mo_step 243 = .ok (.iload 6, 2) := by decide +kernel
theorem d_Mo_step_245 : decode b_Mo_step 245 = .ok (.bipush 12, 2) := by decide +kernel
theorem d_Mo_step_247 : decode b_Mo_step 247 = .ok (.if_icmp .ge 20, 3) := by decide +kernel
theorem d_Mo_step_250 : decode b_Mo_step 250 = .ok (.aload_n 0, 1) := by decide +kernel
theorem d_Mo_step_251 : decode b_Mo_step 251 = .ok (.iload_n 1, 1) := by decide +kernel
theorem d_Mo_step_252 : decode b_Mo_step 252 = .ok (.iload 6, 2) := by decide +kernel
theorem d_Mo_step_254 : decode b_Mo_step 254 = .ok (.iload 10, 2) := by decide +kernel
theorem d_Mo_step_256 : decode b_Mo_step 256 = .ok (.iload 7, 2) := by decide +kernel
theorem d_Mo_step_258 : decode b_Mo_step 258 = .ok (.iload 9, 2) := by decide +kernel
theorem d_Mo_step_260 : decode b_Mo_step 260 = .ok (.iadd, 1) := by decide +kernel
theorem d_Mo_step_261 : decode b_Mo_step 261 = .ok (.iload 8, 2) := by decide +kernel
theorem d_Mo_step_263 : decode b_Mo_step 263 = .ok (.invokevirtual 142, 3) := by decide +kernel
theorem d_Mo_step_266 : decode b_Mo_step 266 = .ok (.ireturn, 1) := by decide +kernel
theorem d_Mo_step_267 : decode b_Mo_step 267 = .ok (.iload 6, 2) := by decide +kernel
theorem d_Mo_step_269 : decode b_Mo_step 269 = .ok (.bipush 15, 2) := by decide +kernel
theorem d_Mo_step_271 : decode b_Mo_step 271 = .ok (.if_icmp .ge 92, 3) := by decide +kernel
theorem d_Mo_step_274 : decode b_Mo_step 274 = .ok (.iload 6, 2) := by decide +kernel
theorem d_Mo_step_276 : decode b_Mo_step 276 = .ok (.bipush 12, 2) := by decide +kernel
theorem d_Mo_step_278 : decode b_Mo_step 278 = .ok (.if_icmp .ne 18, 3) := by decide +kernel
theorem d_Mo_step_281 : decode b_Mo_step 281 = .ok (.iload 7, 2) := by decide +kernel
theorem d_Mo_step_283 : decode b_Mo_step 283 = .ok (.iload 8, 2) := by decide +kernel
theorem d_Mo_step_285 : decode b_Mo_step 285 = .ok (.if_icmp .ne 7, 3) := by decide +kernel
theorem d_Mo_step_288 : decode b_Mo_step 288 = .ok (.iconst 1, 1) := by decide +kernel
theorem d_Mo_step_289 : decode b_Mo_step 289 = .ok (.goto 41, 3) := by decide +kernel
theorem d_Mo_step_292 : decode b_Mo_step 292 = .ok (.iconst 0, 1) := by decide +kernel
theorem d_Mo_step_293 : decode b_Mo_step 293 = .ok (.goto 37, 3) := by decide +kernel
theorem d_Mo_step_296 : decode b_Mo_step 296 = .ok (.iload 6, 2) := by decide +kernel
theorem d_Mo_step_298 : decode b_Mo_step 298 = .ok (.bipush 13, 2) := by decide +kernel
theorem d_Mo_step_300 : decode b_Mo_step 300 = .ok (.if_icmp .ne 18, 3) := by decide +kernel
theorem d_Mo_step_303 : decode b_Mo_step 303 = .ok (.iload 7, 2) := by decide +kernel
theorem d_Mo_step_305 : decode b_Mo_step 305 = .ok (.iload 8, 2) := by decide +kernel
theorem d_Mo_step_307 : decode b_Mo_step 307 = .ok (.if_icmp .eq 7, 3) := by decide +kernel
theorem d_Mo_step_310 : decode b_Mo_step 310 = .ok (.iconst 1, 1) := by decide +kernel
theorem d_Mo_step_311 : decode b_Mo_step 311 = .ok (.goto 19, 3) := by decide +kernel
theorem d_Mo_step_314 : decode b_Mo_step 314 = .ok (.iconst 0, 1) := by decide +kernel
theorem d_Mo_step_315 : decode b_Mo_step 315 = .ok (.goto 15, 3) := by decide +kernel
theorem d_Mo_step_318 : decode b_Mo_step 318 = .ok (.iload 7, 2) := by decide +kernel
theorem d_Mo_step_320 : decode b_Mo_step 320 = .ok (.iload 8, 2) := by decide +kernel
theorem d_Mo_step_322 : decode b_Mo_step 322 = .ok (.if_icmp .ge 7, 3) := by decide +kernel
theorem d_Mo_step_325 : decode b_Mo_step 325 = .ok (.iconst 1, 1) := by decide +kernel
theorem d_Mo_step_326 : decode b_Mo_step 326 = .ok (.goto 4, 3) := by decide +kernel
theorem d_Mo_step_329 : decode b_Mo_step 329 = .ok (.iconst 0, 1) := by decide +kernel
theorem d_Mo_step_330 : decode b_Mo_step 330 = .ok (.istore 11, 2) := by decide +kernel
theorem d_Mo_step_332 : decode b_Mo_step 332 = .ok (.aload_n 0, 1) := by decide +kernel
theorem d_Mo_step_333 : decode b_Mo_step 333 = .ok (.iload_n 1, 1) := by decide +kernel
theorem d_Mo_step_334 : decode b_Mo_step 334 = .ok (.iload 11, 2) := by decide +kernel
theorem d_Mo_step_336 : decode b_Mo_step 336 = .ok (.ifCond .eq 15, 3) := by decide +kernel
theorem d_Mo_step_339 : decode b_Mo_step 339 = .ok (.aload_n 0, 1) := by decide +kernel
theorem d_Mo_step_340 : decode b_Mo_step 340 = .ok (.getfield 19, 3) := by decide +kernel
theorem d_Mo_step_343 : decode b_Mo_step 343 = .ok (.iload_n 1, 1) := by decide +kernel
theorem d_Mo_step_344 : decode b_Mo_step 344 = .ok (.iaload, 1) := by decide +kernel
theorem d_Mo_step_345 : decode b_Mo_step 345 = .ok (.iload 9, 2) := by decide +kernel
theorem d_Mo_step_347 : decode b_Mo_step 347 = .ok (.iadd, 1) := by decide +kernel
theorem d_Mo_step_348 : decode b_Mo_step 348 = .ok (.goto 11, 3) := by decide +kernel
theorem d_Mo_step_351 : decode b_Mo_step 351 = .ok (.aload_n 0, 1) := by decide +kernel
theorem d_Mo_step_352 : decode b_Mo_step 352 = .ok (.getfield 19, 3) := by decide +kernel
theorem d_Mo_step_355 : decode b_Mo_step 355 = .ok (.iload_n 1, 1) := by decide +kernel
theorem d_Mo_step_356 : decode b_Mo_step 356 = .ok (.iaload, 1) := by decide +kernel
theorem d_Mo_step_357 : decode b_Mo_step 357 = .ok (.iconst 1, 1) := by decide +kernel
theorem d_Mo_step_358 : decode b_Mo_step 358 = .ok (.iadd, 1) := by decide +kernel
theorem d_Mo_step_359 : decode b_Mo_step 359 = .ok (.invokevirtual 138, 3) := by decide +kernel
theorem d_Mo_step_362 : decode b_Mo_step 362 = .ok (.ireturn, 1) := by decide +kernel
theorem d_Mo_step_363 : decode b_Mo_step 363 = .ok (.aload_n 0, 1) := by decide +kernel
theorem d_Mo_step_364 : decode b_Mo_step 364 = .ok (.iload_n 1, 1) := by decide +kernel
theorem d_Mo_step_365 : decode b_Mo_step 365 = .ok (.iload 10, 2) := by decide +kernel
theorem d_Mo_step_367 : decode b_Mo_step 367 = .ok (.aload_n 0, 1) := by decide +kernel
theorem d_Mo_step_368 : decode b_Mo_step 368 = .ok (.getfield 19, 3) := by decide +kernel
theorem d_Mo_step_371 : decode b_Mo_step 371 = .ok (.iload_n 1, 1) := by decide +kernel
theorem d_Mo_step_372 : decode b_Mo_step 372 = .ok (.iaload, 1) := by decide +kernel
theorem d_Mo_step_373 : decode b_Mo_step 373 = .ok (.iconst 1, 1) := by decide +kernel
theorem d_Mo_step_374 : decode b_Mo_step 374 = .ok (.iadd, 1) := by decide +kernel
theorem d_Mo_step_375 : decode b_Mo_step 375 = .ok (.invokevirtual 70, 3) := by decide +kernel
theorem d_Mo_step_378 : decode b_Mo_step 378 = .ok (.aload_n 0, 1) := by decide +kernel
theorem d_Mo_step_379 : decode b_Mo_step 379 = .ok (.iload_n 1, 1) := by decide +kernel
theorem d_Mo_step_380 : decode b_Mo_step 380 = .ok (.iload 6, 2) := by decide +kernel
theorem d_Mo_step_382 : decode b_Mo_step 382 = .ok (.bipush 15, 2) := by decide +kernel
theorem d_Mo_step_384 : decode b_Mo_step 384 = .ok (.if_icmp .ne 15, 3) := by decide +kernel
theorem d_Mo_step_387 : decode b_Mo_step 387 = .ok (.aload_n 0, 1) := by decide +kernel
theorem d_Mo_step_388 : decode b_Mo_step 388 = .ok (.getfield 19, 3) := by decide +kernel
theorem d_Mo_step_391 : decode b_Mo_step 391 = .ok (.iload_n 1, 1) := by decide +kernel
theorem d_Mo_step_392 : decode b_Mo_step 392 = .ok (.iaload, 1) := by decide +kernel
theorem d_Mo_step_393 : decode b_Mo_step 393 = .ok (.iload 9, 2) := by decide +kernel
theorem d_Mo_step_395 : decode b_Mo_step 395 = .ok (.iadd, 1) := by decide +kernel
theorem d_Mo_step_396 : decode b_Mo_step 396 = .ok (.goto 8, 3) := by decide +kernel
theorem d_Mo_step_399 : decode b_Mo_step 399 = .ok (.iload 7, 2) := by decide +kernel
theorem d_Mo_step_401 : decode b_Mo_step 401 = .ok (.iload 9, 2) := by decide +kernel
theorem d_Mo_step_403 : decode b_Mo_step 403 = .ok (.iadd, 1) := by decide +kernel
theorem d_Mo_step_404 : decode b_Mo_step 404 = .ok (.invokevirtual 138, 3) := by decide +kernel
theorem d_Mo_step_407 : decode b_Mo_step 407 = .ok (.ireturn, 1) := by decide +kernel
def pr_Mo_step : List (Nat × tw_Op) := [(0, tw_ic (12)), (2, tw_il 1), (3, tw_bin (· * ·)), (4, tw_is 2), (5, tw_al 0), (6, tw_gr 22 25), (9, tw_il 2), (10, tw_ic (7)), (12, tw_bin (· + ·)), (13, tw_ia), (14, tw_al 0), (15, tw_il 1), (16, tw_cv 1 22 fn_Mo_pending), (19, tw_bin (· &&& ·)), (20, tw_is 3), (21, tw_il 3), (22, tw_ifeq 76), (25, tw_al 0), (26, tw_gr 22 27), (29, tw_il 1), (30, tw_za), (31, tw_ifne 45), (34, tw_al 0), (35, tw_gr 22 25), (38, tw_il 2), (39, tw_ia), (40, tw_ic 1), (41, tw_bin (· &&& ·)), (42, tw_ifeq 76), (45, tw_al 0), (46, tw_il 1), (47, tw_ic (6)), (49, tw_ic 1), (50, tw_cv 3 22 fn_Mo_add), (53, tw_al 0), (54, tw_il 1), (55, tw_ic (-2147483648)), (57, tw_il 3), (58, tw_ic 2), (59, tw_bin (· &&& ·)), (60, tw_ifeq 68), (63, tw_ic (9)), (65, tw_jmp 69), (68, tw_ic 5), (69, tw_bin (· + ·)), (70, tw_ic 0), (71, tw_cv 3 22 fn_Mo_trap), (74, tw_ic 0), (75, tw_ri), (76, tw_al 0), (77, tw_il 1), (78, tw_al 0), (79, tw_gr 22 26), (82, tw_il 1), (83, tw_ia), (84, tw_ic 0), (85, tw_cv 3 22 fn_Mo_access), (88, tw_is 4), (90, tw_il 4), (92, tw_ifge 97), (95, tw_ic 0), (96, tw_ri), (97, tw_al 0), (98, tw_gr 22 23), (101, tw_ic (128)), (104, tw_il 1), (105, tw_bin (· * ·)), (106, tw_il 4), (108, tw_bin (· + ·)), (109, tw_ia), (110, tw_is 5), (112, tw_il 5), (114, tw_ic (31)), (116, tw_bin (· &&& ·)), (117, tw_is 6), (119, tw_il 6), (121, tw_ic (17)), (123, tw_clt 144), (126, tw_al 0), (127, tw_il 1), (128, tw_ic 0), (129, tw_ic 1), (130, tw_cv 3 22 fn_Mo_add), (133, tw_al 0), (134, tw_il 1), (135, tw_il 5), (137, tw_il 6), (139, tw_il 3), (140, tw_cv 4 22 fn_Mo_special), (143, tw_ri), (144, tw_al 0), (145, tw_gr 22 24), (148, tw_ic (8)), (150, tw_il 1), (151, tw_bin (· * ·)), (152, tw_il 5), (154, tw_ic (8)), (156, tw_bin (fun x y => x >>> (y &&& 31))), (157, tw_ic (7)), (159, tw_bin (· &&& ·)), (160, tw_bin (· + ·)), (161, tw_ia), (162, tw_is 7), (164, tw_al 0), (165, tw_gr 22 24), (168, tw_ic (8)), (170, tw_il 1), (171, tw_bin (· * ·)), (172, tw_il 5), (174, tw_ic (11)), (176, tw_bin (fun x y => x >>> (y &&& 31))), (177, tw_ic (7)), (179, tw_bin (· &&& ·)), (180, tw_bin (· + ·)), (181, tw_ia), (182, tw_is 8), (184, tw_il 5), (186, tw_ic (16)), (188, tw_bin (fun x y => x >>> (y &&& 31))), (189, tw_is 9), (191, tw_il 5), (193, tw_ic 5), (194, tw_bin (fun x y => x >>> (y &&& 31))), (195, tw_ic (7)), (197, tw_bin (· &&& ·)), (198, tw_is 10), (200, tw_il 6), (202, tw_ic (10)), (204, tw_cge 243), (207, tw_il 6), (209, tw_il 7), (211, tw_il 8), (213, tw_il 9), (215, tw_cs 4 fn_Mo_calculate), (218, tw_is 11), (220, tw_al 0), (221, tw_il 1), (222, tw_il 10), (224, tw_il 11), (226, tw_cv 3 22 fn_Mo_put), (229, tw_al 0), (230, tw_il 1), (231, tw_al 0), (232, tw_gr 22 26), (235, tw_il 1), (236, tw_ia), (237, tw_ic 1), (238, tw_bin (· + ·)), (239, tw_cv 2 22 fn_Mo_retire), (242, tw_ri), (243, tw_il 6), (245, tw_ic (12)), (247, tw_cge 267), (250, tw_al 0), (251, tw_il 1), (252, tw_il 6), (254, tw_il 10), (256, tw_il 7), (258, tw_il 9), (260, tw_bin (· + ·)), (261, tw_il 8), (263, tw_cv 5 22 fn_Mo_data), (266, tw_ri), (267, tw_il 6), (269, tw_ic (15)), (271, tw_cge 363), (274, tw_il 6), (276, tw_ic (12)), (278, tw_cne 296), (281, tw_il 7), (283, tw_il 8), (285, tw_cne 292), (288, tw_ic 1), (289, tw_jmp 330), (292, tw_ic 0), (293, tw_jmp 330), (296, tw_il 6), (298, tw_ic (13)), (300, tw_cne 318), (303, tw_il 7), (305, tw_il 8), (307, tw_ceq 314), (310, tw_ic 1), (311, tw_jmp 330), (314, tw_ic 0), (315, tw_jmp 330), (318, tw_il 7), (320, tw_il 8), (322, tw_cge 329), (325, tw_ic 1), (326, tw_jmp 330), (329, tw_ic 0), (330, tw_is 11), (332, tw_al 0), (333, tw_il 1), (334, tw_il 11), (336, tw_ifeq 351), (339, tw_al 0), (340, tw_gr 22 26), (343, tw_il 1), (344, tw_ia), (345, tw_il 9), (347, tw_bin (· + ·)), (348, tw_jmp 359), (351, tw_al 0), (352, tw_gr 22 26), (355, tw_il 1), (356, tw_ia), (357, tw_ic 1), (358, tw_bin (· + ·)), (359, tw_cv 2 22 fn_Mo_retire), (362, tw_ri), (363, tw_al 0), (364, tw_il 1), (365, tw_il 10), (367, tw_al 0), (368, tw_gr 22 26), (371, tw_il 1), (372, tw_ia), (373, tw_ic 1), (374, tw_bin (· + ·)), (375, tw_cv 3 22 fn_Mo_put), (378, tw_al 0), (379, tw_il 1), (380, tw_il 6), (382, tw_ic (15)), (384, tw_cne 399), (387, tw_al 0), (388, tw_gr 22 26), (391, tw_il 1), (392, tw_ia), (393, tw_il 9), (395, tw_bin (· + ·)), (396, tw_jmp 404), (399, tw_il 7), (401, tw_il 9), (403, tw_bin (· + ·)), (404, tw_cv 2 22 fn_Mo_retire), (407, tw_ri)]
set_option maxRecDepth 100000 in
set_option maxHeartbeats 4000000 in
theorem ok_Mo_step {p : Program} {l : Launch} {e : Env} {s : State} {m : MethodId} {args : Array Value} {below : List Frame} {meth : Method} {c : Code} {E : tw_E} {D : va_G} {ρ : tw_R} (hC : tw_Cx p s m args meth c b_Mo_step 12 (some .int) "TwinHostModel" E D) : tw_Ok p l e (tw_rmd 7) s m args below meth c 0 0 (MQ below (tw_Qc E D ρ) args s 0 0 (tw_A E)) 12 E D ρ pr_Mo_step :=
  ⟨ts_bipush hC d_Mo_step_0 (by decide),
   ts_iload_n hC d_Mo_step_2 rfl,
   ts_imul hC d_Mo_step_3,
   ts_istore_n hC d_Mo_step_4 rfl (by decide),
   ts_aload_n hC d_Mo_step_5 rfl,
   ts_gr (j := 5) (C := R_Mo) (T := T_Mo) hC rfl rfl rfl (by decide) u_Mo wd_461 rfl d_Mo_step_6,
   ts_iload_n hC d_Mo_step_9 rfl,
   ts_bipush hC d_Mo_step_10 (by decide),
   ts_iadd hC d_Mo_step_12,
   ts_iaload hC d_Mo_step_13,
   ts_aload_n hC d_Mo_step_14 rfl,
   ts_iload_n hC d_Mo_step_15 rfl,
   ts_callv (C := R_Mo) (T := T_Mo) hC con_Mo_pending wd_583 wd_30 (by decide +kernel) ⟨by decide, by decide⟩ ⟨Nat.zero_le _, Nat.zero_le _⟩ wd_580 rfl rfl wd_582 wd_7 d_Mo_step_16,
   ts_iand hC d_Mo_step_19,
   ts_istore_n hC d_Mo_step_20 rfl (by decide),
   ts_iload_n hC d_Mo_step_21 rfl,
   ts_ifeq hC d_Mo_step_22 (by decide),
   ts_aload_n hC d_Mo_step_25 rfl,
   ts_gr (j := 7) (C := R_Mo) (T := T_Mo) hC rfl rfl rfl (by decide) u_Mo wd_463 rfl d_Mo_step_26,
   ts_iload_n hC d_Mo_step_29 rfl,
   ts_baload hC d_Mo_step_30,
   ts_ifne hC d_Mo_step_31 (by decide),
   ts_aload_n hC d_Mo_step_34 rfl,
   ts_gr (j := 5) (C := R_Mo) (T := T_Mo) hC rfl rfl rfl (by decide) u_Mo wd_461 rfl d_Mo_step_35,
   ts_iload_n hC d_Mo_step_38 rfl,
   ts_iaload hC d_Mo_step_39,
   ts_iconst hC d_Mo_step_40 (by decide),
   ts_iand hC d_Mo_step_41,
   ts_ifeq hC d_Mo_step_42 (by decide),
   ts_aload_n hC d_Mo_step_45 rfl,
   ts_iload_n hC d_Mo_step_46 rfl,
   ts_bipush hC d_Mo_step_47 (by decide),
   ts_iconst hC d_Mo_step_49 (by decide),
   ts_callv (C := R_Mo) (T := T_Mo) hC con_Mo_add wd_540 wd_30 (by decide +kernel) ⟨by decide, by decide⟩ ⟨Nat.zero_le _, Nat.zero_le _⟩ wd_537 rfl rfl wd_539 wd_2 d_Mo_step_50,
   ts_aload_n hC d_Mo_step_53 rfl,
   ts_iload_n hC d_Mo_step_54 rfl,
   ts_ldc hC wd_608 d_Mo_step_55,
   ts_iload_n hC d_Mo_step_57 rfl,
   ts_iconst hC d_Mo_step_58 (by decide),
   ts_iand hC d_Mo_step_59,
   ts_ifeq hC d_Mo_step_60 (by decide),
   ts_bipush hC d_Mo_step_63 (by decide),
   ts_goto hC d_Mo_step_65 (by decide),
   ts_iconst hC d_Mo_step_68 (by decide),
   ts_iadd hC d_Mo_step_69,
   ts_iconst hC d_Mo_step_70 (by decide),
   ts_callv (C := R_Mo) (T := T_Mo) hC con_Mo_trap wd_612 wd_30 (by decide +kernel) ⟨by decide, by decide⟩ ⟨Nat.zero_le _, Nat.zero_le _⟩ wd_609 rfl rfl wd_611 wd_9 d_Mo_step_71,
   ts_iconst hC d_Mo_step_74 (by decide),
   ts_iret hC rfl d_Mo_step_75,
   ts_aload_n hC d_Mo_step_76 rfl,
   ts_iload_n hC d_Mo_step_77 rfl,
   ts_aload_n hC d_Mo_step_78 rfl,
   ts_gr (j := 6) (C := R_Mo) (T := T_Mo) hC rfl rfl rfl (by decide) u_Mo wd_462 rfl d_Mo_step_79,
   ts_iload_n hC d_Mo_step_82 rfl,
   ts_iaload hC d_Mo_step_83,
   ts_iconst hC d_Mo_step_84 (by decide),
   ts_callv (C := R_Mo) (T := T_Mo) hC con_Mo_access wd_616 wd_30 (by decide +kernel) ⟨by decide, by decide⟩ ⟨Nat.zero_le _, Nat.zero_le _⟩ wd_613 rfl rfl wd_615 wd_10 d_Mo_step_85,
   ts_istore hC d_Mo_step_88 (by decide),
   ts_iload hC d_Mo_step_90,
   ts_ifge hC d_Mo_step_92 (by decide),
   ts_iconst hC d_Mo_step_95 (by decide),
   ts_iret hC rfl d_Mo_step_96,
   ts_aload_n hC d_Mo_step_97 rfl,
   ts_gr (j := 3) (C := R_Mo) (T := T_Mo) hC rfl rfl rfl (by decide) u_Mo wd_459 rfl d_Mo_step_98,
   ts_sipush hC d_Mo_step_101 (by decide),
   ts_iload_n hC d_Mo_step_104 rfl,
   ts_imul hC d_Mo_step_105,
   ts_iload hC d_Mo_step_106,
   ts_iadd hC d_Mo_step_108,
   ts_iaload hC d_Mo_step_109,
   ts_istore hC d_Mo_step_110 (by decide),
   ts_iload hC d_Mo_step_112,
   ts_bipush hC d_Mo_step_114 (by decide),
   ts_iand hC d_Mo_step_116,
   ts_istore hC d_Mo_step_117 (by decide),
   ts_iload hC d_Mo_step_119,
   ts_bipush hC d_Mo_step_121 (by decide),
   ts_clt hC d_Mo_step_123 (by decide),
   ts_aload_n hC d_Mo_step_126 rfl,
   ts_iload_n hC d_Mo_step_127 rfl,
   ts_iconst hC d_Mo_step_128 (by decide),
   ts_iconst hC d_Mo_step_129 (by decide),
   ts_callv (C := R_Mo) (T := T_Mo) hC con_Mo_add wd_540 wd_30 (by decide +kernel) ⟨by decide, by decide⟩ ⟨Nat.zero_le _, Nat.zero_le _⟩ wd_537 rfl rfl wd_539 wd_2 d_Mo_step_130,
   ts_aload_n hC d_Mo_step_133 rfl,
   ts_iload_n hC d_Mo_step_134 rfl,
   ts_iload hC d_Mo_step_135,
   ts_iload hC d_Mo_step_137,
   ts_iload_n hC d_Mo_step_139 rfl,
   ts_callv (C := R_Mo) (T := T_Mo) hC con_Mo_special wd_647 wd_30 (by decide +kernel) ⟨by decide, by decide⟩ ⟨Nat.zero_le _, Nat.zero_le _⟩ wd_644 rfl rfl wd_646 wd_17 d_Mo_step_140,
   ts_iret hC rfl d_Mo_step_143,
   ts_aload_n hC d_Mo_step_144 rfl,
   ts_gr (j := 4) (C := R_Mo) (T := T_Mo) hC rfl rfl rfl (by decide) u_Mo wd_460 rfl d_Mo_step_145,
   ts_bipush hC d_Mo_step_148 (by decide),
   ts_iload_n hC d_Mo_step_150 rfl,
   ts_imul hC d_Mo_step_151,
   ts_iload hC d_Mo_step_152,
   ts_bipush hC d_Mo_step_154 (by decide),
   ts_ishr hC d_Mo_step_156,
   ts_bipush hC d_Mo_step_157 (by decide),
   ts_iand hC d_Mo_step_159,
   ts_iadd hC d_Mo_step_160,
   ts_iaload hC d_Mo_step_161,
   ts_istore hC d_Mo_step_162 (by decide),
   ts_aload_n hC d_Mo_step_164 rfl,
   ts_gr (j := 4) (C := R_Mo) (T := T_Mo) hC rfl rfl rfl (by decide) u_Mo wd_460 rfl d_Mo_step_165,
   ts_bipush hC d_Mo_step_168 (by decide),
   ts_iload_n hC d_Mo_step_170 rfl,
   ts_imul hC d_Mo_step_171,
   ts_iload hC d_Mo_step_172,
   ts_bipush hC d_Mo_step_174 (by decide),
   ts_ishr hC d_Mo_step_176,
   ts_bipush hC d_Mo_step_177 (by decide),
   ts_iand hC d_Mo_step_179,
   ts_iadd hC d_Mo_step_180,
   ts_iaload hC d_Mo_step_181,
   ts_istore hC d_Mo_step_182 (by decide),
   ts_iload hC d_Mo_step_184,
   ts_bipush hC d_Mo_step_186 (by decide),
   ts_ishr hC d_Mo_step_188,
   ts_istore hC d_Mo_step_189 (by decide),
   ts_iload hC d_Mo_step_191,
   ts_iconst hC d_Mo_step_193 (by decide),
   ts_ishr hC d_Mo_step_194,
   ts_bipush hC d_Mo_step_195 (by decide),
   ts_iand hC d_Mo_step_197,
   ts_istore hC d_Mo_step_198 (by decide),
   ts_iload hC d_Mo_step_200,
   ts_bipush hC d_Mo_step_202 (by decide),
   ts_cge hC d_Mo_step_204 (by decide),
   ts_iload hC d_Mo_step_207,
   ts_iload hC d_Mo_step_209,
   ts_iload hC d_Mo_step_211,
   ts_iload hC d_Mo_step_213,
   ts_calls hC con_Mo_calculate wd_667 wd_30 (by decide +kernel) ⟨by decide, by decide⟩ ⟨Nat.zero_le _, Nat.zero_le _⟩ wd_665 wd_666 d_Mo_step_215,
   ts_istore hC d_Mo_step_218 (by decide),
   ts_aload_n hC d_Mo_step_220 rfl,
   ts_iload_n hC d_Mo_step_221 rfl,
   ts_iload hC d_Mo_step_222,
   ts_iload hC d_Mo_step_224,
   ts_callv (C := R_Mo) (T := T_Mo) hC con_Mo_put wd_552 wd_30 (by decide +kernel) ⟨by decide, by decide⟩ ⟨Nat.zero_le _, Nat.zero_le _⟩ wd_549 rfl rfl wd_551 wd_3 d_Mo_step_226,
   ts_aload_n hC d_Mo_step_229 rfl,
   ts_iload_n hC d_Mo_step_230 rfl,
   ts_aload_n hC d_Mo_step_231 rfl,
   ts_gr (j := 6) (C := R_Mo) (T := T_Mo) hC rfl rfl rfl (by decide) u_Mo wd_462 rfl d_Mo_step_232,
   ts_iload_n hC d_Mo_step_235 rfl,
   ts_iaload hC d_Mo_step_236,
   ts_iconst hC d_Mo_step_237 (by decide),
   ts_iadd hC d_Mo_step_238,
   ts_callv (C := R_Mo) (T := T_Mo) hC con_Mo_retire wd_664 wd_30 (by decide +kernel) ⟨by decide, by decide⟩ ⟨Nat.zero_le _, Nat.zero_le _⟩ wd_661 rfl rfl wd_663 wd_21 d_Mo_step_239,
   ts_iret hC rfl d_Mo_step_242,
   ts_iload hC d_Mo_step_243,
   ts_bipush hC d_Mo_step_245 (by decide),
   ts_cge hC d_Mo_step_247 (by decide),
   ts_aload_n hC d_Mo_step_250 rfl,
   ts_iload_n hC d_Mo_step_251 rfl,
   ts_iload hC d_Mo_step_252,
   ts_iload hC d_Mo_step_254,
   ts_iload hC d_Mo_step_256,
   ts_iload hC d_Mo_step_258,
   ts_iadd hC d_Mo_step_260,
   ts_iload hC d_Mo_step_261,
   ts_callv (C := R_Mo) (T := T_Mo) hC con_Mo_data wd_671 wd_30 (by decide +kernel) ⟨by decide, by decide⟩ ⟨Nat.zero_le _, Nat.zero_le _⟩ wd_668 rfl rfl wd_670 wd_22 d_Mo_step_263,
   ts_iret hC rfl d_Mo_step_266,
   ts_iload hC d_Mo_step_267,
   ts_bipush hC d_Mo_step_269 (by decide),
   ts_cge hC d_Mo_step_271 (by decide),
   ts_iload hC d_Mo_step_274,
   ts_bipush hC d_Mo_step_276 (by decide),
   ts_cne hC d_Mo_step_278 (by decide),
   ts_iload hC d_Mo_step_281,
   ts_iload hC d_Mo_step_283,
   ts_cne hC d_Mo_step_285 (by decide),
   ts_iconst hC d_Mo_step_288 (by decide),
   ts_goto hC d_Mo_step_289 (by decide),
   ts_iconst hC d_Mo_step_292 (by decide),
   ts_goto hC d_Mo_step_293 (by decide),
   ts_iload hC d_Mo_step_296,
   ts_bipush hC d_Mo_step_298 (by decide),
   ts_cne hC d_Mo_step_300 (by decide),
   ts_iload hC d_Mo_step_303,
   ts_iload hC d_Mo_step_305,
   ts_ceq hC d_Mo_step_307 (by decide),
   ts_iconst hC d_Mo_step_310 (by decide),
   ts_goto hC d_Mo_step_311 (by decide),
   ts_iconst hC d_Mo_step_314 (by decide),
   ts_goto hC d_Mo_step_315 (by decide),
   ts_iload hC d_Mo_step_318,
   ts_iload hC d_Mo_step_320,
   ts_cge hC d_Mo_step_322 (by decide),
   ts_iconst hC d_Mo_step_325 (by decide),
   ts_goto hC d_Mo_step_326 (by decide),
   ts_iconst hC d_Mo_step_329 (by decide),
   ts_istore hC d_Mo_step_330 (by decide),
   ts_aload_n hC d_Mo_step_332 rfl,
   ts_iload_n hC d_Mo_step_333 rfl,
   ts_iload hC d_Mo_step_334,
   ts_ifeq hC d_Mo_step_336 (by decide),
   ts_aload_n hC d_Mo_step_339 rfl,
   ts_gr (j := 6) (C := R_Mo) (T := T_Mo) hC rfl rfl rfl (by decide) u_Mo wd_462 rfl d_Mo_step_340,
   ts_iload_n hC d_Mo_step_343 rfl,
   ts_iaload hC d_Mo_step_344,
   ts_iload hC d_Mo_step_345,
   ts_iadd hC d_Mo_step_347,
   ts_goto hC d_Mo_step_348 (by decide),
   ts_aload_n hC d_Mo_step_351 rfl,
   ts_gr (j := 6) (C := R_Mo) (T := T_Mo) hC rfl rfl rfl (by decide) u_Mo wd_462 rfl d_Mo_step_352,
   ts_iload_n hC d_Mo_step_355 rfl,
   ts_iaload hC d_Mo_step_356,
   ts_iconst hC d_Mo_step_357 (by decide),
   ts_iadd hC d_Mo_step_358,
   ts_callv (C := R_Mo) (T := T_Mo) hC con_Mo_retire wd_664 wd_30 (by decide +kernel) ⟨by decide, by decide⟩ ⟨Nat.zero_le _, Nat.zero_le _⟩ wd_661 rfl rfl wd_663 wd_21 d_Mo_step_359,
   ts_iret hC rfl d_Mo_step_362,
   ts_aload_n hC d_Mo_step_363 rfl,
   ts_iload_n hC d_Mo_step_364 rfl,
   ts_iload hC d_Mo_step_365,
   ts_aload_n hC d_Mo_step_367 rfl,
   ts_gr (j := 6) (C := R_Mo) (T := T_Mo) hC rfl rfl rfl (by decide) u_Mo wd_462 rfl d_Mo_step_368,
   ts_iload_n hC d_Mo_step_371 rfl,
   ts_iaload hC d_Mo_step_372,
   ts_iconst hC d_Mo_step_373 (by decide),
   ts_iadd hC d_Mo_step_374,
   ts_callv (C := R_Mo) (T := T_Mo) hC con_Mo_put wd_552 wd_30 (by decide +kernel) ⟨by decide, by decide⟩ ⟨Nat.zero_le _, Nat.zero_le _⟩ wd_549 rfl rfl wd_551 wd_3 d_Mo_step_375,
   ts_aload_n hC d_Mo_step_378 rfl,
   ts_iload_n hC d_Mo_step_379 rfl,
   ts_iload hC d_Mo_step_380,
   ts_bipush hC d_Mo_step_382 (by decide),
   ts_cne hC d_Mo_step_384 (by decide),
   ts_aload_n hC d_Mo_step_387 rfl,
   ts_gr (j := 6) (C := R_Mo) (T := T_Mo) hC rfl rfl rfl (by decide) u_Mo wd_462 rfl d_Mo_step_388,
   ts_iload_n hC d_Mo_step_391 rfl,
   ts_iaload hC d_Mo_step_392,
   ts_iload hC d_Mo_step_393,
   ts_iadd hC d_Mo_step_395,
   ts_goto hC d_Mo_step_396 (by decide),
   ts_iload hC d_Mo_step_399,
   ts_iload hC d_Mo_step_401,
   ts_iadd hC d_Mo_step_403,
   ts_callv (C := R_Mo) (T := T_Mo) hC con_Mo_retire wd_664 wd_30 (by decide +kernel) ⟨by decide, by decide⟩ ⟨Nat.zero_le _, Nat.zero_le _⟩ wd_661 rfl rfl wd_663 wd_21 d_Mo_step_404,
   ts_iret hC rfl d_Mo_step_407,
   trivial⟩
def fn_Mo_step : tw_Fn := tw_fn 2 12 241 pr_Mo_step
theorem con_Mo_step : tw_Con y_Mo_step b_Mo_step 12 (some .int) 7 fn_Mo_step := tw_met (by decide +kernel) (tw_fn_len (n := 2) (by decide)) (fun p l e s m args below meth c E D vs σ ρ hC h => tw_sound (ok_Mo_step hC) 241 pr_Mo_step (ok_Mo_step hC) _ _ _ (tw_fn_get h))
end
section
-- TwinHostModel.run(I)I: 67 instructions, depth 8, calls Mo_step Mo_add
theorem d_Mo_run_0 : decode b_Mo_run 0 = .ok (.iload_n 1, 1) := by decide +kernel
theorem d_Mo_run_1 : decode b_Mo_run 1 = .ok (.iconst 1, 1) := by decide +kernel
theorem d_Mo_run_2 : decode b_Mo_run 2 = .ok (.if_icmp .lt 9, 3) := by decide +kernel
theorem d_Mo_run_5 : decode b_Mo_run 5 = .ok (.iload_n 1, 1) := by decide +kernel
theorem d_Mo_run_6 : decode b_Mo_run 6 = .ok (.bipush 64, 2) := by decide +kernel
theorem d_Mo_run_8 : decode b_Mo_run 8 = .ok (.if_icmp .le 5, 3) := by decide +kernel
theorem d_Mo_run_11 : decode b_Mo_run 11 = .ok (.iconst (-1), 1) := by decide +kernel
theorem d_Mo_run_12 : decode b_Mo_run 12 = .ok (.ireturn, 1) := by decide +kernel
theorem d_Mo_run_13 : decode b_Mo_run 13 = .ok (.iconst 0, 1) := by decide +kernel
theorem d_Mo_run_14 : decode b_Mo_run 14 = .ok (.istore_n 2, 1) := by decide +kernel
theorem d_Mo_run_15 : decode b_Mo_run 15 = .ok (.iconst 0, 1) := by decide +kernel
theorem d_Mo_run_16 : decode b_Mo_run 16 = .ok (.istore_n 3, 1) := by decide +kernel
theorem d_Mo_run_17 : decode b_Mo_run 17 = .ok (.iload_n 3, 1) := by decide +kernel
theorem d_Mo_run_18 : decode b_Mo_run 18 = .ok (.iload_n 1, 1) := by decide +kernel
theorem d_Mo_run_19 : decode b_Mo_run 19 = .ok (.if_icmp .ge 95, 3) := by decide +kernel
theorem d_Mo_run_22 : decode b_Mo_run 22 = .ok (.aload_n 0, 1) := by decide +kernel
theorem d_Mo_run_23 : decode b_Mo_run 23 = .ok (.getfield 161, 3) := by decide +kernel
theorem d_Mo_run_26 : decode b_Mo_run 26 = .ok (.istore 4, 2) := by decide +kernel
theorem d_Mo_run_28 : decode b_Mo_run 28 = .ok (.aload_n 0, 1) := by decide +kernel
theorem d_Mo_run_29 : decode b_Mo_run 29 = .ok (.iload 4, 2) := by decide +kernel
theorem d_Mo_run_31 : decode b_Mo_run 31 = .ok (.invokevirtual 164, 3) := by decide +kernel
theorem d_Mo_run_34 : decode b_Mo_run 34 = .ok (.istore 5, 2) := by decide +kernel
theorem d_Mo_run_36 : decode b_Mo_run 36 = .ok (.aload_n 0, 1) := by decide +kernel
theorem d_Mo_run_37 : decode b_Mo_run 37 = .ok (.iload 4, 2) := by decide +kernel
theorem d_Mo_run_39 : decode b_Mo_run 39 = .ok (.bipush 8, 2) := by decide +kernel
theorem d_Mo_run_41 : decode b_Mo_run 41 = .ok (.iconst 1, 1) := by decide +kernel
theorem d_Mo_run_42 : decode b_Mo_run 42 = .ok (.invokevirtual 58, 3) := by decide +kernel
theorem d_Mo_run_45 : decode b_Mo_run 45 = .ok (.iload 5, 2) := by decide +kernel
theorem d_Mo_run_47 : decode b_Mo_run 47 = .ok (.iconst 1, 1) := by decide +kernel
theorem d_Mo_run_48 : decode b_Mo_run 48 = .ok (.if_icmp .ne 9, 3) := by decide +kernel
theorem d_Mo_run_51 : decode b_Mo_run 51 = .ok (.iload_n 2, 1) := by decide +kernel
theorem d_Mo_run_52 : decode b_Mo_run 52 = .ok (.iconst 1, 1) := by decide +kernel
theorem d_Mo_run_53 : decode b_Mo_run 53 = .ok (.iadd, 1) := by decide +kernel
theorem d_Mo_run_54 : decode b_Mo_run 54 = .ok (.goto 4, 3) := by decide +kernel
theorem d_Mo_run_57 : decode b_Mo_run 57 = .ok (.iload_n 2, 1) := by decide +kernel
theorem d_Mo_run_58 : decode b_Mo_run 58 = .ok (.istore_n 2, 1) := by decide +kernel
theorem d_Mo_run_59 : decode b_Mo_run 59 = .ok (.aload_n 0, 1) := by decide +kernel
theorem d_Mo_run_60 : decode b_Mo_run 60 = .ok (.aload_n 0, 1) := by decide +kernel
theorem d_Mo_run_61 : decode b_Mo_run 61 = .ok (.getfield 167, 3) := by decide +kernel
theorem d_Mo_run_64 : decode b_Mo_run 64 = .ok (.iconst 1, 1) := by decide +kernel
theorem d_Mo_run_65 : decode b_Mo_run 65 = .ok (.iadd, 1) := by decide +kernel
theorem d_Mo_run_66 : decode b_Mo_run 66 = .ok (.putfield 167, 3) := by decide +kernel
theorem d_Mo_run_69 : decode b_Mo_run 69 = .ok (.iload 5, 2) := by decide +kernel
theorem d_Mo_run_71 : decode b_Mo_run 71 = .ok (.iconst 2, 1) := by decide +kernel
theorem d_Mo_run_72 : decode b_Mo_run 72 = .ok (.if_icmp .eq 14, 3) := by decide +kernel
theorem d_Mo_run_75 : decode b_Mo_run 75 = .ok (.aload_n 0, 1) := by decide +kernel
theorem d_Mo_run_76 : decode b_Mo_run 76 = .ok (.getfield 167, 3) := by decide +kernel
theorem d_Mo_run_79 : decode b_Mo_run 79 = .ok (.aload_n 0, 1) := by decide +kernel
theorem d_Mo_run_80 : decode b_Mo_run 80 = .ok (.getfield 53, 3) := by decide +kernel
theorem d_Mo_run_83 : decode b_Mo_run 83 = .ok (.if_icmp .lt 25, 3) := by decide +kernel
theorem d_Mo_run_86 : decode b_Mo_run 86 = .ok (.aload_n 0, 1) := by decide +kernel
theorem d_Mo_run_87 : decode b_Mo_run 87 = .ok (.iload 4, 2) := by decide +kernel
theorem d_Mo_run_89 : decode b_Mo_run 89 = .ok (.bipush 7, 2) := by decide +kernel
theorem d_Mo_run_91 : decode b_Mo_run 91 = .ok (.iconst 1, 1) := by decide +kernel
theorem d_Mo_run_92 : decode b_Mo_run 92 = .ok (.invokevirtual 58, 3) := by decide +kernel
theorem d_Mo_run_95 : decode b_Mo_run 95 = .ok (.aload_n 0, 1) := by decide +kernel
theorem d_Mo_run_96 : decode b_Mo_run 96 = .ok (.iconst 1, 1) := by decide +kernel
theorem d_Mo_run_97 : decode b_Mo_run 97 = .ok (.iload 4, 2) := by decide +kernel
theorem d_Mo_run_99 : decode b_Mo_run 99 = .ok (.isub, 1) := by decide +kernel
theorem d_Mo_run_100 : decode b_Mo_run 100 = .ok (.putfield 161, 3) := by decide +kernel
theorem d_Mo_run_103 : decode b_Mo_run 103 = .ok (.aload_n 0, 1) := by decide +kernel
theorem d_Mo_run_104 : decode b_Mo_run 104 = .ok (.iconst 0, 1) := by decide +kernel
theorem d_Mo_run_105 : decode b_Mo_run 105 = .ok (.putfield 167, 3) := by decide +kernel
theorem d_Mo_run_108 : decode b_Mo_run 108 = .ok (.iinc 3 1, 3) := by decide +kernel
theorem d_Mo_run_111 : decode b_Mo_run 111 = .ok (.goto (-94), 3) := by decide +kernel
theorem d_Mo_run_114 : decode b_Mo_run 114 = .ok (.iload_n 2, 1) := by decide +kernel
theorem d_Mo_run_115 : decode b_Mo_run 115 = .ok (.ireturn, 1) := by decide +kernel
def pr_Mo_run : List (Nat × tw_Op) := [(0, tw_il 1), (1, tw_ic 1), (2, tw_clt 11), (5, tw_il 1), (6, tw_ic (64)), (8, tw_cle 13), (11, tw_ic (-1)), (12, tw_ri), (13, tw_ic 0), (14, tw_is 2), (15, tw_ic 0), (16, tw_is 3), (17, tw_il 3), (18, tw_il 1), (19, tw_cge 114), (22, tw_al 0), (23, tw_gi 22 1), (26, tw_is 4), (28, tw_al 0), (29, tw_il 4), (31, tw_cv 1 22 fn_Mo_step), (34, tw_is 5), (36, tw_al 0), (37, tw_il 4), (39, tw_ic (8)), (41, tw_ic 1), (42, tw_cv 3 22 fn_Mo_add), (45, tw_il 5), (47, tw_ic 1), (48, tw_cne 57), (51, tw_il 2), (52, tw_ic 1), (53, tw_bin (· + ·)), (54, tw_jmp 58), (57, tw_il 2), (58, tw_is 2), (59, tw_al 0), (60, tw_al 0), (61, tw_gi 22 2), (64, tw_ic 1), (65, tw_bin (· + ·)), (66, tw_pi 22 2), (69, tw_il 5), (71, tw_ic 2), (72, tw_ceq 86), (75, tw_al 0), (76, tw_gi 22 2), (79, tw_al 0), (80, tw_gi 22 0), (83, tw_clt 108), (86, tw_al 0), (87, tw_il 4), (89, tw_ic (7)), (91, tw_ic 1), (92, tw_cv 3 22 fn_Mo_add), (95, tw_al 0), (96, tw_ic 1), (97, tw_il 4), (99, tw_bin (· - ·)), (100, tw_pi 22 1), (103, tw_al 0), (104, tw_ic 0), (105, tw_pi 22 2), (108, tw_inc 3 (1)), (111, tw_jmp 17), (114, tw_il 2), (115, tw_ri)]
set_option maxRecDepth 100000 in
set_option maxHeartbeats 4000000 in
theorem ok_Mo_run {p : Program} {l : Launch} {e : Env} {s : State} {m : MethodId} {args : Array Value} {below : List Frame} {meth : Method} {c : Code} {E : tw_E} {D : va_G} {ρ : tw_R} (hC : tw_Cx p s m args meth c b_Mo_run 6 (some .int) "TwinHostModel" E D) : tw_Ok p l e (tw_rmd 8) s m args below meth c 0 0 (MQ below (tw_Qc E D ρ) args s 0 0 (tw_A E)) 6 E D ρ pr_Mo_run :=
  ⟨ts_iload_n hC d_Mo_run_0 rfl,
   ts_iconst hC d_Mo_run_1 (by decide),
   ts_clt hC d_Mo_run_2 (by decide),
   ts_iload_n hC d_Mo_run_5 rfl,
   ts_bipush hC d_Mo_run_6 (by decide),
   ts_cle hC d_Mo_run_8 (by decide),
   ts_iconst hC d_Mo_run_11 (by decide),
   ts_iret hC rfl d_Mo_run_12,
   ts_iconst hC d_Mo_run_13 (by decide),
   ts_istore_n hC d_Mo_run_14 rfl (by decide),
   ts_iconst hC d_Mo_run_15 (by decide),
   ts_istore_n hC d_Mo_run_16 rfl (by decide),
   ts_iload_n hC d_Mo_run_17 rfl,
   ts_iload_n hC d_Mo_run_18 rfl,
   ts_cge hC d_Mo_run_19 (by decide),
   ts_aload_n hC d_Mo_run_22 rfl,
   ts_gi (j := 1) (C := R_Mo) (T := T_Mo) hC rfl rfl rfl (by decide) u_Mo wd_457 rfl d_Mo_run_23,
   ts_istore hC d_Mo_run_26 (by decide),
   ts_aload_n hC d_Mo_run_28 rfl,
   ts_iload hC d_Mo_run_29,
   ts_callv (C := R_Mo) (T := T_Mo) hC con_Mo_step wd_607 wd_30 (by decide +kernel) ⟨by decide, by decide⟩ ⟨Nat.zero_le _, Nat.zero_le _⟩ wd_604 rfl rfl wd_606 wd_8 d_Mo_run_31,
   ts_istore hC d_Mo_run_34 (by decide),
   ts_aload_n hC d_Mo_run_36 rfl,
   ts_iload hC d_Mo_run_37,
   ts_bipush hC d_Mo_run_39 (by decide),
   ts_iconst hC d_Mo_run_41 (by decide),
   ts_callv (C := R_Mo) (T := T_Mo) hC con_Mo_add wd_540 wd_30 (by decide +kernel) ⟨by decide, by decide⟩ ⟨Nat.zero_le _, Nat.zero_le _⟩ wd_537 rfl rfl wd_539 wd_2 d_Mo_run_42,
   ts_iload hC d_Mo_run_45,
   ts_iconst hC d_Mo_run_47 (by decide),
   ts_cne hC d_Mo_run_48 (by decide),
   ts_iload_n hC d_Mo_run_51 rfl,
   ts_iconst hC d_Mo_run_52 (by decide),
   ts_iadd hC d_Mo_run_53,
   ts_goto hC d_Mo_run_54 (by decide),
   ts_iload_n hC d_Mo_run_57 rfl,
   ts_istore_n hC d_Mo_run_58 rfl (by decide),
   ts_aload_n hC d_Mo_run_59 rfl,
   ts_aload_n hC d_Mo_run_60 rfl,
   ts_gi (j := 2) (C := R_Mo) (T := T_Mo) hC rfl rfl rfl (by decide) u_Mo wd_458 rfl d_Mo_run_61,
   ts_iconst hC d_Mo_run_64 (by decide),
   ts_iadd hC d_Mo_run_65,
   ts_pi (j := 2) (C := R_Mo) (T := T_Mo) hC rfl rfl rfl (by decide) u_Mo wd_458 rfl t_Mo_ok n_Mo rfl (by decide +kernel) d_Mo_run_66,
   ts_iload hC d_Mo_run_69,
   ts_iconst hC d_Mo_run_71 (by decide),
   ts_ceq hC d_Mo_run_72 (by decide),
   ts_aload_n hC d_Mo_run_75 rfl,
   ts_gi (j := 2) (C := R_Mo) (T := T_Mo) hC rfl rfl rfl (by decide) u_Mo wd_458 rfl d_Mo_run_76,
   ts_aload_n hC d_Mo_run_79 rfl,
   ts_gi (j := 0) (C := R_Mo) (T := T_Mo) hC rfl rfl rfl (by decide) u_Mo wd_456 rfl d_Mo_run_80,
   ts_clt hC d_Mo_run_83 (by decide),
   ts_aload_n hC d_Mo_run_86 rfl,
   ts_iload hC d_Mo_run_87,
   ts_bipush hC d_Mo_run_89 (by decide),
   ts_iconst hC d_Mo_run_91 (by decide),
   ts_callv (C := R_Mo) (T := T_Mo) hC con_Mo_add wd_540 wd_30 (by decide +kernel) ⟨by decide, by decide⟩ ⟨Nat.zero_le _, Nat.zero_le _⟩ wd_537 rfl rfl wd_539 wd_2 d_Mo_run_92,
   ts_aload_n hC d_Mo_run_95 rfl,
   ts_iconst hC d_Mo_run_96 (by decide),
   ts_iload hC d_Mo_run_97,
   ts_isub hC d_Mo_run_99,
   ts_pi (j := 1) (C := R_Mo) (T := T_Mo) hC rfl rfl rfl (by decide) u_Mo wd_457 rfl t_Mo_ok n_Mo rfl (by decide +kernel) d_Mo_run_100,
   ts_aload_n hC d_Mo_run_103 rfl,
   ts_iconst hC d_Mo_run_104 (by decide),
   ts_pi (j := 2) (C := R_Mo) (T := T_Mo) hC rfl rfl rfl (by decide) u_Mo wd_458 rfl t_Mo_ok n_Mo rfl (by decide +kernel) d_Mo_run_105,
   ts_iinc hC d_Mo_run_108 (by decide) (by decide),
   ts_goto hC d_Mo_run_111 (by decide),
   ts_iload_n hC d_Mo_run_114 rfl,
   ts_iret hC rfl d_Mo_run_115,
   trivial⟩
def fn_Mo_run : tw_Fn := tw_fn 2 6 8000 pr_Mo_run
theorem con_Mo_run : tw_Con y_Mo_run b_Mo_run 6 (some .int) 8 fn_Mo_run := tw_met (by decide +kernel) (tw_fn_len (n := 2) (by decide)) (fun p l e s m args below meth c E D vs σ ρ hC h => tw_sound (ok_Mo_run hC) 8000 pr_Mo_run (ok_Mo_run hC) _ _ _ (tw_fn_get h))
end
section
/-! What a function says of a method where it says something: tw_le. Calls in such a function: tw_bi (an int comes back), tw_bv (nothing), tw_br (a constant of Outcome). -/
def tw_le (a b : Option tw_R) : Prop := ∀ ρ, a = some ρ → b = some ρ
def tw_bi (a : Option tw_R) (k : Int32 → tw_S → Option tw_R) : Option tw_R := match a with
  | some (some (.inl x), σ) => k x σ
  | _ => none
def tw_bv (a : Option tw_R) (k : tw_S → Option tw_R) : Option tw_R := match a with
  | some (none, σ) => k σ
  | _ => none
def tw_br (a : Option tw_R) (k : Nat → tw_S → Option tw_R) : Option tw_R := match a with
  | some (some (.inr (false, o)), σ) => k o σ
  | _ => none
def tw_bo (a : Option tw_R) (k0 k1 k2 : tw_S → Option tw_R) : Option tw_R := tw_br a (fun o σ => if o = 60 then k0 σ else if o = 61 then k1 σ else if o = 62 then k2 σ else none)
theorem tw_le_rf {a : Option tw_R} : tw_le a a := fun _ h => h
theorem tw_le_no {b : Option tw_R} : tw_le none b := fun _ h => tw_no h
theorem tw_le_it {c : Prop} [Decidable c] {a b a2 b2 : Option tw_R} (h1 : c → tw_le a a2) (h2 : ¬ c → tw_le b b2) : tw_le (if c then a else b) (if c then a2 else b2) := by
  by_cases hc : c
  · rw [if_pos hc, if_pos hc]; exact h1 hc
  · rw [if_neg hc, if_neg hc]; exact h2 hc
theorem tw_le_ps {c : Prop} [Decidable c] {a a2 b2 : Option tw_R} (hc : c) (h1 : tw_le a a2) : tw_le a (if c then a2 else b2) := by
  rw [if_pos hc]; exact h1
theorem tw_le_ng {c : Prop} [Decidable c] {a a2 b2 : Option tw_R} (hc : ¬ c) (h1 : tw_le a b2) : tw_le a (if c then a2 else b2) := by
  rw [if_neg hc]; exact h1
theorem tw_le_bi {a b : Option tw_R} {k : Int32 → tw_S → Option tw_R} {next : tw_K} {lv : tw_L} {rest : List tw_V} (h : tw_le a b) (hk : ∀ x σ, tw_le (k x σ) (next lv (.inl x :: rest) σ)) : tw_le (tw_bi a k) (tw_beh next lv rest b) := by
  intro ρ hr
  rcases a with _ | ⟨_ | ⟨x | q⟩, σ⟩
  · exact tw_no hr
  · exact tw_no hr
  · rw [h _ rfl]; exact hk x σ ρ hr
  · exact tw_no hr
theorem tw_le_bv {a b : Option tw_R} {k : tw_S → Option tw_R} {next : tw_K} {lv : tw_L} {rest : List tw_V} (h : tw_le a b) (hk : ∀ σ, tw_le (k σ) (next lv rest σ)) : tw_le (tw_bv a k) (tw_beh next lv rest b) := by
  intro ρ hr
  rcases a with _ | ⟨_ | ⟨x | q⟩, σ⟩
  · exact tw_no hr
  · rw [h _ rfl]; exact hk σ ρ hr
  · exact tw_no hr
  · exact tw_no hr
theorem tw_le_br {a b : Option tw_R} {k : Nat → tw_S → Option tw_R} {next : tw_K} {lv : tw_L} {rest : List tw_V} (h : tw_le a b) (hk : ∀ o σ, tw_le (k o σ) (next lv (.inr (false, o) :: rest) σ)) : tw_le (tw_br a k) (tw_beh next lv rest b) := by
  intro ρ hr
  rcases a with _ | ⟨_ | ⟨x | ⟨_ | _, o⟩⟩, σ⟩
  · exact tw_no hr
  · exact tw_no hr
  · exact tw_no hr
  · rw [h _ rfl]; exact hk o σ ρ hr
  · exact tw_no hr
theorem tw_le_bo {a b : Option tw_R} {k0 k1 k2 : tw_S → Option tw_R} {next : tw_K} {lv : tw_L} {rest : List tw_V} (h : tw_le a b) (h0 : ∀ σ, tw_le (k0 σ) (next lv (.inr (false, 60) :: rest) σ)) (h1 : ∀ σ, tw_le (k1 σ) (next lv (.inr (false, 61) :: rest) σ)) (h2 : ∀ σ, tw_le (k2 σ) (next lv (.inr (false, 62) :: rest) σ)) : tw_le (tw_bo a k0 k1 k2) (tw_beh next lv rest b) := by
  refine tw_le_br h (fun o σ => ?_)
  by_cases e0 : o = 60
  · rw [if_pos e0, e0]; exact h0 σ
  · rw [if_neg e0]
    by_cases e1 : o = 61
    · rw [if_pos e1, e1]; exact h1 σ
    · rw [if_neg e1]
      by_cases e2 : o = 62
      · rw [if_pos e2, e2]; exact h2 σ
      · rw [if_neg e2]; exact tw_le_no
theorem tw_le_cs {c : Prop} [Decidable c] {a a2 b : Option tw_R} (h1 : c → tw_le a b) (h2 : ¬ c → tw_le a2 b) : tw_le (if c then a else a2) b := by
  by_cases hc : c
  · rw [if_pos hc]; exact h1 hc
  · rw [if_neg hc]; exact h2 hc
theorem tw_le_ki {a b : Option tw_R} {x : Int32} {σ : tw_S} {next : tw_K} {lv : tw_L} {rest : List tw_V} (h : tw_le (some (some (.inl x), σ)) b) (hk : tw_le a (next lv (.inl x :: rest) σ)) : tw_le a (tw_beh next lv rest b) := by
  rw [h _ rfl]; exact hk
theorem tw_le_kv {a b : Option tw_R} {σ : tw_S} {next : tw_K} {lv : tw_L} {rest : List tw_V} (h : tw_le (some (none, σ)) b) (hk : tw_le a (next lv rest σ)) : tw_le a (tw_beh next lv rest b) := by
  rw [h _ rfl]; exact hk
theorem tw_le_kr {a b : Option tw_R} {o : Nat} {σ : tw_S} {next : tw_K} {lv : tw_L} {rest : List tw_V} (h : tw_le (some (some (.inr (false, o)), σ)) b) (hk : tw_le a (next lv (.inr (false, o) :: rest) σ)) : tw_le a (tw_beh next lv rest b) := by
  rw [h _ rfl]; exact hk
end
