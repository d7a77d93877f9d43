-- ===== PART A: goes FIRST, ahead of the names: the tables' words, and 'selects' of the private methods out of them =====
/-- a private method of a class that the tables say can be made, by its rows of tables_1 -/
def lw_okq (q : MethodName × Nat) : Prop := (q.1.cls ≠ "java/lang/invoke/MethodHandle" ∧ q.1.cls ≠ "java/lang/invoke/VarHandle") ∧ Cond.instantiable q.1.cls q.2 ∈ tables_1 ∧ Cond.privateMethod q.1 ∈ tables_1 ∧ Cond.instanceMethod q.1 ∈ tables_1
theorem lw_p0 : lw_okq (⟨"TwinHost", "passTurnAfter", "(LTwinHost$Outcome;)V"⟩, 4) := ⟨⟨by decide +kernel, by decide +kernel⟩, List.mem_of_getElem? (i := 13) (by decide +kernel), List.mem_of_getElem? (i := 398) (by decide +kernel), List.mem_of_getElem? (i := 399) (by decide +kernel)⟩
theorem lw_p1 : lw_okq (⟨"TwinHostModel", "drop", "(II)V"⟩, 20) := ⟨⟨by decide +kernel, by decide +kernel⟩, List.mem_of_getElem? (i := 427) (by decide +kernel), List.mem_of_getElem? (i := 511) (by decide +kernel), List.mem_of_getElem? (i := 512) (by decide +kernel)⟩
theorem lw_p2 : lw_okq (⟨"TwinHostModel", "add", "(III)V"⟩, 20) := ⟨⟨by decide +kernel, by decide +kernel⟩, List.mem_of_getElem? (i := 427) (by decide +kernel), List.mem_of_getElem? (i := 515) (by decide +kernel), List.mem_of_getElem? (i := 516) (by decide +kernel)⟩
theorem lw_p3 : lw_okq (⟨"TwinHostModel", "put", "(III)V"⟩, 20) := ⟨⟨by decide +kernel, by decide +kernel⟩, List.mem_of_getElem? (i := 427) (by decide +kernel), List.mem_of_getElem? (i := 527) (by decide +kernel), List.mem_of_getElem? (i := 528) (by decide +kernel)⟩
theorem lw_p4 : lw_okq (⟨"TwinHostModel", "assign", "(III)V"⟩, 20) := ⟨⟨by decide +kernel, by decide +kernel⟩, List.mem_of_getElem? (i := 427) (by decide +kernel), List.mem_of_getElem? (i := 542) (by decide +kernel), List.mem_of_getElem? (i := 543) (by decide +kernel)⟩
theorem lw_p5 : lw_okq (⟨"TwinHostModel", "flush", "(I)V"⟩, 20) := ⟨⟨by decide +kernel, by decide +kernel⟩, List.mem_of_getElem? (i := 427) (by decide +kernel), List.mem_of_getElem? (i := 546) (by decide +kernel), List.mem_of_getElem? (i := 547) (by decide +kernel)⟩
theorem lw_p6 : lw_okq (⟨"TwinHostModel", "isThere", "(I)Z"⟩, 20) := ⟨⟨by decide +kernel, by decide +kernel⟩, List.mem_of_getElem? (i := 427) (by decide +kernel), List.mem_of_getElem? (i := 554) (by decide +kernel), List.mem_of_getElem? (i := 555) (by decide +kernel)⟩
theorem lw_p7 : lw_okq (⟨"TwinHostModel", "pending", "(I)I"⟩, 20) := ⟨⟨by decide +kernel, by decide +kernel⟩, List.mem_of_getElem? (i := 427) (by decide +kernel), List.mem_of_getElem? (i := 558) (by decide +kernel), List.mem_of_getElem? (i := 559) (by decide +kernel)⟩
theorem lw_p8 : lw_okq (⟨"TwinHostModel", "step", "(I)I"⟩, 20) := ⟨⟨by decide +kernel, by decide +kernel⟩, List.mem_of_getElem? (i := 427) (by decide +kernel), List.mem_of_getElem? (i := 582) (by decide +kernel), List.mem_of_getElem? (i := 583) (by decide +kernel)⟩
theorem lw_p9 : lw_okq (⟨"TwinHostModel", "trap", "(III)V"⟩, 20) := ⟨⟨by decide +kernel, by decide +kernel⟩, List.mem_of_getElem? (i := 427) (by decide +kernel), List.mem_of_getElem? (i := 587) (by decide +kernel), List.mem_of_getElem? (i := 588) (by decide +kernel)⟩
theorem lw_p10 : lw_okq (⟨"TwinHostModel", "access", "(III)I"⟩, 20) := ⟨⟨by decide +kernel, by decide +kernel⟩, List.mem_of_getElem? (i := 427) (by decide +kernel), List.mem_of_getElem? (i := 591) (by decide +kernel), List.mem_of_getElem? (i := 592) (by decide +kernel)⟩
theorem lw_p11 : lw_okq (⟨"TwinHostModel", "outside", "(III)I"⟩, 20) := ⟨⟨by decide +kernel, by decide +kernel⟩, List.mem_of_getElem? (i := 427) (by decide +kernel), List.mem_of_getElem? (i := 595) (by decide +kernel), List.mem_of_getElem? (i := 596) (by decide +kernel)⟩
theorem lw_p12 : lw_okq (⟨"TwinHostModel", "fault", "(III)I"⟩, 20) := ⟨⟨by decide +kernel, by decide +kernel⟩, List.mem_of_getElem? (i := 427) (by decide +kernel), List.mem_of_getElem? (i := 599) (by decide +kernel), List.mem_of_getElem? (i := 600) (by decide +kernel)⟩
theorem lw_p13 : lw_okq (⟨"TwinHostModel", "allowed", "(III)Z"⟩, 20) := ⟨⟨by decide +kernel, by decide +kernel⟩, List.mem_of_getElem? (i := 427) (by decide +kernel), List.mem_of_getElem? (i := 603) (by decide +kernel), List.mem_of_getElem? (i := 604) (by decide +kernel)⟩
theorem lw_p14 : lw_okq (⟨"TwinHostModel", "walk", "(III)I"⟩, 20) := ⟨⟨by decide +kernel, by decide +kernel⟩, List.mem_of_getElem? (i := 427) (by decide +kernel), List.mem_of_getElem? (i := 607) (by decide +kernel), List.mem_of_getElem? (i := 608) (by decide +kernel)⟩
theorem lw_p15 : lw_okq (⟨"TwinHostModel", "reach", "(IIII)I"⟩, 20) := ⟨⟨by decide +kernel, by decide +kernel⟩, List.mem_of_getElem? (i := 427) (by decide +kernel), List.mem_of_getElem? (i := 614) (by decide +kernel), List.mem_of_getElem? (i := 615) (by decide +kernel)⟩
def lw_privs_1 : List (MethodName × Nat) := [(⟨"TwinHost", "passTurnAfter", "(LTwinHost$Outcome;)V"⟩, 4), (⟨"TwinHostModel", "drop", "(II)V"⟩, 20), (⟨"TwinHostModel", "add", "(III)V"⟩, 20), (⟨"TwinHostModel", "put", "(III)V"⟩, 20), (⟨"TwinHostModel", "assign", "(III)V"⟩, 20), (⟨"TwinHostModel", "flush", "(I)V"⟩, 20), (⟨"TwinHostModel", "isThere", "(I)Z"⟩, 20), (⟨"TwinHostModel", "pending", "(I)I"⟩, 20), (⟨"TwinHostModel", "step", "(I)I"⟩, 20), (⟨"TwinHostModel", "trap", "(III)V"⟩, 20), (⟨"TwinHostModel", "access", "(III)I"⟩, 20), (⟨"TwinHostModel", "outside", "(III)I"⟩, 20), (⟨"TwinHostModel", "fault", "(III)I"⟩, 20), (⟨"TwinHostModel", "allowed", "(III)Z"⟩, 20), (⟨"TwinHostModel", "walk", "(III)I"⟩, 20), (⟨"TwinHostModel", "reach", "(IIII)I"⟩, 20)]
theorem lw_r1 : ∀ q ∈ lw_privs_1, lw_okq q := List.forall_mem_cons.mpr ⟨lw_p0, List.forall_mem_cons.mpr ⟨lw_p1, List.forall_mem_cons.mpr ⟨lw_p2, List.forall_mem_cons.mpr ⟨lw_p3, List.forall_mem_cons.mpr ⟨lw_p4, List.forall_mem_cons.mpr ⟨lw_p5, List.forall_mem_cons.mpr ⟨lw_p6, List.forall_mem_cons.mpr ⟨lw_p7, List.forall_mem_cons.mpr ⟨lw_p8, List.forall_mem_cons.mpr ⟨lw_p9, List.forall_mem_cons.mpr ⟨lw_p10, List.forall_mem_cons.mpr ⟨lw_p11, List.forall_mem_cons.mpr ⟨lw_p12, List.forall_mem_cons.mpr ⟨lw_p13, List.forall_mem_cons.mpr ⟨lw_p14, List.forall_mem_cons.mpr ⟨lw_p15, fun _ h => absurd h List.not_mem_nil⟩⟩⟩⟩⟩⟩⟩⟩⟩⟩⟩⟩⟩⟩⟩⟩
theorem lw_p16 : lw_okq (⟨"TwinHostModel", "fill", "(IIII)V"⟩, 20) := ⟨⟨by decide +kernel, by decide +kernel⟩, List.mem_of_getElem? (i := 427) (by decide +kernel), List.mem_of_getElem? (i := 618) (by decide +kernel), List.mem_of_getElem? (i := 619) (by decide +kernel)⟩
theorem lw_p17 : lw_okq (⟨"TwinHostModel", "special", "(IIII)I"⟩, 20) := ⟨⟨by decide +kernel, by decide +kernel⟩, List.mem_of_getElem? (i := 427) (by decide +kernel), List.mem_of_getElem? (i := 622) (by decide +kernel), List.mem_of_getElem? (i := 623) (by decide +kernel)⟩
theorem lw_p18 : lw_okq (⟨"TwinHostModel", "illegal", "(II)I"⟩, 20) := ⟨⟨by decide +kernel, by decide +kernel⟩, List.mem_of_getElem? (i := 427) (by decide +kernel), List.mem_of_getElem? (i := 626) (by decide +kernel), List.mem_of_getElem? (i := 627) (by decide +kernel)⟩
theorem lw_p19 : lw_okq (⟨"TwinHostModel", "controls", "(III)I"⟩, 20) := ⟨⟨by decide +kernel, by decide +kernel⟩, List.mem_of_getElem? (i := 427) (by decide +kernel), List.mem_of_getElem? (i := 630) (by decide +kernel), List.mem_of_getElem? (i := 631) (by decide +kernel)⟩
theorem lw_p20 : lw_okq (⟨"TwinHostModel", "takeInput", "(I)V"⟩, 20) := ⟨⟨by decide +kernel, by decide +kernel⟩, List.mem_of_getElem? (i := 427) (by decide +kernel), List.mem_of_getElem? (i := 635) (by decide +kernel), List.mem_of_getElem? (i := 636) (by decide +kernel)⟩
theorem lw_p21 : lw_okq (⟨"TwinHostModel", "retire", "(II)I"⟩, 20) := ⟨⟨by decide +kernel, by decide +kernel⟩, List.mem_of_getElem? (i := 427) (by decide +kernel), List.mem_of_getElem? (i := 639) (by decide +kernel), List.mem_of_getElem? (i := 640) (by decide +kernel)⟩
theorem lw_p22 : lw_okq (⟨"TwinHostModel", "data", "(IIIII)I"⟩, 20) := ⟨⟨by decide +kernel, by decide +kernel⟩, List.mem_of_getElem? (i := 427) (by decide +kernel), List.mem_of_getElem? (i := 646) (by decide +kernel), List.mem_of_getElem? (i := 647) (by decide +kernel)⟩
def lw_privs_2 : List (MethodName × Nat) := [(⟨"TwinHostModel", "fill", "(IIII)V"⟩, 20), (⟨"TwinHostModel", "special", "(IIII)I"⟩, 20), (⟨"TwinHostModel", "illegal", "(II)I"⟩, 20), (⟨"TwinHostModel", "controls", "(III)I"⟩, 20), (⟨"TwinHostModel", "takeInput", "(I)V"⟩, 20), (⟨"TwinHostModel", "retire", "(II)I"⟩, 20), (⟨"TwinHostModel", "data", "(IIIII)I"⟩, 20)]
theorem lw_r2 : ∀ q ∈ lw_privs_2, lw_okq q := List.forall_mem_cons.mpr ⟨lw_p16, List.forall_mem_cons.mpr ⟨lw_p17, List.forall_mem_cons.mpr ⟨lw_p18, List.forall_mem_cons.mpr ⟨lw_p19, List.forall_mem_cons.mpr ⟨lw_p20, List.forall_mem_cons.mpr ⟨lw_p21, List.forall_mem_cons.mpr ⟨lw_p22, fun _ h => absurd h List.not_mem_nil⟩⟩⟩⟩⟩⟩⟩
def lw_privs : List (MethodName × Nat) := lw_privs_1 ++ (lw_privs_2)
def lw_tbl : List Cond := k2_sels lw_privs ++ tables_1
theorem lw_privs_ok : ∀ q ∈ lw_privs, lw_okq q := by
  show ∀ q ∈ lw_privs_1 ++ (lw_privs_2), lw_okq q
  exact List.forall_mem_append.mpr ⟨lw_r1, lw_r2⟩
def R_TH : String := "TwinHost"
def T_TH : u_T := fun k => match k with
  | 0 => ("TwinHost", "guests", "[LTwinHost$Guest;", true)
  | 1 => ("TwinHost", "quantum", "I", true)
  | 2 => ("TwinHost", "holder", "I", false)
  | _ => ("TwinHost", "stepsInRow", "I", false)
def t_TH : Nat → FieldType := fun k => match k with
  | 0 => .array (.object "TwinHost$Guest")
  | 1 => .int
  | 2 => .int
  | _ => .int
theorem n_TH : ∀ a, a < 4 → ∀ b, b < 4 → a ≠ b → (T_TH a).2.1 ≠ (T_TH b).2.1 := by decide +kernel
theorem t_TH_ok : ∀ k, k < 4 → parseFieldDescriptor (T_TH k).2.2.1 = some (t_TH k) := by decide +kernel
def R_Gu : String := "TwinHost$Guest"
def T_Gu : u_T := fun k => match k with
  | 0 => ("TwinHost$Guest", "memory", "[I", true)
  | 1 => ("TwinHost$Guest", "registers", "[I", true)
  | 2 => ("TwinHost$Guest", "counts", "[I", true)
  | 3 => ("TwinHost$Guest", "controls", "LTwinHost$Controls;", true)
  | 4 => ("TwinHost$Guest", "shadows", "LTwinHost$Shadows;", true)
  | 5 => ("TwinHost$Guest", "walk", "LTwinHost$Walk;", true)
  | 6 => ("TwinHost$Guest", "pc", "I", false)
  | _ => ("TwinHost$Guest", "inUser", "Z", false)
def t_Gu : Nat → FieldType := fun k => match k with
  | 0 => .array .int
  | 1 => .array .int
  | 2 => .array .int
  | 3 => .object "TwinHost$Controls"
  | 4 => .object "TwinHost$Shadows"
  | 5 => .object "TwinHost$Walk"
  | 6 => .int
  | _ => .boolean
theorem n_Gu : ∀ a, a < 8 → ∀ b, b < 8 → a ≠ b → (T_Gu a).2.1 ≠ (T_Gu b).2.1 := by decide +kernel
theorem t_Gu_ok : ∀ k, k < 8 → parseFieldDescriptor (T_Gu k).2.2.1 = some (t_Gu k) := by decide +kernel
def R_Co : String := "TwinHost$Controls"
def T_Co : u_T := fun k => match k with
  | 0 => ("TwinHost$Controls", "values", "[I", true)
  | _ => ("TwinHost$Controls", "inputs", "LTwinHost$Inputs;", true)
def t_Co : Nat → FieldType := fun k => match k with
  | 0 => .array .int
  | _ => .object "TwinHost$Inputs"
theorem n_Co : ∀ a, a < 2 → ∀ b, b < 2 → a ≠ b → (T_Co a).2.1 ≠ (T_Co b).2.1 := by decide +kernel
theorem t_Co_ok : ∀ k, k < 2 → parseFieldDescriptor (T_Co k).2.2.1 = some (t_Co k) := by decide +kernel
def R_In : String := "TwinHost$Inputs"
def T_In : u_T := fun k => match k with
  | 0 => ("TwinHost$Inputs", "times", "[I", true)
  | 1 => ("TwinHost$Inputs", "values", "[I", true)
  | _ => ("TwinHost$Inputs", "size", "I", false)
def t_In : Nat → FieldType := fun k => match k with
  | 0 => .array .int
  | 1 => .array .int
  | _ => .int
theorem n_In : ∀ a, a < 3 → ∀ b, b < 3 → a ≠ b → (T_In a).2.1 ≠ (T_In b).2.1 := by decide +kernel
theorem t_In_ok : ∀ k, k < 3 → parseFieldDescriptor (T_In k).2.2.1 = some (t_In k) := by decide +kernel
def R_Sh : String := "TwinHost$Shadows"
def T_Sh : u_T := fun k => match k with
  | 0 => ("TwinHost$Shadows", "pages", "[I", true)
  | 1 => ("TwinHost$Shadows", "bits", "[I", true)
  | 2 => ("TwinHost$Shadows", "firsts", "[I", true)
  | _ => ("TwinHost$Shadows", "seconds", "[I", true)
def t_Sh : Nat → FieldType := fun k => match k with
  | 0 => .array .int
  | 1 => .array .int
  | 2 => .array .int
  | _ => .array .int
theorem n_Sh : ∀ a, a < 4 → ∀ b, b < 4 → a ≠ b → (T_Sh a).2.1 ≠ (T_Sh b).2.1 := by decide +kernel
theorem t_Sh_ok : ∀ k, k < 4 → parseFieldDescriptor (T_Sh k).2.2.1 = some (t_Sh k) := by decide +kernel
def R_Wa : String := "TwinHost$Walk"
def T_Wa : u_T := fun k => match k with
  | 0 => ("TwinHost$Walk", "first", "I", false)
  | 1 => ("TwinHost$Walk", "second", "I", false)
  | 2 => ("TwinHost$Walk", "leafAt", "I", false)
  | _ => ("TwinHost$Walk", "page", "I", false)
def t_Wa : Nat → FieldType := fun k => match k with
  | 0 => .int
  | 1 => .int
  | 2 => .int
  | _ => .int
theorem n_Wa : ∀ a, a < 4 → ∀ b, b < 4 → a ≠ b → (T_Wa a).2.1 ≠ (T_Wa b).2.1 := by decide +kernel
theorem t_Wa_ok : ∀ k, k < 4 → parseFieldDescriptor (T_Wa k).2.2.1 = some (t_Wa k) := by decide +kernel
def R_Mo : String := "TwinHostModel"
def T_Mo : u_T := fun k => match k with
  | 0 => ("TwinHostModel", "quantum", "I", false)
  | 1 => ("TwinHostModel", "turn", "I", false)
  | 2 => ("TwinHostModel", "row", "I", false)
  | 3 => ("TwinHostModel", "memory", "[I", false)
  | 4 => ("TwinHostModel", "x", "[I", false)
  | 5 => ("TwinHostModel", "control", "[I", false)
  | 6 => ("TwinHostModel", "pc", "[I", false)
  | 7 => ("TwinHostModel", "user", "[Z", false)
  | 8 => ("TwinHostModel", "waiting", "[I", false)
  | 9 => ("TwinHostModel", "inputTime", "[I", false)
  | 10 => ("TwinHostModel", "inputValue", "[I", false)
  | 11 => ("TwinHostModel", "counts", "[I", false)
  | 12 => ("TwinHostModel", "page", "[I", false)
  | 13 => ("TwinHostModel", "bits", "[I", false)
  | 14 => ("TwinHostModel", "dirty", "[Z", false)
  | 15 => ("TwinHostModel", "first", "[I", false)
  | 16 => ("TwinHostModel", "second", "[I", false)
  | 17 => ("TwinHostModel", "leafAt", "I", false)
  | 18 => ("TwinHostModel", "tableAt", "I", false)
  | _ => ("TwinHostModel", "through", "Z", false)
def t_Mo : Nat → FieldType := fun k => match k with
  | 0 => .int
  | 1 => .int
  | 2 => .int
  | 3 => .array .int
  | 4 => .array .int
  | 5 => .array .int
  | 6 => .array .int
  | 7 => .array .boolean
  | 8 => .array .int
  | 9 => .array .int
  | 10 => .array .int
  | 11 => .array .int
  | 12 => .array .int
  | 13 => .array .int
  | 14 => .array .boolean
  | 15 => .array .int
  | 16 => .array .int
  | 17 => .int
  | 18 => .int
  | _ => .boolean
theorem n_Mo : ∀ a, a < 20 → ∀ b, b < 20 → a ≠ b → (T_Mo a).2.1 ≠ (T_Mo b).2.1 := by decide +kernel
theorem t_Mo_ok : ∀ k, k < 20 → parseFieldDescriptor (T_Mo k).2.2.1 = some (t_Mo k) := by decide +kernel
abbrev tw_cl : List vw_C := [(R_TH, T_TH, 4), (R_Gu, T_Gu, 8), (R_Co, T_Co, 2), (R_In, T_In, 3), (R_Sh, T_Sh, 4), (R_Wa, T_Wa, 4), (R_Mo, T_Mo, 20)]
/-- the words of the tables that a callee may ask of its caller -/
def tw_Tb : List Cond := lw_tbl.filter goodWord
theorem tw_Tb_good : ∀ w ∈ tw_Tb, (w.onTables && w.keeps) = true ∨ ∃ ty, w = .arrayClass ty := fun _ h => good_of_word (List.mem_filter.mp h).2
theorem tw_in {w : Cond} (k : Nat) (h : lw_tbl[k]? = some w) (hg : goodWord w = true) : w ∈ tw_Tb := List.mem_filter.mpr ⟨List.mem_of_getElem? h, hg⟩
theorem u_TH : ∀ w ∈ u_ws R_TH T_TH 4, w ∈ tw_Tb := fun w h => List.mem_filter.mpr (by
  have key : ((u_ws R_TH T_TH 4).all (fun w => lw_tbl.contains w && goodWord w)) = true := by decide +kernel
  have h2 := List.all_eq_true.mp key w h
  rw [Bool.and_eq_true] at h2
  exact ⟨List.contains_iff_mem.mp h2.1, h2.2⟩)
theorem u_Gu : ∀ w ∈ u_ws R_Gu T_Gu 8, w ∈ tw_Tb := fun w h => List.mem_filter.mpr (by
  have key : ((u_ws R_Gu T_Gu 8).all (fun w => lw_tbl.contains w && goodWord w)) = true := by decide +kernel
  have h2 := List.all_eq_true.mp key w h
  rw [Bool.and_eq_true] at h2
  exact ⟨List.contains_iff_mem.mp h2.1, h2.2⟩)
theorem u_Co : ∀ w ∈ u_ws R_Co T_Co 2, w ∈ tw_Tb := fun w h => List.mem_filter.mpr (by
  have key : ((u_ws R_Co T_Co 2).all (fun w => lw_tbl.contains w && goodWord w)) = true := by decide +kernel
  have h2 := List.all_eq_true.mp key w h
  rw [Bool.and_eq_true] at h2
  exact ⟨List.contains_iff_mem.mp h2.1, h2.2⟩)
theorem u_In : ∀ w ∈ u_ws R_In T_In 3, w ∈ tw_Tb := fun w h => List.mem_filter.mpr (by
  have key : ((u_ws R_In T_In 3).all (fun w => lw_tbl.contains w && goodWord w)) = true := by decide +kernel
  have h2 := List.all_eq_true.mp key w h
  rw [Bool.and_eq_true] at h2
  exact ⟨List.contains_iff_mem.mp h2.1, h2.2⟩)
theorem u_Sh : ∀ w ∈ u_ws R_Sh T_Sh 4, w ∈ tw_Tb := fun w h => List.mem_filter.mpr (by
  have key : ((u_ws R_Sh T_Sh 4).all (fun w => lw_tbl.contains w && goodWord w)) = true := by decide +kernel
  have h2 := List.all_eq_true.mp key w h
  rw [Bool.and_eq_true] at h2
  exact ⟨List.contains_iff_mem.mp h2.1, h2.2⟩)
theorem u_Wa : ∀ w ∈ u_ws R_Wa T_Wa 4, w ∈ tw_Tb := fun w h => List.mem_filter.mpr (by
  have key : ((u_ws R_Wa T_Wa 4).all (fun w => lw_tbl.contains w && goodWord w)) = true := by decide +kernel
  have h2 := List.all_eq_true.mp key w h
  rw [Bool.and_eq_true] at h2
  exact ⟨List.contains_iff_mem.mp h2.1, h2.2⟩)
theorem u_Mo : ∀ w ∈ u_ws R_Mo T_Mo 20, w ∈ tw_Tb := fun w h => List.mem_filter.mpr (by
  have key : ((u_ws R_Mo T_Mo 20).all (fun w => lw_tbl.contains w && goodWord w)) = true := by decide +kernel
  have h2 := List.all_eq_true.mp key w h
  rw [Bool.and_eq_true] at h2
  exact ⟨List.contains_iff_mem.mp h2.1, h2.2⟩)
abbrev b_Co_exists : ByteArray := prog_3_method_2_code
def y_Co_exists : MethodName := ⟨"TwinHost$Controls", "exists", "(I)Z"⟩
abbrev b_Co_isOn : ByteArray := prog_3_method_10_code
def y_Co_isOn : MethodName := ⟨"TwinHost$Controls", "isOn", "(I)Z"⟩
abbrev b_Co_keptBits : ByteArray := prog_3_method_4_code
def y_Co_keptBits : MethodName := ⟨"TwinHost$Controls", "keptBits", "(I)I"⟩
abbrev b_Co_translates : ByteArray := prog_3_method_11_code
def y_Co_translates : MethodName := ⟨"TwinHost$Controls", "translates", "()Z"⟩
abbrev b_En_allows : ByteArray := prog_5_method_5_code
def y_En_allows : MethodName := ⟨"TwinHost$Entry", "allows", "(ILTwinHost$Access;ZZ)Z"⟩
abbrev b_En_isBroken : ByteArray := prog_5_method_2_code
def y_En_isBroken : MethodName := ⟨"TwinHost$Entry", "isBroken", "(I)Z"⟩
abbrev b_En_isLeaf : ByteArray := prog_5_method_3_code
def y_En_isLeaf : MethodName := ⟨"TwinHost$Entry", "isLeaf", "(I)Z"⟩
abbrev b_En_pageNumber : ByteArray := prog_5_method_4_code
def y_En_pageNumber : MethodName := ⟨"TwinHost$Entry", "pageNumber", "(I)I"⟩
abbrev b_Gu_changed : ByteArray := prog_6_method_10_code
def y_Gu_changed : MethodName := ⟨"TwinHost$Guest", "changed", "(III)I"⟩
abbrev b_Gu_compute : ByteArray := prog_6_method_4_code
def y_Gu_compute : MethodName := ⟨"TwinHost$Guest", "compute", "(IIII)I"⟩
abbrev b_Gu_retireAt : ByteArray := prog_6_method_11_code
def y_Gu_retireAt : MethodName := ⟨"TwinHost$Guest", "retireAt", "(I)LTwinHost$Outcome;"⟩
abbrev b_Gu_setRegister : ByteArray := prog_6_method_17_code
def y_Gu_setRegister : MethodName := ⟨"TwinHost$Guest", "setRegister", "(II)V"⟩
abbrev b_In_append : ByteArray := prog_7_method_2_code
def y_In_append : MethodName := ⟨"TwinHost$Inputs", "append", "(II)Z"⟩
abbrev b_In_init : ByteArray := prog_7_method_1_code
def y_In_init : MethodName := ⟨"TwinHost$Inputs", "<init>", "()V"⟩
abbrev b_In_isThere : ByteArray := prog_7_method_3_code
def y_In_isThere : MethodName := ⟨"TwinHost$Inputs", "isThere", "(I)Z"⟩
abbrev b_In_removeFirst : ByteArray := prog_7_method_4_code
def y_In_removeFirst : MethodName := ⟨"TwinHost$Inputs", "removeFirst", "()V"⟩
abbrev b_La_cell : ByteArray := method_2_code
def y_La_cell : MethodName := ⟨"TwinHostLaw", "cell", "([II)I"⟩
abbrev b_Mo_add : ByteArray := prog_12_method_3_code
def y_Mo_add : MethodName := ⟨"TwinHostModel", "add", "(III)V"⟩
abbrev b_Mo_allowed : ByteArray := prog_12_method_27_code
def y_Mo_allowed : MethodName := ⟨"TwinHostModel", "allowed", "(III)Z"⟩
abbrev b_Mo_broken : ByteArray := prog_12_method_29_code
def y_Mo_broken : MethodName := ⟨"TwinHostModel", "broken", "(I)Z"⟩
abbrev b_Mo_calculate : ByteArray := prog_12_method_33_code
def y_Mo_calculate : MethodName := ⟨"TwinHostModel", "calculate", "(IIII)I"⟩
abbrev b_Mo_guest : ByteArray := prog_12_method_2_code
def y_Mo_guest : MethodName := ⟨"TwinHostModel", "guest", "(I)Z"⟩
abbrev b_Mo_init : ByteArray := prog_12_method_1_code
def y_Mo_init : MethodName := ⟨"TwinHostModel", "<init>", "(I)V"⟩
abbrev b_Mo_isStored : ByteArray := prog_12_method_13_code
def y_Mo_isStored : MethodName := ⟨"TwinHostModel", "isStored", "(I)Z"⟩
abbrev b_Mo_isThere : ByteArray := prog_12_method_16_code
def y_Mo_isThere : MethodName := ⟨"TwinHostModel", "isThere", "(I)Z"⟩
abbrev b_Mo_put : ByteArray := prog_12_method_10_code
def y_Mo_put : MethodName := ⟨"TwinHostModel", "put", "(III)V"⟩
abbrev b_Mo_retire : ByteArray := prog_12_method_34_code
def y_Mo_retire : MethodName := ⟨"TwinHostModel", "retire", "(II)I"⟩
abbrev b_Mo_takeInput : ByteArray := prog_12_method_23_code
def y_Mo_takeInput : MethodName := ⟨"TwinHostModel", "takeInput", "(I)V"⟩
abbrev b_Mo_turn : ByteArray := prog_12_method_41_code
def y_Mo_turn : MethodName := ⟨"TwinHostModel", "turn", "()I"⟩
abbrev b_Sh_clear : ByteArray := prog_9_method_2_code
def y_Sh_clear : MethodName := ⟨"TwinHost$Shadows", "clear", "()V"⟩
abbrev b_Sh_describe : ByteArray := prog_9_method_7_code
def y_Sh_describe : MethodName := ⟨"TwinHost$Shadows", "describe", "(I)I"⟩
abbrev b_Sh_dropThoseOf : ByteArray := prog_9_method_6_code
def y_Sh_dropThoseOf : MethodName := ⟨"TwinHost$Shadows", "dropThoseOf", "(I)I"⟩
abbrev b_Sh_isIn : ByteArray := prog_9_method_8_code
def y_Sh_isIn : MethodName := ⟨"TwinHost$Shadows", "isIn", "(II)Z"⟩
abbrev b_Sh_put : ByteArray := prog_9_method_3_code
def y_Sh_put : MethodName := ⟨"TwinHost$Shadows", "put", "(IILTwinHost$Walk;)V"⟩
abbrev b_TH_isGuest : ByteArray := prog_1_method_18_code
def y_TH_isGuest : MethodName := ⟨"TwinHost", "isGuest", "(I)Z"⟩
abbrev b_TH_isRegister : ByteArray := prog_1_method_20_code
def y_TH_isRegister : MethodName := ⟨"TwinHost", "isRegister", "(I)Z"⟩
abbrev b_TH_isWord : ByteArray := prog_1_method_19_code
def y_TH_isWord : MethodName := ⟨"TwinHost", "isWord", "(I)Z"⟩
abbrev b_TH_passTurnAfter : ByteArray := prog_1_method_17_code
def y_TH_passTurnAfter : MethodName := ⟨"TwinHost", "passTurnAfter", "(LTwinHost$Outcome;)V"⟩
abbrev b_TH_turn : ByteArray := prog_1_method_13_code
def y_TH_turn : MethodName := ⟨"TwinHost", "turn", "()I"⟩
abbrev b_Wa_init : ByteArray := prog_10_method_1_code
def y_Wa_init : MethodName := ⟨"TwinHost$Walk", "<init>", "()V"⟩
abbrev b_Co_enterTrap : ByteArray := prog_3_method_12_code
def y_Co_enterTrap : MethodName := ⟨"TwinHost$Controls", "enterTrap", "(IIIZ)V"⟩
abbrev b_Co_init : ByteArray := prog_3_method_1_code
def y_Co_init : MethodName := ⟨"TwinHost$Controls", "<init>", "()V"⟩
abbrev b_Co_isStoredTo : ByteArray := prog_3_method_3_code
def y_Co_isStoredTo : MethodName := ⟨"TwinHost$Controls", "isStoredTo", "(I)Z"⟩
abbrev b_Co_leaveTrap : ByteArray := prog_3_method_13_code
def y_Co_leaveTrap : MethodName := ⟨"TwinHost$Controls", "leaveTrap", "()Z"⟩
abbrev b_Co_pendingBits : ByteArray := prog_3_method_8_code
def y_Co_pendingBits : MethodName := ⟨"TwinHost$Controls", "pendingBits", "()I"⟩
abbrev b_Co_put : ByteArray := prog_3_method_7_code
def y_Co_put : MethodName := ⟨"TwinHost$Controls", "put", "(II)V"⟩
abbrev b_Gu_fill : ByteArray := prog_6_method_15_code
def y_Gu_fill : MethodName := ⟨"TwinHost$Guest", "fill", "(ILTwinHost$Access;)I"⟩
abbrev b_Gu_flush : ByteArray := prog_6_method_19_code
def y_Gu_flush : MethodName := ⟨"TwinHost$Guest", "flush", "()V"⟩
abbrev b_Gu_link : ByteArray := prog_6_method_7_code
def y_Gu_link : MethodName := ⟨"TwinHost$Guest", "link", "(II)LTwinHost$Outcome;"⟩
abbrev b_Gu_overwrite : ByteArray := prog_6_method_16_code
def y_Gu_overwrite : MethodName := ⟨"TwinHost$Guest", "overwrite", "(II)I"⟩
abbrev b_Mo_count : ByteArray := prog_12_method_42_code
def y_Mo_count : MethodName := ⟨"TwinHostModel", "count", "(II)I"⟩
abbrev b_Mo_drop : ByteArray := prog_12_method_4_code
def y_Mo_drop : MethodName := ⟨"TwinHostModel", "drop", "(II)V"⟩
abbrev b_Mo_fill : ByteArray := prog_12_method_32_code
def y_Mo_fill : MethodName := ⟨"TwinHostModel", "fill", "(IIII)V"⟩
abbrev b_Mo_flush : ByteArray := prog_12_method_5_code
def y_Mo_flush : MethodName := ⟨"TwinHostModel", "flush", "(I)V"⟩
abbrev b_Mo_give : ByteArray := prog_12_method_11_code
def y_Mo_give : MethodName := ⟨"TwinHostModel", "give", "(III)Z"⟩
abbrev b_Mo_input : ByteArray := prog_12_method_22_code
def y_Mo_input : MethodName := ⟨"TwinHostModel", "input", "(III)Z"⟩
abbrev b_Mo_pc : ByteArray := prog_12_method_20_code
def y_Mo_pc : MethodName := ⟨"TwinHostModel", "pc", "(I)I"⟩
abbrev b_Mo_peek : ByteArray := prog_12_method_9_code
def y_Mo_peek : MethodName := ⟨"TwinHostModel", "peek", "(II)I"⟩
abbrev b_Mo_pending : ByteArray := prog_12_method_17_code
def y_Mo_pending : MethodName := ⟨"TwinHostModel", "pending", "(I)I"⟩
abbrev b_Mo_place : ByteArray := prog_12_method_19_code
def y_Mo_place : MethodName := ⟨"TwinHostModel", "place", "(IIZ)Z"⟩
abbrev b_Mo_register : ByteArray := prog_12_method_12_code
def y_Mo_register : MethodName := ⟨"TwinHostModel", "register", "(II)I"⟩
abbrev b_Mo_shadow : ByteArray := prog_12_method_6_code
def y_Mo_shadow : MethodName := ⟨"TwinHostModel", "shadow", "(II)I"⟩
abbrev b_Mo_traced : ByteArray := prog_12_method_7_code
def y_Mo_traced : MethodName := ⟨"TwinHostModel", "traced", "(II)Z"⟩
abbrev b_Mo_trap : ByteArray := prog_12_method_24_code
def y_Mo_trap : MethodName := ⟨"TwinHostModel", "trap", "(III)V"⟩
abbrev b_Mo_user : ByteArray := prog_12_method_21_code
def y_Mo_user : MethodName := ⟨"TwinHostModel", "user", "(I)Z"⟩
abbrev b_Sh_init : ByteArray := prog_9_method_1_code
def y_Sh_init : MethodName := ⟨"TwinHost$Shadows", "<init>", "()V"⟩
abbrev b_Sh_isTraced : ByteArray := prog_9_method_5_code
def y_Sh_isTraced : MethodName := ⟨"TwinHost$Shadows", "isTraced", "(I)Z"⟩
abbrev b_Sh_letsThrough : ByteArray := prog_9_method_4_code
def y_Sh_letsThrough : MethodName := ⟨"TwinHost$Shadows", "letsThrough", "(ILTwinHost$Access;ZZ)Z"⟩
abbrev b_TH_count : ByteArray := prog_1_method_16_code
def y_TH_count : MethodName := ⟨"TwinHost", "count", "(II)I"⟩
abbrev b_TH_give : ByteArray := prog_1_method_4_code
def y_TH_give : MethodName := ⟨"TwinHost", "give", "(III)Z"⟩
abbrev b_TH_input : ByteArray := prog_1_method_11_code
def y_TH_input : MethodName := ⟨"TwinHost", "input", "(III)Z"⟩
abbrev b_TH_pc : ByteArray := prog_1_method_9_code
def y_TH_pc : MethodName := ⟨"TwinHost", "pc", "(I)I"⟩
abbrev b_TH_peek : ByteArray := prog_1_method_3_code
def y_TH_peek : MethodName := ⟨"TwinHost", "peek", "(II)I"⟩
abbrev b_TH_place : ByteArray := prog_1_method_8_code
def y_TH_place : MethodName := ⟨"TwinHost", "place", "(IIZ)Z"⟩
abbrev b_TH_register : ByteArray := prog_1_method_5_code
def y_TH_register : MethodName := ⟨"TwinHost", "register", "(II)I"⟩
abbrev b_TH_shadow : ByteArray := prog_1_method_14_code
def y_TH_shadow : MethodName := ⟨"TwinHost", "shadow", "(II)I"⟩
abbrev b_TH_user : ByteArray := prog_1_method_10_code
def y_TH_user : MethodName := ⟨"TwinHost", "user", "(I)Z"⟩
abbrev b_Wa_search : ByteArray := prog_10_method_2_code
def y_Wa_search : MethodName := ⟨"TwinHost$Walk", "search", "([IIILTwinHost$Access;)I"⟩
abbrev b_Co_dueBits : ByteArray := prog_3_method_9_code
def y_Co_dueBits : MethodName := ⟨"TwinHost$Controls", "dueBits", "()I"⟩
abbrev b_Co_look : ByteArray := prog_3_method_5_code
def y_Co_look : MethodName := ⟨"TwinHost$Controls", "look", "(I)I"⟩
abbrev b_Gu_init : ByteArray := prog_6_method_1_code
def y_Gu_init : MethodName := ⟨"TwinHost$Guest", "<init>", "()V"⟩
abbrev b_Gu_reach : ByteArray := prog_6_method_14_code
def y_Gu_reach : MethodName := ⟨"TwinHost$Guest", "reach", "(ILTwinHost$Access;)I"⟩
abbrev b_Gu_storeControl : ByteArray := prog_6_method_18_code
def y_Gu_storeControl : MethodName := ⟨"TwinHost$Guest", "storeControl", "(II)V"⟩
abbrev b_Gu_trap : ByteArray := prog_6_method_13_code
def y_Gu_trap : MethodName := ⟨"TwinHost$Guest", "trap", "(II)LTwinHost$Outcome;"⟩
abbrev b_Mo_assign : ByteArray := prog_12_method_14_code
def y_Mo_assign : MethodName := ⟨"TwinHostModel", "assign", "(III)V"⟩
abbrev b_Mo_control : ByteArray := prog_12_method_18_code
def y_Mo_control : MethodName := ⟨"TwinHostModel", "control", "(II)I"⟩
abbrev b_Mo_fault : ByteArray := prog_12_method_26_code
def y_Mo_fault : MethodName := ⟨"TwinHostModel", "fault", "(III)I"⟩
abbrev b_Mo_illegal : ByteArray := prog_12_method_38_code
def y_Mo_illegal : MethodName := ⟨"TwinHostModel", "illegal", "(II)I"⟩
abbrev b_Mo_outside : ByteArray := prog_12_method_25_code
def y_Mo_outside : MethodName := ⟨"TwinHostModel", "outside", "(III)I"⟩
abbrev b_Mo_poke : ByteArray := prog_12_method_8_code
def y_Mo_poke : MethodName := ⟨"TwinHostModel", "poke", "(III)I"⟩
abbrev b_TH_poke : ByteArray := prog_1_method_2_code
def y_TH_poke : MethodName := ⟨"TwinHost", "poke", "(III)I"⟩
abbrev b_TH_traced : ByteArray := prog_1_method_15_code
def y_TH_traced : MethodName := ⟨"TwinHost", "traced", "(II)Z"⟩
abbrev b_Co_take : ByteArray := prog_3_method_6_code
def y_Co_take : MethodName := ⟨"TwinHost$Controls", "take", "(I)I"⟩
abbrev b_Gu_fault : ByteArray := prog_6_method_12_code
def y_Gu_fault : MethodName := ⟨"TwinHost$Guest", "fault", "(II)LTwinHost$Outcome;"⟩
abbrev b_Mo_command : ByteArray := prog_12_method_15_code
def y_Mo_command : MethodName := ⟨"TwinHostModel", "command", "(III)Z"⟩
abbrev b_Mo_controls : ByteArray := prog_12_method_39_code
def y_Mo_controls : MethodName := ⟨"TwinHostModel", "controls", "(III)I"⟩
abbrev b_Mo_reach : ByteArray := prog_12_method_31_code
def y_Mo_reach : MethodName := ⟨"TwinHostModel", "reach", "(IIII)I"⟩
abbrev b_TH_command : ByteArray := prog_1_method_6_code
def y_TH_command : MethodName := ⟨"TwinHost", "command", "(III)Z"⟩
abbrev b_TH_control : ByteArray := prog_1_method_7_code
def y_TH_control : MethodName := ⟨"TwinHost", "control", "(II)I"⟩
abbrev b_TH_init : ByteArray := prog_1_method_1_code
def y_TH_init : MethodName := ⟨"TwinHost", "<init>", "(I)V"⟩
abbrev b_Gu_changeControl : ByteArray := prog_6_method_9_code
def y_Gu_changeControl : MethodName := ⟨"TwinHost$Guest", "changeControl", "(I)LTwinHost$Outcome;"⟩
abbrev b_Gu_load : ByteArray := prog_6_method_5_code
def y_Gu_load : MethodName := ⟨"TwinHost$Guest", "load", "(II)LTwinHost$Outcome;"⟩
abbrev b_Gu_store : ByteArray := prog_6_method_6_code
def y_Gu_store : MethodName := ⟨"TwinHost$Guest", "store", "(II)LTwinHost$Outcome;"⟩
abbrev b_Mo_special : ByteArray := prog_12_method_37_code
def y_Mo_special : MethodName := ⟨"TwinHostModel", "special", "(IIII)I"⟩
abbrev b_Mo_walk : ByteArray := prog_12_method_30_code
def y_Mo_walk : MethodName := ⟨"TwinHostModel", "walk", "(III)I"⟩
abbrev b_Gu_doOrdinary : ByteArray := prog_6_method_3_code
def y_Gu_doOrdinary : MethodName := ⟨"TwinHost$Guest", "doOrdinary", "(I)LTwinHost$Outcome;"⟩
abbrev b_Gu_doSystem : ByteArray := prog_6_method_8_code
def y_Gu_doSystem : MethodName := ⟨"TwinHost$Guest", "doSystem", "(I)LTwinHost$Outcome;"⟩
abbrev b_Mo_access : ByteArray := prog_12_method_28_code
def y_Mo_access : MethodName := ⟨"TwinHostModel", "access", "(III)I"⟩
abbrev b_Gu_step : ByteArray := prog_6_method_2_code
def y_Gu_step : MethodName := ⟨"TwinHost$Guest", "step", "()LTwinHost$Outcome;"⟩
abbrev b_Mo_data : ByteArray := prog_12_method_36_code
def y_Mo_data : MethodName := ⟨"TwinHostModel", "data", "(IIIII)I"⟩
abbrev b_Mo_step : ByteArray := prog_12_method_35_code
def y_Mo_step : MethodName := ⟨"TwinHostModel", "step", "(I)I"⟩
abbrev b_TH_run : ByteArray := prog_1_method_12_code
def y_TH_run : MethodName := ⟨"TwinHost", "run", "(I)I"⟩
abbrev b_Mo_run : ByteArray := prog_12_method_40_code
def y_Mo_run : MethodName := ⟨"TwinHostModel", "run", "(I)I"⟩
def tw_Ne : List (String × Nat × MethodName × String) := [("TwinHost", 15, y_Gu_init, "TwinHost"), ("TwinHost$Controls", 15, y_In_init, "TwinHost"), ("TwinHost$Guest", 39, y_Wa_init, "TwinHost"), ("TwinHost$Guest", 168, y_TH_isWord, "TwinHost")]
theorem wd_0 : Cond.selects R_TH y_TH_passTurnAfter y_TH_passTurnAfter ∈ tw_Tb := tw_in 0 (by decide +kernel) (by decide +kernel)
theorem wd_1 : Cond.selects R_Mo y_Mo_drop y_Mo_drop ∈ tw_Tb := tw_in 1 (by decide +kernel) (by decide +kernel)
theorem wd_2 : Cond.selects R_Mo y_Mo_add y_Mo_add ∈ tw_Tb := tw_in 2 (by decide +kernel) (by decide +kernel)
theorem wd_3 : Cond.selects R_Mo y_Mo_put y_Mo_put ∈ tw_Tb := tw_in 3 (by decide +kernel) (by decide +kernel)
theorem wd_4 : Cond.selects R_Mo y_Mo_assign y_Mo_assign ∈ tw_Tb := tw_in 4 (by decide +kernel) (by decide +kernel)
theorem wd_5 : Cond.selects R_Mo y_Mo_flush y_Mo_flush ∈ tw_Tb := tw_in 5 (by decide +kernel) (by decide +kernel)
theorem wd_6 : Cond.selects R_Mo y_Mo_isThere y_Mo_isThere ∈ tw_Tb := tw_in 6 (by decide +kernel) (by decide +kernel)
theorem wd_7 : Cond.selects R_Mo y_Mo_pending y_Mo_pending ∈ tw_Tb := tw_in 7 (by decide +kernel) (by decide +kernel)
theorem wd_8 : Cond.selects R_Mo y_Mo_step y_Mo_step ∈ tw_Tb := tw_in 8 (by decide +kernel) (by decide +kernel)
theorem wd_9 : Cond.selects R_Mo y_Mo_trap y_Mo_trap ∈ tw_Tb := tw_in 9 (by decide +kernel) (by decide +kernel)
theorem wd_10 : Cond.selects R_Mo y_Mo_access y_Mo_access ∈ tw_Tb := tw_in 10 (by decide +kernel) (by decide +kernel)
theorem wd_11 : Cond.selects R_Mo y_Mo_outside y_Mo_outside ∈ tw_Tb := tw_in 11 (by decide +kernel) (by decide +kernel)
theorem wd_12 : Cond.selects R_Mo y_Mo_fault y_Mo_fault ∈ tw_Tb := tw_in 12 (by decide +kernel) (by decide +kernel)
theorem wd_13 : Cond.selects R_Mo y_Mo_allowed y_Mo_allowed ∈ tw_Tb := tw_in 13 (by decide +kernel) (by decide +kernel)
theorem wd_14 : Cond.selects R_Mo y_Mo_walk y_Mo_walk ∈ tw_Tb := tw_in 14 (by decide +kernel) (by decide +kernel)
theorem wd_15 : Cond.selects R_Mo y_Mo_reach y_Mo_reach ∈ tw_Tb := tw_in 15 (by decide +kernel) (by decide +kernel)
theorem wd_16 : Cond.selects R_Mo y_Mo_fill y_Mo_fill ∈ tw_Tb := tw_in 16 (by decide +kernel) (by decide +kernel)
theorem wd_17 : Cond.selects R_Mo y_Mo_special y_Mo_special ∈ tw_Tb := tw_in 17 (by decide +kernel) (by decide +kernel)
theorem wd_18 : Cond.selects R_Mo y_Mo_illegal y_Mo_illegal ∈ tw_Tb := tw_in 18 (by decide +kernel) (by decide +kernel)
theorem wd_19 : Cond.selects R_Mo y_Mo_controls y_Mo_controls ∈ tw_Tb := tw_in 19 (by decide +kernel) (by decide +kernel)
theorem wd_20 : Cond.selects R_Mo y_Mo_takeInput y_Mo_takeInput ∈ tw_Tb := tw_in 20 (by decide +kernel) (by decide +kernel)
theorem wd_21 : Cond.selects R_Mo y_Mo_retire y_Mo_retire ∈ tw_Tb := tw_in 21 (by decide +kernel) (by decide +kernel)
theorem wd_22 : Cond.selects R_Mo y_Mo_data y_Mo_data ∈ tw_Tb := tw_in 22 (by decide +kernel) (by decide +kernel)
theorem wd_24 : Cond.initialized "TwinHost" ∈ tw_Tb := tw_in 24 (by decide +kernel) (by decide +kernel)
theorem wd_25 : Cond.initialized "TwinHost$Guest" ∈ tw_Tb := tw_in 25 (by decide +kernel) (by decide +kernel)
theorem wd_26 : Cond.initialized "TwinHost$Controls" ∈ tw_Tb := tw_in 26 (by decide +kernel) (by decide +kernel)
theorem wd_27 : Cond.initialized "TwinHost$Inputs" ∈ tw_Tb := tw_in 27 (by decide +kernel) (by decide +kernel)
theorem wd_28 : Cond.initialized "TwinHost$Shadows" ∈ tw_Tb := tw_in 28 (by decide +kernel) (by decide +kernel)
theorem wd_29 : Cond.initialized "TwinHost$Walk" ∈ tw_Tb := tw_in 29 (by decide +kernel) (by decide +kernel)
theorem wd_30 : Cond.initialized "TwinHostModel" ∈ tw_Tb := tw_in 30 (by decide +kernel) (by decide +kernel)
theorem wd_34 : Cond.initialized "TwinHost$Entry" ∈ tw_Tb := tw_in 34 (by decide +kernel) (by decide +kernel)
theorem wd_62 : Cond.fieldLink "TwinHost$Inputs" 9 "TwinHost$Inputs" "times" "[I" ∈ tw_Tb := tw_in 62 (by decide +kernel) (by decide +kernel)
theorem wd_63 : Cond.fieldLink "TwinHost$Inputs" 13 "TwinHost$Inputs" "values" "[I" ∈ tw_Tb := tw_in 63 (by decide +kernel) (by decide +kernel)
theorem wd_64 : Cond.fieldLink "TwinHost$Controls" 32 "TwinHost$Inputs" "values" "[I" ∈ tw_Tb := tw_in 64 (by decide +kernel) (by decide +kernel)
theorem wd_65 : Cond.fieldLink "TwinHost$Inputs" 16 "TwinHost$Inputs" "size" "I" ∈ tw_Tb := tw_in 65 (by decide +kernel) (by decide +kernel)
theorem wd_75 : Cond.fieldLink "TwinHost$Controls" 9 "TwinHost$Controls" "values" "[I" ∈ tw_Tb := tw_in 75 (by decide +kernel) (by decide +kernel)
theorem wd_76 : Cond.fieldLink "TwinHost$Guest" 123 "TwinHost$Controls" "values" "[I" ∈ tw_Tb := tw_in 76 (by decide +kernel) (by decide +kernel)
theorem wd_77 : Cond.fieldLink "TwinHost$Controls" 16 "TwinHost$Controls" "inputs" "LTwinHost$Inputs;" ∈ tw_Tb := tw_in 77 (by decide +kernel) (by decide +kernel)
theorem wd_78 : Cond.fieldLink "TwinHost" 71 "TwinHost$Controls" "inputs" "LTwinHost$Inputs;" ∈ tw_Tb := tw_in 78 (by decide +kernel) (by decide +kernel)
theorem wd_91 : Cond.instanceMethod y_Sh_clear ∈ tw_Tb := tw_in 91 (by decide +kernel) (by decide +kernel)
theorem wd_92 : Cond.selects R_Sh y_Sh_clear y_Sh_clear ∈ tw_Tb := tw_in 92 (by decide +kernel) (by decide +kernel)
theorem wd_93 : Cond.code y_Sh_clear b_Sh_clear 2 none ∈ tw_Tb := tw_in 93 (by decide +kernel) (by decide +kernel)
theorem wd_94 : Cond.fieldLink "TwinHost$Shadows" 9 "TwinHost$Shadows" "pages" "[I" ∈ tw_Tb := tw_in 94 (by decide +kernel) (by decide +kernel)
theorem wd_95 : Cond.fieldLink "TwinHost$Guest" 188 "TwinHost$Shadows" "pages" "[I" ∈ tw_Tb := tw_in 95 (by decide +kernel) (by decide +kernel)
theorem wd_96 : Cond.fieldLink "TwinHost$Shadows" 15 "TwinHost$Shadows" "bits" "[I" ∈ tw_Tb := tw_in 96 (by decide +kernel) (by decide +kernel)
theorem wd_97 : Cond.fieldLink "TwinHost$Shadows" 18 "TwinHost$Shadows" "firsts" "[I" ∈ tw_Tb := tw_in 97 (by decide +kernel) (by decide +kernel)
theorem wd_98 : Cond.fieldLink "TwinHost$Shadows" 21 "TwinHost$Shadows" "seconds" "[I" ∈ tw_Tb := tw_in 98 (by decide +kernel) (by decide +kernel)
theorem wd_114 : Cond.fieldLink "TwinHost$Walk" 15 "TwinHost$Walk" "first" "I" ∈ tw_Tb := tw_in 114 (by decide +kernel) (by decide +kernel)
theorem wd_115 : Cond.fieldLink "TwinHost$Shadows" 35 "TwinHost$Walk" "first" "I" ∈ tw_Tb := tw_in 115 (by decide +kernel) (by decide +kernel)
theorem wd_116 : Cond.fieldLink "TwinHost$Walk" 22 "TwinHost$Walk" "second" "I" ∈ tw_Tb := tw_in 116 (by decide +kernel) (by decide +kernel)
theorem wd_117 : Cond.fieldLink "TwinHost$Shadows" 38 "TwinHost$Walk" "second" "I" ∈ tw_Tb := tw_in 117 (by decide +kernel) (by decide +kernel)
theorem wd_118 : Cond.fieldLink "TwinHost$Walk" 25 "TwinHost$Walk" "leafAt" "I" ∈ tw_Tb := tw_in 118 (by decide +kernel) (by decide +kernel)
theorem wd_119 : Cond.fieldLink "TwinHost$Guest" 191 "TwinHost$Walk" "leafAt" "I" ∈ tw_Tb := tw_in 119 (by decide +kernel) (by decide +kernel)
theorem wd_120 : Cond.fieldLink "TwinHost$Walk" 44 "TwinHost$Walk" "page" "I" ∈ tw_Tb := tw_in 120 (by decide +kernel) (by decide +kernel)
theorem wd_121 : Cond.fieldLink "TwinHost$Shadows" 27 "TwinHost$Walk" "page" "I" ∈ tw_Tb := tw_in 121 (by decide +kernel) (by decide +kernel)
theorem wd_122 : Cond.fieldLink "TwinHost$Guest" 199 "TwinHost$Walk" "page" "I" ∈ tw_Tb := tw_in 122 (by decide +kernel) (by decide +kernel)
theorem wd_132 : Cond.fieldLink "TwinHost$Guest" 9 "TwinHost$Guest" "memory" "[I" ∈ tw_Tb := tw_in 132 (by decide +kernel) (by decide +kernel)
theorem wd_133 : Cond.fieldLink "TwinHost" 31 "TwinHost$Guest" "memory" "[I" ∈ tw_Tb := tw_in 133 (by decide +kernel) (by decide +kernel)
theorem wd_134 : Cond.fieldLink "TwinHost$Guest" 15 "TwinHost$Guest" "registers" "[I" ∈ tw_Tb := tw_in 134 (by decide +kernel) (by decide +kernel)
theorem wd_135 : Cond.fieldLink "TwinHost" 42 "TwinHost$Guest" "registers" "[I" ∈ tw_Tb := tw_in 135 (by decide +kernel) (by decide +kernel)
theorem wd_136 : Cond.fieldLink "TwinHost$Guest" 20 "TwinHost$Guest" "counts" "[I" ∈ tw_Tb := tw_in 136 (by decide +kernel) (by decide +kernel)
theorem wd_137 : Cond.fieldLink "TwinHost" 112 "TwinHost$Guest" "counts" "[I" ∈ tw_Tb := tw_in 137 (by decide +kernel) (by decide +kernel)
theorem wd_138 : Cond.fieldLink "TwinHost$Guest" 26 "TwinHost$Guest" "controls" "LTwinHost$Controls;" ∈ tw_Tb := tw_in 138 (by decide +kernel) (by decide +kernel)
theorem wd_139 : Cond.fieldLink "TwinHost" 56 "TwinHost$Guest" "controls" "LTwinHost$Controls;" ∈ tw_Tb := tw_in 139 (by decide +kernel) (by decide +kernel)
theorem wd_140 : Cond.fieldLink "TwinHost$Guest" 33 "TwinHost$Guest" "shadows" "LTwinHost$Shadows;" ∈ tw_Tb := tw_in 140 (by decide +kernel) (by decide +kernel)
theorem wd_141 : Cond.fieldLink "TwinHost" 98 "TwinHost$Guest" "shadows" "LTwinHost$Shadows;" ∈ tw_Tb := tw_in 141 (by decide +kernel) (by decide +kernel)
theorem wd_142 : Cond.fieldLink "TwinHost$Guest" 40 "TwinHost$Guest" "walk" "LTwinHost$Walk;" ∈ tw_Tb := tw_in 142 (by decide +kernel) (by decide +kernel)
theorem wd_143 : Cond.fieldLink "TwinHost$Guest" 62 "TwinHost$Guest" "pc" "I" ∈ tw_Tb := tw_in 143 (by decide +kernel) (by decide +kernel)
theorem wd_144 : Cond.fieldLink "TwinHost" 64 "TwinHost$Guest" "pc" "I" ∈ tw_Tb := tw_in 144 (by decide +kernel) (by decide +kernel)
theorem wd_145 : Cond.fieldLink "TwinHost$Guest" 48 "TwinHost$Guest" "inUser" "Z" ∈ tw_Tb := tw_in 145 (by decide +kernel) (by decide +kernel)
theorem wd_146 : Cond.fieldLink "TwinHost" 67 "TwinHost$Guest" "inUser" "Z" ∈ tw_Tb := tw_in 146 (by decide +kernel) (by decide +kernel)
theorem wd_164 : Cond.fieldLink "TwinHost" 16 "TwinHost" "guests" "[LTwinHost$Guest;" ∈ tw_Tb := tw_in 164 (by decide +kernel) (by decide +kernel)
theorem wd_165 : Cond.fieldLink "TwinHost" 9 "TwinHost" "quantum" "I" ∈ tw_Tb := tw_in 165 (by decide +kernel) (by decide +kernel)
theorem wd_166 : Cond.fieldLink "TwinHost" 81 "TwinHost" "holder" "I" ∈ tw_Tb := tw_in 166 (by decide +kernel) (by decide +kernel)
theorem wd_167 : Cond.fieldLink "TwinHost" 115 "TwinHost" "stepsInRow" "I" ∈ tw_Tb := tw_in 167 (by decide +kernel) (by decide +kernel)
theorem wd_181 : Cond.methodLink "TwinHost" 20 y_TH_isGuest ∈ tw_Tb := tw_in 181 (by decide +kernel) (by decide +kernel)
theorem wd_182 : Cond.static y_TH_isGuest ∈ tw_Tb := tw_in 182 (by decide +kernel) (by decide +kernel)
theorem wd_183 : Cond.code y_TH_isGuest b_TH_isGuest 1 (some .boolean) ∈ tw_Tb := tw_in 183 (by decide +kernel) (by decide +kernel)
theorem wd_184 : Cond.methodLink "TwinHost" 24 y_TH_isWord ∈ tw_Tb := tw_in 184 (by decide +kernel) (by decide +kernel)
theorem wd_185 : Cond.static y_TH_isWord ∈ tw_Tb := tw_in 185 (by decide +kernel) (by decide +kernel)
theorem wd_186 : Cond.code y_TH_isWord b_TH_isWord 1 (some .boolean) ∈ tw_Tb := tw_in 186 (by decide +kernel) (by decide +kernel)
theorem wd_187 : Cond.methodLink "TwinHost" 27 y_Gu_overwrite ∈ tw_Tb := tw_in 187 (by decide +kernel) (by decide +kernel)
theorem wd_188 : Cond.instanceMethod y_Gu_overwrite ∈ tw_Tb := tw_in 188 (by decide +kernel) (by decide +kernel)
theorem wd_189 : Cond.selects R_Gu y_Gu_overwrite y_Gu_overwrite ∈ tw_Tb := tw_in 189 (by decide +kernel) (by decide +kernel)
theorem wd_190 : Cond.code y_Gu_overwrite b_Gu_overwrite 4 (some .int) ∈ tw_Tb := tw_in 190 (by decide +kernel) (by decide +kernel)
theorem wd_191 : Cond.methodLink "TwinHost$Guest" 206 y_Sh_dropThoseOf ∈ tw_Tb := tw_in 191 (by decide +kernel) (by decide +kernel)
theorem wd_192 : Cond.instanceMethod y_Sh_dropThoseOf ∈ tw_Tb := tw_in 192 (by decide +kernel) (by decide +kernel)
theorem wd_193 : Cond.selects R_Sh y_Sh_dropThoseOf y_Sh_dropThoseOf ∈ tw_Tb := tw_in 193 (by decide +kernel) (by decide +kernel)
theorem wd_194 : Cond.code y_Sh_dropThoseOf b_Sh_dropThoseOf 4 (some .int) ∈ tw_Tb := tw_in 194 (by decide +kernel) (by decide +kernel)
theorem wd_203 : Cond.methodLink "TwinHost" 35 y_TH_isRegister ∈ tw_Tb := tw_in 203 (by decide +kernel) (by decide +kernel)
theorem wd_204 : Cond.static y_TH_isRegister ∈ tw_Tb := tw_in 204 (by decide +kernel) (by decide +kernel)
theorem wd_205 : Cond.code y_TH_isRegister b_TH_isRegister 1 (some .boolean) ∈ tw_Tb := tw_in 205 (by decide +kernel) (by decide +kernel)
theorem wd_206 : Cond.methodLink "TwinHost" 38 y_Gu_setRegister ∈ tw_Tb := tw_in 206 (by decide +kernel) (by decide +kernel)
theorem wd_207 : Cond.instanceMethod y_Gu_setRegister ∈ tw_Tb := tw_in 207 (by decide +kernel) (by decide +kernel)
theorem wd_208 : Cond.selects R_Gu y_Gu_setRegister y_Gu_setRegister ∈ tw_Tb := tw_in 208 (by decide +kernel) (by decide +kernel)
theorem wd_209 : Cond.code y_Gu_setRegister b_Gu_setRegister 3 none ∈ tw_Tb := tw_in 209 (by decide +kernel) (by decide +kernel)
theorem wd_218 : Cond.methodLink "TwinHost" 45 y_Co_isStoredTo ∈ tw_Tb := tw_in 218 (by decide +kernel) (by decide +kernel)
theorem wd_219 : Cond.static y_Co_isStoredTo ∈ tw_Tb := tw_in 219 (by decide +kernel) (by decide +kernel)
theorem wd_220 : Cond.code y_Co_isStoredTo b_Co_isStoredTo 1 (some .boolean) ∈ tw_Tb := tw_in 220 (by decide +kernel) (by decide +kernel)
theorem wd_221 : Cond.methodLink "TwinHost$Controls" 21 y_Co_exists ∈ tw_Tb := tw_in 221 (by decide +kernel) (by decide +kernel)
theorem wd_222 : Cond.static y_Co_exists ∈ tw_Tb := tw_in 222 (by decide +kernel) (by decide +kernel)
theorem wd_223 : Cond.code y_Co_exists b_Co_exists 1 (some .boolean) ∈ tw_Tb := tw_in 223 (by decide +kernel) (by decide +kernel)
theorem wd_224 : Cond.methodLink "TwinHost" 50 y_Gu_storeControl ∈ tw_Tb := tw_in 224 (by decide +kernel) (by decide +kernel)
theorem wd_225 : Cond.instanceMethod y_Gu_storeControl ∈ tw_Tb := tw_in 225 (by decide +kernel) (by decide +kernel)
theorem wd_226 : Cond.selects R_Gu y_Gu_storeControl y_Gu_storeControl ∈ tw_Tb := tw_in 226 (by decide +kernel) (by decide +kernel)
theorem wd_227 : Cond.code y_Gu_storeControl b_Gu_storeControl 3 none ∈ tw_Tb := tw_in 227 (by decide +kernel) (by decide +kernel)
theorem wd_228 : Cond.methodLink "TwinHost$Guest" 209 y_Co_put ∈ tw_Tb := tw_in 228 (by decide +kernel) (by decide +kernel)
theorem wd_229 : Cond.instanceMethod y_Co_put ∈ tw_Tb := tw_in 229 (by decide +kernel) (by decide +kernel)
theorem wd_230 : Cond.selects R_Co y_Co_put y_Co_put ∈ tw_Tb := tw_in 230 (by decide +kernel) (by decide +kernel)
theorem wd_231 : Cond.code y_Co_put b_Co_put 3 none ∈ tw_Tb := tw_in 231 (by decide +kernel) (by decide +kernel)
theorem wd_232 : Cond.methodLink "TwinHost$Controls" 40 y_Co_keptBits ∈ tw_Tb := tw_in 232 (by decide +kernel) (by decide +kernel)
theorem wd_233 : Cond.static y_Co_keptBits ∈ tw_Tb := tw_in 233 (by decide +kernel) (by decide +kernel)
theorem wd_234 : Cond.code y_Co_keptBits b_Co_keptBits 1 (some .int) ∈ tw_Tb := tw_in 234 (by decide +kernel) (by decide +kernel)
theorem wd_235 : Cond.methodLink "TwinHost$Guest" 126 y_Gu_flush ∈ tw_Tb := tw_in 235 (by decide +kernel) (by decide +kernel)
theorem wd_236 : Cond.instanceMethod y_Gu_flush ∈ tw_Tb := tw_in 236 (by decide +kernel) (by decide +kernel)
theorem wd_237 : Cond.selects R_Gu y_Gu_flush y_Gu_flush ∈ tw_Tb := tw_in 237 (by decide +kernel) (by decide +kernel)
theorem wd_238 : Cond.code y_Gu_flush b_Gu_flush 1 none ∈ tw_Tb := tw_in 238 (by decide +kernel) (by decide +kernel)
theorem wd_239 : Cond.methodLink "TwinHost$Guest" 211 y_Sh_clear ∈ tw_Tb := tw_in 239 (by decide +kernel) (by decide +kernel)
theorem wd_244 : Cond.methodLink "TwinHost" 53 y_Co_exists ∈ tw_Tb := tw_in 244 (by decide +kernel) (by decide +kernel)
theorem wd_245 : Cond.methodLink "TwinHost" 60 y_Co_look ∈ tw_Tb := tw_in 245 (by decide +kernel) (by decide +kernel)
theorem wd_246 : Cond.instanceMethod y_Co_look ∈ tw_Tb := tw_in 246 (by decide +kernel) (by decide +kernel)
theorem wd_247 : Cond.selects R_Co y_Co_look y_Co_look ∈ tw_Tb := tw_in 247 (by decide +kernel) (by decide +kernel)
theorem wd_248 : Cond.code y_Co_look b_Co_look 2 (some .int) ∈ tw_Tb := tw_in 248 (by decide +kernel) (by decide +kernel)
theorem wd_249 : Cond.methodLink "TwinHost$Controls" 25 y_Co_pendingBits ∈ tw_Tb := tw_in 249 (by decide +kernel) (by decide +kernel)
theorem wd_250 : Cond.instanceMethod y_Co_pendingBits ∈ tw_Tb := tw_in 250 (by decide +kernel) (by decide +kernel)
theorem wd_251 : Cond.selects R_Co y_Co_pendingBits y_Co_pendingBits ∈ tw_Tb := tw_in 251 (by decide +kernel) (by decide +kernel)
theorem wd_252 : Cond.code y_Co_pendingBits b_Co_pendingBits 2 (some .int) ∈ tw_Tb := tw_in 252 (by decide +kernel) (by decide +kernel)
theorem wd_253 : Cond.methodLink "TwinHost$Controls" 29 y_In_isThere ∈ tw_Tb := tw_in 253 (by decide +kernel) (by decide +kernel)
theorem wd_254 : Cond.instanceMethod y_In_isThere ∈ tw_Tb := tw_in 254 (by decide +kernel) (by decide +kernel)
theorem wd_255 : Cond.selects R_In y_In_isThere y_In_isThere ∈ tw_Tb := tw_in 255 (by decide +kernel) (by decide +kernel)
theorem wd_256 : Cond.code y_In_isThere b_In_isThere 2 (some .boolean) ∈ tw_Tb := tw_in 256 (by decide +kernel) (by decide +kernel)
theorem wd_273 : Cond.methodLink "TwinHost" 75 y_In_append ∈ tw_Tb := tw_in 273 (by decide +kernel) (by decide +kernel)
theorem wd_274 : Cond.instanceMethod y_In_append ∈ tw_Tb := tw_in 274 (by decide +kernel) (by decide +kernel)
theorem wd_275 : Cond.selects R_In y_In_append y_In_append ∈ tw_Tb := tw_in 275 (by decide +kernel) (by decide +kernel)
theorem wd_276 : Cond.code y_In_append b_In_append 3 (some .boolean) ∈ tw_Tb := tw_in 276 (by decide +kernel) (by decide +kernel)
theorem wd_281 : Cond.methodLink "TwinHost" 84 y_Gu_step ∈ tw_Tb := tw_in 281 (by decide +kernel) (by decide +kernel)
theorem wd_282 : Cond.instanceMethod y_Gu_step ∈ tw_Tb := tw_in 282 (by decide +kernel) (by decide +kernel)
theorem wd_283 : Cond.selects R_Gu y_Gu_step y_Gu_step ∈ tw_Tb := tw_in 283 (by decide +kernel) (by decide +kernel)
theorem wd_284 : Cond.code y_Gu_step b_Gu_step 4 (some (.object "TwinHost$Outcome")) ∈ tw_Tb := tw_in 284 (by decide +kernel) (by decide +kernel)
theorem wd_285 : Cond.methodLink "TwinHost$Guest" 44 y_Co_dueBits ∈ tw_Tb := tw_in 285 (by decide +kernel) (by decide +kernel)
theorem wd_286 : Cond.instanceMethod y_Co_dueBits ∈ tw_Tb := tw_in 286 (by decide +kernel) (by decide +kernel)
theorem wd_287 : Cond.selects R_Co y_Co_dueBits y_Co_dueBits ∈ tw_Tb := tw_in 287 (by decide +kernel) (by decide +kernel)
theorem wd_288 : Cond.code y_Co_dueBits b_Co_dueBits 1 (some .int) ∈ tw_Tb := tw_in 288 (by decide +kernel) (by decide +kernel)
theorem wd_289 : Cond.methodLink "TwinHost$Guest" 52 y_Co_isOn ∈ tw_Tb := tw_in 289 (by decide +kernel) (by decide +kernel)
theorem wd_290 : Cond.instanceMethod y_Co_isOn ∈ tw_Tb := tw_in 290 (by decide +kernel) (by decide +kernel)
theorem wd_291 : Cond.selects R_Co y_Co_isOn y_Co_isOn ∈ tw_Tb := tw_in 291 (by decide +kernel) (by decide +kernel)
theorem wd_292 : Cond.code y_Co_isOn b_Co_isOn 2 (some .boolean) ∈ tw_Tb := tw_in 292 (by decide +kernel) (by decide +kernel)
theorem wd_293 : Cond.constant "TwinHost$Guest" 56 (-2147483639) ∈ tw_Tb := tw_in 293 (by decide +kernel) (by decide +kernel)
theorem wd_294 : Cond.constant "TwinHost$Guest" 57 (-2147483643) ∈ tw_Tb := tw_in 294 (by decide +kernel) (by decide +kernel)
theorem wd_295 : Cond.methodLink "TwinHost$Guest" 58 y_Gu_trap ∈ tw_Tb := tw_in 295 (by decide +kernel) (by decide +kernel)
theorem wd_296 : Cond.instanceMethod y_Gu_trap ∈ tw_Tb := tw_in 296 (by decide +kernel) (by decide +kernel)
theorem wd_297 : Cond.selects R_Gu y_Gu_trap y_Gu_trap ∈ tw_Tb := tw_in 297 (by decide +kernel) (by decide +kernel)
theorem wd_298 : Cond.code y_Gu_trap b_Gu_trap 3 (some (.object "TwinHost$Outcome")) ∈ tw_Tb := tw_in 298 (by decide +kernel) (by decide +kernel)
theorem wd_299 : Cond.methodLink "TwinHost$Guest" 158 y_Co_enterTrap ∈ tw_Tb := tw_in 299 (by decide +kernel) (by decide +kernel)
theorem wd_300 : Cond.instanceMethod y_Co_enterTrap ∈ tw_Tb := tw_in 300 (by decide +kernel) (by decide +kernel)
theorem wd_301 : Cond.selects R_Co y_Co_enterTrap y_Co_enterTrap ∈ tw_Tb := tw_in 301 (by decide +kernel) (by decide +kernel)
theorem wd_302 : Cond.code y_Co_enterTrap b_Co_enterTrap 6 none ∈ tw_Tb := tw_in 302 (by decide +kernel) (by decide +kernel)
theorem wd_303 : Cond.methodLink "TwinHost$Controls" 43 y_Co_isOn ∈ tw_Tb := tw_in 303 (by decide +kernel) (by decide +kernel)
theorem wd_304 : Cond.fieldLink "TwinHost$Guest" 162 "TwinHost$Outcome" "TRAPPED" "LTwinHost$Outcome;" ∈ tw_Tb := tw_in 304 (by decide +kernel) (by decide +kernel)
theorem wd_306 : Cond.fieldLink "TwinHost$Guest" 66 "TwinHost$Access" "FETCH" "LTwinHost$Access;" ∈ tw_Tb := tw_in 306 (by decide +kernel) (by decide +kernel)
theorem wd_308 : Cond.methodLink "TwinHost$Guest" 72 y_Gu_reach ∈ tw_Tb := tw_in 308 (by decide +kernel) (by decide +kernel)
theorem wd_309 : Cond.instanceMethod y_Gu_reach ∈ tw_Tb := tw_in 309 (by decide +kernel) (by decide +kernel)
theorem wd_310 : Cond.selects R_Gu y_Gu_reach y_Gu_reach ∈ tw_Tb := tw_in 310 (by decide +kernel) (by decide +kernel)
theorem wd_311 : Cond.code y_Gu_reach b_Gu_reach 6 (some .int) ∈ tw_Tb := tw_in 311 (by decide +kernel) (by decide +kernel)
theorem wd_312 : Cond.methodLink "TwinHost$Guest" 165 y_Co_translates ∈ tw_Tb := tw_in 312 (by decide +kernel) (by decide +kernel)
theorem wd_313 : Cond.instanceMethod y_Co_translates ∈ tw_Tb := tw_in 313 (by decide +kernel) (by decide +kernel)
theorem wd_314 : Cond.selects R_Co y_Co_translates y_Co_translates ∈ tw_Tb := tw_in 314 (by decide +kernel) (by decide +kernel)
theorem wd_315 : Cond.code y_Co_translates b_Co_translates 1 (some .boolean) ∈ tw_Tb := tw_in 315 (by decide +kernel) (by decide +kernel)
theorem wd_317 : Cond.methodLink "TwinHost$Guest" 177 y_Sh_letsThrough ∈ tw_Tb := tw_in 317 (by decide +kernel) (by decide +kernel)
theorem wd_318 : Cond.instanceMethod y_Sh_letsThrough ∈ tw_Tb := tw_in 318 (by decide +kernel) (by decide +kernel)
theorem wd_319 : Cond.selects R_Sh y_Sh_letsThrough y_Sh_letsThrough ∈ tw_Tb := tw_in 319 (by decide +kernel) (by decide +kernel)
theorem wd_320 : Cond.code y_Sh_letsThrough b_Sh_letsThrough 5 (some .boolean) ∈ tw_Tb := tw_in 320 (by decide +kernel) (by decide +kernel)
theorem wd_321 : Cond.methodLink "TwinHost$Shadows" 41 y_En_allows ∈ tw_Tb := tw_in 321 (by decide +kernel) (by decide +kernel)
theorem wd_322 : Cond.static y_En_allows ∈ tw_Tb := tw_in 322 (by decide +kernel) (by decide +kernel)
theorem wd_323 : Cond.code y_En_allows b_En_allows 5 (some .boolean) ∈ tw_Tb := tw_in 323 (by decide +kernel) (by decide +kernel)
theorem wd_324 : Cond.fieldLink "TwinHost$Entry" 15 "TwinHost$Access" "FETCH" "LTwinHost$Access;" ∈ tw_Tb := tw_in 324 (by decide +kernel) (by decide +kernel)
theorem wd_325 : Cond.fieldLink "TwinHost$Shadows" 45 "TwinHost$Access" "STORE" "LTwinHost$Access;" ∈ tw_Tb := tw_in 325 (by decide +kernel) (by decide +kernel)
theorem wd_327 : Cond.methodLink "TwinHost$Guest" 181 y_Wa_search ∈ tw_Tb := tw_in 327 (by decide +kernel) (by decide +kernel)
theorem wd_328 : Cond.instanceMethod y_Wa_search ∈ tw_Tb := tw_in 328 (by decide +kernel) (by decide +kernel)
theorem wd_329 : Cond.selects R_Wa y_Wa_search y_Wa_search ∈ tw_Tb := tw_in 329 (by decide +kernel) (by decide +kernel)
theorem wd_330 : Cond.code y_Wa_search b_Wa_search 9 (some .int) ∈ tw_Tb := tw_in 330 (by decide +kernel) (by decide +kernel)
theorem wd_331 : Cond.methodLink "TwinHost$Walk" 28 y_En_isBroken ∈ tw_Tb := tw_in 331 (by decide +kernel) (by decide +kernel)
theorem wd_332 : Cond.static y_En_isBroken ∈ tw_Tb := tw_in 332 (by decide +kernel) (by decide +kernel)
theorem wd_333 : Cond.code y_En_isBroken b_En_isBroken 1 (some .boolean) ∈ tw_Tb := tw_in 333 (by decide +kernel) (by decide +kernel)
theorem wd_334 : Cond.methodLink "TwinHost$Walk" 37 y_En_pageNumber ∈ tw_Tb := tw_in 334 (by decide +kernel) (by decide +kernel)
theorem wd_335 : Cond.static y_En_pageNumber ∈ tw_Tb := tw_in 335 (by decide +kernel) (by decide +kernel)
theorem wd_336 : Cond.code y_En_pageNumber b_En_pageNumber 1 (some .int) ∈ tw_Tb := tw_in 336 (by decide +kernel) (by decide +kernel)
theorem wd_337 : Cond.methodLink "TwinHost$Walk" 41 y_En_isLeaf ∈ tw_Tb := tw_in 337 (by decide +kernel) (by decide +kernel)
theorem wd_338 : Cond.static y_En_isLeaf ∈ tw_Tb := tw_in 338 (by decide +kernel) (by decide +kernel)
theorem wd_339 : Cond.code y_En_isLeaf b_En_isLeaf 1 (some .boolean) ∈ tw_Tb := tw_in 339 (by decide +kernel) (by decide +kernel)
theorem wd_340 : Cond.methodLink "TwinHost$Guest" 185 y_Gu_fill ∈ tw_Tb := tw_in 340 (by decide +kernel) (by decide +kernel)
theorem wd_341 : Cond.instanceMethod y_Gu_fill ∈ tw_Tb := tw_in 341 (by decide +kernel) (by decide +kernel)
theorem wd_342 : Cond.selects R_Gu y_Gu_fill y_Gu_fill ∈ tw_Tb := tw_in 342 (by decide +kernel) (by decide +kernel)
theorem wd_343 : Cond.code y_Gu_fill b_Gu_fill 4 (some .int) ∈ tw_Tb := tw_in 343 (by decide +kernel) (by decide +kernel)
theorem wd_344 : Cond.methodLink "TwinHost$Guest" 194 y_En_allows ∈ tw_Tb := tw_in 344 (by decide +kernel) (by decide +kernel)
theorem wd_345 : Cond.fieldLink "TwinHost$Guest" 109 "TwinHost$Access" "STORE" "LTwinHost$Access;" ∈ tw_Tb := tw_in 345 (by decide +kernel) (by decide +kernel)
theorem wd_346 : Cond.methodLink "TwinHost$Guest" 202 y_Sh_put ∈ tw_Tb := tw_in 346 (by decide +kernel) (by decide +kernel)
theorem wd_347 : Cond.instanceMethod y_Sh_put ∈ tw_Tb := tw_in 347 (by decide +kernel) (by decide +kernel)
theorem wd_348 : Cond.selects R_Sh y_Sh_put y_Sh_put ∈ tw_Tb := tw_in 348 (by decide +kernel) (by decide +kernel)
theorem wd_349 : Cond.code y_Sh_put b_Sh_put 4 none ∈ tw_Tb := tw_in 349 (by decide +kernel) (by decide +kernel)
theorem wd_350 : Cond.methodLink "TwinHost$Guest" 76 y_Gu_fault ∈ tw_Tb := tw_in 350 (by decide +kernel) (by decide +kernel)
theorem wd_351 : Cond.instanceMethod y_Gu_fault ∈ tw_Tb := tw_in 351 (by decide +kernel) (by decide +kernel)
theorem wd_352 : Cond.selects R_Gu y_Gu_fault y_Gu_fault ∈ tw_Tb := tw_in 352 (by decide +kernel) (by decide +kernel)
theorem wd_353 : Cond.code y_Gu_fault b_Gu_fault 3 (some (.object "TwinHost$Outcome")) ∈ tw_Tb := tw_in 353 (by decide +kernel) (by decide +kernel)
theorem wd_354 : Cond.methodLink "TwinHost$Guest" 79 y_Gu_doOrdinary ∈ tw_Tb := tw_in 354 (by decide +kernel) (by decide +kernel)
theorem wd_355 : Cond.instanceMethod y_Gu_doOrdinary ∈ tw_Tb := tw_in 355 (by decide +kernel) (by decide +kernel)
theorem wd_356 : Cond.selects R_Gu y_Gu_doOrdinary y_Gu_doOrdinary ∈ tw_Tb := tw_in 356 (by decide +kernel) (by decide +kernel)
theorem wd_357 : Cond.code y_Gu_doOrdinary b_Gu_doOrdinary 6 (some (.object "TwinHost$Outcome")) ∈ tw_Tb := tw_in 357 (by decide +kernel) (by decide +kernel)
theorem wd_358 : Cond.methodLink "TwinHost$Guest" 86 y_Gu_load ∈ tw_Tb := tw_in 358 (by decide +kernel) (by decide +kernel)
theorem wd_359 : Cond.instanceMethod y_Gu_load ∈ tw_Tb := tw_in 359 (by decide +kernel) (by decide +kernel)
theorem wd_360 : Cond.selects R_Gu y_Gu_load y_Gu_load ∈ tw_Tb := tw_in 360 (by decide +kernel) (by decide +kernel)
theorem wd_361 : Cond.code y_Gu_load b_Gu_load 4 (some (.object "TwinHost$Outcome")) ∈ tw_Tb := tw_in 361 (by decide +kernel) (by decide +kernel)
theorem wd_362 : Cond.fieldLink "TwinHost$Guest" 106 "TwinHost$Access" "LOAD" "LTwinHost$Access;" ∈ tw_Tb := tw_in 362 (by decide +kernel) (by decide +kernel)
theorem wd_364 : Cond.methodLink "TwinHost$Guest" 102 y_Gu_setRegister ∈ tw_Tb := tw_in 364 (by decide +kernel) (by decide +kernel)
theorem wd_365 : Cond.methodLink "TwinHost$Guest" 92 y_Gu_retireAt ∈ tw_Tb := tw_in 365 (by decide +kernel) (by decide +kernel)
theorem wd_366 : Cond.instanceMethod y_Gu_retireAt ∈ tw_Tb := tw_in 366 (by decide +kernel) (by decide +kernel)
theorem wd_367 : Cond.selects R_Gu y_Gu_retireAt y_Gu_retireAt ∈ tw_Tb := tw_in 367 (by decide +kernel) (by decide +kernel)
theorem wd_368 : Cond.code y_Gu_retireAt b_Gu_retireAt 2 (some (.object "TwinHost$Outcome")) ∈ tw_Tb := tw_in 368 (by decide +kernel) (by decide +kernel)
theorem wd_369 : Cond.fieldLink "TwinHost$Guest" 155 "TwinHost$Outcome" "RETIRED" "LTwinHost$Outcome;" ∈ tw_Tb := tw_in 369 (by decide +kernel) (by decide +kernel)
theorem wd_371 : Cond.methodLink "TwinHost$Guest" 89 y_Gu_store ∈ tw_Tb := tw_in 371 (by decide +kernel) (by decide +kernel)
theorem wd_372 : Cond.instanceMethod y_Gu_store ∈ tw_Tb := tw_in 372 (by decide +kernel) (by decide +kernel)
theorem wd_373 : Cond.selects R_Gu y_Gu_store y_Gu_store ∈ tw_Tb := tw_in 373 (by decide +kernel) (by decide +kernel)
theorem wd_374 : Cond.code y_Gu_store b_Gu_store 4 (some (.object "TwinHost$Outcome")) ∈ tw_Tb := tw_in 374 (by decide +kernel) (by decide +kernel)
theorem wd_375 : Cond.methodLink "TwinHost$Guest" 112 y_Sh_isTraced ∈ tw_Tb := tw_in 375 (by decide +kernel) (by decide +kernel)
theorem wd_376 : Cond.instanceMethod y_Sh_isTraced ∈ tw_Tb := tw_in 376 (by decide +kernel) (by decide +kernel)
theorem wd_377 : Cond.selects R_Sh y_Sh_isTraced y_Sh_isTraced ∈ tw_Tb := tw_in 377 (by decide +kernel) (by decide +kernel)
theorem wd_378 : Cond.code y_Sh_isTraced b_Sh_isTraced 3 (some .boolean) ∈ tw_Tb := tw_in 378 (by decide +kernel) (by decide +kernel)
theorem wd_379 : Cond.methodLink "TwinHost$Shadows" 51 y_Sh_isIn ∈ tw_Tb := tw_in 379 (by decide +kernel) (by decide +kernel)
theorem wd_380 : Cond.static y_Sh_isIn ∈ tw_Tb := tw_in 380 (by decide +kernel) (by decide +kernel)
theorem wd_381 : Cond.code y_Sh_isIn b_Sh_isIn 2 (some .boolean) ∈ tw_Tb := tw_in 381 (by decide +kernel) (by decide +kernel)
theorem wd_382 : Cond.methodLink "TwinHost$Guest" 115 y_Gu_overwrite ∈ tw_Tb := tw_in 382 (by decide +kernel) (by decide +kernel)
theorem wd_383 : Cond.methodLink "TwinHost$Guest" 95 y_Gu_link ∈ tw_Tb := tw_in 383 (by decide +kernel) (by decide +kernel)
theorem wd_384 : Cond.instanceMethod y_Gu_link ∈ tw_Tb := tw_in 384 (by decide +kernel) (by decide +kernel)
theorem wd_385 : Cond.selects R_Gu y_Gu_link y_Gu_link ∈ tw_Tb := tw_in 385 (by decide +kernel) (by decide +kernel)
theorem wd_386 : Cond.code y_Gu_link b_Gu_link 3 (some (.object "TwinHost$Outcome")) ∈ tw_Tb := tw_in 386 (by decide +kernel) (by decide +kernel)
theorem wd_387 : Cond.methodLink "TwinHost$Guest" 98 y_Gu_compute ∈ tw_Tb := tw_in 387 (by decide +kernel) (by decide +kernel)
theorem wd_388 : Cond.static y_Gu_compute ∈ tw_Tb := tw_in 388 (by decide +kernel) (by decide +kernel)
theorem wd_389 : Cond.code y_Gu_compute b_Gu_compute 4 (some .int) ∈ tw_Tb := tw_in 389 (by decide +kernel) (by decide +kernel)
theorem wd_390 : Cond.methodLink "TwinHost$Guest" 83 y_Gu_doSystem ∈ tw_Tb := tw_in 390 (by decide +kernel) (by decide +kernel)
theorem wd_391 : Cond.instanceMethod y_Gu_doSystem ∈ tw_Tb := tw_in 391 (by decide +kernel) (by decide +kernel)
theorem wd_392 : Cond.selects R_Gu y_Gu_doSystem y_Gu_doSystem ∈ tw_Tb := tw_in 392 (by decide +kernel) (by decide +kernel)
theorem wd_393 : Cond.code y_Gu_doSystem b_Gu_doSystem 3 (some (.object "TwinHost$Outcome")) ∈ tw_Tb := tw_in 393 (by decide +kernel) (by decide +kernel)
theorem wd_394 : Cond.methodLink "TwinHost$Guest" 119 y_Co_leaveTrap ∈ tw_Tb := tw_in 394 (by decide +kernel) (by decide +kernel)
theorem wd_395 : Cond.instanceMethod y_Co_leaveTrap ∈ tw_Tb := tw_in 395 (by decide +kernel) (by decide +kernel)
theorem wd_396 : Cond.selects R_Co y_Co_leaveTrap y_Co_leaveTrap ∈ tw_Tb := tw_in 396 (by decide +kernel) (by decide +kernel)
theorem wd_397 : Cond.code y_Co_leaveTrap b_Co_leaveTrap 3 (some .boolean) ∈ tw_Tb := tw_in 397 (by decide +kernel) (by decide +kernel)
theorem wd_398 : Cond.fieldLink "TwinHost$Guest" 129 "TwinHost$Outcome" "STALLED" "LTwinHost$Outcome;" ∈ tw_Tb := tw_in 398 (by decide +kernel) (by decide +kernel)
theorem wd_400 : Cond.methodLink "TwinHost$Guest" 135 y_Gu_changeControl ∈ tw_Tb := tw_in 400 (by decide +kernel) (by decide +kernel)
theorem wd_401 : Cond.instanceMethod y_Gu_changeControl ∈ tw_Tb := tw_in 401 (by decide +kernel) (by decide +kernel)
theorem wd_402 : Cond.selects R_Gu y_Gu_changeControl y_Gu_changeControl ∈ tw_Tb := tw_in 402 (by decide +kernel) (by decide +kernel)
theorem wd_403 : Cond.code y_Gu_changeControl b_Gu_changeControl 8 (some (.object "TwinHost$Outcome")) ∈ tw_Tb := tw_in 403 (by decide +kernel) (by decide +kernel)
theorem wd_404 : Cond.methodLink "TwinHost$Guest" 138 y_Co_exists ∈ tw_Tb := tw_in 404 (by decide +kernel) (by decide +kernel)
theorem wd_405 : Cond.methodLink "TwinHost$Guest" 141 y_Co_isStoredTo ∈ tw_Tb := tw_in 405 (by decide +kernel) (by decide +kernel)
theorem wd_406 : Cond.methodLink "TwinHost$Guest" 144 y_Co_take ∈ tw_Tb := tw_in 406 (by decide +kernel) (by decide +kernel)
theorem wd_407 : Cond.instanceMethod y_Co_take ∈ tw_Tb := tw_in 407 (by decide +kernel) (by decide +kernel)
theorem wd_408 : Cond.selects R_Co y_Co_take y_Co_take ∈ tw_Tb := tw_in 408 (by decide +kernel) (by decide +kernel)
theorem wd_409 : Cond.code y_Co_take b_Co_take 3 (some .int) ∈ tw_Tb := tw_in 409 (by decide +kernel) (by decide +kernel)
theorem wd_410 : Cond.methodLink "TwinHost$Controls" 33 y_Co_look ∈ tw_Tb := tw_in 410 (by decide +kernel) (by decide +kernel)
theorem wd_411 : Cond.methodLink "TwinHost$Controls" 37 y_In_removeFirst ∈ tw_Tb := tw_in 411 (by decide +kernel) (by decide +kernel)
theorem wd_412 : Cond.instanceMethod y_In_removeFirst ∈ tw_Tb := tw_in 412 (by decide +kernel) (by decide +kernel)
theorem wd_413 : Cond.selects R_In y_In_removeFirst y_In_removeFirst ∈ tw_Tb := tw_in 413 (by decide +kernel) (by decide +kernel)
theorem wd_414 : Cond.code y_In_removeFirst b_In_removeFirst 2 none ∈ tw_Tb := tw_in 414 (by decide +kernel) (by decide +kernel)
theorem wd_415 : Cond.methodLink "TwinHost$Guest" 148 y_Gu_changed ∈ tw_Tb := tw_in 415 (by decide +kernel) (by decide +kernel)
theorem wd_416 : Cond.static y_Gu_changed ∈ tw_Tb := tw_in 416 (by decide +kernel) (by decide +kernel)
theorem wd_417 : Cond.code y_Gu_changed b_Gu_changed 3 (some .int) ∈ tw_Tb := tw_in 417 (by decide +kernel) (by decide +kernel)
theorem wd_418 : Cond.methodLink "TwinHost$Guest" 152 y_Gu_storeControl ∈ tw_Tb := tw_in 418 (by decide +kernel) (by decide +kernel)
theorem wd_419 : Cond.fieldLink "TwinHost" 88 "TwinHost$Outcome" "RETIRED" "LTwinHost$Outcome;" ∈ tw_Tb := tw_in 419 (by decide +kernel) (by decide +kernel)
theorem wd_420 : Cond.methodLink "TwinHost" 94 y_TH_passTurnAfter ∈ tw_Tb := tw_in 420 (by decide +kernel) (by decide +kernel)
theorem wd_422 : Cond.instanceMethod y_TH_passTurnAfter ∈ tw_Tb := tw_in 422 (by decide +kernel) (by decide +kernel)
theorem wd_423 : Cond.code y_TH_passTurnAfter b_TH_passTurnAfter 2 none ∈ tw_Tb := tw_in 423 (by decide +kernel) (by decide +kernel)
theorem wd_424 : Cond.fieldLink "TwinHost" 118 "TwinHost$Outcome" "STALLED" "LTwinHost$Outcome;" ∈ tw_Tb := tw_in 424 (by decide +kernel) (by decide +kernel)
theorem wd_433 : Cond.methodLink "TwinHost" 102 y_Sh_describe ∈ tw_Tb := tw_in 433 (by decide +kernel) (by decide +kernel)
theorem wd_434 : Cond.instanceMethod y_Sh_describe ∈ tw_Tb := tw_in 434 (by decide +kernel) (by decide +kernel)
theorem wd_435 : Cond.selects R_Sh y_Sh_describe y_Sh_describe ∈ tw_Tb := tw_in 435 (by decide +kernel) (by decide +kernel)
theorem wd_436 : Cond.code y_Sh_describe b_Sh_describe 3 (some .int) ∈ tw_Tb := tw_in 436 (by decide +kernel) (by decide +kernel)
theorem wd_441 : Cond.methodLink "TwinHost" 107 y_Sh_isTraced ∈ tw_Tb := tw_in 441 (by decide +kernel) (by decide +kernel)
theorem wd_456 : Cond.fieldLink "TwinHostModel" 53 "TwinHostModel" "quantum" "I" ∈ tw_Tb := tw_in 456 (by decide +kernel) (by decide +kernel)
theorem wd_457 : Cond.fieldLink "TwinHostModel" 161 "TwinHostModel" "turn" "I" ∈ tw_Tb := tw_in 457 (by decide +kernel) (by decide +kernel)
theorem wd_458 : Cond.fieldLink "TwinHostModel" 167 "TwinHostModel" "row" "I" ∈ tw_Tb := tw_in 458 (by decide +kernel) (by decide +kernel)
theorem wd_459 : Cond.fieldLink "TwinHostModel" 7 "TwinHostModel" "memory" "[I" ∈ tw_Tb := tw_in 459 (by decide +kernel) (by decide +kernel)
theorem wd_460 : Cond.fieldLink "TwinHostModel" 13 "TwinHostModel" "x" "[I" ∈ tw_Tb := tw_in 460 (by decide +kernel) (by decide +kernel)
theorem wd_461 : Cond.fieldLink "TwinHostModel" 16 "TwinHostModel" "control" "[I" ∈ tw_Tb := tw_in 461 (by decide +kernel) (by decide +kernel)
theorem wd_462 : Cond.fieldLink "TwinHostModel" 19 "TwinHostModel" "pc" "[I" ∈ tw_Tb := tw_in 462 (by decide +kernel) (by decide +kernel)
theorem wd_463 : Cond.fieldLink "TwinHostModel" 22 "TwinHostModel" "user" "[Z" ∈ tw_Tb := tw_in 463 (by decide +kernel) (by decide +kernel)
theorem wd_464 : Cond.fieldLink "TwinHostModel" 26 "TwinHostModel" "waiting" "[I" ∈ tw_Tb := tw_in 464 (by decide +kernel) (by decide +kernel)
theorem wd_465 : Cond.fieldLink "TwinHostModel" 29 "TwinHostModel" "inputTime" "[I" ∈ tw_Tb := tw_in 465 (by decide +kernel) (by decide +kernel)
theorem wd_466 : Cond.fieldLink "TwinHostModel" 32 "TwinHostModel" "inputValue" "[I" ∈ tw_Tb := tw_in 466 (by decide +kernel) (by decide +kernel)
theorem wd_467 : Cond.fieldLink "TwinHostModel" 35 "TwinHostModel" "counts" "[I" ∈ tw_Tb := tw_in 467 (by decide +kernel) (by decide +kernel)
theorem wd_468 : Cond.fieldLink "TwinHostModel" 38 "TwinHostModel" "page" "[I" ∈ tw_Tb := tw_in 468 (by decide +kernel) (by decide +kernel)
theorem wd_469 : Cond.fieldLink "TwinHostModel" 41 "TwinHostModel" "bits" "[I" ∈ tw_Tb := tw_in 469 (by decide +kernel) (by decide +kernel)
theorem wd_470 : Cond.fieldLink "TwinHostModel" 44 "TwinHostModel" "dirty" "[Z" ∈ tw_Tb := tw_in 470 (by decide +kernel) (by decide +kernel)
theorem wd_471 : Cond.fieldLink "TwinHostModel" 47 "TwinHostModel" "first" "[I" ∈ tw_Tb := tw_in 471 (by decide +kernel) (by decide +kernel)
theorem wd_472 : Cond.fieldLink "TwinHostModel" 50 "TwinHostModel" "second" "[I" ∈ tw_Tb := tw_in 472 (by decide +kernel) (by decide +kernel)
theorem wd_473 : Cond.fieldLink "TwinHostModel" 114 "TwinHostModel" "leafAt" "I" ∈ tw_Tb := tw_in 473 (by decide +kernel) (by decide +kernel)
theorem wd_474 : Cond.fieldLink "TwinHostModel" 111 "TwinHostModel" "tableAt" "I" ∈ tw_Tb := tw_in 474 (by decide +kernel) (by decide +kernel)
theorem wd_475 : Cond.fieldLink "TwinHostModel" 104 "TwinHostModel" "through" "Z" ∈ tw_Tb := tw_in 475 (by decide +kernel) (by decide +kernel)
theorem wd_522 : Cond.methodLink "TwinHostModel" 62 y_Mo_guest ∈ tw_Tb := tw_in 522 (by decide +kernel) (by decide +kernel)
theorem wd_523 : Cond.static y_Mo_guest ∈ tw_Tb := tw_in 523 (by decide +kernel) (by decide +kernel)
theorem wd_524 : Cond.code y_Mo_guest b_Mo_guest 1 (some .boolean) ∈ tw_Tb := tw_in 524 (by decide +kernel) (by decide +kernel)
theorem wd_526 : Cond.instanceMethod y_Mo_traced ∈ tw_Tb := tw_in 526 (by decide +kernel) (by decide +kernel)
theorem wd_527 : Cond.selects R_Mo y_Mo_traced y_Mo_traced ∈ tw_Tb := tw_in 527 (by decide +kernel) (by decide +kernel)
theorem wd_528 : Cond.code y_Mo_traced b_Mo_traced 5 (some .boolean) ∈ tw_Tb := tw_in 528 (by decide +kernel) (by decide +kernel)
theorem wd_533 : Cond.methodLink "TwinHostModel" 66 y_Mo_drop ∈ tw_Tb := tw_in 533 (by decide +kernel) (by decide +kernel)
theorem wd_535 : Cond.instanceMethod y_Mo_drop ∈ tw_Tb := tw_in 535 (by decide +kernel) (by decide +kernel)
theorem wd_536 : Cond.code y_Mo_drop b_Mo_drop 4 none ∈ tw_Tb := tw_in 536 (by decide +kernel) (by decide +kernel)
theorem wd_537 : Cond.methodLink "TwinHostModel" 58 y_Mo_add ∈ tw_Tb := tw_in 537 (by decide +kernel) (by decide +kernel)
theorem wd_539 : Cond.instanceMethod y_Mo_add ∈ tw_Tb := tw_in 539 (by decide +kernel) (by decide +kernel)
theorem wd_540 : Cond.code y_Mo_add b_Mo_add 4 none ∈ tw_Tb := tw_in 540 (by decide +kernel) (by decide +kernel)
theorem wd_549 : Cond.methodLink "TwinHostModel" 70 y_Mo_put ∈ tw_Tb := tw_in 549 (by decide +kernel) (by decide +kernel)
theorem wd_551 : Cond.instanceMethod y_Mo_put ∈ tw_Tb := tw_in 551 (by decide +kernel) (by decide +kernel)
theorem wd_552 : Cond.code y_Mo_put b_Mo_put 4 none ∈ tw_Tb := tw_in 552 (by decide +kernel) (by decide +kernel)
theorem wd_561 : Cond.methodLink "TwinHostModel" 77 y_Mo_isStored ∈ tw_Tb := tw_in 561 (by decide +kernel) (by decide +kernel)
theorem wd_562 : Cond.static y_Mo_isStored ∈ tw_Tb := tw_in 562 (by decide +kernel) (by decide +kernel)
theorem wd_563 : Cond.code y_Mo_isStored b_Mo_isStored 1 (some .boolean) ∈ tw_Tb := tw_in 563 (by decide +kernel) (by decide +kernel)
theorem wd_564 : Cond.methodLink "TwinHostModel" 80 y_Mo_assign ∈ tw_Tb := tw_in 564 (by decide +kernel) (by decide +kernel)
theorem wd_566 : Cond.instanceMethod y_Mo_assign ∈ tw_Tb := tw_in 566 (by decide +kernel) (by decide +kernel)
theorem wd_567 : Cond.code y_Mo_assign b_Mo_assign 4 none ∈ tw_Tb := tw_in 567 (by decide +kernel) (by decide +kernel)
theorem wd_568 : Cond.methodLink "TwinHostModel" 73 y_Mo_flush ∈ tw_Tb := tw_in 568 (by decide +kernel) (by decide +kernel)
theorem wd_570 : Cond.instanceMethod y_Mo_flush ∈ tw_Tb := tw_in 570 (by decide +kernel) (by decide +kernel)
theorem wd_571 : Cond.code y_Mo_flush b_Mo_flush 3 none ∈ tw_Tb := tw_in 571 (by decide +kernel) (by decide +kernel)
theorem wd_573 : Cond.instanceMethod y_Mo_control ∈ tw_Tb := tw_in 573 (by decide +kernel) (by decide +kernel)
theorem wd_574 : Cond.selects R_Mo y_Mo_control y_Mo_control ∈ tw_Tb := tw_in 574 (by decide +kernel) (by decide +kernel)
theorem wd_575 : Cond.code y_Mo_control b_Mo_control 3 (some .int) ∈ tw_Tb := tw_in 575 (by decide +kernel) (by decide +kernel)
theorem wd_576 : Cond.methodLink "TwinHostModel" 83 y_Mo_isThere ∈ tw_Tb := tw_in 576 (by decide +kernel) (by decide +kernel)
theorem wd_578 : Cond.instanceMethod y_Mo_isThere ∈ tw_Tb := tw_in 578 (by decide +kernel) (by decide +kernel)
theorem wd_579 : Cond.code y_Mo_isThere b_Mo_isThere 2 (some .boolean) ∈ tw_Tb := tw_in 579 (by decide +kernel) (by decide +kernel)
theorem wd_580 : Cond.methodLink "TwinHostModel" 86 y_Mo_pending ∈ tw_Tb := tw_in 580 (by decide +kernel) (by decide +kernel)
theorem wd_582 : Cond.instanceMethod y_Mo_pending ∈ tw_Tb := tw_in 582 (by decide +kernel) (by decide +kernel)
theorem wd_583 : Cond.code y_Mo_pending b_Mo_pending 2 (some .int) ∈ tw_Tb := tw_in 583 (by decide +kernel) (by decide +kernel)
theorem wd_604 : Cond.methodLink "TwinHostModel" 164 y_Mo_step ∈ tw_Tb := tw_in 604 (by decide +kernel) (by decide +kernel)
theorem wd_606 : Cond.instanceMethod y_Mo_step ∈ tw_Tb := tw_in 606 (by decide +kernel) (by decide +kernel)
theorem wd_607 : Cond.code y_Mo_step b_Mo_step 12 (some .int) ∈ tw_Tb := tw_in 607 (by decide +kernel) (by decide +kernel)
theorem wd_608 : Cond.constant "TwinHostModel" 128 (-2147483648) ∈ tw_Tb := tw_in 608 (by decide +kernel) (by decide +kernel)
theorem wd_609 : Cond.methodLink "TwinHostModel" 90 y_Mo_trap ∈ tw_Tb := tw_in 609 (by decide +kernel) (by decide +kernel)
theorem wd_611 : Cond.instanceMethod y_Mo_trap ∈ tw_Tb := tw_in 611 (by decide +kernel) (by decide +kernel)
theorem wd_612 : Cond.code y_Mo_trap b_Mo_trap 6 none ∈ tw_Tb := tw_in 612 (by decide +kernel) (by decide +kernel)
theorem wd_613 : Cond.methodLink "TwinHostModel" 129 y_Mo_access ∈ tw_Tb := tw_in 613 (by decide +kernel) (by decide +kernel)
theorem wd_615 : Cond.instanceMethod y_Mo_access ∈ tw_Tb := tw_in 615 (by decide +kernel) (by decide +kernel)
theorem wd_616 : Cond.code y_Mo_access b_Mo_access 5 (some .int) ∈ tw_Tb := tw_in 616 (by decide +kernel) (by decide +kernel)
theorem wd_617 : Cond.methodLink "TwinHostModel" 93 y_Mo_outside ∈ tw_Tb := tw_in 617 (by decide +kernel) (by decide +kernel)
theorem wd_619 : Cond.instanceMethod y_Mo_outside ∈ tw_Tb := tw_in 619 (by decide +kernel) (by decide +kernel)
theorem wd_620 : Cond.code y_Mo_outside b_Mo_outside 4 (some .int) ∈ tw_Tb := tw_in 620 (by decide +kernel) (by decide +kernel)
theorem wd_621 : Cond.methodLink "TwinHostModel" 97 y_Mo_fault ∈ tw_Tb := tw_in 621 (by decide +kernel) (by decide +kernel)
theorem wd_623 : Cond.instanceMethod y_Mo_fault ∈ tw_Tb := tw_in 623 (by decide +kernel) (by decide +kernel)
theorem wd_624 : Cond.code y_Mo_fault b_Mo_fault 4 (some .int) ∈ tw_Tb := tw_in 624 (by decide +kernel) (by decide +kernel)
theorem wd_625 : Cond.methodLink "TwinHostModel" 100 y_Mo_allowed ∈ tw_Tb := tw_in 625 (by decide +kernel) (by decide +kernel)
theorem wd_627 : Cond.instanceMethod y_Mo_allowed ∈ tw_Tb := tw_in 627 (by decide +kernel) (by decide +kernel)
theorem wd_628 : Cond.code y_Mo_allowed b_Mo_allowed 7 (some .boolean) ∈ tw_Tb := tw_in 628 (by decide +kernel) (by decide +kernel)
theorem wd_629 : Cond.methodLink "TwinHostModel" 108 y_Mo_walk ∈ tw_Tb := tw_in 629 (by decide +kernel) (by decide +kernel)
theorem wd_631 : Cond.instanceMethod y_Mo_walk ∈ tw_Tb := tw_in 631 (by decide +kernel) (by decide +kernel)
theorem wd_632 : Cond.code y_Mo_walk b_Mo_walk 7 (some .int) ∈ tw_Tb := tw_in 632 (by decide +kernel) (by decide +kernel)
theorem wd_633 : Cond.methodLink "TwinHostModel" 117 y_Mo_broken ∈ tw_Tb := tw_in 633 (by decide +kernel) (by decide +kernel)
theorem wd_634 : Cond.static y_Mo_broken ∈ tw_Tb := tw_in 634 (by decide +kernel) (by decide +kernel)
theorem wd_635 : Cond.code y_Mo_broken b_Mo_broken 1 (some .boolean) ∈ tw_Tb := tw_in 635 (by decide +kernel) (by decide +kernel)
theorem wd_636 : Cond.methodLink "TwinHostModel" 120 y_Mo_reach ∈ tw_Tb := tw_in 636 (by decide +kernel) (by decide +kernel)
theorem wd_638 : Cond.instanceMethod y_Mo_reach ∈ tw_Tb := tw_in 638 (by decide +kernel) (by decide +kernel)
theorem wd_639 : Cond.code y_Mo_reach b_Mo_reach 6 (some .int) ∈ tw_Tb := tw_in 639 (by decide +kernel) (by decide +kernel)
theorem wd_640 : Cond.methodLink "TwinHostModel" 124 y_Mo_fill ∈ tw_Tb := tw_in 640 (by decide +kernel) (by decide +kernel)
theorem wd_642 : Cond.instanceMethod y_Mo_fill ∈ tw_Tb := tw_in 642 (by decide +kernel) (by decide +kernel)
theorem wd_643 : Cond.code y_Mo_fill b_Mo_fill 5 none ∈ tw_Tb := tw_in 643 (by decide +kernel) (by decide +kernel)
theorem wd_644 : Cond.methodLink "TwinHostModel" 132 y_Mo_special ∈ tw_Tb := tw_in 644 (by decide +kernel) (by decide +kernel)
theorem wd_646 : Cond.instanceMethod y_Mo_special ∈ tw_Tb := tw_in 646 (by decide +kernel) (by decide +kernel)
theorem wd_647 : Cond.code y_Mo_special b_Mo_special 6 (some .int) ∈ tw_Tb := tw_in 647 (by decide +kernel) (by decide +kernel)
theorem wd_648 : Cond.methodLink "TwinHostModel" 150 y_Mo_illegal ∈ tw_Tb := tw_in 648 (by decide +kernel) (by decide +kernel)
theorem wd_650 : Cond.instanceMethod y_Mo_illegal ∈ tw_Tb := tw_in 650 (by decide +kernel) (by decide +kernel)
theorem wd_651 : Cond.code y_Mo_illegal b_Mo_illegal 3 (some .int) ∈ tw_Tb := tw_in 651 (by decide +kernel) (by decide +kernel)
theorem wd_652 : Cond.methodLink "TwinHostModel" 153 y_Mo_controls ∈ tw_Tb := tw_in 652 (by decide +kernel) (by decide +kernel)
theorem wd_654 : Cond.instanceMethod y_Mo_controls ∈ tw_Tb := tw_in 654 (by decide +kernel) (by decide +kernel)
theorem wd_655 : Cond.code y_Mo_controls b_Mo_controls 9 (some .int) ∈ tw_Tb := tw_in 655 (by decide +kernel) (by decide +kernel)
theorem wd_656 : Cond.methodLink "TwinHostModel" 156 y_Mo_control ∈ tw_Tb := tw_in 656 (by decide +kernel) (by decide +kernel)
theorem wd_657 : Cond.methodLink "TwinHostModel" 158 y_Mo_takeInput ∈ tw_Tb := tw_in 657 (by decide +kernel) (by decide +kernel)
theorem wd_659 : Cond.instanceMethod y_Mo_takeInput ∈ tw_Tb := tw_in 659 (by decide +kernel) (by decide +kernel)
theorem wd_660 : Cond.code y_Mo_takeInput b_Mo_takeInput 3 none ∈ tw_Tb := tw_in 660 (by decide +kernel) (by decide +kernel)
theorem wd_661 : Cond.methodLink "TwinHostModel" 138 y_Mo_retire ∈ tw_Tb := tw_in 661 (by decide +kernel) (by decide +kernel)
theorem wd_663 : Cond.instanceMethod y_Mo_retire ∈ tw_Tb := tw_in 663 (by decide +kernel) (by decide +kernel)
theorem wd_664 : Cond.code y_Mo_retire b_Mo_retire 3 (some .int) ∈ tw_Tb := tw_in 664 (by decide +kernel) (by decide +kernel)
theorem wd_665 : Cond.methodLink "TwinHostModel" 135 y_Mo_calculate ∈ tw_Tb := tw_in 665 (by decide +kernel) (by decide +kernel)
theorem wd_666 : Cond.static y_Mo_calculate ∈ tw_Tb := tw_in 666 (by decide +kernel) (by decide +kernel)
theorem wd_667 : Cond.code y_Mo_calculate b_Mo_calculate 4 (some .int) ∈ tw_Tb := tw_in 667 (by decide +kernel) (by decide +kernel)
theorem wd_668 : Cond.methodLink "TwinHostModel" 142 y_Mo_data ∈ tw_Tb := tw_in 668 (by decide +kernel) (by decide +kernel)
theorem wd_670 : Cond.instanceMethod y_Mo_data ∈ tw_Tb := tw_in 670 (by decide +kernel) (by decide +kernel)
theorem wd_671 : Cond.code y_Mo_data b_Mo_data 8 (some .int) ∈ tw_Tb := tw_in 671 (by decide +kernel) (by decide +kernel)
theorem wd_672 : Cond.methodLink "TwinHostModel" 146 y_Mo_traced ∈ tw_Tb := tw_in 672 (by decide +kernel) (by decide +kernel)
theorem wd_681 : Cond.fieldLink "TwinHost$Guest" 171 "TwinHost$Access" "outside" "I" ∈ tw_Tb := tw_in 681 (by decide +kernel) (by decide +kernel)
theorem wd_682 : Cond.fieldLink "TwinHost$Guest" 174 "TwinHost$Access" "pageFault" "I" ∈ tw_Tb := tw_in 682 (by decide +kernel) (by decide +kernel)
theorem wd_683 : Cond.fieldLink "TwinHost$Entry" 9 "TwinHost$Access" "need" "I" ∈ tw_Tb := tw_in 683 (by decide +kernel) (by decide +kernel)
theorem wd_684 : Cond.fieldLink "TwinHost$Walk" 9 "TwinHost$Access" "outside" "I" ∈ tw_Tb := tw_in 684 (by decide +kernel) (by decide +kernel)
theorem wd_685 : Cond.fieldLink "TwinHost$Walk" 34 "TwinHost$Access" "pageFault" "I" ∈ tw_Tb := tw_in 685 (by decide +kernel) (by decide +kernel)
