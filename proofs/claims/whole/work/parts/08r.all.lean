/-! Every call, on the methods themselves. -/
theorem tw_t_peek {σc σm : tw_S} (h : tw_Inv σc σm) (a : Int32) (b0 : Int32) : tw_CP (fn_TH_peek [.inr (false, 20), .inl a, .inl b0] σc) (fn_Mo_peek [.inr (false, 22), .inl a, .inl b0] σm) := by
  rcases tw_gst a with rfl | rfl | ⟨e1, e2⟩
  · exact tw_CP_le (gn_TH_peek 0 b0 σc) (gn_Mo_peek_0 0 rfl b0 σm) (tw_q_peek_0 h b0)
  · exact tw_CP_le (gn_TH_peek 1 b0 σc) (gn_Mo_peek_1 1 rfl b0 σm) (tw_q_peek_1 h b0)
  · refine tw_CP_le (gn_TH_peek a b0 σc) (gn_Mo_peek_x a b0 σm) ?_
    unfold g_TH_peek g_Mo_peek_x
    rw [e1, e2, tw_bi_s, tw_bi_s, if_pos rfl, if_pos rfl]
    exact ⟨(0), σc, σm, rfl, rfl, h⟩
theorem tw_t_poke {σc σm : tw_S} (h : tw_Inv σc σm) (a : Int32) (b0 b1 : Int32) : tw_CP (fn_TH_poke [.inr (false, 20), .inl a, .inl b0, .inl b1] σc) (fn_Mo_poke [.inr (false, 22), .inl a, .inl b0, .inl b1] σm) := by
  rcases tw_gst a with rfl | rfl | ⟨e1, e2⟩
  · exact tw_CP_le (gn_TH_poke 0 b0 b1 σc) (gn_Mo_poke_0 0 rfl b0 b1 σm) (tw_q_poke_0 h b0 b1)
  · exact tw_CP_le (gn_TH_poke 1 b0 b1 σc) (gn_Mo_poke_1 1 rfl b0 b1 σm) (tw_q_poke_1 h b0 b1)
  · refine tw_CP_le (gn_TH_poke a b0 b1 σc) (gn_Mo_poke_x a b0 b1 σm) ?_
    unfold g_TH_poke g_Mo_poke_x
    rw [e1, e2, tw_bi_s, tw_bi_s, if_pos rfl, if_pos rfl]
    exact ⟨(0), σc, σm, rfl, rfl, h⟩
theorem tw_t_register {σc σm : tw_S} (h : tw_Inv σc σm) (a : Int32) (b0 : Int32) : tw_CP (fn_TH_register [.inr (false, 20), .inl a, .inl b0] σc) (fn_Mo_register [.inr (false, 22), .inl a, .inl b0] σm) := by
  rcases tw_gst a with rfl | rfl | ⟨e1, e2⟩
  · exact tw_CP_le (gn_TH_register 0 b0 σc) (gn_Mo_register_0 0 rfl b0 σm) (tw_q_register_0 h b0)
  · exact tw_CP_le (gn_TH_register 1 b0 σc) (gn_Mo_register_1 1 rfl b0 σm) (tw_q_register_1 h b0)
  · refine tw_CP_le (gn_TH_register a b0 σc) (gn_Mo_register_x a b0 σm) ?_
    unfold g_TH_register g_Mo_register_x
    rw [e1, e2, tw_bi_s, tw_bi_s, if_pos rfl, if_pos rfl]
    exact ⟨(0), σc, σm, rfl, rfl, h⟩
theorem tw_t_give {σc σm : tw_S} (h : tw_Inv σc σm) (a : Int32) (b0 b1 : Int32) : tw_CP (fn_TH_give [.inr (false, 20), .inl a, .inl b0, .inl b1] σc) (fn_Mo_give [.inr (false, 22), .inl a, .inl b0, .inl b1] σm) := by
  rcases tw_gst a with rfl | rfl | ⟨e1, e2⟩
  · exact tw_CP_le (gn_TH_give 0 b0 b1 σc) (gn_Mo_give_0 0 rfl b0 b1 σm) (tw_q_give_0 h b0 b1)
  · exact tw_CP_le (gn_TH_give 1 b0 b1 σc) (gn_Mo_give_1 1 rfl b0 b1 σm) (tw_q_give_1 h b0 b1)
  · refine tw_CP_le (gn_TH_give a b0 b1 σc) (gn_Mo_give_x a b0 b1 σm) ?_
    unfold g_TH_give g_Mo_give_x
    rw [e1, e2, tw_bi_s, tw_bi_s, if_pos rfl, if_pos rfl]
    exact ⟨(0), σc, σm, rfl, rfl, h⟩
theorem tw_t_count {σc σm : tw_S} (h : tw_Inv σc σm) (a : Int32) (b0 : Int32) : tw_CP (fn_TH_count [.inr (false, 20), .inl a, .inl b0] σc) (fn_Mo_count [.inr (false, 22), .inl a, .inl b0] σm) := by
  rcases tw_gst a with rfl | rfl | ⟨e1, e2⟩
  · exact tw_CP_le (gn_TH_count 0 b0 σc) (gn_Mo_count_0 0 rfl b0 σm) (tw_q_count_0 h b0)
  · exact tw_CP_le (gn_TH_count 1 b0 σc) (gn_Mo_count_1 1 rfl b0 σm) (tw_q_count_1 h b0)
  · refine tw_CP_le (gn_TH_count a b0 σc) (gn_Mo_count_x a b0 σm) ?_
    unfold g_TH_count g_Mo_count_x
    rw [e1, e2, tw_bi_s, tw_bi_s, if_pos rfl, if_pos rfl]
    exact ⟨(-1), σc, σm, rfl, rfl, h⟩
theorem tw_t_pc {σc σm : tw_S} (h : tw_Inv σc σm) (a : Int32) : tw_CP (fn_TH_pc [.inr (false, 20), .inl a] σc) (fn_Mo_pc [.inr (false, 22), .inl a] σm) := by
  rcases tw_gst a with rfl | rfl | ⟨e1, e2⟩
  · exact tw_CP_le (gn_TH_pc 0  σc) (gn_Mo_pc_0 0 rfl  σm) (tw_q_pc_0 h )
  · exact tw_CP_le (gn_TH_pc 1  σc) (gn_Mo_pc_1 1 rfl  σm) (tw_q_pc_1 h )
  · refine tw_CP_le (gn_TH_pc a  σc) (gn_Mo_pc_x a  σm) ?_
    unfold g_TH_pc g_Mo_pc_x
    rw [e1, e2, tw_bi_s, tw_bi_s, if_pos rfl, if_pos rfl]
    exact ⟨(0), σc, σm, rfl, rfl, h⟩
theorem tw_t_user {σc σm : tw_S} (h : tw_Inv σc σm) (a : Int32) : tw_CP (fn_TH_user [.inr (false, 20), .inl a] σc) (fn_Mo_user [.inr (false, 22), .inl a] σm) := by
  rcases tw_gst a with rfl | rfl | ⟨e1, e2⟩
  · exact tw_CP_le (gn_TH_user 0  σc) (gn_Mo_user_0 0 rfl  σm) (tw_q_user_0 h )
  · exact tw_CP_le (gn_TH_user 1  σc) (gn_Mo_user_1 1 rfl  σm) (tw_q_user_1 h )
  · refine tw_CP_le (gn_TH_user a  σc) (gn_Mo_user_x a  σm) ?_
    unfold g_TH_user g_Mo_user_x
    rw [e1, e2, tw_bi_s, tw_bi_s, if_pos rfl, if_pos rfl]
    exact ⟨(0), σc, σm, rfl, rfl, h⟩
theorem tw_t_place {σc σm : tw_S} (h : tw_Inv σc σm) (a : Int32) (b0 b1 : Int32) (hx : b1 = 0 ∨ b1 = 1) : tw_CP (fn_TH_place [.inr (false, 20), .inl a, .inl b0, .inl b1] σc) (fn_Mo_place [.inr (false, 22), .inl a, .inl b0, .inl b1] σm) := by
  rcases tw_gst a with rfl | rfl | ⟨e1, e2⟩
  · exact tw_CP_le (gn_TH_place 0 b0 b1 σc) (gn_Mo_place_0 0 rfl b0 b1 σm) (tw_q_place_0 h b0 b1 hx)
  · exact tw_CP_le (gn_TH_place 1 b0 b1 σc) (gn_Mo_place_1 1 rfl b0 b1 σm) (tw_q_place_1 h b0 b1 hx)
  · refine tw_CP_le (gn_TH_place a b0 b1 σc) (gn_Mo_place_x a b0 b1 σm) ?_
    unfold g_TH_place g_Mo_place_x
    rw [e1, e2, tw_bi_s, tw_bi_s, if_pos rfl, if_pos rfl]
    exact ⟨(0), σc, σm, rfl, rfl, h⟩
theorem tw_t_shadow {σc σm : tw_S} (h : tw_Inv σc σm) (a : Int32) (b0 : Int32) : tw_CP (fn_TH_shadow [.inr (false, 20), .inl a, .inl b0] σc) (fn_Mo_shadow [.inr (false, 22), .inl a, .inl b0] σm) := by
  rcases tw_gst a with rfl | rfl | ⟨e1, e2⟩
  · exact tw_CP_le (gn_TH_shadow 0 b0 σc) (gn_Mo_shadow_0 0 rfl b0 σm) (tw_q_shadow_0 h b0)
  · exact tw_CP_le (gn_TH_shadow 1 b0 σc) (gn_Mo_shadow_1 1 rfl b0 σm) (tw_q_shadow_1 h b0)
  · refine tw_CP_le (gn_TH_shadow a b0 σc) (gn_Mo_shadow_x a b0 σm) ?_
    unfold g_TH_shadow g_Mo_shadow_x
    rw [e1, e2, tw_bi_s, tw_bi_s, if_pos rfl, if_pos rfl]
    exact ⟨(-1), σc, σm, rfl, rfl, h⟩
theorem tw_t_traced {σc σm : tw_S} (h : tw_Inv σc σm) (a : Int32) (b0 : Int32) : tw_CP (fn_TH_traced [.inr (false, 20), .inl a, .inl b0] σc) (fn_Mo_traced [.inr (false, 22), .inl a, .inl b0] σm) := by
  rcases tw_gst a with rfl | rfl | ⟨e1, e2⟩
  · exact tw_CP_le (gn_TH_traced 0 b0 σc) (gn_Mo_traced_0 0 rfl b0 σm) (tw_q_traced_0 h b0)
  · exact tw_CP_le (gn_TH_traced 1 b0 σc) (gn_Mo_traced_1 1 rfl b0 σm) (tw_q_traced_1 h b0)
  · refine tw_CP_le (gn_TH_traced a b0 σc) (gn_Mo_traced_x a b0 σm) ?_
    unfold g_TH_traced g_Mo_traced_x
    rw [e1, e2, tw_bi_s, tw_bi_s, if_pos rfl, if_pos rfl]
    exact ⟨(0), σc, σm, rfl, rfl, h⟩
theorem tw_t_control {σc σm : tw_S} (h : tw_Inv σc σm) (a : Int32) (b0 : Int32) : tw_CP (fn_TH_control [.inr (false, 20), .inl a, .inl b0] σc) (fn_Mo_control [.inr (false, 22), .inl a, .inl b0] σm) := by
  rcases tw_gst a with rfl | rfl | ⟨e1, e2⟩
  · exact tw_CP_le (gn_TH_control 0 b0 σc) (gn_Mo_control_0 0 rfl b0 σm) (tw_q_control_0 h b0)
  · exact tw_CP_le (gn_TH_control 1 b0 σc) (gn_Mo_control_1 1 rfl b0 σm) (tw_q_control_1 h b0)
  · refine tw_CP_le (gn_TH_control a b0 σc) (gn_Mo_control_x a b0 σm) ?_
    unfold g_TH_control g_Mo_control_x
    rw [e1, e2, tw_bi_s, tw_bi_s, if_pos rfl, if_pos rfl]
    exact ⟨(0), σc, σm, rfl, rfl, h⟩
theorem tw_t_command {σc σm : tw_S} (h : tw_Inv σc σm) (a : Int32) (b0 b1 : Int32) : tw_CP (fn_TH_command [.inr (false, 20), .inl a, .inl b0, .inl b1] σc) (fn_Mo_command [.inr (false, 22), .inl a, .inl b0, .inl b1] σm) := by
  rcases tw_gst a with rfl | rfl | ⟨e1, e2⟩
  · exact tw_CP_le (gn_TH_command 0 b0 b1 σc) (gn_Mo_command_0 0 rfl b0 b1 σm) (tw_q_command_0 h b0 b1)
  · exact tw_CP_le (gn_TH_command 1 b0 b1 σc) (gn_Mo_command_1 1 rfl b0 b1 σm) (tw_q_command_1 h b0 b1)
  · refine tw_CP_le (gn_TH_command a b0 b1 σc) (gn_Mo_command_x a b0 b1 σm) ?_
    unfold g_TH_command g_Mo_command_x
    rw [e1, e2, tw_bi_s, tw_bi_s, if_pos rfl, if_pos rfl]
    exact ⟨(0), σc, σm, rfl, rfl, h⟩
theorem tw_t_input {σc σm : tw_S} (h : tw_Inv σc σm) (a : Int32) (b0 b1 : Int32) : tw_CP (fn_TH_input [.inr (false, 20), .inl a, .inl b0, .inl b1] σc) (fn_Mo_input [.inr (false, 22), .inl a, .inl b0, .inl b1] σm) := by
  rcases tw_gst a with rfl | rfl | ⟨e1, e2⟩
  · exact tw_CP_le (gn_TH_input 0 b0 b1 σc) (gn_Mo_input 0 b0 b1 σm) (tw_q_input_0 h b0 b1)
  · exact tw_CP_le (gn_TH_input 1 b0 b1 σc) (gn_Mo_input 1 b0 b1 σm) (tw_q_input_1 h b0 b1)
  · refine tw_CP_le (gn_TH_input a b0 b1 σc) (gn_Mo_input_x a b0 b1 σm) ?_
    unfold g_TH_input g_Mo_input_x
    rw [e1, e2, tw_bi_s, tw_bi_s, if_pos rfl, if_pos rfl]
    exact ⟨(0), σc, σm, rfl, rfl, h⟩
theorem tw_t_run {σc σm : tw_S} (h : tw_Inv σc σm) (a : Int32) : tw_CP (fn_TH_run [.inr (false, 20), .inl a] σc) (fn_Mo_run [.inr (false, 22), .inl a] σm) := tw_CP_le (gn_TH_run a σc) (gn_Mo_run a σm) (tw_q_run h a)
theorem tw_t_turn {σc σm : tw_S} (h : tw_Inv σc σm) : tw_CP (fn_TH_turn [.inr (false, 20)] σc) (fn_Mo_turn [.inr (false, 22)] σm) := tw_CP_le (gn_TH_turn σc) (gn_Mo_turn σm) (tw_q_turn h)
