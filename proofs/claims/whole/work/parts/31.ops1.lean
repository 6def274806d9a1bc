set_option maxRecDepth 4000 in
theorem op_wet {c_now_stones_many : Int32} {c_now_stones_wetness : Int32} {c_now_stones_kinds : Nat → Int32} {c_now_game_player : Int32} {c_now_game_undoable : Int32} {c_now_game_totals : Nat → Int32} {c_now_game_gains : Nat → Int32} {c_now_written_many : Int32} {c_now_written_cells : Nat → Int32} {c_refused : Nat → Int32} {m_s : Nat → Int32} {m_refused : Nat → Int32} (hN : NowR c_now_stones_kinds c_now_stones_many c_now_stones_wetness c_now_game_totals c_now_game_gains c_now_game_player c_now_game_undoable c_now_written_cells c_now_written_many m_s) (hE : RefR c_refused m_refused) (y0 : Int32) : ∃ (r : Int32) (dc_refused : Nat → Int32) (dc_now_stones_wetness : Int32) (dm_refused : Nat → Int32) (dm_s : Nat → Int32), f_X10_wet y0 c_refused c_now_stones_wetness = some (r, dc_refused, dc_now_stones_wetness) ∧ f_X11_wet y0 m_refused m_s = some (r, dm_refused, dm_s) ∧ NowR c_now_stones_kinds c_now_stones_many dc_now_stones_wetness c_now_game_totals c_now_game_gains c_now_game_player c_now_game_undoable c_now_written_cells c_now_written_many dm_s ∧ RefR dc_refused dm_refused := by
  unfold f_X10_wet f_X11_wet
  rw [cw y0 0 3, mw y0 0 3 rfl rfl]
  cases hg : inR y0 0 3 with
  | false =>
    simp only [mb0_s, mb1_s, mb2_s, mb3_s, mb4_s, mb5_s, mb6_s, mb7_s, mb8_s, mb9_s, mb10_s, mb11_s, mb12_s, mb13_s, mb14_s, mb15_s, mb16_s, mb17_s, mb18_s, mb19_s, mb20_s, mb21_s, mb22_s, mb23_s, mb24_s, mg_tt, ib_0_2, ib_0_3, ib_0_4, ib_0_44, ib_0_117, ib_1_2, ib_1_3, ib_1_4, ib_1_117, ib_2_3, ib_2_4, ib_2_117, ib_3_4, ib_3_117, ib_4_117, ib_5_117, ib_44_117, tn_0, tn_1, tn_2, tn_3, tn_4, tn_5, tn_8, tn_10, tn_44, tn_72, cp_0, cp_1, cp_2, cp_3, cp_4, ifI_f, bad10, bad11]
    exact ⟨_, _, _, _, _, rfl, rfl, hN, hE.bump 0⟩
  | true =>
    simp only [mb0_s, mb1_s, mb2_s, mb3_s, mb4_s, mb5_s, mb6_s, mb7_s, mb8_s, mb9_s, mb10_s, mb11_s, mb12_s, mb13_s, mb14_s, mb15_s, mb16_s, mb17_s, mb18_s, mb19_s, mb20_s, mb21_s, mb22_s, mb23_s, mb24_s, mg_tt, ib_0_2, ib_0_3, ib_0_4, ib_0_44, ib_0_117, ib_1_2, ib_1_3, ib_1_4, ib_1_117, ib_2_3, ib_2_4, ib_2_117, ib_3_4, ib_3_117, ib_4_117, ib_5_117, ib_44_117, tn_0, tn_1, tn_2, tn_3, tn_4, tn_5, tn_8, tn_10, tn_44, tn_72, cp_0, cp_1, cp_2, cp_3, cp_4, ifI_t]
    obtain ⟨k, -, hk, rfl⟩ := inR_nI 0 3 rfl rfl hg
    obtain ⟨⟨nm, nw, h1, h2, h3, h4, h5, h6, h7⟩, hG, hB⟩ := hN
    refine ⟨_, _, _, _, _, rfl, ?_, ⟨⟨nm, k, h1, hk, h3, rfl, ?_, up_s _ _ _, ?_⟩, ?_, ?_⟩, hE⟩
    · rw [h4, ← h6]
    · rw [up_n (by decide)]; exact h5
    · intro j hj
      rw [up_n (by omega)]
      exact h7 j hj
    · sorry
    · sorry
theorem op_clear {c_text_many : Int32} {c_text_bytes : Nat → Int32} {m_typed : Int32} {m_text : Nat → Int32} (hT : TxtR c_text_many c_text_bytes m_typed m_text) : ∃ (r : Int32) (dc_text_many : Int32) (dm_typed : Int32), f_X10_clear c_text_many = some (r, dc_text_many) ∧ f_X11_clear m_typed = some (r, dm_typed) ∧ TxtR dc_text_many c_text_bytes dm_typed m_text := by
  obtain ⟨n, h1, rfl, rfl, h4⟩ := hT
  exact ⟨_, _, _, rfl, rfl, ⟨0, by omega, rfl, rfl, fun k hk => absurd hk (Nat.not_lt_zero k)⟩⟩
