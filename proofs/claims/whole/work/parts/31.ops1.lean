set_option maxRecDepth 4000
theorem isStone11 {y : Int32} {s : Nat → Int32} {nm : Nat} (h : nm ≤ 8) (e : s 0 = nI nm) : f_X11_isStone y s = some (bI (inR y 0 (nI nm - 1))) := by
  unfold f_X11_isStone
  simp only [mb0_s, mb1_s, mb2_s, mb3_s, mb4_s, mb5_s, mb6_s, mb7_s, mb8_s, mb9_s, mb10_s, mb11_s, mb12_s, mb13_s, mb14_s, mb15_s, mb16_s, mb17_s, mb18_s, mb19_s, mb20_s, mb21_s, mb22_s, mb23_s, mb24_s, mg_tt, ib_0_2, ib_0_3, ib_0_4, ib_0_44, ib_0_117, ib_1_2, ib_1_3, ib_1_4, ib_1_117, ib_2_3, ib_2_4, ib_2_117, ib_3_4, ib_3_117, ib_4_117, ib_5_117, ib_44_117, tn_0, tn_1, tn_2, tn_3, tn_4, tn_5, tn_8, tn_10, tn_44, tn_72, cp_0, cp_1, cp_2, cp_3, cp_4, e]
  rw [mw y 0 (nI nm - 1) (lo' := 0) rfl]
  · simp only [mb0_s, mb1_s, mb2_s, mb3_s, mb4_s, mb5_s, mb6_s, mb7_s, mb8_s, mb9_s, mb10_s, mb11_s, mb12_s, mb13_s, mb14_s, mb15_s, mb16_s, mb17_s, mb18_s, mb19_s, mb20_s, mb21_s, mb22_s, mb23_s, mb24_s, mg_tt, ib_0_2, ib_0_3, ib_0_4, ib_0_44, ib_0_117, ib_1_2, ib_1_3, ib_1_4, ib_1_117, ib_2_3, ib_2_4, ib_2_117, ib_3_4, ib_3_117, ib_4_117, ib_5_117, ib_44_117, tn_0, tn_1, tn_2, tn_3, tn_4, tn_5, tn_8, tn_10, tn_44, tn_72, cp_0, cp_1, cp_2, cp_3, cp_4, isB_bI]
  · simp (disch := omega) only [nI_z, zI_add, zI_sub, zI_mul, zI_neg, zL_add, zL_sub, zL_mul, zL_neg, zI_lt, zI_le, zI_eq, zL_lt, zL_le, zL_eq, zI_div, zI_rm, zL_div, zL_rm, zI_cl, zI_in, zI_l, zL_n, on_2, on_8, on_10, on_72, on_120, zl_72, zl_234, zl_0, zl_1, zl_2, zl_3, zl_4, zl_5, zl_6, zl_7, zl_8, zl_9, zl_10, zl_11, zl_12, zl_13, zl_14, zl_15, zl_16, zl_17, zl_18, zl_19, zl_20, zl_21, zl_22, zl_23, zl_24, zl_25, zl_26, zl_27, zl_28, zl_29, zl_30, zl_31, zl_32, zl_33, zl_34, zl_35, zl_36, zl_37, zl_38, zl_39, zl_40, zl_41, zl_42, zl_43, zl_44, zl_45, zl_46, zl_47, zl_48, zl_49, zl_50, zl_51, zl_52, zl_53, zl_54, zl_55, zl_56, zl_57, zl_58, zl_59, zl_60, zl_97, zl_100, zl_117, zl_120, zl_122, zl_210, zl_255, zl_1000, zl_1890, zl_999999, zm_0, zm_1, zm_2, zm_3, zm_4, zm_5, zm_6, zm_7, zm_8, zm_9, zm_10, zm_11, zm_12, zm_13, zm_14, zm_15, zm_16, zm_17, zm_18, zm_19, zm_20, zm_30, zm_31, zm_40, zm_48, zm_57, zm_60, zm_97, zm_100, zm_122, zm_255, zm_256, zm_823, zm_12345, zm_65536, zm_999999, zm_7824756, zm_1103515245, zm_2147483648, zm_495874698853]
theorem has10 {y : Int32} {nm : Nat} (h : nm ≤ 8) : f_X8_has y (nI nm) = some (bI (inR y 0 (nI nm - 1))) := by
  unfold f_X8_has inR
  rw [zI_of y]
  have h1 := Int32.le_toInt y
  have h2 := Int32.toInt_lt y
  generalize y.toInt = a at *
  simp (disch := omega) only [nI_z, zI_add, zI_sub, zI_mul, zI_neg, zL_add, zL_sub, zL_mul, zL_neg, zI_lt, zI_le, zI_eq, zL_lt, zL_le, zL_eq, zI_div, zI_rm, zL_div, zL_rm, zI_cl, zI_in, zI_l, zL_n, on_2, on_8, on_10, on_72, on_120, zl_72, zl_234, zl_0, zl_1, zl_2, zl_3, zl_4, zl_5, zl_6, zl_7, zl_8, zl_9, zl_10, zl_11, zl_12, zl_13, zl_14, zl_15, zl_16, zl_17, zl_18, zl_19, zl_20, zl_21, zl_22, zl_23, zl_24, zl_25, zl_26, zl_27, zl_28, zl_29, zl_30, zl_31, zl_32, zl_33, zl_34, zl_35, zl_36, zl_37, zl_38, zl_39, zl_40, zl_41, zl_42, zl_43, zl_44, zl_45, zl_46, zl_47, zl_48, zl_49, zl_50, zl_51, zl_52, zl_53, zl_54, zl_55, zl_56, zl_57, zl_58, zl_59, zl_60, zl_97, zl_100, zl_117, zl_120, zl_122, zl_210, zl_255, zl_1000, zl_1890, zl_999999, zm_0, zm_1, zm_2, zm_3, zm_4, zm_5, zm_6, zm_7, zm_8, zm_9, zm_10, zm_11, zm_12, zm_13, zm_14, zm_15, zm_16, zm_17, zm_18, zm_19, zm_20, zm_30, zm_31, zm_40, zm_48, zm_57, zm_60, zm_97, zm_100, zm_122, zm_255, zm_256, zm_823, zm_12345, zm_65536, zm_999999, zm_7824756, zm_1103515245, zm_2147483648, zm_495874698853]
  by_cases c1 : a < 0
  · have : ¬ (0 : Int) ≤ a := by omega
    simp only [c1, this, if_true, decide_false, Bool.false_and, bI_f]
    rfl
  · have d1 : (0 : Int) ≤ a := by omega
    by_cases c2 : (nm : Int) ≤ a
    · have : ¬ a ≤ (nm : Int) - 1 := by omega
      simp only [c1, d1, c2, this, if_true, if_false, decide_false, Bool.and_false, bI_f]
      rfl
    · have : a ≤ (nm : Int) - 1 := by omega
      simp only [c1, d1, c2, this, if_true, if_false, decide_true, Bool.and_true, bI_t]
      rfl
def inT (a f s m : Int32) : Bool := inR a 0 (m - 1) && (inR f 1 9 && inR s 0 9)
theorem isThrow10 {a f s : Int32} {nm : Nat} (h : nm ≤ 8) : f_X10_isThrow a f s (nI nm) = some (bI (inT a f s (nI nm))) := by
  unfold f_X10_isThrow f_X10_isForce f_X10_isSteepness inT
  rw [has10 h, cw, cw]
  cases inR a 0 (nI nm - 1) <;> cases inR f 1 9 <;> cases inR s 0 9 <;> rfl
theorem isThrow11 {a f c : Int32} {s : Nat → Int32} {nm : Nat} (h : nm ≤ 8) (e : s 0 = nI nm) : f_X11_isThrow a f c s = some (bI (inT a f c (nI nm))) := by
  unfold f_X11_isThrow inT
  rw [isStone11 h e, mw f 1 9 (lo' := 1) (hi' := 9) rfl rfl, mw c 0 9 (lo' := 0) (hi' := 9) rfl rfl]
  cases inR a 0 (nI nm - 1) <;> cases inR f 1 9 <;> cases inR c 0 9 <;> rfl
theorem inT_z {a f s : Int32} {nm : Nat} (h : nm ≤ 8) (hT : inT a f s (nI nm) = true) : ∃ (i : Nat) (x t : Int), i < nm ∧ a = nI i ∧ 1 ≤ x ∧ x ≤ 9 ∧ f = zI x ∧ 0 ≤ t ∧ t ≤ 9 ∧ s = zI t := by
  unfold inT at hT
  rw [Bool.and_eq_true, Bool.and_eq_true] at hT
  obtain ⟨h1, h2, h3⟩ := hT
  obtain ⟨x, x1, x2, rfl⟩ := inR_z 1 9 rfl rfl h2
  obtain ⟨t, t1, t2, rfl⟩ := inR_z 0 9 rfl rfl h3
  have e : (nI nm - 1).toInt = (nm : Int) - 1 := by
    rw [nI_z, zl_1, zI_sub, zI_i (by omega) (by omega)]
  obtain ⟨i, i1, i2, rfl⟩ := inR_z 0 ((nm : Int) - 1) rfl e h1
  refine ⟨i.toNat, x, t, by omega, ?_, x1, x2, rfl, t1, t2, rfl⟩
  rw [nI_z, Int.toNat_of_nonneg i1]
theorem kind10 {i nm : Nat} (h : nm ≤ 8) (hi : i < nm) (ks : Nat → Int32) : f_X8_kindOf (nI i) (nI nm) ks = some (ks i) := by
  unfold f_X8_kindOf
  rw [has10 h, show inR (nI i) 0 (nI nm - 1) = true from ?_]
  · simp only [mb0_s, mb1_s, mb2_s, mb3_s, mb4_s, mb5_s, mb6_s, mb7_s, mb8_s, mb9_s, mb10_s, mb11_s, mb12_s, mb13_s, mb14_s, mb15_s, mb16_s, mb17_s, mb18_s, mb19_s, mb20_s, mb21_s, mb22_s, mb23_s, mb24_s, ifI_t, ifI_f, isB_bI, bad10, no10, full10, bad11, badAs11, no11, full11, mb0_s, mb1_s, mb2_s, mb3_s, mb4_s, mb5_s, mb6_s, mb7_s, mb8_s, mb9_s, mb10_s, mb11_s, mb12_s, mb13_s, mb14_s, mb15_s, mb16_s, mb17_s, mb18_s, mb19_s, mb20_s, mb21_s, mb22_s, mb23_s, mb24_s, mg_tt, ib_0_2, ib_0_3, ib_0_4, ib_0_44, ib_0_117, ib_1_2, ib_1_3, ib_1_4, ib_1_117, ib_2_3, ib_2_4, ib_2_117, ib_3_4, ib_3_117, ib_4_117, ib_5_117, ib_44_117, tn_0, tn_1, tn_2, tn_3, tn_4, tn_5, tn_8, tn_10, tn_44, tn_72, cp_0, cp_1, cp_2, cp_3, cp_4]
    have g8 : ¬ (8 : Int) ≤ i := by omega
    simp (disch := omega) only [mb0_s, mb1_s, mb2_s, mb3_s, mb4_s, mb5_s, mb6_s, mb7_s, mb8_s, mb9_s, mb10_s, mb11_s, mb12_s, mb13_s, mb14_s, mb15_s, mb16_s, mb17_s, mb18_s, mb19_s, mb20_s, mb21_s, mb22_s, mb23_s, mb24_s, mg_tt, up_s, if_true, if_false, Int.toNat_natCast, nI_z, zI_add, zI_sub, zI_mul, zI_neg, zL_add, zL_sub, zL_mul, zL_neg, zI_lt, zI_le, zI_eq, zL_lt, zL_le, zL_eq, zI_div, zI_rm, zL_div, zL_rm, zI_cl, zI_in, zI_l, zL_n, on_2, on_8, on_10, on_72, on_120, zl_72, zl_234, zl_0, zl_1, zl_2, zl_3, zl_4, zl_5, zl_6, zl_7, zl_8, zl_9, zl_10, zl_11, zl_12, zl_13, zl_14, zl_15, zl_16, zl_17, zl_18, zl_19, zl_20, zl_21, zl_22, zl_23, zl_24, zl_25, zl_26, zl_27, zl_28, zl_29, zl_30, zl_31, zl_32, zl_33, zl_34, zl_35, zl_36, zl_37, zl_38, zl_39, zl_40, zl_41, zl_42, zl_43, zl_44, zl_45, zl_46, zl_47, zl_48, zl_49, zl_50, zl_51, zl_52, zl_53, zl_54, zl_55, zl_56, zl_57, zl_58, zl_59, zl_60, zl_97, zl_100, zl_117, zl_120, zl_122, zl_210, zl_255, zl_1000, zl_1890, zl_999999, zm_0, zm_1, zm_2, zm_3, zm_4, zm_5, zm_6, zm_7, zm_8, zm_9, zm_10, zm_11, zm_12, zm_13, zm_14, zm_15, zm_16, zm_17, zm_18, zm_19, zm_20, zm_30, zm_31, zm_40, zm_48, zm_57, zm_60, zm_97, zm_100, zm_122, zm_255, zm_256, zm_823, zm_12345, zm_65536, zm_999999, zm_7824756, zm_1103515245, zm_2147483648, zm_495874698853, g8]
  · rw [inR_iff]
    simp (disch := omega) only [nI_z, zI_add, zI_sub, zI_mul, zI_neg, zL_add, zL_sub, zL_mul, zL_neg, zI_lt, zI_le, zI_eq, zL_lt, zL_le, zL_eq, zI_div, zI_rm, zL_div, zL_rm, zI_cl, zI_in, zI_l, zL_n, on_2, on_8, on_10, on_72, on_120, zl_72, zl_234, zl_0, zl_1, zl_2, zl_3, zl_4, zl_5, zl_6, zl_7, zl_8, zl_9, zl_10, zl_11, zl_12, zl_13, zl_14, zl_15, zl_16, zl_17, zl_18, zl_19, zl_20, zl_21, zl_22, zl_23, zl_24, zl_25, zl_26, zl_27, zl_28, zl_29, zl_30, zl_31, zl_32, zl_33, zl_34, zl_35, zl_36, zl_37, zl_38, zl_39, zl_40, zl_41, zl_42, zl_43, zl_44, zl_45, zl_46, zl_47, zl_48, zl_49, zl_50, zl_51, zl_52, zl_53, zl_54, zl_55, zl_56, zl_57, zl_58, zl_59, zl_60, zl_97, zl_100, zl_117, zl_120, zl_122, zl_210, zl_255, zl_1000, zl_1890, zl_999999, zm_0, zm_1, zm_2, zm_3, zm_4, zm_5, zm_6, zm_7, zm_8, zm_9, zm_10, zm_11, zm_12, zm_13, zm_14, zm_15, zm_16, zm_17, zm_18, zm_19, zm_20, zm_30, zm_31, zm_40, zm_48, zm_57, zm_60, zm_97, zm_100, zm_122, zm_255, zm_256, zm_823, zm_12345, zm_65536, zm_999999, zm_7824756, zm_1103515245, zm_2147483648, zm_495874698853, zI_i]
    omega
theorem op_stone {c_now_stones_many : Int32} {c_now_stones_wetness : Int32} {c_now_stones_kinds : Nat → Int32} {c_now_game_player : Int32} {c_now_game_undoable : Int32} {c_now_game_totals : Nat → Int32} {c_now_game_gains : Nat → Int32} {c_now_written_many : Int32} {c_now_written_cells : Nat → Int32} {c_refused : Nat → Int32} {m_s : Nat → Int32} {m_refused : Nat → Int32} (hN : NowR c_now_stones_kinds c_now_stones_many c_now_stones_wetness c_now_game_totals c_now_game_gains c_now_game_player c_now_game_undoable c_now_written_cells c_now_written_many m_s) (hE : RefR c_refused m_refused) (y0 : Int32) : ∃ (r : Int32) (dc_refused : Nat → Int32) (dc_now_stones_many : Int32) (dc_now_stones_kinds : Nat → Int32) (dm_refused : Nat → Int32) (dm_s : Nat → Int32), f_X10_stone y0 c_refused c_now_stones_many c_now_stones_kinds = some (r, dc_refused, dc_now_stones_many, dc_now_stones_kinds) ∧ f_X11_stone y0 m_refused m_s = some (r, dm_refused, dm_s) ∧ NowR dc_now_stones_kinds dc_now_stones_many c_now_stones_wetness c_now_game_totals c_now_game_gains c_now_game_player c_now_game_undoable c_now_written_cells c_now_written_many dm_s ∧ RefR dc_refused dm_refused := by
  obtain ⟨⟨nm, nw, b1, b2, rfl, rfl, e0, e1, hk⟩, hG, hB⟩ := hN
  unfold f_X10_stone f_X11_stone
  rw [cw y0 0 5, mw y0 0 5 (lo' := 0) (hi' := 5) rfl rfl]
  cases hg : inR y0 0 5 with
  | false =>
    simp only [mb0_s, mb1_s, mb2_s, mb3_s, mb4_s, mb5_s, mb6_s, mb7_s, mb8_s, mb9_s, mb10_s, mb11_s, mb12_s, mb13_s, mb14_s, mb15_s, mb16_s, mb17_s, mb18_s, mb19_s, mb20_s, mb21_s, mb22_s, mb23_s, mb24_s, mg_tt, ib_0_2, ib_0_3, ib_0_4, ib_0_44, ib_0_117, ib_1_2, ib_1_3, ib_1_4, ib_1_117, ib_2_3, ib_2_4, ib_2_117, ib_3_4, ib_3_117, ib_4_117, ib_5_117, ib_44_117, tn_0, tn_1, tn_2, tn_3, tn_4, tn_5, tn_8, tn_10, tn_44, tn_72, cp_0, cp_1, cp_2, cp_3, cp_4, ifI_f, bad10, bad11]
    exact ⟨_, _, _, _, _, _, rfl, rfl, ⟨⟨nm, nw, b1, b2, rfl, rfl, e0, e1, hk⟩, hG, hB⟩, hE.bump 0⟩
  | true =>
    obtain ⟨j, -, hj, rfl⟩ := inR_nI 0 5 rfl rfl hg
    by_cases h8 : nm < 8
    · have g8 : (nm : Int) < 8 := by omega
      have g9 : ¬ (8 : Int) ≤ nm := by omega
      have g10 : ¬ (nm : Int) = 8 := by omega
      unfold f_X8_lay
      simp only [mb0_s, mb1_s, mb2_s, mb3_s, mb4_s, mb5_s, mb6_s, mb7_s, mb8_s, mb9_s, mb10_s, mb11_s, mb12_s, mb13_s, mb14_s, mb15_s, mb16_s, mb17_s, mb18_s, mb19_s, mb20_s, mb21_s, mb22_s, mb23_s, mb24_s, ifI_t, ifI_f, isB_bI, bad10, no10, full10, bad11, badAs11, no11, full11, mb0_s, mb1_s, mb2_s, mb3_s, mb4_s, mb5_s, mb6_s, mb7_s, mb8_s, mb9_s, mb10_s, mb11_s, mb12_s, mb13_s, mb14_s, mb15_s, mb16_s, mb17_s, mb18_s, mb19_s, mb20_s, mb21_s, mb22_s, mb23_s, mb24_s, mg_tt, ib_0_2, ib_0_3, ib_0_4, ib_0_44, ib_0_117, ib_1_2, ib_1_3, ib_1_4, ib_1_117, ib_2_3, ib_2_4, ib_2_117, ib_3_4, ib_3_117, ib_4_117, ib_5_117, ib_44_117, tn_0, tn_1, tn_2, tn_3, tn_4, tn_5, tn_8, tn_10, tn_44, tn_72, cp_0, cp_1, cp_2, cp_3, cp_4, e0]
      simp (disch := omega) only [mb0_s, mb1_s, mb2_s, mb3_s, mb4_s, mb5_s, mb6_s, mb7_s, mb8_s, mb9_s, mb10_s, mb11_s, mb12_s, mb13_s, mb14_s, mb15_s, mb16_s, mb17_s, mb18_s, mb19_s, mb20_s, mb21_s, mb22_s, mb23_s, mb24_s, mg_tt, up_s, if_true, if_false, Int.toNat_natCast, nI_z, zI_add, zI_sub, zI_mul, zI_neg, zL_add, zL_sub, zL_mul, zL_neg, zI_lt, zI_le, zI_eq, zL_lt, zL_le, zL_eq, zI_div, zI_rm, zL_div, zL_rm, zI_cl, zI_in, zI_l, zL_n, on_2, on_8, on_10, on_72, on_120, zl_72, zl_234, zl_0, zl_1, zl_2, zl_3, zl_4, zl_5, zl_6, zl_7, zl_8, zl_9, zl_10, zl_11, zl_12, zl_13, zl_14, zl_15, zl_16, zl_17, zl_18, zl_19, zl_20, zl_21, zl_22, zl_23, zl_24, zl_25, zl_26, zl_27, zl_28, zl_29, zl_30, zl_31, zl_32, zl_33, zl_34, zl_35, zl_36, zl_37, zl_38, zl_39, zl_40, zl_41, zl_42, zl_43, zl_44, zl_45, zl_46, zl_47, zl_48, zl_49, zl_50, zl_51, zl_52, zl_53, zl_54, zl_55, zl_56, zl_57, zl_58, zl_59, zl_60, zl_97, zl_100, zl_117, zl_120, zl_122, zl_210, zl_255, zl_1000, zl_1890, zl_999999, zm_0, zm_1, zm_2, zm_3, zm_4, zm_5, zm_6, zm_7, zm_8, zm_9, zm_10, zm_11, zm_12, zm_13, zm_14, zm_15, zm_16, zm_17, zm_18, zm_19, zm_20, zm_30, zm_31, zm_40, zm_48, zm_57, zm_60, zm_97, zm_100, zm_122, zm_255, zm_256, zm_823, zm_12345, zm_65536, zm_999999, zm_7824756, zm_1103515245, zm_2147483648, zm_495874698853, g8, g9, g10, up_n, e0]
      refine ⟨_, _, _, _, _, _, rfl, rfl, ⟨⟨nm + 1, nw, by omega, b2, ?_, rfl, ?_, ?_, fun k hkk => ?_⟩, ?_, ?_⟩, hE⟩
      · rw [nI_z]; congr 1
      · rw [up_s, nI_z]; congr 1
      · rw [up_n (by omega), up_n (by omega)]; exact e1
      · rw [up_n (by omega)]
        by_cases hh : k = nm
        · subst hh
          rw [show ((6 : Int) + (k : Int)).toNat = 6 + k from by omega, up_s, up_s]
          exact ⟨rfl, j, hj, (nI_z j).symm⟩
        · rw [up_n (by omega), up_n (by omega)]
          exact hk k (by omega)
      · exact hG.fr (fun j a b c => by rw [up_n (by omega), up_n (by omega)])
      · exact hB.fr (fun j a b => by rw [up_n (by omega), up_n (by omega)])
    · have g8 : ¬ (nm : Int) < 8 := by omega
      have g10 : (nm : Int) = 8 := by omega
      simp only [mb0_s, mb1_s, mb2_s, mb3_s, mb4_s, mb5_s, mb6_s, mb7_s, mb8_s, mb9_s, mb10_s, mb11_s, mb12_s, mb13_s, mb14_s, mb15_s, mb16_s, mb17_s, mb18_s, mb19_s, mb20_s, mb21_s, mb22_s, mb23_s, mb24_s, ifI_t, ifI_f, isB_bI, bad10, no10, full10, bad11, badAs11, no11, full11, mb0_s, mb1_s, mb2_s, mb3_s, mb4_s, mb5_s, mb6_s, mb7_s, mb8_s, mb9_s, mb10_s, mb11_s, mb12_s, mb13_s, mb14_s, mb15_s, mb16_s, mb17_s, mb18_s, mb19_s, mb20_s, mb21_s, mb22_s, mb23_s, mb24_s, mg_tt, ib_0_2, ib_0_3, ib_0_4, ib_0_44, ib_0_117, ib_1_2, ib_1_3, ib_1_4, ib_1_117, ib_2_3, ib_2_4, ib_2_117, ib_3_4, ib_3_117, ib_4_117, ib_5_117, ib_44_117, tn_0, tn_1, tn_2, tn_3, tn_4, tn_5, tn_8, tn_10, tn_44, tn_72, cp_0, cp_1, cp_2, cp_3, cp_4, e0]
      simp (disch := omega) only [mb0_s, mb1_s, mb2_s, mb3_s, mb4_s, mb5_s, mb6_s, mb7_s, mb8_s, mb9_s, mb10_s, mb11_s, mb12_s, mb13_s, mb14_s, mb15_s, mb16_s, mb17_s, mb18_s, mb19_s, mb20_s, mb21_s, mb22_s, mb23_s, mb24_s, mg_tt, up_s, if_true, if_false, Int.toNat_natCast, nI_z, zI_add, zI_sub, zI_mul, zI_neg, zL_add, zL_sub, zL_mul, zL_neg, zI_lt, zI_le, zI_eq, zL_lt, zL_le, zL_eq, zI_div, zI_rm, zL_div, zL_rm, zI_cl, zI_in, zI_l, zL_n, on_2, on_8, on_10, on_72, on_120, zl_72, zl_234, zl_0, zl_1, zl_2, zl_3, zl_4, zl_5, zl_6, zl_7, zl_8, zl_9, zl_10, zl_11, zl_12, zl_13, zl_14, zl_15, zl_16, zl_17, zl_18, zl_19, zl_20, zl_21, zl_22, zl_23, zl_24, zl_25, zl_26, zl_27, zl_28, zl_29, zl_30, zl_31, zl_32, zl_33, zl_34, zl_35, zl_36, zl_37, zl_38, zl_39, zl_40, zl_41, zl_42, zl_43, zl_44, zl_45, zl_46, zl_47, zl_48, zl_49, zl_50, zl_51, zl_52, zl_53, zl_54, zl_55, zl_56, zl_57, zl_58, zl_59, zl_60, zl_97, zl_100, zl_117, zl_120, zl_122, zl_210, zl_255, zl_1000, zl_1890, zl_999999, zm_0, zm_1, zm_2, zm_3, zm_4, zm_5, zm_6, zm_7, zm_8, zm_9, zm_10, zm_11, zm_12, zm_13, zm_14, zm_15, zm_16, zm_17, zm_18, zm_19, zm_20, zm_30, zm_31, zm_40, zm_48, zm_57, zm_60, zm_97, zm_100, zm_122, zm_255, zm_256, zm_823, zm_12345, zm_65536, zm_999999, zm_7824756, zm_1103515245, zm_2147483648, zm_495874698853, g10, Int.reduceLT]
      exact ⟨_, _, _, _, _, _, rfl, rfl, ⟨⟨nm, nw, b1, b2, by rw [nI_z, g10], rfl, e0, e1, hk⟩, hG, hB⟩, hE.bump 2⟩
theorem op_wet {c_now_stones_many : Int32} {c_now_stones_wetness : Int32} {c_now_stones_kinds : Nat → Int32} {c_now_game_player : Int32} {c_now_game_undoable : Int32} {c_now_game_totals : Nat → Int32} {c_now_game_gains : Nat → Int32} {c_now_written_many : Int32} {c_now_written_cells : Nat → Int32} {c_refused : Nat → Int32} {m_s : Nat → Int32} {m_refused : Nat → Int32} (hN : NowR c_now_stones_kinds c_now_stones_many c_now_stones_wetness c_now_game_totals c_now_game_gains c_now_game_player c_now_game_undoable c_now_written_cells c_now_written_many m_s) (hE : RefR c_refused m_refused) (y0 : Int32) : ∃ (r : Int32) (dc_refused : Nat → Int32) (dc_now_stones_wetness : Int32) (dm_refused : Nat → Int32) (dm_s : Nat → Int32), f_X10_wet y0 c_refused c_now_stones_wetness = some (r, dc_refused, dc_now_stones_wetness) ∧ f_X11_wet y0 m_refused m_s = some (r, dm_refused, dm_s) ∧ NowR c_now_stones_kinds c_now_stones_many dc_now_stones_wetness c_now_game_totals c_now_game_gains c_now_game_player c_now_game_undoable c_now_written_cells c_now_written_many dm_s ∧ RefR dc_refused dm_refused := by
  unfold f_X10_wet f_X11_wet
  rw [cw y0 0 3, mw y0 0 3 (lo' := 0) (hi' := 3) rfl rfl]
  cases hg : inR y0 0 3 with
  | false =>
    simp only [mb0_s, mb1_s, mb2_s, mb3_s, mb4_s, mb5_s, mb6_s, mb7_s, mb8_s, mb9_s, mb10_s, mb11_s, mb12_s, mb13_s, mb14_s, mb15_s, mb16_s, mb17_s, mb18_s, mb19_s, mb20_s, mb21_s, mb22_s, mb23_s, mb24_s, mg_tt, ib_0_2, ib_0_3, ib_0_4, ib_0_44, ib_0_117, ib_1_2, ib_1_3, ib_1_4, ib_1_117, ib_2_3, ib_2_4, ib_2_117, ib_3_4, ib_3_117, ib_4_117, ib_5_117, ib_44_117, tn_0, tn_1, tn_2, tn_3, tn_4, tn_5, tn_8, tn_10, tn_44, tn_72, cp_0, cp_1, cp_2, cp_3, cp_4, ifI_f, bad10, bad11]
    exact ⟨_, _, _, _, _, rfl, rfl, hN, hE.bump 0⟩
  | true =>
    simp only [mb0_s, mb1_s, mb2_s, mb3_s, mb4_s, mb5_s, mb6_s, mb7_s, mb8_s, mb9_s, mb10_s, mb11_s, mb12_s, mb13_s, mb14_s, mb15_s, mb16_s, mb17_s, mb18_s, mb19_s, mb20_s, mb21_s, mb22_s, mb23_s, mb24_s, mg_tt, ib_0_2, ib_0_3, ib_0_4, ib_0_44, ib_0_117, ib_1_2, ib_1_3, ib_1_4, ib_1_117, ib_2_3, ib_2_4, ib_2_117, ib_3_4, ib_3_117, ib_4_117, ib_5_117, ib_44_117, tn_0, tn_1, tn_2, tn_3, tn_4, tn_5, tn_8, tn_10, tn_44, tn_72, cp_0, cp_1, cp_2, cp_3, cp_4, ifI_t]
    obtain ⟨k, -, hk, rfl⟩ := inR_nI 0 3 rfl rfl hg
    obtain ⟨⟨nm, nw, h1, h2, h3, h4, h5, h6, h7⟩, hG, hB⟩ := hN
    rw [h6, h4]
    refine ⟨_, _, _, _, _, rfl, rfl, ⟨⟨nm, k, h1, hk, h3, rfl, ?_, up_s _ _ _, ?_⟩, ?_, ?_⟩, hE⟩
    · rw [up_n (by decide)]; exact h5
    · intro j hj
      rw [up_n (by omega)]
      exact h7 j hj
    · exact hG.fr (fun j a b c => up_n (by omega))
    · exact hB.fr (fun j a b => up_n (by omega))
theorem op_clear {c_text_many : Int32} {c_text_bytes : Nat → Int32} {m_typed : Int32} {m_text : Nat → Int32} (hT : TxtR c_text_many c_text_bytes m_typed m_text) : ∃ (r : Int32) (dc_text_many : Int32) (dm_typed : Int32), f_X10_clear c_text_many = some (r, dc_text_many) ∧ f_X11_clear m_typed = some (r, dm_typed) ∧ TxtR dc_text_many c_text_bytes dm_typed m_text := by
  obtain ⟨n, h1, rfl, rfl, h4⟩ := hT
  exact ⟨_, _, _, rfl, rfl, ⟨0, by omega, rfl, rfl, fun k hk => absurd hk (Nat.not_lt_zero k)⟩⟩
theorem op_tear {c_now_stones_many : Int32} {c_now_stones_wetness : Int32} {c_now_stones_kinds : Nat → Int32} {c_now_game_player : Int32} {c_now_game_undoable : Int32} {c_now_game_totals : Nat → Int32} {c_now_game_gains : Nat → Int32} {c_now_written_many : Int32} {c_now_written_cells : Nat → Int32} {m_s : Nat → Int32} (hN : NowR c_now_stones_kinds c_now_stones_many c_now_stones_wetness c_now_game_totals c_now_game_gains c_now_game_player c_now_game_undoable c_now_written_cells c_now_written_many m_s) : ∃ (r : Int32) (dc_now_written_many : Int32) (dm_s : Nat → Int32), f_X10_tear c_now_written_many = some (r, dc_now_written_many) ∧ f_X11_tear m_s = some (r, dm_s) ∧ NowR c_now_stones_kinds c_now_stones_many c_now_stones_wetness c_now_game_totals c_now_game_gains c_now_game_player c_now_game_undoable c_now_written_cells dc_now_written_many dm_s := by
  obtain ⟨hS, hG, n, h1, rfl, h3, h4⟩ := hN
  unfold f_X10_tear f_X11_tear
  simp only [mb0_s, mb1_s, mb2_s, mb3_s, mb4_s, mb5_s, mb6_s, mb7_s, mb8_s, mb9_s, mb10_s, mb11_s, mb12_s, mb13_s, mb14_s, mb15_s, mb16_s, mb17_s, mb18_s, mb19_s, mb20_s, mb21_s, mb22_s, mb23_s, mb24_s, mg_tt, ib_0_2, ib_0_3, ib_0_4, ib_0_44, ib_0_117, ib_1_2, ib_1_3, ib_1_4, ib_1_117, ib_2_3, ib_2_4, ib_2_117, ib_3_4, ib_3_117, ib_4_117, ib_5_117, ib_44_117, tn_0, tn_1, tn_2, tn_3, tn_4, tn_5, tn_8, tn_10, tn_44, tn_72, cp_0, cp_1, cp_2, cp_3, cp_4, h3]
  refine ⟨_, _, _, rfl, rfl, ⟨hS.fr (fun j a => up_n (by omega)), hG.fr (fun j a b c => up_n (by omega)), 0, by omega, rfl, up_s _ _ _, fun r hr => absurd hr (Nat.not_lt_zero r)⟩⟩
theorem op_on {c_now_stones_many : Int32} {c_now_stones_wetness : Int32} {c_now_stones_kinds : Nat → Int32} {c_now_game_player : Int32} {c_now_game_undoable : Int32} {c_now_game_totals : Nat → Int32} {c_now_game_gains : Nat → Int32} {c_now_written_many : Int32} {c_now_written_cells : Nat → Int32} {m_s : Nat → Int32} (hN : NowR c_now_stones_kinds c_now_stones_many c_now_stones_wetness c_now_game_totals c_now_game_gains c_now_game_player c_now_game_undoable c_now_written_cells c_now_written_many m_s) : ∃ (r : Int32), f_X10_on c_now_game_player = some (r) ∧ f_X11_on m_s = some (r) := by
  obtain ⟨hS, ⟨u, p, h1, h2, h3, rfl, h5, h6, h7⟩, hB⟩ := hN
  unfold f_X10_on f_X11_on
  simp only [mb0_s, mb1_s, mb2_s, mb3_s, mb4_s, mb5_s, mb6_s, mb7_s, mb8_s, mb9_s, mb10_s, mb11_s, mb12_s, mb13_s, mb14_s, mb15_s, mb16_s, mb17_s, mb18_s, mb19_s, mb20_s, mb21_s, mb22_s, mb23_s, mb24_s, mg_tt, ib_0_2, ib_0_3, ib_0_4, ib_0_44, ib_0_117, ib_1_2, ib_1_3, ib_1_4, ib_1_117, ib_2_3, ib_2_4, ib_2_117, ib_3_4, ib_3_117, ib_4_117, ib_5_117, ib_44_117, tn_0, tn_1, tn_2, tn_3, tn_4, tn_5, tn_8, tn_10, tn_44, tn_72, cp_0, cp_1, cp_2, cp_3, cp_4, h6]
  exact ⟨_, rfl, rfl⟩
theorem op_score {c_now_stones_many : Int32} {c_now_stones_wetness : Int32} {c_now_stones_kinds : Nat → Int32} {c_now_game_player : Int32} {c_now_game_undoable : Int32} {c_now_game_totals : Nat → Int32} {c_now_game_gains : Nat → Int32} {c_now_written_many : Int32} {c_now_written_cells : Nat → Int32} {c_refused : Nat → Int32} {m_s : Nat → Int32} {m_refused : Nat → Int32} (hN : NowR c_now_stones_kinds c_now_stones_many c_now_stones_wetness c_now_game_totals c_now_game_gains c_now_game_player c_now_game_undoable c_now_written_cells c_now_written_many m_s) (hE : RefR c_refused m_refused) (y0 : Int32) : ∃ (r : Int32) (dc_refused : Nat → Int32) (dm_refused : Nat → Int32), f_X10_score y0 c_refused c_now_game_totals = some (r, dc_refused) ∧ f_X11_score y0 m_refused m_s = some (r, dm_refused) ∧ RefR dc_refused dm_refused := by
  obtain ⟨hS, ⟨u, p, h1, h2, h3, h4, h5, h6, h7, h8, h9⟩, hB⟩ := hN
  unfold f_X10_score f_X11_score
  rw [cw, mw y0 0 1 (lo' := 0) (hi' := 1) rfl rfl]
  cases hg : inR y0 0 1 with
  | false =>
    simp only [mb0_s, mb1_s, mb2_s, mb3_s, mb4_s, mb5_s, mb6_s, mb7_s, mb8_s, mb9_s, mb10_s, mb11_s, mb12_s, mb13_s, mb14_s, mb15_s, mb16_s, mb17_s, mb18_s, mb19_s, mb20_s, mb21_s, mb22_s, mb23_s, mb24_s, mg_tt, ib_0_2, ib_0_3, ib_0_4, ib_0_44, ib_0_117, ib_1_2, ib_1_3, ib_1_4, ib_1_117, ib_2_3, ib_2_4, ib_2_117, ib_3_4, ib_3_117, ib_4_117, ib_5_117, ib_44_117, tn_0, tn_1, tn_2, tn_3, tn_4, tn_5, tn_8, tn_10, tn_44, tn_72, cp_0, cp_1, cp_2, cp_3, cp_4, ifI_f, bad10, bad11]
    exact ⟨_, _, _, rfl, rfl, hE.bump 0⟩
  | true =>
    obtain ⟨k, -, hk, rfl⟩ := inR_nI 0 1 rfl rfl hg
    obtain rfl | rfl : k = 0 ∨ k = 1 := by omega
    · refine ⟨_, _, _, rfl, ?_, hE⟩
      show some (m_s 2, m_refused) = _
      rw [h7]; rfl
    · refine ⟨_, _, _, rfl, ?_, hE⟩
      show some (m_s 3, m_refused) = _
      rw [h8]; rfl
theorem op_part {c_fraction_above : Int64} {c_fraction_below : Int64} {c_refused : Nat → Int32} {m_above : Int64} {m_below : Int64} {m_refused : Nat → Int32} (hF : FrcR c_fraction_above c_fraction_below m_above m_below) (hE : RefR c_refused m_refused) (y0 : Int32) : ∃ (r : Int64) (dc_refused : Nat → Int32) (dm_refused : Nat → Int32), f_X10_part y0 c_fraction_above c_fraction_below c_refused = some (r, dc_refused) ∧ f_X11_part y0 m_above m_below m_refused = some (r, dm_refused) ∧ RefR dc_refused dm_refused := by
  obtain ⟨rfl, rfl⟩ := hF
  unfold f_X10_part f_X11_part
  rw [cw]
  cases hg : inR y0 0 1 with
  | false =>
    have a0 : ¬ y0 = 0 := by rintro rfl; exact absurd hg (by decide)
    have a1 : ¬ y0 = 1 := by rintro rfl; exact absurd hg (by decide)
    simp only [mb0_s, mb1_s, mb2_s, mb3_s, mb4_s, mb5_s, mb6_s, mb7_s, mb8_s, mb9_s, mb10_s, mb11_s, mb12_s, mb13_s, mb14_s, mb15_s, mb16_s, mb17_s, mb18_s, mb19_s, mb20_s, mb21_s, mb22_s, mb23_s, mb24_s, mg_tt, ib_0_2, ib_0_3, ib_0_4, ib_0_44, ib_0_117, ib_1_2, ib_1_3, ib_1_4, ib_1_117, ib_2_3, ib_2_4, ib_2_117, ib_3_4, ib_3_117, ib_4_117, ib_5_117, ib_44_117, tn_0, tn_1, tn_2, tn_3, tn_4, tn_5, tn_8, tn_10, tn_44, tn_72, cp_0, cp_1, cp_2, cp_3, cp_4, ifI_f, bad10, bad11, a0, a1, if_false]
    exact ⟨_, _, _, rfl, rfl, hE.bump 0⟩
  | true =>
    obtain ⟨k, -, hk, rfl⟩ := inR_nI 0 1 rfl rfl hg
    obtain rfl | rfl : k = 0 ∨ k = 1 := by omega
    · exact ⟨_, _, _, rfl, rfl, hE⟩
    · exact ⟨_, _, _, rfl, rfl, hE⟩
theorem op_status {c_refused : Nat → Int32} {m_refused : Nat → Int32} (hE : RefR c_refused m_refused) (y0 : Int32) : ∃ (r : Int32) (dc_refused : Nat → Int32) (dm_refused : Nat → Int32), f_X10_status y0 c_refused = some (r, dc_refused) ∧ f_X11_status y0 m_refused = some (r, dm_refused) ∧ RefR dc_refused dm_refused := by
  unfold f_X10_status f_X11_status
  rw [cw, mw y0 0 2 (lo' := 0) (hi' := 2) rfl rfl]
  cases hg : inR y0 0 2 with
  | false =>
    simp only [mb0_s, mb1_s, mb2_s, mb3_s, mb4_s, mb5_s, mb6_s, mb7_s, mb8_s, mb9_s, mb10_s, mb11_s, mb12_s, mb13_s, mb14_s, mb15_s, mb16_s, mb17_s, mb18_s, mb19_s, mb20_s, mb21_s, mb22_s, mb23_s, mb24_s, mg_tt, ib_0_2, ib_0_3, ib_0_4, ib_0_44, ib_0_117, ib_1_2, ib_1_3, ib_1_4, ib_1_117, ib_2_3, ib_2_4, ib_2_117, ib_3_4, ib_3_117, ib_4_117, ib_5_117, ib_44_117, tn_0, tn_1, tn_2, tn_3, tn_4, tn_5, tn_8, tn_10, tn_44, tn_72, cp_0, cp_1, cp_2, cp_3, cp_4, ifI_f, bad10, badAs11]
    exact ⟨_, _, _, rfl, rfl, hE.bump 0⟩
  | true =>
    obtain ⟨k, -, hk, rfl⟩ := inR_nI 0 2 rfl rfl hg
    have hb : inB (nI k) 3 = true := inB_nI (by omega) (by omega)
    simp only [mb0_s, mb1_s, mb2_s, mb3_s, mb4_s, mb5_s, mb6_s, mb7_s, mb8_s, mb9_s, mb10_s, mb11_s, mb12_s, mb13_s, mb14_s, mb15_s, mb16_s, mb17_s, mb18_s, mb19_s, mb20_s, mb21_s, mb22_s, mb23_s, mb24_s, mg_tt, ib_0_2, ib_0_3, ib_0_4, ib_0_44, ib_0_117, ib_1_2, ib_1_3, ib_1_4, ib_1_117, ib_2_3, ib_2_4, ib_2_117, ib_3_4, ib_3_117, ib_4_117, ib_5_117, ib_44_117, tn_0, tn_1, tn_2, tn_3, tn_4, tn_5, tn_8, tn_10, tn_44, tn_72, cp_0, cp_1, cp_2, cp_3, cp_4, ifI_t, hb, clN (show k < 2 ^ 31 by omega), hE k (by omega)]
    exact ⟨_, _, _, rfl, rfl, hE⟩
theorem op_count {c_now_stones_many : Int32} {c_now_stones_wetness : Int32} {c_now_stones_kinds : Nat → Int32} {c_now_game_player : Int32} {c_now_game_undoable : Int32} {c_now_game_totals : Nat → Int32} {c_now_game_gains : Nat → Int32} {c_now_written_many : Int32} {c_now_written_cells : Nat → Int32} {c_text_many : Int32} {c_text_bytes : Nat → Int32} {c_refused : Nat → Int32} {m_typed : Int32} {m_s : Nat → Int32} {m_text : Nat → Int32} {m_refused : Nat → Int32} (hN : NowR c_now_stones_kinds c_now_stones_many c_now_stones_wetness c_now_game_totals c_now_game_gains c_now_game_player c_now_game_undoable c_now_written_cells c_now_written_many m_s) (hT : TxtR c_text_many c_text_bytes m_typed m_text) (hE : RefR c_refused m_refused) (y0 : Int32) : ∃ (r : Int32) (dc_refused : Nat → Int32) (dm_refused : Nat → Int32), f_X10_count y0 c_refused c_now_game_undoable c_now_stones_many c_now_stones_wetness c_now_written_many c_text_many = some (r, dc_refused) ∧ f_X11_count y0 m_typed m_refused m_s = some (r, dm_refused) ∧ RefR dc_refused dm_refused := by
  obtain ⟨⟨nm, nw, b1, b2, rfl, rfl, e0, e1, hk⟩, ⟨u, p, h1, h2, rfl, rfl, h5, h6, h7, h8, h9⟩, n, c1, rfl, c3, c4⟩ := hN
  obtain ⟨tn, t1, rfl, rfl, t4⟩ := hT
  unfold f_X10_count f_X11_count f_X10_numberOf f_X11_countOf
  rw [cw, mw y0 0 4 (lo' := 0) (hi' := 4) rfl rfl]
  cases hg : inR y0 0 4 with
  | false =>
    simp only [mb0_s, mb1_s, mb2_s, mb3_s, mb4_s, mb5_s, mb6_s, mb7_s, mb8_s, mb9_s, mb10_s, mb11_s, mb12_s, mb13_s, mb14_s, mb15_s, mb16_s, mb17_s, mb18_s, mb19_s, mb20_s, mb21_s, mb22_s, mb23_s, mb24_s, mg_tt, ib_0_2, ib_0_3, ib_0_4, ib_0_44, ib_0_117, ib_1_2, ib_1_3, ib_1_4, ib_1_117, ib_2_3, ib_2_4, ib_2_117, ib_3_4, ib_3_117, ib_4_117, ib_5_117, ib_44_117, tn_0, tn_1, tn_2, tn_3, tn_4, tn_5, tn_8, tn_10, tn_44, tn_72, cp_0, cp_1, cp_2, cp_3, cp_4, ifI_f, bad10, bad11]
    exact ⟨_, _, _, rfl, rfl, hE.bump 0⟩
  | true =>
    obtain ⟨k, -, hk, rfl⟩ := inR_nI 0 4 rfl rfl hg
    simp only [mb0_s, mb1_s, mb2_s, mb3_s, mb4_s, mb5_s, mb6_s, mb7_s, mb8_s, mb9_s, mb10_s, mb11_s, mb12_s, mb13_s, mb14_s, mb15_s, mb16_s, mb17_s, mb18_s, mb19_s, mb20_s, mb21_s, mb22_s, mb23_s, mb24_s, mg_tt, ib_0_2, ib_0_3, ib_0_4, ib_0_44, ib_0_117, ib_1_2, ib_1_3, ib_1_4, ib_1_117, ib_2_3, ib_2_4, ib_2_117, ib_3_4, ib_3_117, ib_4_117, ib_5_117, ib_44_117, tn_0, tn_1, tn_2, tn_3, tn_4, tn_5, tn_8, tn_10, tn_44, tn_72, cp_0, cp_1, cp_2, cp_3, cp_4, ifI_t, e0, e1, h5, c3]
    obtain rfl | rfl | rfl | rfl | rfl : k = 0 ∨ k = 1 ∨ k = 2 ∨ k = 3 ∨ k = 4 := by omega
    · exact ⟨_, _, _, rfl, rfl, hE⟩
    · exact ⟨_, _, _, rfl, rfl, hE⟩
    · exact ⟨_, _, _, rfl, rfl, hE⟩
    · exact ⟨_, _, _, rfl, rfl, hE⟩
    · exact ⟨_, _, _, rfl, rfl, hE⟩
