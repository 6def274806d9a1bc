set_option maxRecDepth 4000
/-! one throw -/
theorem low10 (k : Int32) : f_X5_lowestEdge k = some (zLow k) := by
  unfold f_X5_lowestEdge zLow
  by_cases h2 : k = 2
  · subst h2; rfl
  · by_cases h5 : k = 5
    · subst h5; rfl
    · by_cases h3 : k = 3
      · subst h3; rfl
      · by_cases h4 : k = 4
        · subst h4; rfl
        · simp only [h2, h3, h4, h5, if_false]
theorem up10 {j : Nat} (hj : j ≤ 5) : f_X5_highestEdge (nI j) = some (zUp (nI j)) := by
  obtain rfl | rfl | rfl | rfl | rfl | rfl : j = 0 ∨ j = 1 ∨ j = 2 ∨ j = 3 ∨ j = 4 ∨ j = 5 := by omega
  all_goals rfl
theorem way10 {j : Nat} (hj : j ≤ 5) (w f s : Int32) : f_X5_wayOf (nI j) w f s = some (zWay (nI j) w f s) := by
  unfold f_X5_wayOf zWay
  simp only [mb0_s, mb1_s, mb2_s, mb3_s, mb4_s, mb5_s, mb6_s, mb7_s, mb8_s, mb9_s, mb10_s, mb11_s, mb12_s, mb13_s, mb14_s, mb15_s, mb16_s, mb17_s, mb18_s, mb19_s, mb20_s, mb21_s, mb22_s, mb23_s, mb24_s, mg_tt, ib_0_2, ib_0_3, ib_0_4, ib_0_44, ib_0_117, ib_1_2, ib_1_3, ib_1_4, ib_1_117, ib_2_3, ib_2_4, ib_2_117, ib_3_4, ib_3_117, ib_4_117, ib_5_117, ib_44_117, tn_0, tn_1, tn_2, tn_3, tn_4, tn_5, tn_8, tn_10, tn_44, tn_72, cp_0, cp_1, cp_2, cp_3, cp_4, low10, up10 hj]
  by_cases h1 : f - w < 2
  · rw [if_pos h1, if_neg (Int32.not_le.mpr h1)]
  · rw [if_neg h1, if_pos (Int32.not_lt.mp h1)]
    by_cases h2 : 2 * s + f - w < zLow (nI j)
    · rw [if_pos h2, if_neg (Int32.not_le.mpr h2)]
    · rw [if_neg h2, if_pos (Int32.not_lt.mp h2)]
      by_cases h3 : zUp (nI j) < 2 * s + f - w
      · rw [if_pos h3, if_pos h3]
      · rw [if_neg h3, if_neg h3]
theorem yds10 {j : Nat} (hj : j ≤ 5) (f s : Int32) : f_X5_yardsOfEdge (nI j) f s = some (zYds (nI j) f s) := by
  obtain rfl | rfl | rfl | rfl | rfl | rfl : j = 0 ∨ j = 1 ∨ j = 2 ∨ j = 3 ∨ j = 4 ∨ j = 5 := by omega
  all_goals rfl
theorem bck10 {j : Nat} (hj : j ≤ 5) (w f s : Int32) : f_X5_yardsOf (zWay (nI j) w f s) (nI j) f s = some (zBck (nI j) w f s) := by
  unfold f_X5_yardsOf zBck
  simp only [mb0_s, mb1_s, mb2_s, mb3_s, mb4_s, mb5_s, mb6_s, mb7_s, mb8_s, mb9_s, mb10_s, mb11_s, mb12_s, mb13_s, mb14_s, mb15_s, mb16_s, mb17_s, mb18_s, mb19_s, mb20_s, mb21_s, mb22_s, mb23_s, mb24_s, mg_tt, ib_0_2, ib_0_3, ib_0_4, ib_0_44, ib_0_117, ib_1_2, ib_1_3, ib_1_4, ib_1_117, ib_2_3, ib_2_4, ib_2_117, ib_3_4, ib_3_117, ib_4_117, ib_5_117, ib_44_117, tn_0, tn_1, tn_2, tn_3, tn_4, tn_5, tn_8, tn_10, tn_44, tn_72, cp_0, cp_1, cp_2, cp_3, cp_4, yds10 hj]
  split
  · rfl
  · split <;> rfl
theorem pnt10 (yd y : Int32) : f_X5_pointsOfEdge yd y = some (zPnt yd y) := by
  unfold f_X5_pointsOfEdge zPnt
  by_cases h1 : y + 1 < yd
  · rw [if_pos h1, if_pos h1]
  · rw [if_neg h1, if_neg h1]
    by_cases h2 : yd < y - 4
    · rw [if_pos h2, if_neg (Int32.not_le.mpr h2)]
    · rw [if_neg h2, if_pos (Int32.not_lt.mp h2)]
      split <;> rfl
theorem pts10 {j : Nat} (hj : j ≤ 5) (w f s y : Int32) : f_X5_pointsOf (nI j) w f s y = some (zPts (nI j) w f s y) := by
  unfold f_X5_pointsOf zPts
  simp only [mb0_s, mb1_s, mb2_s, mb3_s, mb4_s, mb5_s, mb6_s, mb7_s, mb8_s, mb9_s, mb10_s, mb11_s, mb12_s, mb13_s, mb14_s, mb15_s, mb16_s, mb17_s, mb18_s, mb19_s, mb20_s, mb21_s, mb22_s, mb23_s, mb24_s, mg_tt, ib_0_2, ib_0_3, ib_0_4, ib_0_44, ib_0_117, ib_1_2, ib_1_3, ib_1_4, ib_1_117, ib_2_3, ib_2_4, ib_2_117, ib_3_4, ib_3_117, ib_4_117, ib_5_117, ib_44_117, tn_0, tn_1, tn_2, tn_3, tn_4, tn_5, tn_8, tn_10, tn_44, tn_72, cp_0, cp_1, cp_2, cp_3, cp_4, way10 hj, yds10 hj, pnt10]
  split <;> rfl
/-- what the model knows of stone i -/
def At (s : Nat → Int32) (i j w nm : Nat) : Prop := nm ≤ 8 ∧ i < nm ∧ j ≤ 5 ∧ w ≤ 3 ∧ s 0 = nI nm ∧ s 1 = nI w ∧ s (6 + i) = nI j
theorem inI {i : Nat} (h : i < 8) : inB (6 + nI i) 117 = true ∧ (6 + nI i).toNatClampNeg = 6 + i := by
  simp (disch := omega) only [nI_z, zI_add, zI_sub, zI_mul, zI_neg, zL_add, zL_sub, zL_mul, zL_neg, zI_lt, zI_le, zI_eq, zL_lt, zL_le, zL_eq, zI_div, zI_rm, zL_div, zL_rm, zI_cl, zI_in, zI_l, zL_n, on_2, on_8, on_10, on_72, on_120, zl_72, zl_234, zl_0, zl_1, zl_2, zl_3, zl_4, zl_5, zl_6, zl_7, zl_8, zl_9, zl_10, zl_11, zl_12, zl_13, zl_14, zl_15, zl_16, zl_17, zl_18, zl_19, zl_20, zl_21, zl_22, zl_23, zl_24, zl_25, zl_26, zl_27, zl_28, zl_29, zl_30, zl_31, zl_32, zl_33, zl_34, zl_35, zl_36, zl_37, zl_38, zl_39, zl_40, zl_41, zl_42, zl_43, zl_44, zl_45, zl_46, zl_47, zl_48, zl_49, zl_50, zl_51, zl_52, zl_53, zl_54, zl_55, zl_56, zl_57, zl_58, zl_59, zl_60, zl_97, zl_100, zl_117, zl_120, zl_122, zl_210, zl_255, zl_1000, zl_1890, zl_999999, zm_0, zm_1, zm_2, zm_3, zm_4, zm_5, zm_6, zm_7, zm_8, zm_9, zm_10, zm_11, zm_12, zm_13, zm_14, zm_15, zm_16, zm_17, zm_18, zm_19, zm_20, zm_30, zm_31, zm_40, zm_48, zm_57, zm_60, zm_97, zm_100, zm_122, zm_255, zm_256, zm_823, zm_12345, zm_65536, zm_999999, zm_7824756, zm_1103515245, zm_2147483648, zm_495874698853, true_and]
  omega
theorem way11c (s : Nat → Int32) (w f h lo up : Int32) (e : s 1 = w) : f_X11_wayOf_L108 s f h lo up = some (if f - w < 2 then 0 else if h < lo then 1 else if up < h then 3 else 2) := by
  unfold f_X11_wayOf_L108
  simp only [mb0_s, mb1_s, mb2_s, mb3_s, mb4_s, mb5_s, mb6_s, mb7_s, mb8_s, mb9_s, mb10_s, mb11_s, mb12_s, mb13_s, mb14_s, mb15_s, mb16_s, mb17_s, mb18_s, mb19_s, mb20_s, mb21_s, mb22_s, mb23_s, mb24_s, mg_tt, ib_0_2, ib_0_3, ib_0_4, ib_0_44, ib_0_117, ib_1_2, ib_1_3, ib_1_4, ib_1_117, ib_2_3, ib_2_4, ib_2_117, ib_3_4, ib_3_117, ib_4_117, ib_5_117, ib_44_117, tn_0, tn_1, tn_2, tn_3, tn_4, tn_5, tn_8, tn_10, tn_44, tn_72, cp_0, cp_1, cp_2, cp_3, cp_4, e]
  by_cases h1 : f - w < 2
  · rw [if_pos h1, if_neg (Int32.not_le.mpr h1)]
  · rw [if_neg h1, if_pos (Int32.not_lt.mp h1)]
    by_cases h2 : h < lo
    · rw [if_pos h2, if_neg (Int32.not_le.mpr h2)]
    · rw [if_neg h2, if_pos (Int32.not_lt.mp h2)]
      by_cases h3 : up < h
      · rw [if_pos h3, if_neg (Int32.not_le.mpr h3)]
      · rw [if_neg h3, if_pos (Int32.not_lt.mp h3)]
theorem way11 {s : Nat → Int32} {i j w nm : Nat} (h : At s i j w nm) (f c : Int32) : f_X11_wayOf (nI i) f c s = some (zWay (nI j) (nI w) f c) := by
  obtain ⟨a1, a2, a3, a4, a5, a6, a7⟩ := h
  have e : ∀ lo up : Int32, f_X11_wayOf_L108 s f (2 * c + f - nI w) lo up = some (if f - nI w < 2 then 0 else if 2 * c + f - nI w < lo then 1 else if up < 2 * c + f - nI w then 3 else 2) := fun lo up => way11c s _ _ _ _ _ a6
  unfold f_X11_wayOf
  simp only [mb0_s, mb1_s, mb2_s, mb3_s, mb4_s, mb5_s, mb6_s, mb7_s, mb8_s, mb9_s, mb10_s, mb11_s, mb12_s, mb13_s, mb14_s, mb15_s, mb16_s, mb17_s, mb18_s, mb19_s, mb20_s, mb21_s, mb22_s, mb23_s, mb24_s, mg_tt, ib_0_2, ib_0_3, ib_0_4, ib_0_44, ib_0_117, ib_1_2, ib_1_3, ib_1_4, ib_1_117, ib_2_3, ib_2_4, ib_2_117, ib_3_4, ib_3_117, ib_4_117, ib_5_117, ib_44_117, tn_0, tn_1, tn_2, tn_3, tn_4, tn_5, tn_8, tn_10, tn_44, tn_72, cp_0, cp_1, cp_2, cp_3, cp_4, inI (show i < 8 by omega), a6, a7]
  obtain rfl | rfl | rfl | rfl | rfl | rfl : j = 0 ∨ j = 1 ∨ j = 2 ∨ j = 3 ∨ j = 4 ∨ j = 5 := by omega
  · exact e 14 16
  · exact e 14 15
  · exact e 10 11
  · exact e 13 15
  · exact e 17 19
  · exact e 10 11
theorem way2 {j w : Nat} (hw : w ≤ 3) {F C : Int} (f1 : -20 ≤ F) (f2 : F ≤ 20) (h : zWay (nI j) (nI w) (zI F) (zI C) = 2) : 2 ≤ F := by
  unfold zWay at h
  by_cases c : zI F - nI w < 2
  · rw [if_pos c] at h
    exact absurd h (by decide)
  · simp (disch := omega) only [nI_z, zI_add, zI_sub, zI_mul, zI_neg, zL_add, zL_sub, zL_mul, zL_neg, zI_lt, zI_le, zI_eq, zL_lt, zL_le, zL_eq, zI_div, zI_rm, zL_div, zL_rm, zI_cl, zI_in, zI_l, zL_n, on_2, on_8, on_10, on_72, on_120, zl_72, zl_234, zl_0, zl_1, zl_2, zl_3, zl_4, zl_5, zl_6, zl_7, zl_8, zl_9, zl_10, zl_11, zl_12, zl_13, zl_14, zl_15, zl_16, zl_17, zl_18, zl_19, zl_20, zl_21, zl_22, zl_23, zl_24, zl_25, zl_26, zl_27, zl_28, zl_29, zl_30, zl_31, zl_32, zl_33, zl_34, zl_35, zl_36, zl_37, zl_38, zl_39, zl_40, zl_41, zl_42, zl_43, zl_44, zl_45, zl_46, zl_47, zl_48, zl_49, zl_50, zl_51, zl_52, zl_53, zl_54, zl_55, zl_56, zl_57, zl_58, zl_59, zl_60, zl_97, zl_100, zl_117, zl_120, zl_122, zl_210, zl_255, zl_1000, zl_1890, zl_999999, zm_0, zm_1, zm_2, zm_3, zm_4, zm_5, zm_6, zm_7, zm_8, zm_9, zm_10, zm_11, zm_12, zm_13, zm_14, zm_15, zm_16, zm_17, zm_18, zm_19, zm_20, zm_30, zm_31, zm_40, zm_48, zm_57, zm_60, zm_97, zm_100, zm_122, zm_255, zm_256, zm_823, zm_12345, zm_65536, zm_999999, zm_7824756, zm_1103515245, zm_2147483648, zm_495874698853] at c
    omega
/-- the model's yards: cut to 0, then halved -/
theorem bck11 {s : Nat → Int32} {i j w nm : Nat} (h : At s i j w nm) {F C : Int} (f1 : -20 ≤ F) (f2 : F ≤ 20) (c1 : -20 ≤ C) (c2 : C ≤ 20) (h0 : -1 ≤ C) : f_X11_backOf (nI i) (zI F) (zI C) s = some (zBck (nI j) (nI w) (zI F) (zI C)) := by
  obtain ⟨a1, a2, a3, a4, a5, a6, a7⟩ := h
  unfold f_X11_backOf
  simp only [mb0_s, mb1_s, mb2_s, mb3_s, mb4_s, mb5_s, mb6_s, mb7_s, mb8_s, mb9_s, mb10_s, mb11_s, mb12_s, mb13_s, mb14_s, mb15_s, mb16_s, mb17_s, mb18_s, mb19_s, mb20_s, mb21_s, mb22_s, mb23_s, mb24_s, mg_tt, ib_0_2, ib_0_3, ib_0_4, ib_0_44, ib_0_117, ib_1_2, ib_1_3, ib_1_4, ib_1_117, ib_2_3, ib_2_4, ib_2_117, ib_3_4, ib_3_117, ib_4_117, ib_5_117, ib_44_117, tn_0, tn_1, tn_2, tn_3, tn_4, tn_5, tn_8, tn_10, tn_44, tn_72, cp_0, cp_1, cp_2, cp_3, cp_4, way11 ⟨a1, a2, a3, a4, a5, a6, a7⟩, inI (show i < 8 by omega), a7]
  unfold zBck
  generalize hW : zWay (nI j) (nI w) (zI F) (zI C) = W
  by_cases w1 : W = 1
  · rw [if_pos w1, if_pos w1]
  · rw [if_neg w1, if_neg w1]
    have tl : ∀ k : Int32, f_X11_backOf_L79 s k = some 0 := by
      intro k
      unfold f_X11_backOf_L79 f_X11_backOf_L85
      split <;> rfl
    have t66 : ∀ (k : Int32) (a : Int), -100 ≤ a → a ≤ 100 → f_X11_backOf_L66 s W k (zI a) = some (if W = 2 then (if k = 3 then zI ((max 0 a) / 2) else zI (max 0 a)) else 0) := by
      intro k a g1 g2
      unfold f_X11_backOf_L66 f_X11_backOf_L85
      rw [tl]
      by_cases w2 : W = 2
      · simp (disch := omega) only [mb0_s, mb1_s, mb2_s, mb3_s, mb4_s, mb5_s, mb6_s, mb7_s, mb8_s, mb9_s, mb10_s, mb11_s, mb12_s, mb13_s, mb14_s, mb15_s, mb16_s, mb17_s, mb18_s, mb19_s, mb20_s, mb21_s, mb22_s, mb23_s, mb24_s, mg_tt, up_s, if_true, if_false, Int.toNat_natCast, nI_z, zI_add, zI_sub, zI_mul, zI_neg, zL_add, zL_sub, zL_mul, zL_neg, zI_lt, zI_le, zI_eq, zL_lt, zL_le, zL_eq, zI_div, zI_rm, zL_div, zL_rm, zI_cl, zI_in, zI_l, zL_n, on_2, on_8, on_10, on_72, on_120, zl_72, zl_234, zl_0, zl_1, zl_2, zl_3, zl_4, zl_5, zl_6, zl_7, zl_8, zl_9, zl_10, zl_11, zl_12, zl_13, zl_14, zl_15, zl_16, zl_17, zl_18, zl_19, zl_20, zl_21, zl_22, zl_23, zl_24, zl_25, zl_26, zl_27, zl_28, zl_29, zl_30, zl_31, zl_32, zl_33, zl_34, zl_35, zl_36, zl_37, zl_38, zl_39, zl_40, zl_41, zl_42, zl_43, zl_44, zl_45, zl_46, zl_47, zl_48, zl_49, zl_50, zl_51, zl_52, zl_53, zl_54, zl_55, zl_56, zl_57, zl_58, zl_59, zl_60, zl_97, zl_100, zl_117, zl_120, zl_122, zl_210, zl_255, zl_1000, zl_1890, zl_999999, zm_0, zm_1, zm_2, zm_3, zm_4, zm_5, zm_6, zm_7, zm_8, zm_9, zm_10, zm_11, zm_12, zm_13, zm_14, zm_15, zm_16, zm_17, zm_18, zm_19, zm_20, zm_30, zm_31, zm_40, zm_48, zm_57, zm_60, zm_97, zm_100, zm_122, zm_255, zm_256, zm_823, zm_12345, zm_65536, zm_999999, zm_7824756, zm_1103515245, zm_2147483648, zm_495874698853, w2]
        by_cases g : a < 0
        · rw [if_pos g, show max 0 a = 0 from by omega]; split <;> rfl
        · rw [if_neg g, show max 0 a = a from by omega]
          split <;> rfl
      · rw [if_neg w2, if_neg w2]; split <;> rfl
    have t41 : ∀ k : Int32, f_X11_backOf_L41 s (zI F) (zI C) W k = f_X11_backOf_L66 s W k (zI (F + C)) := by
      intro k
      unfold f_X11_backOf_L41
      rw [zI_add]
    rw [t41, show zI F + zI C + 1 = zI (F + C + 1) from by rw [zI_add, zl_1, zI_add], show zI F + zI C - 2 = zI (F + C - 2) from by rw [zI_add, zl_2, zI_sub]]
    rw [t66 _ _ (by omega) (by omega), t66 _ _ (by omega) (by omega), t66 _ _ (by omega) (by omega)]
    have dn : zI F + zI C - 2 = zI (F + C - 2) := by rw [zI_add, zl_2, zI_sub]
    by_cases w2 : W = 2
    · have hF := way2 a4 f1 f2 (hW.trans w2)
      simp only [w2, if_true]
      obtain rfl | rfl | rfl | rfl | rfl | rfl : j = 0 ∨ j = 1 ∨ j = 2 ∨ j = 3 ∨ j = 4 ∨ j = 5 := by omega
      · show some (zI (max 0 (F + C))) = some (zI F + zI C)
        rw [zI_add, show max 0 (F + C) = F + C from by omega]
      · show some (zI (max 0 (F + C - 2))) = some (imx 0 (zI F + zI C - 2))
        rw [dn, imx]
        simp (disch := omega) only [mb0_s, mb1_s, mb2_s, mb3_s, mb4_s, mb5_s, mb6_s, mb7_s, mb8_s, mb9_s, mb10_s, mb11_s, mb12_s, mb13_s, mb14_s, mb15_s, mb16_s, mb17_s, mb18_s, mb19_s, mb20_s, mb21_s, mb22_s, mb23_s, mb24_s, mg_tt, up_s, if_true, if_false, Int.toNat_natCast, nI_z, zI_add, zI_sub, zI_mul, zI_neg, zL_add, zL_sub, zL_mul, zL_neg, zI_lt, zI_le, zI_eq, zL_lt, zL_le, zL_eq, zI_div, zI_rm, zL_div, zL_rm, zI_cl, zI_in, zI_l, zL_n, on_2, on_8, on_10, on_72, on_120, zl_72, zl_234, zl_0, zl_1, zl_2, zl_3, zl_4, zl_5, zl_6, zl_7, zl_8, zl_9, zl_10, zl_11, zl_12, zl_13, zl_14, zl_15, zl_16, zl_17, zl_18, zl_19, zl_20, zl_21, zl_22, zl_23, zl_24, zl_25, zl_26, zl_27, zl_28, zl_29, zl_30, zl_31, zl_32, zl_33, zl_34, zl_35, zl_36, zl_37, zl_38, zl_39, zl_40, zl_41, zl_42, zl_43, zl_44, zl_45, zl_46, zl_47, zl_48, zl_49, zl_50, zl_51, zl_52, zl_53, zl_54, zl_55, zl_56, zl_57, zl_58, zl_59, zl_60, zl_97, zl_100, zl_117, zl_120, zl_122, zl_210, zl_255, zl_1000, zl_1890, zl_999999, zm_0, zm_1, zm_2, zm_3, zm_4, zm_5, zm_6, zm_7, zm_8, zm_9, zm_10, zm_11, zm_12, zm_13, zm_14, zm_15, zm_16, zm_17, zm_18, zm_19, zm_20, zm_30, zm_31, zm_40, zm_48, zm_57, zm_60, zm_97, zm_100, zm_122, zm_255, zm_256, zm_823, zm_12345, zm_65536, zm_999999, zm_7824756, zm_1103515245, zm_2147483648, zm_495874698853]
        split
        · rw [show max 0 (F + C - 2) = F + C - 2 from by omega]
        · rw [show max 0 (F + C - 2) = 0 from by omega]
      · show some (zI (max 0 (F + C - 2))) = some (imx 0 (zI F + zI C - 2))
        rw [dn, imx]
        simp (disch := omega) only [mb0_s, mb1_s, mb2_s, mb3_s, mb4_s, mb5_s, mb6_s, mb7_s, mb8_s, mb9_s, mb10_s, mb11_s, mb12_s, mb13_s, mb14_s, mb15_s, mb16_s, mb17_s, mb18_s, mb19_s, mb20_s, mb21_s, mb22_s, mb23_s, mb24_s, mg_tt, up_s, if_true, if_false, Int.toNat_natCast, nI_z, zI_add, zI_sub, zI_mul, zI_neg, zL_add, zL_sub, zL_mul, zL_neg, zI_lt, zI_le, zI_eq, zL_lt, zL_le, zL_eq, zI_div, zI_rm, zL_div, zL_rm, zI_cl, zI_in, zI_l, zL_n, on_2, on_8, on_10, on_72, on_120, zl_72, zl_234, zl_0, zl_1, zl_2, zl_3, zl_4, zl_5, zl_6, zl_7, zl_8, zl_9, zl_10, zl_11, zl_12, zl_13, zl_14, zl_15, zl_16, zl_17, zl_18, zl_19, zl_20, zl_21, zl_22, zl_23, zl_24, zl_25, zl_26, zl_27, zl_28, zl_29, zl_30, zl_31, zl_32, zl_33, zl_34, zl_35, zl_36, zl_37, zl_38, zl_39, zl_40, zl_41, zl_42, zl_43, zl_44, zl_45, zl_46, zl_47, zl_48, zl_49, zl_50, zl_51, zl_52, zl_53, zl_54, zl_55, zl_56, zl_57, zl_58, zl_59, zl_60, zl_97, zl_100, zl_117, zl_120, zl_122, zl_210, zl_255, zl_1000, zl_1890, zl_999999, zm_0, zm_1, zm_2, zm_3, zm_4, zm_5, zm_6, zm_7, zm_8, zm_9, zm_10, zm_11, zm_12, zm_13, zm_14, zm_15, zm_16, zm_17, zm_18, zm_19, zm_20, zm_30, zm_31, zm_40, zm_48, zm_57, zm_60, zm_97, zm_100, zm_122, zm_255, zm_256, zm_823, zm_12345, zm_65536, zm_999999, zm_7824756, zm_1103515245, zm_2147483648, zm_495874698853]
        split
        · rw [show max 0 (F + C - 2) = F + C - 2 from by omega]
        · rw [show max 0 (F + C - 2) = 0 from by omega]
      · show some (zI (max 0 (F + C - 2) / 2)) = some (imx 0 ((zI F + zI C - 2) / 2))
        rw [dn, imx]
        by_cases g : 0 ≤ F + C - 2
        · simp (disch := omega) only [mb0_s, mb1_s, mb2_s, mb3_s, mb4_s, mb5_s, mb6_s, mb7_s, mb8_s, mb9_s, mb10_s, mb11_s, mb12_s, mb13_s, mb14_s, mb15_s, mb16_s, mb17_s, mb18_s, mb19_s, mb20_s, mb21_s, mb22_s, mb23_s, mb24_s, mg_tt, up_s, if_true, if_false, Int.toNat_natCast, nI_z, zI_add, zI_sub, zI_mul, zI_neg, zL_add, zL_sub, zL_mul, zL_neg, zI_lt, zI_le, zI_eq, zL_lt, zL_le, zL_eq, zI_div, zI_rm, zL_div, zL_rm, zI_cl, zI_in, zI_l, zL_n, on_2, on_8, on_10, on_72, on_120, zl_72, zl_234, zl_0, zl_1, zl_2, zl_3, zl_4, zl_5, zl_6, zl_7, zl_8, zl_9, zl_10, zl_11, zl_12, zl_13, zl_14, zl_15, zl_16, zl_17, zl_18, zl_19, zl_20, zl_21, zl_22, zl_23, zl_24, zl_25, zl_26, zl_27, zl_28, zl_29, zl_30, zl_31, zl_32, zl_33, zl_34, zl_35, zl_36, zl_37, zl_38, zl_39, zl_40, zl_41, zl_42, zl_43, zl_44, zl_45, zl_46, zl_47, zl_48, zl_49, zl_50, zl_51, zl_52, zl_53, zl_54, zl_55, zl_56, zl_57, zl_58, zl_59, zl_60, zl_97, zl_100, zl_117, zl_120, zl_122, zl_210, zl_255, zl_1000, zl_1890, zl_999999, zm_0, zm_1, zm_2, zm_3, zm_4, zm_5, zm_6, zm_7, zm_8, zm_9, zm_10, zm_11, zm_12, zm_13, zm_14, zm_15, zm_16, zm_17, zm_18, zm_19, zm_20, zm_30, zm_31, zm_40, zm_48, zm_57, zm_60, zm_97, zm_100, zm_122, zm_255, zm_256, zm_823, zm_12345, zm_65536, zm_999999, zm_7824756, zm_1103515245, zm_2147483648, zm_495874698853]
          split
          · rw [show max 0 (F + C - 2) = F + C - 2 from by omega]
          · rw [show max 0 (F + C - 2) / 2 = 0 from by omega]
        · have : F + C - 2 = -1 ∨ F + C - 2 = -2 := by omega
          obtain g | g := this
          · rw [g]; rfl
          · rw [g]; rfl
      · show some (zI (max 0 (F + C + 1))) = some (zI F + zI C + 1)
        rw [zI_add, zl_1, zI_add, show max 0 (F + C + 1) = F + C + 1 from by omega]
      · show some (zI (max 0 (F + C))) = some (zI F + zI C)
        rw [zI_add, show max 0 (F + C) = F + C from by omega]
    · simp only [w2, if_false]
      split <;> (try split) <;> (try split) <;> rfl
/-- the yards of an edge are a small number -/
theorem zYds_r {j : Nat} (hj : j ≤ 5) {F C : Int} (f1 : -20 ≤ F) (f2 : F ≤ 20) (c1 : -20 ≤ C) (c2 : C ≤ 20) (h0 : 0 ≤ F + C) : ∃ e : Int, 0 ≤ e ∧ e ≤ F + C + 1 ∧ zYds (nI j) (zI F) (zI C) = zI e := by
  have dn : zI F + zI C - 2 = zI (F + C - 2) := by rw [zI_add, zl_2, zI_sub]
  obtain rfl | rfl | rfl | rfl | rfl | rfl : j = 0 ∨ j = 1 ∨ j = 2 ∨ j = 3 ∨ j = 4 ∨ j = 5 := by omega
  · exact ⟨F + C, by omega, by omega, zI_add F C⟩
  · refine ⟨max 0 (F + C - 2), by omega, by omega, ?_⟩
    show imx 0 (zI F + zI C - 2) = _
    rw [dn, imx]
    simp (disch := omega) only [mb0_s, mb1_s, mb2_s, mb3_s, mb4_s, mb5_s, mb6_s, mb7_s, mb8_s, mb9_s, mb10_s, mb11_s, mb12_s, mb13_s, mb14_s, mb15_s, mb16_s, mb17_s, mb18_s, mb19_s, mb20_s, mb21_s, mb22_s, mb23_s, mb24_s, mg_tt, up_s, if_true, if_false, Int.toNat_natCast, nI_z, zI_add, zI_sub, zI_mul, zI_neg, zL_add, zL_sub, zL_mul, zL_neg, zI_lt, zI_le, zI_eq, zL_lt, zL_le, zL_eq, zI_div, zI_rm, zL_div, zL_rm, zI_cl, zI_in, zI_l, zL_n, on_2, on_8, on_10, on_72, on_120, zl_72, zl_234, zl_0, zl_1, zl_2, zl_3, zl_4, zl_5, zl_6, zl_7, zl_8, zl_9, zl_10, zl_11, zl_12, zl_13, zl_14, zl_15, zl_16, zl_17, zl_18, zl_19, zl_20, zl_21, zl_22, zl_23, zl_24, zl_25, zl_26, zl_27, zl_28, zl_29, zl_30, zl_31, zl_32, zl_33, zl_34, zl_35, zl_36, zl_37, zl_38, zl_39, zl_40, zl_41, zl_42, zl_43, zl_44, zl_45, zl_46, zl_47, zl_48, zl_49, zl_50, zl_51, zl_52, zl_53, zl_54, zl_55, zl_56, zl_57, zl_58, zl_59, zl_60, zl_97, zl_100, zl_117, zl_120, zl_122, zl_210, zl_255, zl_1000, zl_1890, zl_999999, zm_0, zm_1, zm_2, zm_3, zm_4, zm_5, zm_6, zm_7, zm_8, zm_9, zm_10, zm_11, zm_12, zm_13, zm_14, zm_15, zm_16, zm_17, zm_18, zm_19, zm_20, zm_30, zm_31, zm_40, zm_48, zm_57, zm_60, zm_97, zm_100, zm_122, zm_255, zm_256, zm_823, zm_12345, zm_65536, zm_999999, zm_7824756, zm_1103515245, zm_2147483648, zm_495874698853]
    split
    · rw [show max 0 (F + C - 2) = F + C - 2 from by omega]
    · rw [show max 0 (F + C - 2) = 0 from by omega]
  · refine ⟨max 0 (F + C - 2), by omega, by omega, ?_⟩
    show imx 0 (zI F + zI C - 2) = _
    rw [dn, imx]
    simp (disch := omega) only [mb0_s, mb1_s, mb2_s, mb3_s, mb4_s, mb5_s, mb6_s, mb7_s, mb8_s, mb9_s, mb10_s, mb11_s, mb12_s, mb13_s, mb14_s, mb15_s, mb16_s, mb17_s, mb18_s, mb19_s, mb20_s, mb21_s, mb22_s, mb23_s, mb24_s, mg_tt, up_s, if_true, if_false, Int.toNat_natCast, nI_z, zI_add, zI_sub, zI_mul, zI_neg, zL_add, zL_sub, zL_mul, zL_neg, zI_lt, zI_le, zI_eq, zL_lt, zL_le, zL_eq, zI_div, zI_rm, zL_div, zL_rm, zI_cl, zI_in, zI_l, zL_n, on_2, on_8, on_10, on_72, on_120, zl_72, zl_234, zl_0, zl_1, zl_2, zl_3, zl_4, zl_5, zl_6, zl_7, zl_8, zl_9, zl_10, zl_11, zl_12, zl_13, zl_14, zl_15, zl_16, zl_17, zl_18, zl_19, zl_20, zl_21, zl_22, zl_23, zl_24, zl_25, zl_26, zl_27, zl_28, zl_29, zl_30, zl_31, zl_32, zl_33, zl_34, zl_35, zl_36, zl_37, zl_38, zl_39, zl_40, zl_41, zl_42, zl_43, zl_44, zl_45, zl_46, zl_47, zl_48, zl_49, zl_50, zl_51, zl_52, zl_53, zl_54, zl_55, zl_56, zl_57, zl_58, zl_59, zl_60, zl_97, zl_100, zl_117, zl_120, zl_122, zl_210, zl_255, zl_1000, zl_1890, zl_999999, zm_0, zm_1, zm_2, zm_3, zm_4, zm_5, zm_6, zm_7, zm_8, zm_9, zm_10, zm_11, zm_12, zm_13, zm_14, zm_15, zm_16, zm_17, zm_18, zm_19, zm_20, zm_30, zm_31, zm_40, zm_48, zm_57, zm_60, zm_97, zm_100, zm_122, zm_255, zm_256, zm_823, zm_12345, zm_65536, zm_999999, zm_7824756, zm_1103515245, zm_2147483648, zm_495874698853]
    split
    · rw [show max 0 (F + C - 2) = F + C - 2 from by omega]
    · rw [show max 0 (F + C - 2) = 0 from by omega]
  · refine ⟨max 0 (F + C - 2) / 2, by omega, by omega, ?_⟩
    show imx 0 ((zI F + zI C - 2) / 2) = _
    rw [dn, imx]
    by_cases g : 0 ≤ F + C - 2
    · simp (disch := omega) only [mb0_s, mb1_s, mb2_s, mb3_s, mb4_s, mb5_s, mb6_s, mb7_s, mb8_s, mb9_s, mb10_s, mb11_s, mb12_s, mb13_s, mb14_s, mb15_s, mb16_s, mb17_s, mb18_s, mb19_s, mb20_s, mb21_s, mb22_s, mb23_s, mb24_s, mg_tt, up_s, if_true, if_false, Int.toNat_natCast, nI_z, zI_add, zI_sub, zI_mul, zI_neg, zL_add, zL_sub, zL_mul, zL_neg, zI_lt, zI_le, zI_eq, zL_lt, zL_le, zL_eq, zI_div, zI_rm, zL_div, zL_rm, zI_cl, zI_in, zI_l, zL_n, on_2, on_8, on_10, on_72, on_120, zl_72, zl_234, zl_0, zl_1, zl_2, zl_3, zl_4, zl_5, zl_6, zl_7, zl_8, zl_9, zl_10, zl_11, zl_12, zl_13, zl_14, zl_15, zl_16, zl_17, zl_18, zl_19, zl_20, zl_21, zl_22, zl_23, zl_24, zl_25, zl_26, zl_27, zl_28, zl_29, zl_30, zl_31, zl_32, zl_33, zl_34, zl_35, zl_36, zl_37, zl_38, zl_39, zl_40, zl_41, zl_42, zl_43, zl_44, zl_45, zl_46, zl_47, zl_48, zl_49, zl_50, zl_51, zl_52, zl_53, zl_54, zl_55, zl_56, zl_57, zl_58, zl_59, zl_60, zl_97, zl_100, zl_117, zl_120, zl_122, zl_210, zl_255, zl_1000, zl_1890, zl_999999, zm_0, zm_1, zm_2, zm_3, zm_4, zm_5, zm_6, zm_7, zm_8, zm_9, zm_10, zm_11, zm_12, zm_13, zm_14, zm_15, zm_16, zm_17, zm_18, zm_19, zm_20, zm_30, zm_31, zm_40, zm_48, zm_57, zm_60, zm_97, zm_100, zm_122, zm_255, zm_256, zm_823, zm_12345, zm_65536, zm_999999, zm_7824756, zm_1103515245, zm_2147483648, zm_495874698853]
      split
      · rw [show max 0 (F + C - 2) = F + C - 2 from by omega]
      · rw [show max 0 (F + C - 2) / 2 = 0 from by omega]
    · have : F + C - 2 = -1 ∨ F + C - 2 = -2 := by omega
      obtain g | g := this
      · rw [g]; rfl
      · rw [g]; rfl
  · refine ⟨F + C + 1, by omega, by omega, ?_⟩
    show zI F + zI C + 1 = _
    rw [zI_add, zl_1, zI_add]
  · exact ⟨F + C, by omega, by omega, zI_add F C⟩
theorem zPnt_z {e y : Int} (e1 : -100 ≤ e) (e2 : e ≤ 100) (y1 : -100 ≤ y) (y2 : y ≤ 100) : zPnt (zI e) (zI y) = if y + 1 < e then 0 else if e < y - 4 then 0 else if e < y - 1 then 5 else 10 := by
  unfold zPnt
  simp (disch := omega) only [zl_1, zl_4, zI_add, zI_sub, zI_lt]
theorem pts11 {s : Nat → Int32} {i j w nm : Nat} (h : At s i j w nm) {F C Y : Int} (f1 : -20 ≤ F) (f2 : F ≤ 20) (c1 : -20 ≤ C) (c2 : C ≤ 20) (h0 : -1 ≤ C) (y1 : 0 ≤ Y) (y2 : Y ≤ 20) : f_X11_pointsOf (nI i) (zI F) (zI C) (zI Y) s = some (zPts (nI j) (nI w) (zI F) (zI C) (zI Y)) := by
  unfold f_X11_pointsOf zPts f_X11_pointsOf_L35
  simp only [mb0_s, mb1_s, mb2_s, mb3_s, mb4_s, mb5_s, mb6_s, mb7_s, mb8_s, mb9_s, mb10_s, mb11_s, mb12_s, mb13_s, mb14_s, mb15_s, mb16_s, mb17_s, mb18_s, mb19_s, mb20_s, mb21_s, mb22_s, mb23_s, mb24_s, mg_tt, ib_0_2, ib_0_3, ib_0_4, ib_0_44, ib_0_117, ib_1_2, ib_1_3, ib_1_4, ib_1_117, ib_2_3, ib_2_4, ib_2_117, ib_3_4, ib_3_117, ib_4_117, ib_5_117, ib_44_117, tn_0, tn_1, tn_2, tn_3, tn_4, tn_5, tn_8, tn_10, tn_44, tn_72, cp_0, cp_1, cp_2, cp_3, cp_4, way11 h, bck11 h f1 f2 c1 c2 h0]
  unfold zBck
  by_cases w2 : zWay (nI j) (nI w) (zI F) (zI C) = 2
  · simp only [w2, if_true, show ¬ ((2 : Int32) = 1) from by decide, if_false]
    have hF := way2 h.2.2.2.1 f1 f2 w2
    obtain ⟨e, e1, e2, he⟩ := zYds_r h.2.2.1 f1 f2 c1 c2 (by omega)
    rw [he, zPnt_z (by omega) (by omega) (by omega) (by omega)]
    simp (disch := omega) only [zl_1, zl_2, zl_4, zI_sub, zI_neg, zI_lt, zI_le]
    by_cases g1 : Y + 1 < e
    · rw [if_pos (by omega), if_pos g1]
    · rw [if_neg (by omega), if_neg g1]
      by_cases g2 : e < Y - 4
      · rw [if_neg (by omega), if_pos g2]
      · rw [if_pos (by omega), if_neg g2]
        by_cases g3 : e < Y - 1
        · rw [if_pos (by omega), if_pos g3]
        · rw [if_neg (by omega), if_neg g3]
  · rw [if_neg w2, if_neg w2]
theorem At.of {k : Nat → Int32} {s : Nat → Int32} {nm nw i : Nat} (b1 : nm ≤ 8) (b2 : nw ≤ 3) (e0 : s 0 = nI nm) (e1 : s 1 = nI nw) (hk : ∀ n : Nat, n < nm → s (6 + n) = k n ∧ ∃ j : Nat, j ≤ 5 ∧ k n = nI j) (hi : i < nm) : ∃ j : Nat, k i = nI j ∧ At s i j nw nm := by
  obtain ⟨h1, j, h2, h3⟩ := hk i hi
  exact ⟨j, h3, b1, hi, h2, b2, e0, e1, h1.trans h3⟩
theorem op_way {c_now_stones_many : Int32} {c_now_stones_wetness : Int32} {c_now_stones_kinds : Nat → Int32} {c_now_game_player : Int32} {c_now_game_undoable : Int32} {c_now_game_totals : Nat → Int32} {c_now_game_gains : Nat → Int32} {c_now_written_many : Int32} {c_now_written_cells : Nat → Int32} {c_refused : Nat → Int32} {m_s : Nat → Int32} {m_refused : Nat → Int32} (hN : NowR c_now_stones_kinds c_now_stones_many c_now_stones_wetness c_now_game_totals c_now_game_gains c_now_game_player c_now_game_undoable c_now_written_cells c_now_written_many m_s) (hE : RefR c_refused m_refused) (y0 : Int32) (y1 : Int32) (y2 : Int32) : ∃ (r : Int32) (dc_refused : Nat → Int32) (dm_refused : Nat → Int32), f_X10_way y0 y1 y2 c_now_stones_many c_now_stones_wetness c_refused c_now_stones_kinds = some (r, dc_refused) ∧ f_X11_way y0 y1 y2 m_s m_refused = some (r, dm_refused) ∧ RefR dc_refused dm_refused := by
  obtain ⟨⟨nm, nw, b1, b2, rfl, rfl, e0, e1, hk⟩, hG, hB⟩ := hN
  unfold f_X10_way f_X11_way
  rw [isThrow10 b1, isThrow11 b1 e0]
  cases hT : inT y0 y1 y2 (nI nm) with
  | false =>
    simp only [mb0_s, mb1_s, mb2_s, mb3_s, mb4_s, mb5_s, mb6_s, mb7_s, mb8_s, mb9_s, mb10_s, mb11_s, mb12_s, mb13_s, mb14_s, mb15_s, mb16_s, mb17_s, mb18_s, mb19_s, mb20_s, mb21_s, mb22_s, mb23_s, mb24_s, ifI_t, ifI_f, isB_bI, bad10, no10, full10, bad11, badAs11, no11, full11, mb0_s, mb1_s, mb2_s, mb3_s, mb4_s, mb5_s, mb6_s, mb7_s, mb8_s, mb9_s, mb10_s, mb11_s, mb12_s, mb13_s, mb14_s, mb15_s, mb16_s, mb17_s, mb18_s, mb19_s, mb20_s, mb21_s, mb22_s, mb23_s, mb24_s, mg_tt, ib_0_2, ib_0_3, ib_0_4, ib_0_44, ib_0_117, ib_1_2, ib_1_3, ib_1_4, ib_1_117, ib_2_3, ib_2_4, ib_2_117, ib_3_4, ib_3_117, ib_4_117, ib_5_117, ib_44_117, tn_0, tn_1, tn_2, tn_3, tn_4, tn_5, tn_8, tn_10, tn_44, tn_72, cp_0, cp_1, cp_2, cp_3, cp_4]
    exact ⟨_, _, _, rfl, rfl, hE.bump 0⟩
  | true =>
    obtain ⟨i, x, t, i1, rfl, x1, x2, rfl, t1, t2, rfl⟩ := inT_z b1 hT
    obtain ⟨j, hj, hA⟩ := At.of b1 b2 e0 e1 hk i1
    simp only [mb0_s, mb1_s, mb2_s, mb3_s, mb4_s, mb5_s, mb6_s, mb7_s, mb8_s, mb9_s, mb10_s, mb11_s, mb12_s, mb13_s, mb14_s, mb15_s, mb16_s, mb17_s, mb18_s, mb19_s, mb20_s, mb21_s, mb22_s, mb23_s, mb24_s, ifI_t, ifI_f, isB_bI, bad10, no10, full10, bad11, badAs11, no11, full11, mb0_s, mb1_s, mb2_s, mb3_s, mb4_s, mb5_s, mb6_s, mb7_s, mb8_s, mb9_s, mb10_s, mb11_s, mb12_s, mb13_s, mb14_s, mb15_s, mb16_s, mb17_s, mb18_s, mb19_s, mb20_s, mb21_s, mb22_s, mb23_s, mb24_s, mg_tt, ib_0_2, ib_0_3, ib_0_4, ib_0_44, ib_0_117, ib_1_2, ib_1_3, ib_1_4, ib_1_117, ib_2_3, ib_2_4, ib_2_117, ib_3_4, ib_3_117, ib_4_117, ib_5_117, ib_44_117, tn_0, tn_1, tn_2, tn_3, tn_4, tn_5, tn_8, tn_10, tn_44, tn_72, cp_0, cp_1, cp_2, cp_3, cp_4, kind10 b1 i1, hj, way10 hA.2.2.1, way11 hA]
    exact ⟨_, _, _, rfl, rfl, hE⟩
theorem op_back {c_now_stones_many : Int32} {c_now_stones_wetness : Int32} {c_now_stones_kinds : Nat → Int32} {c_now_game_player : Int32} {c_now_game_undoable : Int32} {c_now_game_totals : Nat → Int32} {c_now_game_gains : Nat → Int32} {c_now_written_many : Int32} {c_now_written_cells : Nat → Int32} {c_refused : Nat → Int32} {m_s : Nat → Int32} {m_refused : Nat → Int32} (hN : NowR c_now_stones_kinds c_now_stones_many c_now_stones_wetness c_now_game_totals c_now_game_gains c_now_game_player c_now_game_undoable c_now_written_cells c_now_written_many m_s) (hE : RefR c_refused m_refused) (y0 : Int32) (y1 : Int32) (y2 : Int32) : ∃ (r : Int32) (dc_refused : Nat → Int32) (dm_refused : Nat → Int32), f_X10_back y0 y1 y2 c_now_stones_many c_now_stones_wetness c_refused c_now_stones_kinds = some (r, dc_refused) ∧ f_X11_back y0 y1 y2 m_s m_refused = some (r, dm_refused) ∧ RefR dc_refused dm_refused := by
  obtain ⟨⟨nm, nw, b1, b2, rfl, rfl, e0, e1, hk⟩, hG, hB⟩ := hN
  unfold f_X10_back f_X11_back
  rw [isThrow10 b1, isThrow11 b1 e0]
  cases hT : inT y0 y1 y2 (nI nm) with
  | false =>
    simp only [mb0_s, mb1_s, mb2_s, mb3_s, mb4_s, mb5_s, mb6_s, mb7_s, mb8_s, mb9_s, mb10_s, mb11_s, mb12_s, mb13_s, mb14_s, mb15_s, mb16_s, mb17_s, mb18_s, mb19_s, mb20_s, mb21_s, mb22_s, mb23_s, mb24_s, ifI_t, ifI_f, isB_bI, bad10, no10, full10, bad11, badAs11, no11, full11, mb0_s, mb1_s, mb2_s, mb3_s, mb4_s, mb5_s, mb6_s, mb7_s, mb8_s, mb9_s, mb10_s, mb11_s, mb12_s, mb13_s, mb14_s, mb15_s, mb16_s, mb17_s, mb18_s, mb19_s, mb20_s, mb21_s, mb22_s, mb23_s, mb24_s, mg_tt, ib_0_2, ib_0_3, ib_0_4, ib_0_44, ib_0_117, ib_1_2, ib_1_3, ib_1_4, ib_1_117, ib_2_3, ib_2_4, ib_2_117, ib_3_4, ib_3_117, ib_4_117, ib_5_117, ib_44_117, tn_0, tn_1, tn_2, tn_3, tn_4, tn_5, tn_8, tn_10, tn_44, tn_72, cp_0, cp_1, cp_2, cp_3, cp_4]
    exact ⟨_, _, _, rfl, rfl, hE.bump 0⟩
  | true =>
    obtain ⟨i, x, t, i1, rfl, x1, x2, rfl, t1, t2, rfl⟩ := inT_z b1 hT
    obtain ⟨j, hj, hA⟩ := At.of b1 b2 e0 e1 hk i1
    simp (disch := omega) only [mb0_s, mb1_s, mb2_s, mb3_s, mb4_s, mb5_s, mb6_s, mb7_s, mb8_s, mb9_s, mb10_s, mb11_s, mb12_s, mb13_s, mb14_s, mb15_s, mb16_s, mb17_s, mb18_s, mb19_s, mb20_s, mb21_s, mb22_s, mb23_s, mb24_s, ifI_t, ifI_f, isB_bI, bad10, no10, full10, bad11, badAs11, no11, full11, mb0_s, mb1_s, mb2_s, mb3_s, mb4_s, mb5_s, mb6_s, mb7_s, mb8_s, mb9_s, mb10_s, mb11_s, mb12_s, mb13_s, mb14_s, mb15_s, mb16_s, mb17_s, mb18_s, mb19_s, mb20_s, mb21_s, mb22_s, mb23_s, mb24_s, mg_tt, ib_0_2, ib_0_3, ib_0_4, ib_0_44, ib_0_117, ib_1_2, ib_1_3, ib_1_4, ib_1_117, ib_2_3, ib_2_4, ib_2_117, ib_3_4, ib_3_117, ib_4_117, ib_5_117, ib_44_117, tn_0, tn_1, tn_2, tn_3, tn_4, tn_5, tn_8, tn_10, tn_44, tn_72, cp_0, cp_1, cp_2, cp_3, cp_4, kind10 b1 i1, hj, way10 hA.2.2.1, bck10 hA.2.2.1, bck11 hA]
    exact ⟨_, _, _, rfl, rfl, hE⟩
theorem op_points {c_now_stones_many : Int32} {c_now_stones_wetness : Int32} {c_now_stones_kinds : Nat → Int32} {c_now_game_player : Int32} {c_now_game_undoable : Int32} {c_now_game_totals : Nat → Int32} {c_now_game_gains : Nat → Int32} {c_now_written_many : Int32} {c_now_written_cells : Nat → Int32} {c_refused : Nat → Int32} {m_s : Nat → Int32} {m_refused : Nat → Int32} (hN : NowR c_now_stones_kinds c_now_stones_many c_now_stones_wetness c_now_game_totals c_now_game_gains c_now_game_player c_now_game_undoable c_now_written_cells c_now_written_many m_s) (hE : RefR c_refused m_refused) (y0 : Int32) (y1 : Int32) (y2 : Int32) (y3 : Int32) : ∃ (r : Int32) (dc_refused : Nat → Int32) (dm_refused : Nat → Int32), f_X10_points y0 y1 y2 y3 c_now_stones_many c_now_stones_wetness c_refused c_now_stones_kinds = some (r, dc_refused) ∧ f_X11_points y0 y1 y2 y3 m_s m_refused = some (r, dm_refused) ∧ RefR dc_refused dm_refused := by
  obtain ⟨⟨nm, nw, b1, b2, rfl, rfl, e0, e1, hk⟩, hG, hB⟩ := hN
  unfold f_X10_points f_X11_points f_X10_points_L18 f_X11_points_L35 f_X10_isStand f_X10_thrown
  rw [isThrow10 b1, isThrow11 b1 e0, cw, mw y3 0 20 (lo' := 0) (hi' := 20) rfl rfl]
  cases hT : inT y0 y1 y2 (nI nm) with
  | false =>
    simp only [mb0_s, mb1_s, mb2_s, mb3_s, mb4_s, mb5_s, mb6_s, mb7_s, mb8_s, mb9_s, mb10_s, mb11_s, mb12_s, mb13_s, mb14_s, mb15_s, mb16_s, mb17_s, mb18_s, mb19_s, mb20_s, mb21_s, mb22_s, mb23_s, mb24_s, ifI_t, ifI_f, isB_bI, bad10, no10, full10, bad11, badAs11, no11, full11, mb0_s, mb1_s, mb2_s, mb3_s, mb4_s, mb5_s, mb6_s, mb7_s, mb8_s, mb9_s, mb10_s, mb11_s, mb12_s, mb13_s, mb14_s, mb15_s, mb16_s, mb17_s, mb18_s, mb19_s, mb20_s, mb21_s, mb22_s, mb23_s, mb24_s, mg_tt, ib_0_2, ib_0_3, ib_0_4, ib_0_44, ib_0_117, ib_1_2, ib_1_3, ib_1_4, ib_1_117, ib_2_3, ib_2_4, ib_2_117, ib_3_4, ib_3_117, ib_4_117, ib_5_117, ib_44_117, tn_0, tn_1, tn_2, tn_3, tn_4, tn_5, tn_8, tn_10, tn_44, tn_72, cp_0, cp_1, cp_2, cp_3, cp_4]
    exact ⟨_, _, _, rfl, rfl, hE.bump 0⟩
  | true =>
    cases hg : inR y3 0 20 with
    | false =>
      simp only [mb0_s, mb1_s, mb2_s, mb3_s, mb4_s, mb5_s, mb6_s, mb7_s, mb8_s, mb9_s, mb10_s, mb11_s, mb12_s, mb13_s, mb14_s, mb15_s, mb16_s, mb17_s, mb18_s, mb19_s, mb20_s, mb21_s, mb22_s, mb23_s, mb24_s, ifI_t, ifI_f, isB_bI, bad10, no10, full10, bad11, badAs11, no11, full11, mb0_s, mb1_s, mb2_s, mb3_s, mb4_s, mb5_s, mb6_s, mb7_s, mb8_s, mb9_s, mb10_s, mb11_s, mb12_s, mb13_s, mb14_s, mb15_s, mb16_s, mb17_s, mb18_s, mb19_s, mb20_s, mb21_s, mb22_s, mb23_s, mb24_s, mg_tt, ib_0_2, ib_0_3, ib_0_4, ib_0_44, ib_0_117, ib_1_2, ib_1_3, ib_1_4, ib_1_117, ib_2_3, ib_2_4, ib_2_117, ib_3_4, ib_3_117, ib_4_117, ib_5_117, ib_44_117, tn_0, tn_1, tn_2, tn_3, tn_4, tn_5, tn_8, tn_10, tn_44, tn_72, cp_0, cp_1, cp_2, cp_3, cp_4]
      exact ⟨_, _, _, rfl, rfl, hE.bump 0⟩
    | true =>
      obtain ⟨i, x, t, i1, rfl, x1, x2, rfl, t1, t2, rfl⟩ := inT_z b1 hT
      obtain ⟨j, hj, hA⟩ := At.of b1 b2 e0 e1 hk i1
      obtain ⟨y, g1, g2, rfl⟩ := inR_z 0 20 rfl rfl hg
      simp (disch := omega) only [mb0_s, mb1_s, mb2_s, mb3_s, mb4_s, mb5_s, mb6_s, mb7_s, mb8_s, mb9_s, mb10_s, mb11_s, mb12_s, mb13_s, mb14_s, mb15_s, mb16_s, mb17_s, mb18_s, mb19_s, mb20_s, mb21_s, mb22_s, mb23_s, mb24_s, ifI_t, ifI_f, isB_bI, bad10, no10, full10, bad11, badAs11, no11, full11, mb0_s, mb1_s, mb2_s, mb3_s, mb4_s, mb5_s, mb6_s, mb7_s, mb8_s, mb9_s, mb10_s, mb11_s, mb12_s, mb13_s, mb14_s, mb15_s, mb16_s, mb17_s, mb18_s, mb19_s, mb20_s, mb21_s, mb22_s, mb23_s, mb24_s, mg_tt, ib_0_2, ib_0_3, ib_0_4, ib_0_44, ib_0_117, ib_1_2, ib_1_3, ib_1_4, ib_1_117, ib_2_3, ib_2_4, ib_2_117, ib_3_4, ib_3_117, ib_4_117, ib_5_117, ib_44_117, tn_0, tn_1, tn_2, tn_3, tn_4, tn_5, tn_8, tn_10, tn_44, tn_72, cp_0, cp_1, cp_2, cp_3, cp_4, kind10 b1 i1, hj, pts10 hA.2.2.1, pts11 hA]
      exact ⟨_, _, _, rfl, rfl, hE⟩
