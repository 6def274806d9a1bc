set_option maxRecDepth 8000
theorem GamR.add {t g : Nat → Int32} {s : Nat → Int32} {p u : Nat} {x : Int32} (h : GamR t g (nI p) (nI u) s) (hu : u < 10) (hp : p ≤ 1) {s' : Nat → Int32} (b5 : s' 5 = nI (u + 1)) (b4 : s' 4 = nI (1 - p)) (bp : s' (2 + p) = s (2 + p) + x) (bq : s' (2 + (1 - p)) = s (2 + (1 - p))) (bu : ∀ f : Nat, f < 3 → s' (14 + 3 * u + f) = s (2 + f)) (bj : ∀ j : Nat, 14 ≤ j → j < 14 + 3 * u → s' j = s j) : GamR (upd t p (t p + x)) (upd g u x) (nI (1 - p)) (nI (u + 1)) s' := by
  obtain ⟨n, p', h1, h2, h3, h4, h5, h6, h7, h8, h9⟩ := h
  have hn : n = u := (((nI_eq (by omega) (by omega)).mp h3)).symm
  have hpp : p' = p := (((nI_eq (by omega) (by omega)).mp h4)).symm
  subst hn
  subst hpp
  have ee : ∀ (i f : Nat), i ≤ n → f < 3 → mEnt (n + 1) s' i f = mEnt n s i f := by
    intro i f hi hf
    unfold mEnt
    rw [if_neg (show ¬ i = n + 1 by omega)]
    by_cases hin : i = n
    · subst hin
      rw [if_pos (rfl : i = i)]
      exact bu f hf
    · rw [if_neg hin]
      exact bj _ (by omega) (by omega)
  refine ⟨n + 1, 1 - p', by omega, by omega, rfl, rfl, b5, b4, ?_, ?_, fun j hj => ?_⟩
  · obtain rfl | rfl : p' = 0 ∨ p' = 1 := by omega
    · rw [up_s, ← h7]; exact bp
    · rw [up_n (by omega), ← h7]; exact bq
  · obtain rfl | rfl : p' = 0 ∨ p' = 1 := by omega
    · rw [up_n (by omega), ← h8]; exact bq
    · rw [up_s, ← h8]; exact bp
  · by_cases hjn : j = n
    · subst hjn
      have eu : ∀ f : Nat, mEnt j s j f = s (2 + f) := fun f => by unfold mEnt; rw [if_pos rfl]
      have ev : ∀ f : Nat, mEnt (j + 1) s' (j + 1) f = s' (2 + f) := fun f => by unfold mEnt; rw [if_pos rfl]
      refine ⟨p', h2, ?_, ?_, ?_, ?_⟩
      · rw [ee _ _ (by omega) (by omega), eu]; exact h6
      · rw [ev]; exact b4
      · rw [ev, ee _ _ (by omega) (by omega), eu, up_s]; exact bp
      · rw [ev, ee _ _ (by omega) (by omega), eu]; exact bq
    · obtain ⟨q, q1, c1, c2, c3, c4⟩ := h9 j (by omega)
      refine ⟨q, q1, ?_, ?_, ?_, ?_⟩
      · rw [ee _ _ (by omega) (by omega)]; exact c1
      · rw [ee _ _ (by omega) (by omega)]; exact c2
      · rw [ee _ _ (by omega) (by omega), ee _ _ (by omega) (by omega), up_n hjn]; exact c3
      · rw [ee _ _ (by omega) (by omega), ee _ _ (by omega) (by omega)]; exact c4
theorem GamR.shift {t g g1 : Nat → Int32} {s s1 : Nat → Int32} {p : Int32} (h : GamR t g p (nI 10) s) (b5 : s1 5 = nI 9) (b2 : ∀ f : Nat, f < 3 → s1 (2 + f) = s (2 + f)) (bj : ∀ j : Nat, 14 ≤ j → j < 41 → s1 j = s (j + 3)) (bg : ∀ j : Nat, j < 9 → g1 j = g (j + 1)) : GamR t g1 p (nI 9) s1 := by
  obtain ⟨n, p', h1, h2, h3, h4, h5, h6, h7, h8, h9⟩ := h
  have hn : n = 10 := (((nI_eq (by omega) (by omega)).mp h3)).symm
  subst hn
  have ee : ∀ (i f : Nat), i ≤ 9 → f < 3 → mEnt 9 s1 i f = mEnt 10 s (i + 1) f := by
    intro i f hi hf
    unfold mEnt
    by_cases hin : i = 9
    · subst hin
      rw [if_pos rfl, if_pos rfl]
      exact b2 f hf
    · rw [if_neg hin, if_neg (by omega), bj _ (by omega) (by omega)]
      congr 1
      omega
  refine ⟨9, p', by omega, h2, rfl, h4, b5, ?_, ?_, ?_, fun j hj => ?_⟩
  · rw [← h6]; exact b2 2 (by omega)
  · rw [← h7]; exact b2 0 (by omega)
  · rw [← h8]; exact b2 1 (by omega)
  · obtain ⟨q, q1, c1, c2, c3, c4⟩ := h9 (j + 1) (by omega)
    refine ⟨q, q1, ?_, ?_, ?_, ?_⟩
    · rw [ee _ _ (by omega) (by omega)]; exact c1
    · rw [ee _ _ (by omega) (by omega)]; exact c2
    · rw [ee _ _ (by omega) (by omega), ee _ _ (by omega) (by omega), bg j hj]; exact c3
    · rw [ee _ _ (by omega) (by omega), ee _ _ (by omega) (by omega)]; exact c4
theorem addL {u p : Nat} (hu : u < 10) (hp : p ≤ 1) (x : Int32) (g t : Nat → Int32) : f_X3_add_L42 x (nI p) (nI u) g t = some (nI (1 - p), nI (u + 1), upd g u x, upd t p (t p + x)) := by
  unfold f_X3_add_L42
  have e1 : (1 : Int32) - nI p = nI (1 - p) := by
    rw [nI_z, nI_z, zl_1, zI_sub]; congr 1; omega
  rw [inB_nI (show u < 10 by omega) (by omega), inB_nI (show p < 2 by omega) (by omega), mg_tt, mg_tt, mg_tt, clN (by omega), clN (by omega), e1, nI_1]
theorem add10 {u p : Nat} (hu : u < 10) (hp : p ≤ 1) (x : Int32) (g t : Nat → Int32) : f_X3_add x (nI p) (nI u) g t = some (nI (1 - p), nI (u + 1), upd g u x, upd t p (t p + x)) := by
  unfold f_X3_add
  rw [if_neg, addL hu hp]
  show ¬ nI u = nI 10
  rw [nI_eq (by omega) (by omega)]
  omega
theorem addS {p : Nat} (hp : p ≤ 1) (x : Int32) (g t : Nat → Int32) : ∃ g1 : Nat → Int32, (∀ j : Nat, j < 9 → g1 j = g (j + 1)) ∧ f_X3_add x (nI p) (nI 10) g t = some (nI (1 - p), nI 10, upd g1 9 x, upd t p (t p + x)) := by
  refine ⟨va_cpy g g 1 0 9, fun j hj => ?_, ?_⟩
  · unfold va_cpy
    rw [if_pos (by omega)]
    congr 1
    omega
  · unfold f_X3_add
    rw [if_pos (show nI 10 = Int32.ofNat 10 from rfl), show cpB (1 : Int32) (0 : Int32) (Int32.ofNat 10 - 1) 10 10 = true from by decide, mg_tt, show nI 10 - 1 = nI 9 from by decide, addL (by omega) hp]
    rfl
theorem playL {s : Nat → Int32} {i j w nm u p : Nat} (hA : At s i j w nm) (hu : u < 10) (hp : p ≤ 1) (h5 : s 5 = nI u) (h4 : s 4 = nI p) {F C F' C' Y : Int} (f1 : -20 ≤ F + F') (f2 : F + F' ≤ 20) (c1 : -20 ≤ C + C') (c2 : C + C' ≤ 20) (h0 : -1 ≤ C + C') (y1 : 0 ≤ Y) (y2 : Y ≤ 20) (r : Nat → Int32) : ∃ s' : Nat → Int32, f_X11_play_L108 (nI i) (zI F) (zI C) (zI Y) (zI F') (zI C') s r = some (zPts (nI j) (nI w) (zI (F + F')) (zI (C + C')) (zI Y), s', r) ∧ s' 5 = nI (u + 1) ∧ s' 4 = nI (1 - p) ∧ s' (2 + p) = s (2 + p) + zPts (nI j) (nI w) (zI (F + F')) (zI (C + C')) (zI Y) ∧ s' (2 + (1 - p)) = s (2 + (1 - p)) ∧ (∀ f : Nat, f < 3 → s' (14 + 3 * u + f) = s (2 + f)) ∧ ∀ k : Nat, ¬ (2 ≤ k ∧ k ≤ 5) → ¬ (14 + 3 * u ≤ k ∧ k ≤ 14 + 3 * u + 2) → s' k = s k := by
  unfold f_X11_play_L108
  generalize E1 : upd s (Int32.toNatClampNeg (14 + 3 * s (Int32.toNatClampNeg (5 : Int32)))) (s (Int32.toNatClampNeg (2 : Int32))) = s1
  generalize E2 : upd s1 (Int32.toNatClampNeg (14 + 3 * s (Int32.toNatClampNeg (5 : Int32)) + 1)) (s1 (Int32.toNatClampNeg (3 : Int32))) = s2
  generalize E3 : upd s2 (Int32.toNatClampNeg (14 + 3 * s (Int32.toNatClampNeg (5 : Int32)) + 2)) (s2 (Int32.toNatClampNeg (4 : Int32))) = s3
  generalize E4 : upd s3 (Int32.toNatClampNeg (5 : Int32)) (s3 (Int32.toNatClampNeg (5 : Int32)) + 1) = s4
  simp only [tn_5, tn_2, tn_3, tn_4, h5] at E1 E2 E3 E4 ⊢
  have i0 : (14 + 3 * nI u).toNatClampNeg = 14 + 3 * u := by simp (disch := omega) only [nI_z, zI_add, zI_sub, zI_mul, zI_neg, zL_add, zL_sub, zL_mul, zL_neg, zI_lt, zI_le, zI_eq, zL_lt, zL_le, zL_eq, zI_div, zI_rm, zL_div, zL_rm, zI_cl, zI_in, zI_l, zL_n, on_2, on_8, on_10, on_72, on_120, zl_72, zl_234, zl_0, zl_1, zl_2, zl_3, zl_4, zl_5, zl_6, zl_7, zl_8, zl_9, zl_10, zl_11, zl_12, zl_13, zl_14, zl_15, zl_16, zl_17, zl_18, zl_19, zl_20, zl_21, zl_22, zl_23, zl_24, zl_25, zl_26, zl_27, zl_28, zl_29, zl_30, zl_31, zl_32, zl_33, zl_34, zl_35, zl_36, zl_37, zl_38, zl_39, zl_40, zl_41, zl_42, zl_43, zl_44, zl_45, zl_46, zl_47, zl_48, zl_49, zl_50, zl_51, zl_52, zl_53, zl_54, zl_55, zl_56, zl_57, zl_58, zl_59, zl_60, zl_97, zl_100, zl_117, zl_120, zl_122, zl_210, zl_255, zl_1000, zl_1890, zl_999999, zm_0, zm_1, zm_2, zm_3, zm_4, zm_5, zm_6, zm_7, zm_8, zm_9, zm_10, zm_11, zm_12, zm_13, zm_14, zm_15, zm_16, zm_17, zm_18, zm_19, zm_20, zm_30, zm_31, zm_40, zm_48, zm_57, zm_60, zm_97, zm_100, zm_122, zm_255, zm_256, zm_823, zm_12345, zm_65536, zm_999999, zm_7824756, zm_1103515245, zm_2147483648, zm_495874698853]; omega
  have i1 : (14 + 3 * nI u + 1).toNatClampNeg = 14 + 3 * u + 1 := by simp (disch := omega) only [nI_z, zI_add, zI_sub, zI_mul, zI_neg, zL_add, zL_sub, zL_mul, zL_neg, zI_lt, zI_le, zI_eq, zL_lt, zL_le, zL_eq, zI_div, zI_rm, zL_div, zL_rm, zI_cl, zI_in, zI_l, zL_n, on_2, on_8, on_10, on_72, on_120, zl_72, zl_234, zl_0, zl_1, zl_2, zl_3, zl_4, zl_5, zl_6, zl_7, zl_8, zl_9, zl_10, zl_11, zl_12, zl_13, zl_14, zl_15, zl_16, zl_17, zl_18, zl_19, zl_20, zl_21, zl_22, zl_23, zl_24, zl_25, zl_26, zl_27, zl_28, zl_29, zl_30, zl_31, zl_32, zl_33, zl_34, zl_35, zl_36, zl_37, zl_38, zl_39, zl_40, zl_41, zl_42, zl_43, zl_44, zl_45, zl_46, zl_47, zl_48, zl_49, zl_50, zl_51, zl_52, zl_53, zl_54, zl_55, zl_56, zl_57, zl_58, zl_59, zl_60, zl_97, zl_100, zl_117, zl_120, zl_122, zl_210, zl_255, zl_1000, zl_1890, zl_999999, zm_0, zm_1, zm_2, zm_3, zm_4, zm_5, zm_6, zm_7, zm_8, zm_9, zm_10, zm_11, zm_12, zm_13, zm_14, zm_15, zm_16, zm_17, zm_18, zm_19, zm_20, zm_30, zm_31, zm_40, zm_48, zm_57, zm_60, zm_97, zm_100, zm_122, zm_255, zm_256, zm_823, zm_12345, zm_65536, zm_999999, zm_7824756, zm_1103515245, zm_2147483648, zm_495874698853]; omega
  have i2 : (14 + 3 * nI u + 2).toNatClampNeg = 14 + 3 * u + 2 := by simp (disch := omega) only [nI_z, zI_add, zI_sub, zI_mul, zI_neg, zL_add, zL_sub, zL_mul, zL_neg, zI_lt, zI_le, zI_eq, zL_lt, zL_le, zL_eq, zI_div, zI_rm, zL_div, zL_rm, zI_cl, zI_in, zI_l, zL_n, on_2, on_8, on_10, on_72, on_120, zl_72, zl_234, zl_0, zl_1, zl_2, zl_3, zl_4, zl_5, zl_6, zl_7, zl_8, zl_9, zl_10, zl_11, zl_12, zl_13, zl_14, zl_15, zl_16, zl_17, zl_18, zl_19, zl_20, zl_21, zl_22, zl_23, zl_24, zl_25, zl_26, zl_27, zl_28, zl_29, zl_30, zl_31, zl_32, zl_33, zl_34, zl_35, zl_36, zl_37, zl_38, zl_39, zl_40, zl_41, zl_42, zl_43, zl_44, zl_45, zl_46, zl_47, zl_48, zl_49, zl_50, zl_51, zl_52, zl_53, zl_54, zl_55, zl_56, zl_57, zl_58, zl_59, zl_60, zl_97, zl_100, zl_117, zl_120, zl_122, zl_210, zl_255, zl_1000, zl_1890, zl_999999, zm_0, zm_1, zm_2, zm_3, zm_4, zm_5, zm_6, zm_7, zm_8, zm_9, zm_10, zm_11, zm_12, zm_13, zm_14, zm_15, zm_16, zm_17, zm_18, zm_19, zm_20, zm_30, zm_31, zm_40, zm_48, zm_57, zm_60, zm_97, zm_100, zm_122, zm_255, zm_256, zm_823, zm_12345, zm_65536, zm_999999, zm_7824756, zm_1103515245, zm_2147483648, zm_495874698853]; omega
  have b0 : inB (14 + 3 * nI u) 117 = true := by simp (disch := omega) only [nI_z, zI_add, zI_sub, zI_mul, zI_neg, zL_add, zL_sub, zL_mul, zL_neg, zI_lt, zI_le, zI_eq, zL_lt, zL_le, zL_eq, zI_div, zI_rm, zL_div, zL_rm, zI_cl, zI_in, zI_l, zL_n, on_2, on_8, on_10, on_72, on_120, zl_72, zl_234, zl_0, zl_1, zl_2, zl_3, zl_4, zl_5, zl_6, zl_7, zl_8, zl_9, zl_10, zl_11, zl_12, zl_13, zl_14, zl_15, zl_16, zl_17, zl_18, zl_19, zl_20, zl_21, zl_22, zl_23, zl_24, zl_25, zl_26, zl_27, zl_28, zl_29, zl_30, zl_31, zl_32, zl_33, zl_34, zl_35, zl_36, zl_37, zl_38, zl_39, zl_40, zl_41, zl_42, zl_43, zl_44, zl_45, zl_46, zl_47, zl_48, zl_49, zl_50, zl_51, zl_52, zl_53, zl_54, zl_55, zl_56, zl_57, zl_58, zl_59, zl_60, zl_97, zl_100, zl_117, zl_120, zl_122, zl_210, zl_255, zl_1000, zl_1890, zl_999999, zm_0, zm_1, zm_2, zm_3, zm_4, zm_5, zm_6, zm_7, zm_8, zm_9, zm_10, zm_11, zm_12, zm_13, zm_14, zm_15, zm_16, zm_17, zm_18, zm_19, zm_20, zm_30, zm_31, zm_40, zm_48, zm_57, zm_60, zm_97, zm_100, zm_122, zm_255, zm_256, zm_823, zm_12345, zm_65536, zm_999999, zm_7824756, zm_1103515245, zm_2147483648, zm_495874698853]
  have b1 : inB (14 + 3 * nI u + 1) 117 = true := by simp (disch := omega) only [nI_z, zI_add, zI_sub, zI_mul, zI_neg, zL_add, zL_sub, zL_mul, zL_neg, zI_lt, zI_le, zI_eq, zL_lt, zL_le, zL_eq, zI_div, zI_rm, zL_div, zL_rm, zI_cl, zI_in, zI_l, zL_n, on_2, on_8, on_10, on_72, on_120, zl_72, zl_234, zl_0, zl_1, zl_2, zl_3, zl_4, zl_5, zl_6, zl_7, zl_8, zl_9, zl_10, zl_11, zl_12, zl_13, zl_14, zl_15, zl_16, zl_17, zl_18, zl_19, zl_20, zl_21, zl_22, zl_23, zl_24, zl_25, zl_26, zl_27, zl_28, zl_29, zl_30, zl_31, zl_32, zl_33, zl_34, zl_35, zl_36, zl_37, zl_38, zl_39, zl_40, zl_41, zl_42, zl_43, zl_44, zl_45, zl_46, zl_47, zl_48, zl_49, zl_50, zl_51, zl_52, zl_53, zl_54, zl_55, zl_56, zl_57, zl_58, zl_59, zl_60, zl_97, zl_100, zl_117, zl_120, zl_122, zl_210, zl_255, zl_1000, zl_1890, zl_999999, zm_0, zm_1, zm_2, zm_3, zm_4, zm_5, zm_6, zm_7, zm_8, zm_9, zm_10, zm_11, zm_12, zm_13, zm_14, zm_15, zm_16, zm_17, zm_18, zm_19, zm_20, zm_30, zm_31, zm_40, zm_48, zm_57, zm_60, zm_97, zm_100, zm_122, zm_255, zm_256, zm_823, zm_12345, zm_65536, zm_999999, zm_7824756, zm_1103515245, zm_2147483648, zm_495874698853]
  have b2 : inB (14 + 3 * nI u + 2) 117 = true := by simp (disch := omega) only [nI_z, zI_add, zI_sub, zI_mul, zI_neg, zL_add, zL_sub, zL_mul, zL_neg, zI_lt, zI_le, zI_eq, zL_lt, zL_le, zL_eq, zI_div, zI_rm, zL_div, zL_rm, zI_cl, zI_in, zI_l, zL_n, on_2, on_8, on_10, on_72, on_120, zl_72, zl_234, zl_0, zl_1, zl_2, zl_3, zl_4, zl_5, zl_6, zl_7, zl_8, zl_9, zl_10, zl_11, zl_12, zl_13, zl_14, zl_15, zl_16, zl_17, zl_18, zl_19, zl_20, zl_21, zl_22, zl_23, zl_24, zl_25, zl_26, zl_27, zl_28, zl_29, zl_30, zl_31, zl_32, zl_33, zl_34, zl_35, zl_36, zl_37, zl_38, zl_39, zl_40, zl_41, zl_42, zl_43, zl_44, zl_45, zl_46, zl_47, zl_48, zl_49, zl_50, zl_51, zl_52, zl_53, zl_54, zl_55, zl_56, zl_57, zl_58, zl_59, zl_60, zl_97, zl_100, zl_117, zl_120, zl_122, zl_210, zl_255, zl_1000, zl_1890, zl_999999, zm_0, zm_1, zm_2, zm_3, zm_4, zm_5, zm_6, zm_7, zm_8, zm_9, zm_10, zm_11, zm_12, zm_13, zm_14, zm_15, zm_16, zm_17, zm_18, zm_19, zm_20, zm_30, zm_31, zm_40, zm_48, zm_57, zm_60, zm_97, zm_100, zm_122, zm_255, zm_256, zm_823, zm_12345, zm_65536, zm_999999, zm_7824756, zm_1103515245, zm_2147483648, zm_495874698853]
  rw [i0] at E1
  rw [i1] at E2
  rw [i2] at E3
  have fr : ∀ k : Nat, ¬ (k = 5) → ¬ (14 + 3 * u ≤ k ∧ k ≤ 14 + 3 * u + 2) → s4 k = s k := by
    intro k k1 k2
    rw [← E4, up_n k1, ← E3, up_n (by omega), ← E2, up_n (by omega), ← E1, up_n (by omega)]
  obtain ⟨a1, a2, a3, a4, a5, a6, a7⟩ := hA
  have hA4 : At s4 i j w nm := ⟨a1, a2, a3, a4, by rw [fr 0 (by omega) (by omega)]; exact a5, by rw [fr 1 (by omega) (by omega)]; exact a6, by rw [fr _ (by omega) (by omega)]; exact a7⟩
  have e44 : s4 4 = nI p := by rw [fr 4 (by omega) (by omega)]; exact h4
  have pl : (2 + nI p).toNatClampNeg = 2 + p := by simp (disch := omega) only [nI_z, zI_add, zI_sub, zI_mul, zI_neg, zL_add, zL_sub, zL_mul, zL_neg, zI_lt, zI_le, zI_eq, zL_lt, zL_le, zL_eq, zI_div, zI_rm, zL_div, zL_rm, zI_cl, zI_in, zI_l, zL_n, on_2, on_8, on_10, on_72, on_120, zl_72, zl_234, zl_0, zl_1, zl_2, zl_3, zl_4, zl_5, zl_6, zl_7, zl_8, zl_9, zl_10, zl_11, zl_12, zl_13, zl_14, zl_15, zl_16, zl_17, zl_18, zl_19, zl_20, zl_21, zl_22, zl_23, zl_24, zl_25, zl_26, zl_27, zl_28, zl_29, zl_30, zl_31, zl_32, zl_33, zl_34, zl_35, zl_36, zl_37, zl_38, zl_39, zl_40, zl_41, zl_42, zl_43, zl_44, zl_45, zl_46, zl_47, zl_48, zl_49, zl_50, zl_51, zl_52, zl_53, zl_54, zl_55, zl_56, zl_57, zl_58, zl_59, zl_60, zl_97, zl_100, zl_117, zl_120, zl_122, zl_210, zl_255, zl_1000, zl_1890, zl_999999, zm_0, zm_1, zm_2, zm_3, zm_4, zm_5, zm_6, zm_7, zm_8, zm_9, zm_10, zm_11, zm_12, zm_13, zm_14, zm_15, zm_16, zm_17, zm_18, zm_19, zm_20, zm_30, zm_31, zm_40, zm_48, zm_57, zm_60, zm_97, zm_100, zm_122, zm_255, zm_256, zm_823, zm_12345, zm_65536, zm_999999, zm_7824756, zm_1103515245, zm_2147483648, zm_495874698853]; omega
  have bl : inB (2 + nI p) 117 = true := by simp (disch := omega) only [nI_z, zI_add, zI_sub, zI_mul, zI_neg, zL_add, zL_sub, zL_mul, zL_neg, zI_lt, zI_le, zI_eq, zL_lt, zL_le, zL_eq, zI_div, zI_rm, zL_div, zL_rm, zI_cl, zI_in, zI_l, zL_n, on_2, on_8, on_10, on_72, on_120, zl_72, zl_234, zl_0, zl_1, zl_2, zl_3, zl_4, zl_5, zl_6, zl_7, zl_8, zl_9, zl_10, zl_11, zl_12, zl_13, zl_14, zl_15, zl_16, zl_17, zl_18, zl_19, zl_20, zl_21, zl_22, zl_23, zl_24, zl_25, zl_26, zl_27, zl_28, zl_29, zl_30, zl_31, zl_32, zl_33, zl_34, zl_35, zl_36, zl_37, zl_38, zl_39, zl_40, zl_41, zl_42, zl_43, zl_44, zl_45, zl_46, zl_47, zl_48, zl_49, zl_50, zl_51, zl_52, zl_53, zl_54, zl_55, zl_56, zl_57, zl_58, zl_59, zl_60, zl_97, zl_100, zl_117, zl_120, zl_122, zl_210, zl_255, zl_1000, zl_1890, zl_999999, zm_0, zm_1, zm_2, zm_3, zm_4, zm_5, zm_6, zm_7, zm_8, zm_9, zm_10, zm_11, zm_12, zm_13, zm_14, zm_15, zm_16, zm_17, zm_18, zm_19, zm_20, zm_30, zm_31, zm_40, zm_48, zm_57, zm_60, zm_97, zm_100, zm_122, zm_255, zm_256, zm_823, zm_12345, zm_65536, zm_999999, zm_7824756, zm_1103515245, zm_2147483648, zm_495874698853]
  have e1 : (1 : Int32) - nI p = nI (1 - p) := by
    rw [nI_z, nI_z, zl_1, zI_sub]; congr 1; omega
  rw [zI_add, zI_add]
  simp only [ib_5_117, ib_2_117, ib_3_117, ib_4_117, mg_tt, b0, b1, b2, pts11 hA4 f1 f2 c1 c2 h0 y1 y2, mb1_s, e44, pl, bl]
  generalize zPts (nI j) (nI w) (zI (F + F')) (zI (C + C')) (zI Y) = x
  generalize E5 : upd s4 (2 + p) (s4 (2 + p) + x) = s5
  have e54 : s5 4 = nI p := by rw [← E5, up_n (by omega)]; exact e44
  simp only [e54, e1, mg_tt, ib_4_117]
  refine ⟨_, rfl, ?_, ?_, ?_, ?_, fun f hf => ?_, fun k k1 k2 => ?_⟩
  · rw [up_n (by omega), ← E5, up_n (by omega), ← E4, up_s, ← E3, up_n (by omega), ← E2, up_n (by omega), ← E1, up_n (by omega), h5, nI_1]
  · rw [up_s]
  · rw [up_n (by omega), ← E5, up_s, fr _ (by omega) (by omega)]
  · rw [up_n (by omega), ← E5, up_n (by omega), fr _ (by omega) (by omega)]
  · rw [up_n (by omega), ← E5, up_n (by omega), ← E4, up_n (by omega)]
    obtain rfl | rfl | rfl : f = 0 ∨ f = 1 ∨ f = 2 := by omega
    · rw [← E3, up_n (by omega), ← E2, up_n (by omega), ← E1, up_e (by omega)]
    · rw [← E3, up_n (by omega), ← E2, up_s, ← E1, up_n (by omega)]
    · rw [← E3, up_s, ← E2, up_n (by omega), ← E1, up_n (by omega)]
  · rw [up_n (by omega), ← E5, up_n (by omega), fr _ (by omega) (by omega)]
theorem playS (x1 x2 x3 x4 x5 x6 : Int32) (r : Nat → Int32) : ∀ (d N : Nat) (s : Nat → Int32), d ≤ 27 → d < N → ∃ s1 : Nat → Int32, f_X11_play_L69 N x1 x2 x3 x4 x5 x6 (nI (41 - d)) s r = f_X11_play_L108 x1 x2 x3 x4 x5 x6 (upd s1 5 (s1 5 - 1)) r ∧ (∀ j : Nat, 41 - d ≤ j → j < 41 → s1 j = s (j + 3)) ∧ ∀ j : Nat, ¬ (41 - d ≤ j ∧ j < 41) → s1 j = s j
  | 0, N + 1, s, _, _ => by
    refine ⟨s, ?_, fun j a b => by omega, fun j _ => rfl⟩
    unfold f_X11_play_L69
    rw [if_pos (by decide)]
    simp only [tn_5, ib_5_117, mg_tt]
  | d + 1, N + 1, s, h1, h2 => by
    have e0 : nI (41 - (d + 1)) + 1 = nI (41 - d) := by rw [nI_1]; congr 1; omega
    obtain ⟨s1, a1, a2, a3⟩ := playS x1 x2 x3 x4 x5 x6 r d N (upd s (41 - (d + 1)) (s (41 - (d + 1) + 3))) (by omega) (by omega)
    have e3 : nI (41 - (d + 1)) + 3 = nI (41 - (d + 1) + 3) := nI_add _ 3
    refine ⟨s1, ?_, fun j b1 b2 => ?_, fun j b1 => ?_⟩
    · unfold f_X11_play_L69
      rw [if_neg, inB_nI (show 41 - (d + 1) < 117 by omega) (by omega), e3, inB_nI (show 41 - (d + 1) + 3 < 117 by omega) (by omega), mg_tt, mg_tt, clN (by omega), clN (by omega), e0]
      · exact a1
      · show ¬ nI 41 ≤ nI _
        rw [nI_leI (by omega) (by omega)]
        omega
    · by_cases hj : j = 41 - (d + 1)
      · rw [a3 j (by omega), hj, up_s]
      · rw [a2 j (by omega) b2, up_n (by omega)]
    · rw [a3 j (by omega), up_n (by omega)]
theorem op_play {c_now_stones_many : Int32} {c_now_stones_wetness : Int32} {c_now_stones_kinds : Nat → Int32} {c_now_game_player : Int32} {c_now_game_undoable : Int32} {c_now_game_totals : Nat → Int32} {c_now_game_gains : Nat → Int32} {c_now_written_many : Int32} {c_now_written_cells : Nat → Int32} {c_refused : Nat → Int32} {m_s : Nat → Int32} {m_refused : Nat → Int32} (hN : NowR c_now_stones_kinds c_now_stones_many c_now_stones_wetness c_now_game_totals c_now_game_gains c_now_game_player c_now_game_undoable c_now_written_cells c_now_written_many m_s) (hE : RefR c_refused m_refused) (y0 : Int32) (y1 : Int32) (y2 : Int32) (y3 : Int32) (y4 : Int32) (y5 : Int32) : ∃ (r : Int32) (dc_refused : Nat → Int32) (dc_now_game_player : Int32) (dc_now_game_undoable : Int32) (dc_now_game_gains : Nat → Int32) (dc_now_game_totals : Nat → Int32) (dm_s : Nat → Int32) (dm_refused : Nat → Int32), f_X10_play y0 y1 y2 y3 y4 y5 c_now_stones_many c_now_stones_wetness c_refused c_now_stones_kinds c_now_game_player c_now_game_undoable c_now_game_gains c_now_game_totals = some (r, dc_refused, dc_now_game_player, dc_now_game_undoable, dc_now_game_gains, dc_now_game_totals) ∧ f_X11_play y0 y1 y2 y3 y4 y5 m_s m_refused = some (r, dm_s, dm_refused) ∧ NowR c_now_stones_kinds c_now_stones_many c_now_stones_wetness dc_now_game_totals dc_now_game_gains dc_now_game_player dc_now_game_undoable c_now_written_cells c_now_written_many dm_s ∧ RefR dc_refused dm_refused := by
  obtain ⟨⟨nm, nw, b1, b2, rfl, rfl, e0, e1, hk⟩, hG, hB⟩ := hN
  unfold f_X10_play f_X11_play f_X10_play_L42 f_X10_play_L43 f_X11_play_L49 f_X10_isStand f_X10_thrown
  rw [isThrow10 b1, isThrow11 b1 e0, cw, cw, cw, mw y3 0 20 (lo' := 0) (hi' := 20) rfl rfl, mw y4 (-1) 1 (lo' := -1) (hi' := 1) rfl rfl, mw y5 (-1) 1 (lo' := -1) (hi' := 1) rfl rfl]
  cases hT : inT y0 y1 y2 (nI nm) with
  | false =>
    simp only [mb0_s, mb1_s, mb2_s, mb3_s, mb4_s, mb5_s, mb6_s, mb7_s, mb8_s, mb9_s, mb10_s, mb11_s, mb12_s, mb13_s, mb14_s, mb15_s, mb16_s, mb17_s, mb18_s, mb19_s, mb20_s, mb21_s, mb22_s, mb23_s, mb24_s, ifI_t, ifI_f, isB_bI, bad10, no10, full10, bad11, badAs11, no11, full11, mb0_s, mb1_s, mb2_s, mb3_s, mb4_s, mb5_s, mb6_s, mb7_s, mb8_s, mb9_s, mb10_s, mb11_s, mb12_s, mb13_s, mb14_s, mb15_s, mb16_s, mb17_s, mb18_s, mb19_s, mb20_s, mb21_s, mb22_s, mb23_s, mb24_s, mg_tt, ib_0_2, ib_0_3, ib_0_4, ib_0_44, ib_0_117, ib_1_2, ib_1_3, ib_1_4, ib_1_117, ib_2_3, ib_2_4, ib_2_117, ib_3_4, ib_3_117, ib_4_117, ib_5_117, ib_44_117, tn_0, tn_1, tn_2, tn_3, tn_4, tn_5, tn_8, tn_10, tn_44, tn_72, cp_0, cp_1, cp_2, cp_3, cp_4]
    rw [if_pos trivial]
    exact ⟨_, _, _, _, _, _, _, _, rfl, rfl, ⟨⟨nm, nw, b1, b2, rfl, rfl, e0, e1, hk⟩, hG, hB⟩, hE.bump 0⟩
  | true =>
  cases hg : inR y3 0 20 with
  | false =>
    simp only [mb0_s, mb1_s, mb2_s, mb3_s, mb4_s, mb5_s, mb6_s, mb7_s, mb8_s, mb9_s, mb10_s, mb11_s, mb12_s, mb13_s, mb14_s, mb15_s, mb16_s, mb17_s, mb18_s, mb19_s, mb20_s, mb21_s, mb22_s, mb23_s, mb24_s, ifI_t, ifI_f, isB_bI, bad10, no10, full10, bad11, badAs11, no11, full11, mb0_s, mb1_s, mb2_s, mb3_s, mb4_s, mb5_s, mb6_s, mb7_s, mb8_s, mb9_s, mb10_s, mb11_s, mb12_s, mb13_s, mb14_s, mb15_s, mb16_s, mb17_s, mb18_s, mb19_s, mb20_s, mb21_s, mb22_s, mb23_s, mb24_s, mg_tt, ib_0_2, ib_0_3, ib_0_4, ib_0_44, ib_0_117, ib_1_2, ib_1_3, ib_1_4, ib_1_117, ib_2_3, ib_2_4, ib_2_117, ib_3_4, ib_3_117, ib_4_117, ib_5_117, ib_44_117, tn_0, tn_1, tn_2, tn_3, tn_4, tn_5, tn_8, tn_10, tn_44, tn_72, cp_0, cp_1, cp_2, cp_3, cp_4]
    rw [if_pos trivial]
    exact ⟨_, _, _, _, _, _, _, _, rfl, rfl, ⟨⟨nm, nw, b1, b2, rfl, rfl, e0, e1, hk⟩, hG, hB⟩, hE.bump 0⟩
  | true =>
  cases hg4 : inR y4 (-1) 1 with
  | false =>
    simp only [mb0_s, mb1_s, mb2_s, mb3_s, mb4_s, mb5_s, mb6_s, mb7_s, mb8_s, mb9_s, mb10_s, mb11_s, mb12_s, mb13_s, mb14_s, mb15_s, mb16_s, mb17_s, mb18_s, mb19_s, mb20_s, mb21_s, mb22_s, mb23_s, mb24_s, ifI_t, ifI_f, isB_bI, bad10, no10, full10, bad11, badAs11, no11, full11, mb0_s, mb1_s, mb2_s, mb3_s, mb4_s, mb5_s, mb6_s, mb7_s, mb8_s, mb9_s, mb10_s, mb11_s, mb12_s, mb13_s, mb14_s, mb15_s, mb16_s, mb17_s, mb18_s, mb19_s, mb20_s, mb21_s, mb22_s, mb23_s, mb24_s, mg_tt, ib_0_2, ib_0_3, ib_0_4, ib_0_44, ib_0_117, ib_1_2, ib_1_3, ib_1_4, ib_1_117, ib_2_3, ib_2_4, ib_2_117, ib_3_4, ib_3_117, ib_4_117, ib_5_117, ib_44_117, tn_0, tn_1, tn_2, tn_3, tn_4, tn_5, tn_8, tn_10, tn_44, tn_72, cp_0, cp_1, cp_2, cp_3, cp_4]
    rw [if_pos trivial]
    exact ⟨_, _, _, _, _, _, _, _, rfl, rfl, ⟨⟨nm, nw, b1, b2, rfl, rfl, e0, e1, hk⟩, hG, hB⟩, hE.bump 0⟩
  | true =>
  cases hg5 : inR y5 (-1) 1 with
  | false =>
    simp only [mb0_s, mb1_s, mb2_s, mb3_s, mb4_s, mb5_s, mb6_s, mb7_s, mb8_s, mb9_s, mb10_s, mb11_s, mb12_s, mb13_s, mb14_s, mb15_s, mb16_s, mb17_s, mb18_s, mb19_s, mb20_s, mb21_s, mb22_s, mb23_s, mb24_s, ifI_t, ifI_f, isB_bI, bad10, no10, full10, bad11, badAs11, no11, full11, mb0_s, mb1_s, mb2_s, mb3_s, mb4_s, mb5_s, mb6_s, mb7_s, mb8_s, mb9_s, mb10_s, mb11_s, mb12_s, mb13_s, mb14_s, mb15_s, mb16_s, mb17_s, mb18_s, mb19_s, mb20_s, mb21_s, mb22_s, mb23_s, mb24_s, mg_tt, ib_0_2, ib_0_3, ib_0_4, ib_0_44, ib_0_117, ib_1_2, ib_1_3, ib_1_4, ib_1_117, ib_2_3, ib_2_4, ib_2_117, ib_3_4, ib_3_117, ib_4_117, ib_5_117, ib_44_117, tn_0, tn_1, tn_2, tn_3, tn_4, tn_5, tn_8, tn_10, tn_44, tn_72, cp_0, cp_1, cp_2, cp_3, cp_4]
    rw [if_pos trivial]
    exact ⟨_, _, _, _, _, _, _, _, rfl, rfl, ⟨⟨nm, nw, b1, b2, rfl, rfl, e0, e1, hk⟩, hG, hB⟩, hE.bump 0⟩
  | true =>
  obtain ⟨i, x, t, i1, rfl, x1, x2, rfl, t1, t2, rfl⟩ := inT_z b1 hT
  obtain ⟨j, hj, hA⟩ := At.of b1 b2 e0 e1 hk i1
  obtain ⟨y, g1, g2, rfl⟩ := inR_z 0 20 rfl rfl hg
  obtain ⟨a, a1, a2, rfl⟩ := inR_z (-1) 1 rfl rfl hg4
  obtain ⟨b, q1, q2, rfl⟩ := inR_z (-1) 1 rfl rfl hg5
  have hG0 := hG
  obtain ⟨u, p, u1, u2, rfl, rfl, h5, h4, -, -, -⟩ := hG
  have hS : StnR c_now_stones_kinds (nI nm) (nI nw) m_s := ⟨nm, nw, b1, b2, rfl, rfl, e0, e1, hk⟩
  simp only [mb0_s, mb1_s, mb2_s, mb3_s, mb4_s, mb5_s, mb6_s, mb7_s, mb8_s, mb9_s, mb10_s, mb11_s, mb12_s, mb13_s, mb14_s, mb15_s, mb16_s, mb17_s, mb18_s, mb19_s, mb20_s, mb21_s, mb22_s, mb23_s, mb24_s, ifI_t, ifI_f, isB_bI, bad10, no10, full10, bad11, badAs11, no11, full11, mb0_s, mb1_s, mb2_s, mb3_s, mb4_s, mb5_s, mb6_s, mb7_s, mb8_s, mb9_s, mb10_s, mb11_s, mb12_s, mb13_s, mb14_s, mb15_s, mb16_s, mb17_s, mb18_s, mb19_s, mb20_s, mb21_s, mb22_s, mb23_s, mb24_s, mg_tt, ib_0_2, ib_0_3, ib_0_4, ib_0_44, ib_0_117, ib_1_2, ib_1_3, ib_1_4, ib_1_117, ib_2_3, ib_2_4, ib_2_117, ib_3_4, ib_3_117, ib_4_117, ib_5_117, ib_44_117, tn_0, tn_1, tn_2, tn_3, tn_4, tn_5, tn_8, tn_10, tn_44, tn_72, cp_0, cp_1, cp_2, cp_3, cp_4, kind10 b1 i1, hj, pts10 hA.2.2.1, zI_add, h5]
  rw [if_neg (show ¬ ((1 : Int32) = 0) from by decide)]
  by_cases hu : u < 10
  · have hne : ¬ nI u = 10 := by
      show ¬ nI u = nI 10
      rw [nI_eq (by omega) (by omega)]; omega
    obtain ⟨s', c1, c5, c4, cp, cq, cu, cj⟩ := playL hA hu u2 h5 h4 (F := x) (C := t) (F' := a) (C' := b) (Y := y) (by omega) (by omega) (by omega) (by omega) (by omega) g1 g2 m_refused
    rw [if_neg hne, c1, add10 hu u2, mb4_s]
    exact ⟨_, _, _, _, _, _, _, _, rfl, rfl, ⟨hS.fr' (fun k k1 k2 => cj k (by omega) (by omega)), hG0.add hu u2 c5 c4 cp cq cu (fun k k1 k2 => cj k (by omega) (by omega)), hB.fr (fun k k1 k2 => cj k (by omega) (by omega))⟩, hE⟩
  · obtain rfl : u = 10 := by omega
    obtain ⟨s1, d1, d2, d3⟩ := playS (nI i) (zI x) (zI t) (zI y) (zI a) (zI b) m_refused 27 100000 m_s (by omega) (by omega)
    have eqs : (14 : Int32) = nI (41 - 27) := rfl
    rw [if_pos (show nI 10 = 10 from rfl), eqs, d1]
    have s15 : s1 5 - 1 = nI 9 := by rw [d3 5 (by omega), h5]; rfl
    rw [s15]
    have fr : ∀ k : Nat, k ≠ 5 → ¬ (14 ≤ k ∧ k < 41) → upd s1 5 (nI 9) k = m_s k := fun k k1 k2 => by rw [up_n k1, d3 k (by omega)]
    have hS1 : StnR c_now_stones_kinds (nI nm) (nI nw) (upd s1 5 (nI 9)) := hS.fr' (fun k k1 k2 => fr k (by omega) (by omega))
    have hA1 : At (upd s1 5 (nI 9)) i j nw nm := ⟨hA.1, hA.2.1, hA.2.2.1, hA.2.2.2.1, by rw [fr 0 (by omega) (by omega)]; exact hA.2.2.2.2.1, by rw [fr 1 (by omega) (by omega)]; exact hA.2.2.2.2.2.1, by rw [fr _ (by omega) (by have := hA.2.1; omega)]; exact hA.2.2.2.2.2.2⟩
    obtain ⟨s', c1, c5, c4, cp, cq, cu, cj⟩ := playL hA1 (show 9 < 10 by omega) u2 (up_s _ _ _) (by rw [fr 4 (by omega) (by omega)]; exact h4) (F := x) (C := t) (F' := a) (C' := b) (Y := y) (by omega) (by omega) (by omega) (by omega) (by omega) g1 g2 m_refused
    obtain ⟨gs, v1, v2⟩ := addS u2 (zPts (nI j) (nI nw) (zI (x + a)) (zI (t + b)) (zI y)) c_now_game_gains c_now_game_totals
    rw [c1, v2, mb4_s]
    have hG1 : GamR c_now_game_totals gs (nI p) (nI 9) (upd s1 5 (nI 9)) := hG0.shift (up_s _ _ _) (fun f hf => fr _ (by omega) (by omega)) (fun k k1 k2 => by rw [up_n (by omega)]; exact d2 k (by omega) k2) v1
    exact ⟨_, _, _, _, _, _, _, _, rfl, rfl, ⟨hS1.fr' (fun k k1 k2 => cj k (by omega) (by omega)), hG1.add (by omega) u2 c5 c4 cp cq cu (fun k k1 k2 => cj k (by omega) (by omega)), hB.fr (fun k k1 k2 => (cj k (by omega) (by omega)).trans (fr k (by omega) (by omega)))⟩, hE⟩
