set_option maxRecDepth 8000
/-! fractions -/
theorem gcd_u (a b : Nat) : Nat.gcd b a = Nat.gcd (a % b) b := Nat.gcd_rec b a
theorem half {a b t : Nat} (hb : 0 < b) (h : b < 2 ^ (t + 1)) (hr : 0 < a % b) : b % (a % b) < 2 ^ t := by
  have h1 : a % b < b := Nat.mod_lt _ hb
  have h2 : b % (a % b) < a % b := Nat.mod_lt _ hr
  have h3 : b % (a % b) + (a % b) ≤ b := by
    have h4 := Nat.div_add_mod b (a % b)
    have h5 : 1 ≤ b / (a % b) := Nat.div_pos (by omega) hr
    have h6 : (a % b) * 1 ≤ (a % b) * (b / (a % b)) := Nat.mul_le_mul_left _ h5
    omega
  rw [Nat.pow_succ] at h
  omega
theorem zL_z {b : Nat} (h : b < 2 ^ 62) : (zL (b : Int) = 0) ↔ b = 0 := by
  rw [zm_0, zL_eq (by omega) (by omega) (by omega) (by omega)]
  omega
theorem zL_b {b : Nat} (h : b < 2 ^ 62) (h0 : ¬ b = 0) : (zL (b : Int) != 0) = true := by
  rw [bne_iff_ne]
  exact fun e => h0 ((zL_z h).mp e)
theorem zL_r {a b : Nat} (ha : a < 2 ^ 62) (hb : b < 2 ^ 62) : lrm (zL (a : Int)) (zL (b : Int)) = zL ((a % b : Nat) : Int) := by
  rw [zL_rm (by omega) (by omega) (by omega) (by omega)]
  congr 1
theorem gcd10 : ∀ (t a b N k : Nat), a < 2 ^ 62 → b < 2 ^ t → t ≤ 62 → 2 * t + 1 ≤ N → k + 2 * t ≤ 1000 → f_X2_commonPart_L9 N (zL (a : Int)) (zL (b : Int)) (nI k) = some (zL (Nat.gcd b a : Nat))
  | 0, a, b, N, k, ha, hb, ht, hN, hk => by
    obtain ⟨N, rfl⟩ : ∃ n, N = n + 1 := ⟨N - 1, by omega⟩
    obtain rfl : b = 0 := by omega
    unfold f_X2_commonPart_L9
    rw [Nat.gcd_zero_left]
    split
    · rfl
    · rw [if_pos ((zL_z (by omega)).mpr rfl)]
  | t + 1, a, b, N, k, ha, hb, ht, hN, hk => by
    obtain ⟨N, rfl⟩ : ∃ n, N = n + 1 + 1 := ⟨N - 2, by omega⟩
    have hb62 : b < 2 ^ 62 := Nat.lt_of_lt_of_le hb (Nat.pow_le_pow_right (by decide) ht)
    have hk1 : ¬ (1000 : Int32) ≤ nI k := nI_ge (b := 1000) (by omega) (by decide)
    have hk2 : ¬ (1000 : Int32) ≤ nI (k + 1) := nI_ge (b := 1000) (by omega) (by decide)
    unfold f_X2_commonPart_L9
    rw [if_neg hk1]
    by_cases h0 : b = 0
    · subst h0
      rw [if_pos ((zL_z (by omega)).mpr rfl), Nat.gcd_zero_left]
    · have hm : a % b < b := Nat.mod_lt _ (by omega)
      rw [if_neg (fun e => h0 ((zL_z hb62).mp e)), zL_b hb62 h0, mg_tt, zL_r ha hb62, nI_1]
      unfold f_X2_commonPart_L9
      rw [if_neg hk2]
      by_cases h1 : a % b = 0
      · rw [if_pos ((zL_z (by omega)).mpr h1), gcd_u, h1, Nat.gcd_zero_left]
      · rw [if_neg (fun e => h1 ((zL_z (by omega)).mp e)), zL_b (by omega) h1, mg_tt, zL_r hb62 (by omega), nI_1, gcd_u a b, gcd_u b (a % b)]
        exact gcd10 t (a % b) (b % (a % b)) N (k + 1 + 1) (by omega) (half (by omega) hb (by omega)) (by omega) (by omega) (by omega)
theorem gcd11 (U L : Int64) (v w : Int64) : ∀ (t a b N : Nat), a < 2 ^ 62 → b < 2 ^ t → t ≤ 62 → 2 * t + 1 ≤ N → ∃ M : Nat, f_X11_tells_L6 N U L (zL (a : Int)) (zL (b : Int)) v w = mg (zL (Nat.gcd b a : Nat) != 0) (mg (zL (Nat.gcd b a : Nat) != 0) (some (U / zL (Nat.gcd b a : Nat), L / zL (Nat.gcd b a : Nat))))
  | 0, a, b, N, ha, hb, ht, hN => by
    obtain ⟨N, rfl⟩ : ∃ n, N = n + 1 := ⟨N - 1, by omega⟩
    obtain rfl : b = 0 := by omega
    refine ⟨0, ?_⟩
    unfold f_X11_tells_L6
    rw [Nat.gcd_zero_left, if_pos ((zL_z (by omega)).mpr rfl)]
  | t + 1, a, b, N, ha, hb, ht, hN => by
    obtain ⟨N, rfl⟩ : ∃ n, N = n + 1 + 1 := ⟨N - 2, by omega⟩
    have hb62 : b < 2 ^ 62 := Nat.lt_of_lt_of_le hb (Nat.pow_le_pow_right (by decide) ht)
    unfold f_X11_tells_L6
    by_cases h0 : b = 0
    · subst h0
      rw [if_pos ((zL_z (by omega)).mpr rfl), Nat.gcd_zero_left]
      exact ⟨0, rfl⟩
    · have hm : a % b < b := Nat.mod_lt _ (by omega)
      rw [if_neg (fun e => h0 ((zL_z hb62).mp e)), zL_b hb62 h0, mg_tt, zL_r ha hb62]
      unfold f_X11_tells_L6
      by_cases h1 : a % b = 0
      · rw [if_pos ((zL_z (by omega)).mpr h1), gcd_u, h1, Nat.gcd_zero_left]
        exact ⟨0, rfl⟩
      · rw [if_neg (fun e => h1 ((zL_z (by omega)).mp e)), zL_b (by omega) h1, mg_tt, zL_r hb62 (by omega), gcd_u a b, gcd_u b (a % b)]
        exact gcd11 U L v w t (a % b) (b % (a % b)) N (by omega) (half (by omega) hb (by omega)) (by omega) (by omega)
theorem lab_n {a : Nat} (h : a < 2 ^ 62) : lab (zL (a : Int)) = zL (a : Int) := by
  unfold lab
  split
  · rfl
  · rename_i h0
    rw [zm_0, zL_lt (by omega) (by omega) (by omega) (by omega)] at h0
    rw [zL_neg]
    congr 1; omega
theorem lab_m {a : Nat} (h : a < 2 ^ 62) : lab (zL (-(a : Int))) = zL (a : Int) := by
  unfold lab
  rw [if_neg (by rw [zm_0, zL_lt (by omega) (by omega) (by omega) (by omega)]; omega), zL_neg]
  congr 1
  omega
theorem gcd_pos {U L : Nat} (hL : 0 < L) : 0 < Nat.gcd L U := Nat.gcd_pos_of_pos_left _ hL
theorem tells_e {U L : Nat} (hU : U < 2 ^ 62) (hL : L < 2 ^ 62) (h0 : 0 < L) (v w : Int64) : f_X11_tells (zL (U : Int)) (zL (L : Int)) v w = some (zL (U / Nat.gcd L U : Nat), zL (L / Nat.gcd L U : Nat)) := by
  have hg := gcd_pos (U := U) h0
  have hg2 : Nat.gcd L U ≤ L := Nat.gcd_le_left _ h0
  unfold f_X11_tells
  obtain ⟨-, e⟩ := gcd11 (zL (U : Int)) (zL (L : Int)) v w 62 U L 100000 hU hL (by omega) (by omega)
  rw [e, zL_b (by omega) (by omega), mg_tt, mg_tt, zL_div (by omega) (by omega) (by omega) (by omega), zL_div (by omega) (by omega) (by omega) (by omega)]
  rfl
theorem hold_e {U L : Nat} (hU : U < 2 ^ 62) (hL : L < 2 ^ 62) (h0 : 0 < L) (v w : Int64) : f_X2_hold (zL (U : Int)) (zL (L : Int)) v w = some (zL (U / Nat.gcd L U : Nat), zL (L / Nat.gcd L U : Nat)) := by
  have hg := gcd_pos (U := U) h0
  have hg2 : Nat.gcd L U ≤ L := Nat.gcd_le_left _ h0
  unfold f_X2_hold f_X2_commonPart f_X2_hold_L41
  have e := gcd10 62 U L 100000 0 hU hL (by omega) (by omega) (by omega)
  rw [lab_n hU, lab_n hL, show f_X2_commonPart_L9 100000 (zL (U : Int)) (zL (L : Int)) 0 = _ from e, mb1_s, if_neg (fun e => (show ¬ L = 0 by omega) ((zL_z hL).mp e)), if_neg (fun e => (show ¬ Nat.gcd L U = 0 by omega) ((zL_z (by omega)).mp e))]
  rw [if_pos (by rw [zm_0, zL_le (by omega) (by omega) (by omega) (by omega)]; omega)]
  rw [zL_b (by omega) (by omega), mg_tt, mg_tt, zL_div (by omega) (by omega) (by omega) (by omega), zL_div (by omega) (by omega) (by omega) (by omega)]
  rfl
/-- both parts below 0 -/
theorem holdm_e {U L : Nat} (hU : U < 2 ^ 62) (hL : L < 2 ^ 62) (h0 : 0 < L) (v w : Int64) : f_X2_hold (zL (-(U : Int))) (zL (-(L : Int))) v w = some (zL (U / Nat.gcd L U : Nat), zL (L / Nat.gcd L U : Nat)) := by
  have hg := gcd_pos (U := U) h0
  have hg2 : Nat.gcd L U ≤ L := Nat.gcd_le_left _ h0
  unfold f_X2_hold f_X2_commonPart f_X2_hold_L41
  have e := gcd10 62 U L 100000 0 hU hL (by omega) (by omega) (by omega)
  have hn : ¬ zL (-(L : Int)) = 0 := by rw [zm_0, zL_eq (by omega) (by omega) (by omega) (by omega)]; omega
  have hn2 : (-zL ((Nat.gcd L U : Nat) : Int) != 0) = true := by
    rw [bne_iff_ne, zL_neg, zm_0]
    intro e
    rw [zL_eq (by omega) (by omega) (by omega) (by omega)] at e
    omega
  rw [lab_m hU, lab_m hL, show f_X2_commonPart_L9 100000 (zL (U : Int)) (zL (L : Int)) 0 = _ from e, mb1_s, if_neg hn, if_neg (fun e => (show ¬ Nat.gcd L U = 0 by omega) ((zL_z (by omega)).mp e))]
  rw [if_neg (by rw [zm_0, zL_le (by omega) (by omega) (by omega) (by omega)]; omega), hn2, mg_tt, mg_tt, zL_neg]
  rw [zL_td (by omega) (by omega) (by omega) (by omega), zL_td (by omega) (by omega) (by omega) (by omega)]
  rw [Int.neg_tdiv, Int.tdiv_neg, Int.neg_neg, Int.neg_tdiv, Int.tdiv_neg, Int.neg_neg, Int.tdiv_eq_ediv_of_nonneg (by omega), Int.tdiv_eq_ediv_of_nonneg (by omega)]
  rfl
theorem op_cars {c_fraction_above : Int64} {c_fraction_below : Int64} {c_refused : Nat → Int32} {m_above : Int64} {m_below : Int64} {m_refused : Nat → Int32} (hF : FrcR c_fraction_above c_fraction_below m_above m_below) (hE : RefR c_refused m_refused) (y0 : Int32) (y1 : Int32) (y2 : Int32) : ∃ (r : Int32) (dc_refused : Nat → Int32) (dc_fraction_above : Int64) (dc_fraction_below : Int64) (dm_above : Int64) (dm_below : Int64) (dm_refused : Nat → Int32), f_X10_cars y0 y1 y2 c_refused c_fraction_above c_fraction_below = some (r, dc_refused, dc_fraction_above, dc_fraction_below) ∧ f_X11_cars y0 y1 y2 m_above m_below m_refused = some (r, dm_above, dm_below, dm_refused) ∧ FrcR dc_fraction_above dc_fraction_below dm_above dm_below ∧ RefR dc_refused dm_refused := by
  obtain ⟨rfl, rfl⟩ := hF
  unfold f_X10_cars f_X11_cars f_X10_cars_L30 f_X11_cars_L36
  rw [cw, cw, cw, mw y0 0 40 (lo' := 0) (hi' := 40) rfl rfl, mw y1 0 10 (lo' := 0) (hi' := 10) rfl rfl, mw y2 0 10 (lo' := 0) (hi' := 10) rfl rfl]
  cases hT : inR y0 0 40 with
  | false =>
    simp only [mb0_s, mb1_s, mb2_s, mb3_s, mb4_s, mb5_s, mb6_s, mb7_s, mb8_s, mb9_s, mb10_s, mb11_s, mb12_s, mb13_s, mb14_s, mb15_s, mb16_s, mb17_s, mb18_s, mb19_s, mb20_s, mb21_s, mb22_s, mb23_s, mb24_s, ifI_t, ifI_f, isB_bI, bad10, no10, full10, bad11, badAs11, no11, full11, mb0_s, mb1_s, mb2_s, mb3_s, mb4_s, mb5_s, mb6_s, mb7_s, mb8_s, mb9_s, mb10_s, mb11_s, mb12_s, mb13_s, mb14_s, mb15_s, mb16_s, mb17_s, mb18_s, mb19_s, mb20_s, mb21_s, mb22_s, mb23_s, mb24_s, mg_tt, ib_0_2, ib_0_3, ib_0_4, ib_0_44, ib_0_117, ib_1_2, ib_1_3, ib_1_4, ib_1_117, ib_2_3, ib_2_4, ib_2_117, ib_3_4, ib_3_117, ib_4_117, ib_5_117, ib_44_117, tn_0, tn_1, tn_2, tn_3, tn_4, tn_5, tn_8, tn_10, tn_44, tn_72, cp_0, cp_1, cp_2, cp_3, cp_4]
    exact ⟨_, _, _, _, _, _, _, rfl, rfl, ⟨rfl, rfl⟩, hE.bump 0⟩
  | true =>
  cases hg : inR y1 0 10 with
  | false =>
    simp only [mb0_s, mb1_s, mb2_s, mb3_s, mb4_s, mb5_s, mb6_s, mb7_s, mb8_s, mb9_s, mb10_s, mb11_s, mb12_s, mb13_s, mb14_s, mb15_s, mb16_s, mb17_s, mb18_s, mb19_s, mb20_s, mb21_s, mb22_s, mb23_s, mb24_s, ifI_t, ifI_f, isB_bI, bad10, no10, full10, bad11, badAs11, no11, full11, mb0_s, mb1_s, mb2_s, mb3_s, mb4_s, mb5_s, mb6_s, mb7_s, mb8_s, mb9_s, mb10_s, mb11_s, mb12_s, mb13_s, mb14_s, mb15_s, mb16_s, mb17_s, mb18_s, mb19_s, mb20_s, mb21_s, mb22_s, mb23_s, mb24_s, mg_tt, ib_0_2, ib_0_3, ib_0_4, ib_0_44, ib_0_117, ib_1_2, ib_1_3, ib_1_4, ib_1_117, ib_2_3, ib_2_4, ib_2_117, ib_3_4, ib_3_117, ib_4_117, ib_5_117, ib_44_117, tn_0, tn_1, tn_2, tn_3, tn_4, tn_5, tn_8, tn_10, tn_44, tn_72, cp_0, cp_1, cp_2, cp_3, cp_4]
    exact ⟨_, _, _, _, _, _, _, rfl, rfl, ⟨rfl, rfl⟩, hE.bump 0⟩
  | true =>
  cases hg4 : inR y2 0 10 with
  | false =>
    simp only [mb0_s, mb1_s, mb2_s, mb3_s, mb4_s, mb5_s, mb6_s, mb7_s, mb8_s, mb9_s, mb10_s, mb11_s, mb12_s, mb13_s, mb14_s, mb15_s, mb16_s, mb17_s, mb18_s, mb19_s, mb20_s, mb21_s, mb22_s, mb23_s, mb24_s, ifI_t, ifI_f, isB_bI, bad10, no10, full10, bad11, badAs11, no11, full11, mb0_s, mb1_s, mb2_s, mb3_s, mb4_s, mb5_s, mb6_s, mb7_s, mb8_s, mb9_s, mb10_s, mb11_s, mb12_s, mb13_s, mb14_s, mb15_s, mb16_s, mb17_s, mb18_s, mb19_s, mb20_s, mb21_s, mb22_s, mb23_s, mb24_s, mg_tt, ib_0_2, ib_0_3, ib_0_4, ib_0_44, ib_0_117, ib_1_2, ib_1_3, ib_1_4, ib_1_117, ib_2_3, ib_2_4, ib_2_117, ib_3_4, ib_3_117, ib_4_117, ib_5_117, ib_44_117, tn_0, tn_1, tn_2, tn_3, tn_4, tn_5, tn_8, tn_10, tn_44, tn_72, cp_0, cp_1, cp_2, cp_3, cp_4]
    exact ⟨_, _, _, _, _, _, _, rfl, rfl, ⟨rfl, rfl⟩, hE.bump 0⟩
  | true =>
  obtain ⟨k, -, k2, rfl⟩ := inR_nI 0 40 rfl rfl hT
  obtain ⟨c, -, c2, rfl⟩ := inR_nI 0 10 rfl rfl hg
  obtain ⟨v, -, v2, rfl⟩ := inR_nI 0 10 rfl rfl hg4
  have b1 : k * c ≤ 400 := Nat.mul_le_mul k2 c2
  have b2 : k * c * v ≤ 4000 := Nat.mul_le_mul b1 v2
  have e1 : (nI k * nI c * nI v).toInt64 = zL ((k * c * v : Nat) : Int) := by
    rw [nI_z, nI_z, nI_z, zI_mul, zI_mul, ← Int.natCast_mul, ← Int.natCast_mul, zI_l (by omega) (by omega)]
  have e2 : (100 : Int64) = zL ((100 : Nat) : Int) := by decide +kernel
  simp only [mb0_s, mb1_s, mb2_s, mb3_s, mb4_s, mb5_s, mb6_s, mb7_s, mb8_s, mb9_s, mb10_s, mb11_s, mb12_s, mb13_s, mb14_s, mb15_s, mb16_s, mb17_s, mb18_s, mb19_s, mb20_s, mb21_s, mb22_s, mb23_s, mb24_s, ifI_t, ifI_f, isB_bI, bad10, no10, full10, bad11, badAs11, no11, full11, mb0_s, mb1_s, mb2_s, mb3_s, mb4_s, mb5_s, mb6_s, mb7_s, mb8_s, mb9_s, mb10_s, mb11_s, mb12_s, mb13_s, mb14_s, mb15_s, mb16_s, mb17_s, mb18_s, mb19_s, mb20_s, mb21_s, mb22_s, mb23_s, mb24_s, mg_tt, ib_0_2, ib_0_3, ib_0_4, ib_0_44, ib_0_117, ib_1_2, ib_1_3, ib_1_4, ib_1_117, ib_2_3, ib_2_4, ib_2_117, ib_3_4, ib_3_117, ib_4_117, ib_5_117, ib_44_117, tn_0, tn_1, tn_2, tn_3, tn_4, tn_5, tn_8, tn_10, tn_44, tn_72, cp_0, cp_1, cp_2, cp_3, cp_4, e1]
  rw [e2, hold_e (by omega) (by omega) (by omega), tells_e (by omega) (by omega) (by omega), mb2_s, mb2_s]
  exact ⟨_, _, _, _, _, _, _, rfl, rfl, ⟨rfl, rfl⟩, hE⟩
