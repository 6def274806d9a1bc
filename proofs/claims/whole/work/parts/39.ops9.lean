set_option maxRecDepth 8000
def zOkL (x y : Option Int64) : Bool := match x with
  | some v => decide (0 ≤ v.toInt ∧ v.toInt < 4611686018427387904 ∧ y = some v)
  | none => false
theorem zOkL_e {x y : Option Int64} (h : zOkL x y = true) : ∃ U : Nat, U < 2 ^ 62 ∧ x = some (zL (U : Int)) ∧ y = some (zL (U : Int)) := by
  unfold zOkL at h
  cases x with
  | none => exact Bool.noConfusion h
  | some v =>
    obtain ⟨h1, h2, h3⟩ := of_decide_eq_true h
    refine ⟨v.toInt.toNat, by omega, ?_, ?_⟩
    · rw [Int.toNat_of_nonneg h1, ← zL_of]
    · rw [Int.toNat_of_nonneg h1, ← zL_of]; exact h3
theorem mid_all : ∀ q : Fin 17, ∀ m : Fin 7, ∀ r : Fin 7, zOkL (f_X6_middleCases (nI q) (nI m) (nI r)) (f_X11_meanBehind (nI q) (nI m) (nI r)) = true := by decide +kernel
theorem all_m : ∀ m : Fin 9, f_X6_allCases (nI m) = some (zL ((16 ^ m.val : Nat) : Int)) ∧ f_X11_power 16 (nI m) = some (zL ((16 ^ m.val : Nat) : Int)) := by decide +kernel
theorem op_middle {c_fraction_above : Int64} {c_fraction_below : Int64} {c_refused : Nat → Int32} {m_above : Int64} {m_below : Int64} {m_refused : Nat → Int32} (hF : FrcR c_fraction_above c_fraction_below m_above m_below) (hE : RefR c_refused m_refused) (y0 : Int32) (y1 : Int32) (y2 : Int32) : ∃ (r : Int32) (dc_refused : Nat → Int32) (dc_fraction_above : Int64) (dc_fraction_below : Int64) (dm_above : Int64) (dm_below : Int64) (dm_refused : Nat → Int32), f_X10_middle y0 y1 y2 c_refused c_fraction_above c_fraction_below = some (r, dc_refused, dc_fraction_above, dc_fraction_below) ∧ f_X11_middle y0 y1 y2 m_above m_below m_refused = some (r, dm_above, dm_below, dm_refused) ∧ FrcR dc_fraction_above dc_fraction_below dm_above dm_below ∧ RefR dc_refused dm_refused := by
  obtain ⟨rfl, rfl⟩ := hF
  unfold f_X10_middle f_X11_middle f_X10_middle_L27 f_X11_middle_L36 f_X10_isChance
  rw [cw, cw, cw, mw y0 0 16 (lo' := 0) (hi' := 16) rfl rfl, mw y1 0 6 (lo' := 0) (hi' := 6) rfl rfl, mw y2 0 6 (lo' := 0) (hi' := 6) rfl rfl]
  cases hT : inR y0 0 16 with
  | false =>
    simp only [mb0_s, mb1_s, mb2_s, mb3_s, mb4_s, mb5_s, mb6_s, mb7_s, mb8_s, mb9_s, mb10_s, mb11_s, mb12_s, mb13_s, mb14_s, mb15_s, mb16_s, mb17_s, mb18_s, mb19_s, mb20_s, mb21_s, mb22_s, mb23_s, mb24_s, ifI_t, ifI_f, isB_bI, bad10, no10, full10, bad11, badAs11, no11, full11, mb0_s, mb1_s, mb2_s, mb3_s, mb4_s, mb5_s, mb6_s, mb7_s, mb8_s, mb9_s, mb10_s, mb11_s, mb12_s, mb13_s, mb14_s, mb15_s, mb16_s, mb17_s, mb18_s, mb19_s, mb20_s, mb21_s, mb22_s, mb23_s, mb24_s, mg_tt, ib_0_2, ib_0_3, ib_0_4, ib_0_44, ib_0_117, ib_1_2, ib_1_3, ib_1_4, ib_1_117, ib_2_3, ib_2_4, ib_2_117, ib_3_4, ib_3_117, ib_4_117, ib_5_117, ib_44_117, tn_0, tn_1, tn_2, tn_3, tn_4, tn_5, tn_8, tn_10, tn_44, tn_72, cp_0, cp_1, cp_2, cp_3, cp_4]
    exact ⟨_, _, _, _, _, _, _, rfl, rfl, ⟨rfl, rfl⟩, hE.bump 0⟩
  | true =>
  cases hg : inR y1 0 6 with
  | false =>
    simp only [mb0_s, mb1_s, mb2_s, mb3_s, mb4_s, mb5_s, mb6_s, mb7_s, mb8_s, mb9_s, mb10_s, mb11_s, mb12_s, mb13_s, mb14_s, mb15_s, mb16_s, mb17_s, mb18_s, mb19_s, mb20_s, mb21_s, mb22_s, mb23_s, mb24_s, ifI_t, ifI_f, isB_bI, bad10, no10, full10, bad11, badAs11, no11, full11, mb0_s, mb1_s, mb2_s, mb3_s, mb4_s, mb5_s, mb6_s, mb7_s, mb8_s, mb9_s, mb10_s, mb11_s, mb12_s, mb13_s, mb14_s, mb15_s, mb16_s, mb17_s, mb18_s, mb19_s, mb20_s, mb21_s, mb22_s, mb23_s, mb24_s, mg_tt, ib_0_2, ib_0_3, ib_0_4, ib_0_44, ib_0_117, ib_1_2, ib_1_3, ib_1_4, ib_1_117, ib_2_3, ib_2_4, ib_2_117, ib_3_4, ib_3_117, ib_4_117, ib_5_117, ib_44_117, tn_0, tn_1, tn_2, tn_3, tn_4, tn_5, tn_8, tn_10, tn_44, tn_72, cp_0, cp_1, cp_2, cp_3, cp_4]
    exact ⟨_, _, _, _, _, _, _, rfl, rfl, ⟨rfl, rfl⟩, hE.bump 0⟩
  | true =>
  cases hg4 : inR y2 0 6 with
  | false =>
    simp only [mb0_s, mb1_s, mb2_s, mb3_s, mb4_s, mb5_s, mb6_s, mb7_s, mb8_s, mb9_s, mb10_s, mb11_s, mb12_s, mb13_s, mb14_s, mb15_s, mb16_s, mb17_s, mb18_s, mb19_s, mb20_s, mb21_s, mb22_s, mb23_s, mb24_s, ifI_t, ifI_f, isB_bI, bad10, no10, full10, bad11, badAs11, no11, full11, mb0_s, mb1_s, mb2_s, mb3_s, mb4_s, mb5_s, mb6_s, mb7_s, mb8_s, mb9_s, mb10_s, mb11_s, mb12_s, mb13_s, mb14_s, mb15_s, mb16_s, mb17_s, mb18_s, mb19_s, mb20_s, mb21_s, mb22_s, mb23_s, mb24_s, mg_tt, ib_0_2, ib_0_3, ib_0_4, ib_0_44, ib_0_117, ib_1_2, ib_1_3, ib_1_4, ib_1_117, ib_2_3, ib_2_4, ib_2_117, ib_3_4, ib_3_117, ib_4_117, ib_5_117, ib_44_117, tn_0, tn_1, tn_2, tn_3, tn_4, tn_5, tn_8, tn_10, tn_44, tn_72, cp_0, cp_1, cp_2, cp_3, cp_4]
    exact ⟨_, _, _, _, _, _, _, rfl, rfl, ⟨rfl, rfl⟩, hE.bump 0⟩
  | true =>
  obtain ⟨q, -, q2, rfl⟩ := inR_nI 0 16 rfl rfl hT
  obtain ⟨m, -, m2, rfl⟩ := inR_nI 0 6 rfl rfl hg
  obtain ⟨r, -, r2, rfl⟩ := inR_nI 0 6 rfl rfl hg4
  obtain ⟨U, u1, u2, u3⟩ := zOkL_e (mid_all ⟨q, by omega⟩ ⟨m, by omega⟩ ⟨r, by omega⟩)
  obtain ⟨p1, p2⟩ := all_m ⟨m, by omega⟩
  have b1 : 16 ^ m ≤ 16 ^ 6 := Nat.pow_le_pow_right (by omega) m2
  have b2 : 0 < 16 ^ m := Nat.pow_pos (by omega)
  simp only [mb0_s, mb1_s, mb2_s, mb3_s, mb4_s, mb5_s, mb6_s, mb7_s, mb8_s, mb9_s, mb10_s, mb11_s, mb12_s, mb13_s, mb14_s, mb15_s, mb16_s, mb17_s, mb18_s, mb19_s, mb20_s, mb21_s, mb22_s, mb23_s, mb24_s, ifI_t, ifI_f, isB_bI, bad10, no10, full10, bad11, badAs11, no11, full11, mb0_s, mb1_s, mb2_s, mb3_s, mb4_s, mb5_s, mb6_s, mb7_s, mb8_s, mb9_s, mb10_s, mb11_s, mb12_s, mb13_s, mb14_s, mb15_s, mb16_s, mb17_s, mb18_s, mb19_s, mb20_s, mb21_s, mb22_s, mb23_s, mb24_s, mg_tt, ib_0_2, ib_0_3, ib_0_4, ib_0_44, ib_0_117, ib_1_2, ib_1_3, ib_1_4, ib_1_117, ib_2_3, ib_2_4, ib_2_117, ib_3_4, ib_3_117, ib_4_117, ib_5_117, ib_44_117, tn_0, tn_1, tn_2, tn_3, tn_4, tn_5, tn_8, tn_10, tn_44, tn_72, cp_0, cp_1, cp_2, cp_3, cp_4, u2, u3, p1, p2]
  rw [hold_e u1 (by omega) b2, tells_e u1 (by omega) b2, mb2_s, mb2_s]
  exact ⟨_, _, _, _, _, _, _, rfl, rfl, ⟨rfl, rfl⟩, hE⟩
theorem stop_all : ∀ q : Fin 17, ∀ r : Fin 7, f_X6_bestStop (nI q) (nI r) = (f_X11_stop_L34 100000 (nI q) (nI r) 0 1 (fun _ => 0)).map Prod.fst := by decide +kernel
theorem stop_f (x1 x2 : Int32) (r r' : Nat → Int32) : ∀ (N : Nat) (f m : Int32), (f_X11_stop_L34 N x1 x2 f m r).map Prod.fst = (f_X11_stop_L34 N x1 x2 f m r').map Prod.fst ∧ ∀ v, f_X11_stop_L34 N x1 x2 f m r = some v → v.2 = r
  | 0, f, m => ⟨rfl, fun v h => nomatch h⟩
  | N + 1, f, m => by
    unfold f_X11_stop_L34 f_X11_stop_L91
    by_cases h7 : (7 : Int32) ≤ m
    · rw [if_pos h7, if_pos h7]
      exact ⟨rfl, fun v h => by rw [← Option.some.inj h]⟩
    · rw [if_neg h7, if_neg h7]
      cases f_X11_meanBehind x1 m x2 with
      | none => exact ⟨rfl, fun v h => nomatch h⟩
      | some a =>
      cases f_X11_power 16 (6 - m) with
      | none => exact ⟨rfl, fun v h => nomatch h⟩
      | some b =>
      cases f_X11_meanBehind x1 f x2 with
      | none => exact ⟨rfl, fun v h => nomatch h⟩
      | some c =>
      cases f_X11_power 16 (6 - f) with
      | none => exact ⟨rfl, fun v h => nomatch h⟩
      | some d =>
        simp only [mb1_s]
        split
        · exact stop_f x1 x2 r r' N _ _
        · exact stop_f x1 x2 r r' N _ _
theorem op_stop {c_refused : Nat → Int32} {m_refused : Nat → Int32} (hE : RefR c_refused m_refused) (y0 : Int32) (y1 : Int32) : ∃ (r : Int32) (dc_refused : Nat → Int32) (dm_refused : Nat → Int32), f_X10_stop y0 y1 c_refused = some (r, dc_refused) ∧ f_X11_stop y0 y1 m_refused = some (r, dm_refused) ∧ RefR dc_refused dm_refused := by
  unfold f_X10_stop f_X11_stop f_X10_stop_L17 f_X11_stop_L24 f_X10_isChance
  rw [cw, cw, mw y0 0 16 (lo' := 0) (hi' := 16) rfl rfl, mw y1 0 6 (lo' := 0) (hi' := 6) rfl rfl]
  cases hT : inR y0 0 16 with
  | false =>
    simp only [mb0_s, mb1_s, mb2_s, mb3_s, mb4_s, mb5_s, mb6_s, mb7_s, mb8_s, mb9_s, mb10_s, mb11_s, mb12_s, mb13_s, mb14_s, mb15_s, mb16_s, mb17_s, mb18_s, mb19_s, mb20_s, mb21_s, mb22_s, mb23_s, mb24_s, ifI_t, ifI_f, isB_bI, bad10, no10, full10, bad11, badAs11, no11, full11, mb0_s, mb1_s, mb2_s, mb3_s, mb4_s, mb5_s, mb6_s, mb7_s, mb8_s, mb9_s, mb10_s, mb11_s, mb12_s, mb13_s, mb14_s, mb15_s, mb16_s, mb17_s, mb18_s, mb19_s, mb20_s, mb21_s, mb22_s, mb23_s, mb24_s, mg_tt, ib_0_2, ib_0_3, ib_0_4, ib_0_44, ib_0_117, ib_1_2, ib_1_3, ib_1_4, ib_1_117, ib_2_3, ib_2_4, ib_2_117, ib_3_4, ib_3_117, ib_4_117, ib_5_117, ib_44_117, tn_0, tn_1, tn_2, tn_3, tn_4, tn_5, tn_8, tn_10, tn_44, tn_72, cp_0, cp_1, cp_2, cp_3, cp_4]
    exact ⟨_, _, _, rfl, rfl, hE.bump 0⟩
  | true =>
  cases hg : inR y1 0 6 with
  | false =>
    simp only [mb0_s, mb1_s, mb2_s, mb3_s, mb4_s, mb5_s, mb6_s, mb7_s, mb8_s, mb9_s, mb10_s, mb11_s, mb12_s, mb13_s, mb14_s, mb15_s, mb16_s, mb17_s, mb18_s, mb19_s, mb20_s, mb21_s, mb22_s, mb23_s, mb24_s, ifI_t, ifI_f, isB_bI, bad10, no10, full10, bad11, badAs11, no11, full11, mb0_s, mb1_s, mb2_s, mb3_s, mb4_s, mb5_s, mb6_s, mb7_s, mb8_s, mb9_s, mb10_s, mb11_s, mb12_s, mb13_s, mb14_s, mb15_s, mb16_s, mb17_s, mb18_s, mb19_s, mb20_s, mb21_s, mb22_s, mb23_s, mb24_s, mg_tt, ib_0_2, ib_0_3, ib_0_4, ib_0_44, ib_0_117, ib_1_2, ib_1_3, ib_1_4, ib_1_117, ib_2_3, ib_2_4, ib_2_117, ib_3_4, ib_3_117, ib_4_117, ib_5_117, ib_44_117, tn_0, tn_1, tn_2, tn_3, tn_4, tn_5, tn_8, tn_10, tn_44, tn_72, cp_0, cp_1, cp_2, cp_3, cp_4]
    exact ⟨_, _, _, rfl, rfl, hE.bump 0⟩
  | true =>
  obtain ⟨q, -, q2, rfl⟩ := inR_nI 0 16 rfl rfl hT
  obtain ⟨r, -, r2, rfl⟩ := inR_nI 0 6 rfl rfl hg
  have e1 := stop_all ⟨q, by omega⟩ ⟨r, by omega⟩
  have e2 := (stop_f (nI q) (nI r) (fun _ => 0) m_refused 100000 0 1).1
  have e3 := (stop_f (nI q) (nI r) m_refused m_refused 100000 0 1).2
  simp only [mb0_s, mb1_s, mb2_s, mb3_s, mb4_s, mb5_s, mb6_s, mb7_s, mb8_s, mb9_s, mb10_s, mb11_s, mb12_s, mb13_s, mb14_s, mb15_s, mb16_s, mb17_s, mb18_s, mb19_s, mb20_s, mb21_s, mb22_s, mb23_s, mb24_s, ifI_t, ifI_f, isB_bI, bad10, no10, full10, bad11, badAs11, no11, full11, mb0_s, mb1_s, mb2_s, mb3_s, mb4_s, mb5_s, mb6_s, mb7_s, mb8_s, mb9_s, mb10_s, mb11_s, mb12_s, mb13_s, mb14_s, mb15_s, mb16_s, mb17_s, mb18_s, mb19_s, mb20_s, mb21_s, mb22_s, mb23_s, mb24_s, mg_tt, ib_0_2, ib_0_3, ib_0_4, ib_0_44, ib_0_117, ib_1_2, ib_1_3, ib_1_4, ib_1_117, ib_2_3, ib_2_4, ib_2_117, ib_3_4, ib_3_117, ib_4_117, ib_5_117, ib_44_117, tn_0, tn_1, tn_2, tn_3, tn_4, tn_5, tn_8, tn_10, tn_44, tn_72, cp_0, cp_1, cp_2, cp_3, cp_4]
  have e4 : f_X6_bestStop (nI q) (nI r) = (f_X11_stop_L34 100000 (nI q) (nI r) 0 1 m_refused).map Prod.fst := e1.trans e2
  have e5 : ∃ x : Int32, f_X6_bestStop (nI q) (nI r) = some x := by
    have : ∀ q : Fin 17, ∀ r : Fin 7, (f_X6_bestStop (nI q) (nI r)).isSome = true := by decide +kernel
    exact Option.isSome_iff_exists.mp (this ⟨q, by omega⟩ ⟨r, by omega⟩)
  obtain ⟨x, hx⟩ := e5
  rw [hx] at e4 ⊢
  cases hm : f_X11_stop_L34 100000 (nI q) (nI r) 0 1 m_refused with
  | none => rw [hm] at e4; exact nomatch e4
  | some v =>
    rw [hm] at e4
    have hv : x = v.1 := Option.some.inj e4
    have hv2 := e3 v hm
    obtain ⟨v1, v2⟩ := v
    subst hv
    simp only at hv2
    subst hv2
    rw [mb1_s]
    exact ⟨_, _, _, rfl, rfl, hE⟩
