set_option maxRecDepth 8000
theorem pow3 : ∀ n : Fin 9, f_X11_power 3 (nI n) = some (zL ((3 ^ n.val : Nat) : Int)) := by decide +kernel
theorem p3_le {n : Nat} (h : n ≤ 8) : 3 ^ n ≤ 6561 := Nat.le_trans (Nat.pow_le_pow_right (by omega) h) (by decide)
theorem rows11 {c d n : Nat} (h : c + d ≤ 16) (hn : n ≤ 8) {a b t : Int} (a1 : 0 ≤ a) (a2 : a ≤ 40) (b1 : 0 ≤ b) (b2 : b ≤ 40) (t1 : 0 ≤ t) (t2 : t ≤ 40) (r : Nat → Int32) : ∀ (q N : Nat), q ≤ 3 ^ n → q < N → f_X11_wins_L105 N (zI a) (zI b) (zI t) (nI n) (nI c) (nI d) (zL (zSm (zRw c d t n 0 a b (if t ≤ a then 1 else if t ≤ b then 2 else 0)) (3 ^ n - q))) (nI (3 ^ n - q)) r = some (zL (zSS c d t n 0 a b (if t ≤ a then 1 else if t ≤ b then 2 else 0)), r)
  | 0, N + 1, _, _ => by
    have h3 := p3_le hn
    have hp : f_X11_power 3 (nI n) = some (zL ((3 ^ n : Nat) : Int)) := pow3 ⟨n, by omega⟩
    unfold f_X11_wins_L105
    rw [hp, mb1_s, Nat.sub_zero, nL _ (by omega), if_pos (by rw [zL_le (by omega) (by omega) (by omega) (by omega)]; omega)]
    rfl
  | q + 1, N + 1, h1, h2 => by
    have h3 := p3_le hn
    have hp : f_X11_power 3 (nI n) = some (zL ((3 ^ n : Nat) : Int)) := pow3 ⟨n, by omega⟩
    have ih := rows11 h hn a1 a2 b1 b2 t1 t2 r q N (by omega) (by omega)
    have es : 3 ^ n - q = 3 ^ n - (q + 1) + 1 := by omega
    rw [es] at ih
    have hs : zSm (zRw c d t n 0 a b (if t ≤ a then 1 else if t ≤ b then 2 else 0)) (3 ^ n - (q + 1) + 1) = zSm (zRw c d t n 0 a b (if t ≤ a then 1 else if t ≤ b then 2 else 0)) (3 ^ n - (q + 1)) + zRw c d t n 0 a b (if t ≤ a then 1 else if t ≤ b then 2 else 0) (3 ^ n - (q + 1)) := rfl
    rw [hs] at ih
    have row := fun won hw => row11 h hn t1 t2 (fun z0 z1 z2 z3 z4 z5 z6 z7 z8 => f_X11_wins_L105 N z0 z1 z2 z3 z4 z5 z6 z7 z8) (zI a) (zI b) (nI (3 ^ n - (q + 1))) (zSm (zRw c d t n 0 a b (if t ≤ a then 1 else if t ≤ b then 2 else 0)) (3 ^ n - (q + 1))) r n 100000 1 a b won (3 ^ n - (q + 1)) (by omega) (by omega) (by omega) (by omega) (by omega) (by omega) hw (by omega)
    rw [Nat.sub_self] at row
    have row' : ∀ won : Int, (won = 0 ∨ won = 1 ∨ won = 2) → f_X11_wins_L150 (fun z0 z1 z2 z3 z4 z5 z6 z7 z8 => f_X11_wins_L105 N z0 z1 z2 z3 z4 z5 z6 z7 z8) (zI a) (zI b) (zI t) (nI n) (nI c) (nI d) (zL (zSm (zRw c d t n 0 a b (if t ≤ a then 1 else if t ≤ b then 2 else 0)) (3 ^ n - (q + 1)))) (nI (3 ^ n - (q + 1))) 1 (zI a) (zI b) (zI won) r = f_X11_wins_L105 N (zI a) (zI b) (zI t) (nI n) (nI c) (nI d) (zL (zSm (zRw c d t n 0 a b (if t ≤ a then 1 else if t ≤ b then 2 else 0)) (3 ^ n - (q + 1)) + zRw c d t n 0 a b won (3 ^ n - (q + 1)))) (nI (3 ^ n - (q + 1) + 1)) r := by
      intro won hw
      have := row won hw
      rw [Int.one_mul, nI_1, show nI 0 = 0 from nI_0, show zL 1 = 1 from zm_1.symm] at this
      unfold f_X11_wins_L150
      exact this
    unfold f_X11_wins_L105
    rw [hp, mb1_s, nL _ (by omega), if_neg (by rw [zL_le (by omega) (by omega) (by omega) (by omega)]; omega)]
    rw [← ih]
    by_cases ha : t ≤ a
    · rw [if_neg (by rw [zI_lt (by omega) (by omega) (by omega) (by omega)]; omega), zl_1, row' 1 (Or.inr (Or.inl rfl)), if_pos ha]
    · rw [if_pos (by rw [zI_lt (by omega) (by omega) (by omega) (by omega)]; omega)]
      by_cases hb : t ≤ b
      · rw [if_neg (by rw [zI_lt (by omega) (by omega) (by omega) (by omega)]; omega), zl_2, row' 2 (Or.inr (Or.inr rfl)), if_neg ha, if_pos hb]
      · rw [if_pos (by rw [zI_lt (by omega) (by omega) (by omega) (by omega)]; omega), zl_0, row' 0 (Or.inl rfl), if_neg ha, if_neg hb]
theorem op_wins {c_refused : Nat → Int32} {m_refused : Nat → Int32} (hE : RefR c_refused m_refused) (y0 : Int32) (y1 : Int32) (y2 : Int32) (y3 : Int32) (y4 : Int32) (y5 : Int32) : ∃ (r : Int64) (dc_refused : Nat → Int32) (dm_refused : Nat → Int32), f_X10_wins y0 y1 y2 y3 y4 y5 c_refused = some (r, dc_refused) ∧ f_X11_wins y0 y1 y2 y3 y4 y5 m_refused = some (r, dm_refused) ∧ RefR dc_refused dm_refused := by
  unfold f_X10_wins f_X11_wins f_X10_wins_L72 f_X10_wins_L73 f_X11_wins_L91 f_X10_isChance
  rw [cw, cw, cw, cw, cw, cw, cw, mw y0 0 40 (lo' := 0) (hi' := 40) rfl rfl, mw y1 0 40 (lo' := 0) (hi' := 40) rfl rfl, mw y2 1 40 (lo' := 1) (hi' := 40) rfl rfl, mw y3 0 8 (lo' := 0) (hi' := 8) rfl rfl, mw y4 0 16 (lo' := 0) (hi' := 16) rfl rfl, mw y5 0 16 (lo' := 0) (hi' := 16) rfl rfl, mw (y4 + y5) 0 16 (lo' := 0) (hi' := 16) rfl rfl]
  cases c1 : inR y0 0 40 with
  | false =>
    simp only [mb0_s, mb1_s, mb2_s, mb3_s, mb4_s, mb5_s, mb6_s, mb7_s, mb8_s, mb9_s, mb10_s, mb11_s, mb12_s, mb13_s, mb14_s, mb15_s, mb16_s, mb17_s, mb18_s, mb19_s, mb20_s, mb21_s, mb22_s, mb23_s, mb24_s, ifI_t, ifI_f, isB_bI, bad10, no10, full10, bad11, badAs11, no11, full11, mb0_s, mb1_s, mb2_s, mb3_s, mb4_s, mb5_s, mb6_s, mb7_s, mb8_s, mb9_s, mb10_s, mb11_s, mb12_s, mb13_s, mb14_s, mb15_s, mb16_s, mb17_s, mb18_s, mb19_s, mb20_s, mb21_s, mb22_s, mb23_s, mb24_s, mg_tt, ib_0_2, ib_0_3, ib_0_4, ib_0_44, ib_0_117, ib_1_2, ib_1_3, ib_1_4, ib_1_117, ib_2_3, ib_2_4, ib_2_117, ib_3_4, ib_3_117, ib_4_117, ib_5_117, ib_44_117, tn_0, tn_1, tn_2, tn_3, tn_4, tn_5, tn_8, tn_10, tn_44, tn_72, cp_0, cp_1, cp_2, cp_3, cp_4]
    rw [if_pos trivial]
    exact ⟨_, _, _, rfl, rfl, hE.bump 0⟩
  | true =>
  cases c2 : inR y1 0 40 with
  | false =>
    simp only [mb0_s, mb1_s, mb2_s, mb3_s, mb4_s, mb5_s, mb6_s, mb7_s, mb8_s, mb9_s, mb10_s, mb11_s, mb12_s, mb13_s, mb14_s, mb15_s, mb16_s, mb17_s, mb18_s, mb19_s, mb20_s, mb21_s, mb22_s, mb23_s, mb24_s, ifI_t, ifI_f, isB_bI, bad10, no10, full10, bad11, badAs11, no11, full11, mb0_s, mb1_s, mb2_s, mb3_s, mb4_s, mb5_s, mb6_s, mb7_s, mb8_s, mb9_s, mb10_s, mb11_s, mb12_s, mb13_s, mb14_s, mb15_s, mb16_s, mb17_s, mb18_s, mb19_s, mb20_s, mb21_s, mb22_s, mb23_s, mb24_s, mg_tt, ib_0_2, ib_0_3, ib_0_4, ib_0_44, ib_0_117, ib_1_2, ib_1_3, ib_1_4, ib_1_117, ib_2_3, ib_2_4, ib_2_117, ib_3_4, ib_3_117, ib_4_117, ib_5_117, ib_44_117, tn_0, tn_1, tn_2, tn_3, tn_4, tn_5, tn_8, tn_10, tn_44, tn_72, cp_0, cp_1, cp_2, cp_3, cp_4]
    rw [if_pos trivial]
    exact ⟨_, _, _, rfl, rfl, hE.bump 0⟩
  | true =>
  cases c3 : inR y2 1 40 with
  | false =>
    simp only [mb0_s, mb1_s, mb2_s, mb3_s, mb4_s, mb5_s, mb6_s, mb7_s, mb8_s, mb9_s, mb10_s, mb11_s, mb12_s, mb13_s, mb14_s, mb15_s, mb16_s, mb17_s, mb18_s, mb19_s, mb20_s, mb21_s, mb22_s, mb23_s, mb24_s, ifI_t, ifI_f, isB_bI, bad10, no10, full10, bad11, badAs11, no11, full11, mb0_s, mb1_s, mb2_s, mb3_s, mb4_s, mb5_s, mb6_s, mb7_s, mb8_s, mb9_s, mb10_s, mb11_s, mb12_s, mb13_s, mb14_s, mb15_s, mb16_s, mb17_s, mb18_s, mb19_s, mb20_s, mb21_s, mb22_s, mb23_s, mb24_s, mg_tt, ib_0_2, ib_0_3, ib_0_4, ib_0_44, ib_0_117, ib_1_2, ib_1_3, ib_1_4, ib_1_117, ib_2_3, ib_2_4, ib_2_117, ib_3_4, ib_3_117, ib_4_117, ib_5_117, ib_44_117, tn_0, tn_1, tn_2, tn_3, tn_4, tn_5, tn_8, tn_10, tn_44, tn_72, cp_0, cp_1, cp_2, cp_3, cp_4]
    rw [if_pos trivial]
    exact ⟨_, _, _, rfl, rfl, hE.bump 0⟩
  | true =>
  cases c4 : inR y3 0 8 with
  | false =>
    simp only [mb0_s, mb1_s, mb2_s, mb3_s, mb4_s, mb5_s, mb6_s, mb7_s, mb8_s, mb9_s, mb10_s, mb11_s, mb12_s, mb13_s, mb14_s, mb15_s, mb16_s, mb17_s, mb18_s, mb19_s, mb20_s, mb21_s, mb22_s, mb23_s, mb24_s, ifI_t, ifI_f, isB_bI, bad10, no10, full10, bad11, badAs11, no11, full11, mb0_s, mb1_s, mb2_s, mb3_s, mb4_s, mb5_s, mb6_s, mb7_s, mb8_s, mb9_s, mb10_s, mb11_s, mb12_s, mb13_s, mb14_s, mb15_s, mb16_s, mb17_s, mb18_s, mb19_s, mb20_s, mb21_s, mb22_s, mb23_s, mb24_s, mg_tt, ib_0_2, ib_0_3, ib_0_4, ib_0_44, ib_0_117, ib_1_2, ib_1_3, ib_1_4, ib_1_117, ib_2_3, ib_2_4, ib_2_117, ib_3_4, ib_3_117, ib_4_117, ib_5_117, ib_44_117, tn_0, tn_1, tn_2, tn_3, tn_4, tn_5, tn_8, tn_10, tn_44, tn_72, cp_0, cp_1, cp_2, cp_3, cp_4]
    rw [if_pos trivial]
    exact ⟨_, _, _, rfl, rfl, hE.bump 0⟩
  | true =>
  cases c5 : inR y4 0 16 with
  | false =>
    simp only [mb0_s, mb1_s, mb2_s, mb3_s, mb4_s, mb5_s, mb6_s, mb7_s, mb8_s, mb9_s, mb10_s, mb11_s, mb12_s, mb13_s, mb14_s, mb15_s, mb16_s, mb17_s, mb18_s, mb19_s, mb20_s, mb21_s, mb22_s, mb23_s, mb24_s, ifI_t, ifI_f, isB_bI, bad10, no10, full10, bad11, badAs11, no11, full11, mb0_s, mb1_s, mb2_s, mb3_s, mb4_s, mb5_s, mb6_s, mb7_s, mb8_s, mb9_s, mb10_s, mb11_s, mb12_s, mb13_s, mb14_s, mb15_s, mb16_s, mb17_s, mb18_s, mb19_s, mb20_s, mb21_s, mb22_s, mb23_s, mb24_s, mg_tt, ib_0_2, ib_0_3, ib_0_4, ib_0_44, ib_0_117, ib_1_2, ib_1_3, ib_1_4, ib_1_117, ib_2_3, ib_2_4, ib_2_117, ib_3_4, ib_3_117, ib_4_117, ib_5_117, ib_44_117, tn_0, tn_1, tn_2, tn_3, tn_4, tn_5, tn_8, tn_10, tn_44, tn_72, cp_0, cp_1, cp_2, cp_3, cp_4]
    rw [if_pos trivial]
    exact ⟨_, _, _, rfl, rfl, hE.bump 0⟩
  | true =>
  cases c6 : inR y5 0 16 with
  | false =>
    simp only [mb0_s, mb1_s, mb2_s, mb3_s, mb4_s, mb5_s, mb6_s, mb7_s, mb8_s, mb9_s, mb10_s, mb11_s, mb12_s, mb13_s, mb14_s, mb15_s, mb16_s, mb17_s, mb18_s, mb19_s, mb20_s, mb21_s, mb22_s, mb23_s, mb24_s, ifI_t, ifI_f, isB_bI, bad10, no10, full10, bad11, badAs11, no11, full11, mb0_s, mb1_s, mb2_s, mb3_s, mb4_s, mb5_s, mb6_s, mb7_s, mb8_s, mb9_s, mb10_s, mb11_s, mb12_s, mb13_s, mb14_s, mb15_s, mb16_s, mb17_s, mb18_s, mb19_s, mb20_s, mb21_s, mb22_s, mb23_s, mb24_s, mg_tt, ib_0_2, ib_0_3, ib_0_4, ib_0_44, ib_0_117, ib_1_2, ib_1_3, ib_1_4, ib_1_117, ib_2_3, ib_2_4, ib_2_117, ib_3_4, ib_3_117, ib_4_117, ib_5_117, ib_44_117, tn_0, tn_1, tn_2, tn_3, tn_4, tn_5, tn_8, tn_10, tn_44, tn_72, cp_0, cp_1, cp_2, cp_3, cp_4]
    rw [if_pos trivial]
    exact ⟨_, _, _, rfl, rfl, hE.bump 0⟩
  | true =>
  cases c7 : inR (y4 + y5) 0 16 with
  | false =>
    simp only [mb0_s, mb1_s, mb2_s, mb3_s, mb4_s, mb5_s, mb6_s, mb7_s, mb8_s, mb9_s, mb10_s, mb11_s, mb12_s, mb13_s, mb14_s, mb15_s, mb16_s, mb17_s, mb18_s, mb19_s, mb20_s, mb21_s, mb22_s, mb23_s, mb24_s, ifI_t, ifI_f, isB_bI, bad10, no10, full10, bad11, badAs11, no11, full11, mb0_s, mb1_s, mb2_s, mb3_s, mb4_s, mb5_s, mb6_s, mb7_s, mb8_s, mb9_s, mb10_s, mb11_s, mb12_s, mb13_s, mb14_s, mb15_s, mb16_s, mb17_s, mb18_s, mb19_s, mb20_s, mb21_s, mb22_s, mb23_s, mb24_s, mg_tt, ib_0_2, ib_0_3, ib_0_4, ib_0_44, ib_0_117, ib_1_2, ib_1_3, ib_1_4, ib_1_117, ib_2_3, ib_2_4, ib_2_117, ib_3_4, ib_3_117, ib_4_117, ib_5_117, ib_44_117, tn_0, tn_1, tn_2, tn_3, tn_4, tn_5, tn_8, tn_10, tn_44, tn_72, cp_0, cp_1, cp_2, cp_3, cp_4]
    rw [if_pos trivial]
    exact ⟨_, _, _, rfl, rfl, hE.bump 0⟩
  | true =>
  obtain ⟨a, a1, a2, rfl⟩ := inR_z 0 40 rfl rfl c1
  obtain ⟨b, b1, b2, rfl⟩ := inR_z 0 40 rfl rfl c2
  obtain ⟨t, t1, t2, rfl⟩ := inR_z 1 40 rfl rfl c3
  obtain ⟨n, -, n2, rfl⟩ := inR_nI 0 8 rfl rfl c4
  obtain ⟨c, -, c8, rfl⟩ := inR_nI 0 16 rfl rfl c5
  obtain ⟨d, -, d2, rfl⟩ := inR_nI 0 16 rfl rfl c6
  have hcd : c + d ≤ 16 := by
    have := (inR_iff _ _ _).mp c7
    rw [nI_add, nI_toInt (by omega)] at this
    have h2 := this.2
    have e16 : (16 : Int32).toInt = 16 := rfl
    omega
  have hm := rows11 hcd n2 a1 a2 b1 b2 (show 0 ≤ t by omega) t2 m_refused (3 ^ n) 100000 (Nat.le_refl _) (by have := p3_le n2; omega)
  rw [Nat.sub_self] at hm
  have tt : ¬ bI true = 0 := by decide
  repeat (first | rw [if_neg tt] | rw [isB_bI, mg_tt] | rw [mb1_s])
  rw [if_neg (show ¬ ((1 : Int32) = 0) from by decide)]
  rw [show f_X11_wins_L105 100000 (zI a) (zI b) (zI t) (nI n) (nI c) (nI d) 0 0 m_refused = _ from hm]
  by_cases hat : a < t
  · rw [if_pos (by rw [zI_lt (by omega) (by omega) (by omega) (by omega)]; exact hat), zI_sub, zI_sub, win10 hcd n2 (by omega) (by omega) (by omega) (by omega), mb1_s, if_neg (show ¬ t ≤ a by omega)]
    by_cases hbt : t ≤ b
    · rw [if_pos hbt, zSS_2, show zBl (c : Int) d (t - b) = fun _ => 0 from funext (zBl_0 _ _ (by omega)), zGG_0r]
      exact ⟨_, _, _, rfl, rfl, hE⟩
    · rw [if_neg hbt, zSS_G _ _ _ n 0 a b rfl hat (by omega)]
      exact ⟨_, _, _, rfl, rfl, hE⟩
  · have hall : f_X6_allCases (nI n) = some (zL ((16 ^ n : Nat) : Int)) := (all_m ⟨n, by omega⟩).1
    rw [if_neg (by rw [zI_lt (by omega) (by omega) (by omega) (by omega)]; exact hat), hall, mb1_s, if_pos (show t ≤ a by omega), zSS_1, Int.natCast_pow]
    exact ⟨_, _, _, rfl, rfl, hE⟩
