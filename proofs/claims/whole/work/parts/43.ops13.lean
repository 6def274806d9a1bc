set_option maxRecDepth 8000
theorem op_mean {c_now_stones_many : Int32} {c_now_stones_wetness : Int32} {c_now_stones_kinds : Nat → Int32} {c_now_game_player : Int32} {c_now_game_undoable : Int32} {c_now_game_totals : Nat → Int32} {c_now_game_gains : Nat → Int32} {c_now_written_many : Int32} {c_now_written_cells : Nat → Int32} {c_spread_ways : Nat → Int32} {c_spread_anyBack : Nat → Int32} {c_spread_edgeBack : Nat → Int32} {c_refused : Nat → Int32} {m_s : Nat → Int32} {m_refused : Nat → Int32} (hN : NowR c_now_stones_kinds c_now_stones_many c_now_stones_wetness c_now_game_totals c_now_game_gains c_now_game_player c_now_game_undoable c_now_written_cells c_now_written_many m_s) (hE : RefR c_refused m_refused) (y0 : Int32) (y1 : Int32) (y2 : Int32) (y3 : Int32) : ∃ (r : Int32) (dc_refused : Nat → Int32) (dc_spread_ways : Nat → Int32) (dc_spread_anyBack : Nat → Int32) (dc_spread_edgeBack : Nat → Int32) (dm_refused : Nat → Int32), f_X10_mean y0 y1 y2 y3 c_now_stones_many c_now_stones_wetness c_refused c_now_stones_kinds c_spread_ways c_spread_anyBack c_spread_edgeBack = some (r, dc_refused, dc_spread_ways, dc_spread_anyBack, dc_spread_edgeBack) ∧ f_X11_mean y0 y1 y2 y3 m_s m_refused = some (r, dm_refused) ∧ RefR dc_refused dm_refused := by
  obtain ⟨⟨nm, nw, b1, b2, rfl, rfl, e0, e1, hk⟩, hG, hB⟩ := hN
  unfold f_X10_mean f_X11_mean f_X10_mean_L18 f_X11_mean_L35 f_X10_isStand f_X10_gather
  rw [isThrow10 b1, isThrow11 b1 e0, cw, mw y3 0 20 (lo' := 0) (hi' := 20) rfl rfl]
  cases hT : inT y0 y1 y2 (nI nm) with
  | false =>
    simp only [mb0_s, mb1_s, mb2_s, mb3_s, mb4_s, mb5_s, mb6_s, mb7_s, mb8_s, mb9_s, mb10_s, mb11_s, mb12_s, mb13_s, mb14_s, mb15_s, mb16_s, mb17_s, mb18_s, mb19_s, mb20_s, mb21_s, mb22_s, mb23_s, mb24_s, ifI_t, ifI_f, isB_bI, bad10, no10, full10, bad11, badAs11, no11, full11, mb0_s, mb1_s, mb2_s, mb3_s, mb4_s, mb5_s, mb6_s, mb7_s, mb8_s, mb9_s, mb10_s, mb11_s, mb12_s, mb13_s, mb14_s, mb15_s, mb16_s, mb17_s, mb18_s, mb19_s, mb20_s, mb21_s, mb22_s, mb23_s, mb24_s, mg_tt, ib_0_2, ib_0_3, ib_0_4, ib_0_44, ib_0_117, ib_1_2, ib_1_3, ib_1_4, ib_1_117, ib_2_3, ib_2_4, ib_2_117, ib_3_4, ib_3_117, ib_4_117, ib_5_117, ib_44_117, tn_0, tn_1, tn_2, tn_3, tn_4, tn_5, tn_8, tn_10, tn_44, tn_72, cp_0, cp_1, cp_2, cp_3, cp_4]
    exact ⟨_, _, _, _, _, _, rfl, rfl, hE.bump 0⟩
  | true =>
    cases hg : inR y3 0 20 with
    | false =>
      simp only [mb0_s, mb1_s, mb2_s, mb3_s, mb4_s, mb5_s, mb6_s, mb7_s, mb8_s, mb9_s, mb10_s, mb11_s, mb12_s, mb13_s, mb14_s, mb15_s, mb16_s, mb17_s, mb18_s, mb19_s, mb20_s, mb21_s, mb22_s, mb23_s, mb24_s, ifI_t, ifI_f, isB_bI, bad10, no10, full10, bad11, badAs11, no11, full11, mb0_s, mb1_s, mb2_s, mb3_s, mb4_s, mb5_s, mb6_s, mb7_s, mb8_s, mb9_s, mb10_s, mb11_s, mb12_s, mb13_s, mb14_s, mb15_s, mb16_s, mb17_s, mb18_s, mb19_s, mb20_s, mb21_s, mb22_s, mb23_s, mb24_s, mg_tt, ib_0_2, ib_0_3, ib_0_4, ib_0_44, ib_0_117, ib_1_2, ib_1_3, ib_1_4, ib_1_117, ib_2_3, ib_2_4, ib_2_117, ib_3_4, ib_3_117, ib_4_117, ib_5_117, ib_44_117, tn_0, tn_1, tn_2, tn_3, tn_4, tn_5, tn_8, tn_10, tn_44, tn_72, cp_0, cp_1, cp_2, cp_3, cp_4]
      exact ⟨_, _, _, _, _, _, rfl, rfl, hE.bump 0⟩
    | true =>
      obtain ⟨i, x, t, i1, rfl, x1, x2, rfl, t1, t2, rfl⟩ := inT_z b1 hT
      obtain ⟨j, hj, hA⟩ := At.of b1 b2 e0 e1 hk i1
      obtain ⟨y, g1, g2, rfl⟩ := inR_z 0 20 rfl rfl hg
      obtain ⟨wy, an, ed, k1, k2, k3, k4⟩ := gat hA.2.2.1 b2 x1 x2 t1 t2 c_spread_ways c_spread_anyBack c_spread_edgeBack
      rw [mb1_s, if_neg (show ¬ bI true = 0 from by decide), mb1_s, isB_bI, mg_tt, mb1_s, if_neg (show ¬ bI true = 0 from by decide), kind10 b1 i1, mb1_s, hj, k1, mb3_s, mb3_s, mean10 hA.2.2.1 b2 x1 x2 t1 t2 g1 g2 k4, mb1_s]
      rw [mb1_s, if_neg (show ¬ bI true = 0 from by decide), mb1_s, if_neg (show ¬ bI true = 0 from by decide), mean11 hA x1 x2 t1 t2 g1 g2, mb1_s]
      exact ⟨_, _, _, _, _, _, rfl, rfl, hE⟩
theorem odds_l {s : Nat → Int32} {i j w nm : Nat} (hA : At s i j w nm) (F C : Int) (way : Int32) (r : Nat → Int32) : ∀ (d N : Nat), d ≤ 16 → d < N → f_X11_odds_L34 s N (nI i) (zI F) (zI C) way (zS (fun a b => if zWay (nI j) (nI w) (zI (F + a)) (zI (C + b)) = way then 1 else 0) (16 - d)) (nI (16 - d)) r = some (zS (fun a b => if zWay (nI j) (nI w) (zI (F + a)) (zI (C + b)) = way then 1 else 0) 16, r)
  | 0, N + 1, _, _ => by
    unfold f_X11_odds_L34
    rw [if_pos (show (16 : Int32) ≤ nI (16 - 0) from by decide)]
  | d + 1, N + 1, h1, h2 => by
    obtain ⟨p1, p2⟩ := slip_all ⟨16 - (d + 1), by omega⟩
    have p1' : f_X11_slip (nI (16 - (d + 1)) / 4) = some (zI (zsl ((16 - (d + 1)) / 4))) := p1
    have p2' : f_X11_slip (irm (nI (16 - (d + 1))) 4) = some (zI (zsl ((16 - (d + 1)) % 4))) := p2
    unfold f_X11_odds_L34 f_X11_odds_L76
    rw [if_neg (show ¬ (16 : Int32) ≤ nI (16 - (d + 1)) from nI_ge (b := 16) (by omega) (by decide)), p1', mb1_s, p2', mb1_s, zI_add, zI_add, way11 hA, mb1_s, nI_1, show 16 - (d + 1) + 1 = 16 - d by omega]
    have ih := odds_l hA F C way r d N (by omega) (by omega)
    rw [show zS (fun a b => if zWay (nI j) (nI w) (zI (F + a)) (zI (C + b)) = way then (1 : Int32) else 0) (16 - d) = zS (fun a b => if zWay (nI j) (nI w) (zI (F + a)) (zI (C + b)) = way then 1 else 0) (16 - (d + 1)) + (if zWay (nI j) (nI w) (zI (F + zsl ((16 - (d + 1)) / 4))) (zI (C + zsl ((16 - (d + 1)) % 4))) = way then 1 else 0) from by rw [show 16 - d = 16 - (d + 1) + 1 by omega, zS_s]] at ih
    by_cases hc : zWay (nI j) (nI w) (zI (F + zsl ((16 - (d + 1)) / 4))) (zI (C + zsl ((16 - (d + 1)) % 4))) = way
    · rw [if_pos hc]
      rw [if_pos hc] at ih
      exact ih
    · rw [if_neg hc]
      rw [if_neg hc] at ih
      exact ih
theorem op_odds {c_now_stones_many : Int32} {c_now_stones_wetness : Int32} {c_now_stones_kinds : Nat → Int32} {c_now_game_player : Int32} {c_now_game_undoable : Int32} {c_now_game_totals : Nat → Int32} {c_now_game_gains : Nat → Int32} {c_now_written_many : Int32} {c_now_written_cells : Nat → Int32} {c_spread_ways : Nat → Int32} {c_spread_anyBack : Nat → Int32} {c_spread_edgeBack : Nat → Int32} {c_refused : Nat → Int32} {m_s : Nat → Int32} {m_refused : Nat → Int32} (hN : NowR c_now_stones_kinds c_now_stones_many c_now_stones_wetness c_now_game_totals c_now_game_gains c_now_game_player c_now_game_undoable c_now_written_cells c_now_written_many m_s) (hE : RefR c_refused m_refused) (y0 : Int32) (y1 : Int32) (y2 : Int32) (y3 : Int32) : ∃ (r : Int32) (dc_refused : Nat → Int32) (dc_spread_ways : Nat → Int32) (dc_spread_anyBack : Nat → Int32) (dc_spread_edgeBack : Nat → Int32) (dm_refused : Nat → Int32), f_X10_odds y0 y1 y2 y3 c_now_stones_many c_now_stones_wetness c_refused c_now_stones_kinds c_spread_ways c_spread_anyBack c_spread_edgeBack = some (r, dc_refused, dc_spread_ways, dc_spread_anyBack, dc_spread_edgeBack) ∧ f_X11_odds y0 y1 y2 y3 m_s m_refused = some (r, dm_refused) ∧ RefR dc_refused dm_refused := by
  obtain ⟨⟨nm, nw, b1, b2, rfl, rfl, e0, e1, hk⟩, hG, hB⟩ := hN
  unfold f_X10_odds f_X11_odds f_X10_odds_L20 f_X11_odds_L23 f_X10_gather
  rw [isThrow10 b1, isThrow11 b1 e0, cw, mw y3 0 3 (lo' := 0) (hi' := 3) rfl rfl]
  cases hT : inT y0 y1 y2 (nI nm) with
  | false =>
    simp only [mb0_s, mb1_s, mb2_s, mb3_s, mb4_s, mb5_s, mb6_s, mb7_s, mb8_s, mb9_s, mb10_s, mb11_s, mb12_s, mb13_s, mb14_s, mb15_s, mb16_s, mb17_s, mb18_s, mb19_s, mb20_s, mb21_s, mb22_s, mb23_s, mb24_s, ifI_t, ifI_f, isB_bI, bad10, no10, full10, bad11, badAs11, no11, full11, mb0_s, mb1_s, mb2_s, mb3_s, mb4_s, mb5_s, mb6_s, mb7_s, mb8_s, mb9_s, mb10_s, mb11_s, mb12_s, mb13_s, mb14_s, mb15_s, mb16_s, mb17_s, mb18_s, mb19_s, mb20_s, mb21_s, mb22_s, mb23_s, mb24_s, mg_tt, ib_0_2, ib_0_3, ib_0_4, ib_0_44, ib_0_117, ib_1_2, ib_1_3, ib_1_4, ib_1_117, ib_2_3, ib_2_4, ib_2_117, ib_3_4, ib_3_117, ib_4_117, ib_5_117, ib_44_117, tn_0, tn_1, tn_2, tn_3, tn_4, tn_5, tn_8, tn_10, tn_44, tn_72, cp_0, cp_1, cp_2, cp_3, cp_4]
    exact ⟨_, _, _, _, _, _, rfl, rfl, hE.bump 0⟩
  | true =>
    cases hg : inR y3 0 3 with
    | false =>
      simp only [mb0_s, mb1_s, mb2_s, mb3_s, mb4_s, mb5_s, mb6_s, mb7_s, mb8_s, mb9_s, mb10_s, mb11_s, mb12_s, mb13_s, mb14_s, mb15_s, mb16_s, mb17_s, mb18_s, mb19_s, mb20_s, mb21_s, mb22_s, mb23_s, mb24_s, ifI_t, ifI_f, isB_bI, bad10, no10, full10, bad11, badAs11, no11, full11, mb0_s, mb1_s, mb2_s, mb3_s, mb4_s, mb5_s, mb6_s, mb7_s, mb8_s, mb9_s, mb10_s, mb11_s, mb12_s, mb13_s, mb14_s, mb15_s, mb16_s, mb17_s, mb18_s, mb19_s, mb20_s, mb21_s, mb22_s, mb23_s, mb24_s, mg_tt, ib_0_2, ib_0_3, ib_0_4, ib_0_44, ib_0_117, ib_1_2, ib_1_3, ib_1_4, ib_1_117, ib_2_3, ib_2_4, ib_2_117, ib_3_4, ib_3_117, ib_4_117, ib_5_117, ib_44_117, tn_0, tn_1, tn_2, tn_3, tn_4, tn_5, tn_8, tn_10, tn_44, tn_72, cp_0, cp_1, cp_2, cp_3, cp_4]
      exact ⟨_, _, _, _, _, _, rfl, rfl, hE.bump 0⟩
    | true =>
      obtain ⟨i, x, t, i1, rfl, x1, x2, rfl, t1, t2, rfl⟩ := inT_z b1 hT
      obtain ⟨j, hj, hA⟩ := At.of b1 b2 e0 e1 hk i1
      obtain ⟨y, -, g2, rfl⟩ := inR_nI 0 3 rfl rfl hg
      obtain ⟨wy, an, ed, k1, k2, k3, k4⟩ := gat hA.2.2.1 b2 x1 x2 t1 t2 c_spread_ways c_spread_anyBack c_spread_edgeBack
      have hw : f_X7_casesOfWay (nI y) wy = some (wy y) := by
        unfold f_X7_casesOfWay
        rw [cw, hg, mb1_s, if_neg (show ¬ bI true = 0 from by decide), inB_nI (show y < 4 by omega) (by omega), mg_tt, clN (by omega)]
      have hm := odds_l hA x t (nI y) m_refused 16 100000 (by omega) (by omega)
      rw [mb1_s, if_neg (show ¬ bI true = 0 from by decide), mb1_s, if_neg (show ¬ bI true = 0 from by decide), kind10 b1 i1, mb1_s, hj, k1, mb3_s, mb3_s, hw, mb1_s]
      rw [mb1_s, if_neg (show ¬ bI true = 0 from by decide), mb1_s, if_neg (show ¬ bI true = 0 from by decide), show f_X11_odds_L34 m_s 100000 (nI i) (zI x) (zI t) (nI y) 0 0 m_refused = _ from hm, zS_G, k2 y g2]
      exact ⟨_, _, _, _, _, _, rfl, rfl, hE⟩
theorem judg_l {s : Nat → Int32} {i j w nm : Nat} (hA : At s i j w nm) {F C : Int} (f1 : 1 ≤ F) (f2 : F ≤ 9) (c1 : 0 ≤ C) (c2 : C ≤ 9) (yd : Int32) (v u : Int64) (r : Nat → Int32) : ∀ (d N : Nat), d ≤ 16 → d < N → f_X11_judge_L37 s N (nI i) (zI F) (zI C) yd (zS (fun a b => if zBck (nI j) (nI w) (zI (F + a)) (zI (C + b)) = yd then 1 else 0) (16 - d)) (zS (fun a b => if zWay (nI j) (nI w) (zI (F + a)) (zI (C + b)) = 2 ∧ zBck (nI j) (nI w) (zI (F + a)) (zI (C + b)) = yd then 1 else 0) (16 - d)) (nI (16 - d)) v u r = (if zS (fun a b => if zBck (nI j) (nI w) (zI (F + a)) (zI (C + b)) = yd then 1 else 0) 16 = 0 then mb2 (f_X11_no r) (fun r11 o12 => some (r11, v, u, o12)) else mb2 (f_X11_tells (Int32.toInt64 (zS (fun a b => if zWay (nI j) (nI w) (zI (F + a)) (zI (C + b)) = 2 ∧ zBck (nI j) (nI w) (zI (F + a)) (zI (C + b)) = yd then 1 else 0) 16)) (Int32.toInt64 (zS (fun a b => if zBck (nI j) (nI w) (zI (F + a)) (zI (C + b)) = yd then 1 else 0) 16)) v u) (fun o8 o9 => some ((1 : Int32), o8, o9, r)))
  | 0, N + 1, _, _ => by
    unfold f_X11_judge_L37
    rw [if_pos (show (16 : Int32) ≤ nI (16 - 0) from by decide)]
  | d + 1, N + 1, h1, h2 => by
    obtain ⟨p1, p2⟩ := slip_all ⟨16 - (d + 1), by omega⟩
    have p1' : f_X11_slip (nI (16 - (d + 1)) / 4) = some (zI (zsl ((16 - (d + 1)) / 4))) := p1
    have p2' : f_X11_slip (irm (nI (16 - (d + 1))) 4) = some (zI (zsl ((16 - (d + 1)) % 4))) := p2
    have q1 := zsl_r ((16 - (d + 1)) / 4)
    have q2 := zsl_r ((16 - (d + 1)) % 4)
    have hbk := bck11 hA (F := F + zsl ((16 - (d + 1)) / 4)) (C := C + zsl ((16 - (d + 1)) % 4)) (by omega) (by omega) (by omega) (by omega) (by omega)
    conv => lhs; unfold f_X11_judge_L37
    unfold f_X11_judge_L85 f_X11_judge_L99 f_X11_judge_L126 f_X11_judge_L127
    rw [if_neg (show ¬ (16 : Int32) ≤ nI (16 - (d + 1)) from nI_ge (b := 16) (by omega) (by decide)), p1', mb1_s, p2', mb1_s, zI_add, zI_add, hbk, mb1_s, way11 hA, mb1_s, nI_1, show 16 - (d + 1) + 1 = 16 - d by omega]
    have ih := judg_l hA f1 f2 c1 c2 yd v u r d N (by omega) (by omega)
    have s1 : zS (fun a b => if zBck (nI j) (nI w) (zI (F + a)) (zI (C + b)) = yd then (1 : Int32) else 0) (16 - d) = zS (fun a b => if zBck (nI j) (nI w) (zI (F + a)) (zI (C + b)) = yd then 1 else 0) (16 - (d + 1)) + (if zBck (nI j) (nI w) (zI (F + zsl ((16 - (d + 1)) / 4))) (zI (C + zsl ((16 - (d + 1)) % 4))) = yd then 1 else 0) := by rw [show 16 - d = 16 - (d + 1) + 1 by omega, zS_s]
    have s2 : zS (fun a b => if zWay (nI j) (nI w) (zI (F + a)) (zI (C + b)) = 2 ∧ zBck (nI j) (nI w) (zI (F + a)) (zI (C + b)) = yd then (1 : Int32) else 0) (16 - d) = zS (fun a b => if zWay (nI j) (nI w) (zI (F + a)) (zI (C + b)) = 2 ∧ zBck (nI j) (nI w) (zI (F + a)) (zI (C + b)) = yd then 1 else 0) (16 - (d + 1)) + (if zWay (nI j) (nI w) (zI (F + zsl ((16 - (d + 1)) / 4))) (zI (C + zsl ((16 - (d + 1)) % 4))) = 2 ∧ zBck (nI j) (nI w) (zI (F + zsl ((16 - (d + 1)) / 4))) (zI (C + zsl ((16 - (d + 1)) % 4))) = yd then 1 else 0) := by rw [show 16 - d = 16 - (d + 1) + 1 by omega, zS_s]
    rw [s1, s2] at ih
    by_cases hc : zBck (nI j) (nI w) (zI (F + zsl ((16 - (d + 1)) / 4))) (zI (C + zsl ((16 - (d + 1)) % 4))) = yd
    · by_cases h2 : zWay (nI j) (nI w) (zI (F + zsl ((16 - (d + 1)) / 4))) (zI (C + zsl ((16 - (d + 1)) % 4))) = 2
      · rw [if_pos hc, if_neg (show ¬ ((1 : Int32) = 0) from by decide), if_neg (show ¬ ((1 : Int32) = 0) from by decide), mb1_s, if_pos h2]
        rw [if_pos hc, if_pos ⟨h2, hc⟩] at ih
        exact ih
      · rw [if_pos hc, if_neg (show ¬ ((1 : Int32) = 0) from by decide), if_neg (show ¬ ((1 : Int32) = 0) from by decide), mb1_s, if_neg h2]
        rw [if_pos hc, if_neg (fun q => h2 q.1)] at ih
        exact ih
    · rw [if_neg hc, if_pos rfl, if_pos rfl]
      rw [if_neg hc, if_neg (fun q => hc q.2)] at ih
      exact ih
theorem ind_r (p : Prop) [Decidable p] : ∃ n : Nat, n ≤ 1 ∧ (if p then (1 : Int32) else 0) = nI n := by
  by_cases h : p
  · exact ⟨1, by omega, by rw [if_pos h]; rfl⟩
  · exact ⟨0, by omega, by rw [if_neg h]; rfl⟩
theorem op_judge {c_now_stones_many : Int32} {c_now_stones_wetness : Int32} {c_now_stones_kinds : Nat → Int32} {c_now_game_player : Int32} {c_now_game_undoable : Int32} {c_now_game_totals : Nat → Int32} {c_now_game_gains : Nat → Int32} {c_now_written_many : Int32} {c_now_written_cells : Nat → Int32} {c_fraction_above : Int64} {c_fraction_below : Int64} {c_spread_ways : Nat → Int32} {c_spread_anyBack : Nat → Int32} {c_spread_edgeBack : Nat → Int32} {c_refused : Nat → Int32} {m_above : Int64} {m_below : Int64} {m_s : Nat → Int32} {m_refused : Nat → Int32} (hN : NowR c_now_stones_kinds c_now_stones_many c_now_stones_wetness c_now_game_totals c_now_game_gains c_now_game_player c_now_game_undoable c_now_written_cells c_now_written_many m_s) (hF : FrcR c_fraction_above c_fraction_below m_above m_below) (hE : RefR c_refused m_refused) (y0 : Int32) (y1 : Int32) (y2 : Int32) (y3 : Int32) : ∃ (r : Int32) (dc_refused : Nat → Int32) (dc_spread_ways : Nat → Int32) (dc_spread_anyBack : Nat → Int32) (dc_spread_edgeBack : Nat → Int32) (dc_fraction_above : Int64) (dc_fraction_below : Int64) (dm_above : Int64) (dm_below : Int64) (dm_refused : Nat → Int32), f_X10_judge y0 y1 y2 y3 c_now_stones_many c_now_stones_wetness c_refused c_now_stones_kinds c_spread_ways c_spread_anyBack c_spread_edgeBack c_fraction_above c_fraction_below = some (r, dc_refused, dc_spread_ways, dc_spread_anyBack, dc_spread_edgeBack, dc_fraction_above, dc_fraction_below) ∧ f_X11_judge y0 y1 y2 y3 m_above m_below m_s m_refused = some (r, dm_above, dm_below, dm_refused) ∧ FrcR dc_fraction_above dc_fraction_below dm_above dm_below ∧ RefR dc_refused dm_refused := by
  obtain ⟨⟨nm, nw, b1, b2, rfl, rfl, e0, e1, hk⟩, hG, hB⟩ := hN
  obtain ⟨rfl, rfl⟩ := hF
  unfold f_X10_judge f_X11_judge f_X10_judge_L21 f_X11_judge_L23 f_X10_gather
  rw [isThrow10 b1, isThrow11 b1 e0, cw, mw y3 0 30 (lo' := 0) (hi' := 30) rfl rfl]
  cases hT : inT y0 y1 y2 (nI nm) with
  | false =>
    simp only [mb0_s, mb1_s, mb2_s, mb3_s, mb4_s, mb5_s, mb6_s, mb7_s, mb8_s, mb9_s, mb10_s, mb11_s, mb12_s, mb13_s, mb14_s, mb15_s, mb16_s, mb17_s, mb18_s, mb19_s, mb20_s, mb21_s, mb22_s, mb23_s, mb24_s, ifI_t, ifI_f, isB_bI, bad10, no10, full10, bad11, badAs11, no11, full11, mb0_s, mb1_s, mb2_s, mb3_s, mb4_s, mb5_s, mb6_s, mb7_s, mb8_s, mb9_s, mb10_s, mb11_s, mb12_s, mb13_s, mb14_s, mb15_s, mb16_s, mb17_s, mb18_s, mb19_s, mb20_s, mb21_s, mb22_s, mb23_s, mb24_s, mg_tt, ib_0_2, ib_0_3, ib_0_4, ib_0_44, ib_0_117, ib_1_2, ib_1_3, ib_1_4, ib_1_117, ib_2_3, ib_2_4, ib_2_117, ib_3_4, ib_3_117, ib_4_117, ib_5_117, ib_44_117, tn_0, tn_1, tn_2, tn_3, tn_4, tn_5, tn_8, tn_10, tn_44, tn_72, cp_0, cp_1, cp_2, cp_3, cp_4]
    exact ⟨_, _, _, _, _, _, _, _, _, _, rfl, rfl, ⟨rfl, rfl⟩, hE.bump 0⟩
  | true =>
    cases hg : inR y3 0 30 with
    | false =>
      simp only [mb0_s, mb1_s, mb2_s, mb3_s, mb4_s, mb5_s, mb6_s, mb7_s, mb8_s, mb9_s, mb10_s, mb11_s, mb12_s, mb13_s, mb14_s, mb15_s, mb16_s, mb17_s, mb18_s, mb19_s, mb20_s, mb21_s, mb22_s, mb23_s, mb24_s, ifI_t, ifI_f, isB_bI, bad10, no10, full10, bad11, badAs11, no11, full11, mb0_s, mb1_s, mb2_s, mb3_s, mb4_s, mb5_s, mb6_s, mb7_s, mb8_s, mb9_s, mb10_s, mb11_s, mb12_s, mb13_s, mb14_s, mb15_s, mb16_s, mb17_s, mb18_s, mb19_s, mb20_s, mb21_s, mb22_s, mb23_s, mb24_s, mg_tt, ib_0_2, ib_0_3, ib_0_4, ib_0_44, ib_0_117, ib_1_2, ib_1_3, ib_1_4, ib_1_117, ib_2_3, ib_2_4, ib_2_117, ib_3_4, ib_3_117, ib_4_117, ib_5_117, ib_44_117, tn_0, tn_1, tn_2, tn_3, tn_4, tn_5, tn_8, tn_10, tn_44, tn_72, cp_0, cp_1, cp_2, cp_3, cp_4]
      exact ⟨_, _, _, _, _, _, _, _, _, _, rfl, rfl, ⟨rfl, rfl⟩, hE.bump 0⟩
    | true =>
      obtain ⟨i, x, t, i1, rfl, x1, x2, rfl, t1, t2, rfl⟩ := inT_z b1 hT
      obtain ⟨j, hj, hA⟩ := At.of b1 b2 e0 e1 hk i1
      obtain ⟨y, -, g2, rfl⟩ := inR_nI 0 30 rfl rfl hg
      obtain ⟨wy, an, ed, k1, k2, k3, k4⟩ := gat hA.2.2.1 b2 x1 x2 t1 t2 c_spread_ways c_spread_anyBack c_spread_edgeBack
      have hw : f_X7_casesBack (nI y) an = some (an y) := by
        unfold f_X7_casesBack
        rw [cw, hg, mb1_s, if_neg (show ¬ bI true = 0 from by decide), inB_nI (show y < 31 by omega) (by omega), mg_tt, clN (by omega)]
      have hw2 : f_X7_edgesBack (nI y) ed = some (ed y) := by
        unfold f_X7_edgesBack
        rw [cw, hg, mb1_s, if_neg (show ¬ bI true = 0 from by decide), inB_nI (show y < 31 by omega) (by omega), mg_tt, clN (by omega)]
      have hm := judg_l hA x1 x2 t1 t2 (nI y) m_above m_below m_refused 16 100000 (by omega) (by omega)
      rw [zS_G, zS_G, ← k3 y g2, ← k4 y g2] at hm
      obtain ⟨A, a1, a2⟩ := zG_b (B := 1) (by omega) (fun a b _ _ _ _ => ind_r (zBck (nI j) (nI nw) (zI (x + a)) (zI (t + b)) = nI y))
      obtain ⟨E, g3, g4⟩ := zG_b (B := 1) (by omega) (fun a b _ _ _ _ => ind_r (zWay (nI j) (nI nw) (zI (x + a)) (zI (t + b)) = 2 ∧ zBck (nI j) (nI nw) (zI (x + a)) (zI (t + b)) = nI y))
      rw [← k3 y g2] at a2
      rw [← k4 y g2] at g4
      rw [mb1_s, if_neg (show ¬ bI true = 0 from by decide), mb1_s, if_neg (show ¬ bI true = 0 from by decide), kind10 b1 i1, mb1_s, hj, k1, mb3_s, mb3_s, hw, mb1_s]
      rw [mb1_s, if_neg (show ¬ bI true = 0 from by decide), mb1_s, if_neg (show ¬ bI true = 0 from by decide), show f_X11_judge_L37 m_s 100000 (nI i) (zI x) (zI t) (nI y) 0 0 0 m_above m_below m_refused = _ from hm]
      rw [hw2, mb1_s, mb1_s, a2, g4]
      by_cases hz : nI A = 0
      · rw [if_pos hz, if_pos hz, no10, no11, mb2_s, mb2_s]
        exact ⟨_, _, _, _, _, _, _, _, _, _, rfl, rfl, ⟨rfl, rfl⟩, hE.bump 1⟩
      · have hA0 : 0 < A := by
          rcases Nat.eq_zero_or_pos A with h | h
          · subst h; exact absurd rfl hz
          · exact h
        have e5 : (nI E).toInt64 = zL (E : Int) := by rw [nI_z, zI_l (by omega) (by omega)]
        have e6 : (nI A).toInt64 = zL (A : Int) := by rw [nI_z, zI_l (by omega) (by omega)]
        rw [if_neg hz, if_neg hz, e5, e6, hold_e (by omega) (by omega) hA0, tells_e (by omega) (by omega) hA0, mb2_s, mb2_s]
        exact ⟨_, _, _, _, _, _, _, _, _, _, rfl, rfl, ⟨rfl, rfl⟩, hE⟩
theorem zMean_r {j w : Nat} (hj : j ≤ 5) (hw : w ≤ 3) {F C Y : Int} (f1 : 1 ≤ F) (f2 : F ≤ 9) (c1 : 0 ≤ C) (c2 : C ≤ 9) : ∃ v : Nat, v ≤ 160 ∧ zMean (nI j) (nI w) (zI F) (zI C) (zI Y) = nI v := by
  rw [mean_G hj hw f1 f2 c1 c2]
  exact zG_b (B := 10) (by omega) (fun a b _ _ _ _ => zPts_r _ _ _ _ _)
/-- from the second stand on both are alike -/
theorem line_l {s : Nat → Int32} {i j w nm : Nat} (hA : At s i j w nm) {F C : Int} (f1 : 1 ≤ F) (f2 : F ≤ 9) (c1 : 0 ≤ C) (c2 : C ≤ 9) {ed : Nat → Int32} (he : ∀ i : Nat, i ≤ 30 → ed i = zG (fun a b => if zWay (nI j) (nI w) (zI (F + a)) (zI (C + b)) = 2 ∧ zBck (nI j) (nI w) (zI (F + a)) (zI (C + b)) = nI i then 1 else 0)) (r : Nat → Int32) : ∀ (d N : Nat) (most set : Int32), d ≤ 21 → d < N → ∃ v : Int32, f_X7_bestStands_L6 ed N most set (nI (21 - d)) = some v ∧ f_X11_line_L24 s N (nI i) (zI F) (zI C) most set (nI (21 - d)) r = some (v, r)
  | 0, N + 1, most, set, _, _ => by
    refine ⟨set, ?_, ?_⟩
    · unfold f_X7_bestStands_L6
      rw [if_pos (show (20 : Int32) < nI (21 - 0) from by decide)]
    · unfold f_X11_line_L24
      rw [if_pos (show (21 : Int32) ≤ nI (21 - 0) from by decide)]
  | d + 1, N + 1, most, set, h1, h2 => by
    have hp := mean10 hA.2.2.1 hA.2.2.2.1 f1 f2 c1 c2 (Y := ((21 - (d + 1) : Nat) : Int)) (by omega) (by omega) he
    have hm := mean11 hA f1 f2 c1 c2 (Y := ((21 - (d + 1) : Nat) : Int)) (by omega) (by omega)
    rw [← nI_z] at hp hm
    have en : nI (21 - (d + 1)) + 1 = nI (21 - d) := by rw [nI_1]; congr 1; omega
    generalize zMean (nI j) (nI w) (zI F) (zI C) (nI (21 - (d + 1))) = V at hp hm
    have g1 : ¬ (20 : Int32) < nI (21 - (d + 1)) := nI_nlt (a := 20) (b := 21 - (d + 1)) (by omega) (by decide)
    have g2 : ¬ (21 : Int32) ≤ nI (21 - (d + 1)) := nI_ge (b := 21) (by omega) (by decide)
    by_cases hc : V ≤ most
    · by_cases hq : V = most
      · obtain ⟨v, v1, v2⟩ := line_l hA f1 f2 c1 c2 he r d N most (set ||| ((1 : Int32) <<< (nI (21 - (d + 1)) &&& 31))) (by omega) (by omega)
        refine ⟨v, ?_, ?_⟩
        · unfold f_X7_bestStands_L6 f_X7_bestStands_L30 f_X7_bestStands_L44
          rw [if_neg g1, hp, mb1_s, if_pos hc, if_pos hq, en]
          exact v1
        · unfold f_X11_line_L24 f_X11_line_L55 f_X11_line_L74 f_X11_line_L91
          rw [if_neg g2, hm, mb1_s, if_pos hc, if_neg (show ¬ V < most from by rw [hq]; exact Int32.lt_irrefl), if_pos hc, en]
          exact v2
      · obtain ⟨v, v1, v2⟩ := line_l hA f1 f2 c1 c2 he r d N most (set ||| 0) (by omega) (by omega)
        refine ⟨v, ?_, ?_⟩
        · unfold f_X7_bestStands_L6 f_X7_bestStands_L30 f_X7_bestStands_L44
          rw [if_neg g1, hp, mb1_s, if_pos hc, if_neg hq, en]
          exact v1
        · unfold f_X11_line_L24 f_X11_line_L55 f_X11_line_L74 f_X11_line_L91
          rw [if_neg g2, hm, mb1_s, if_pos hc, if_pos (show V < most from Int32.lt_of_le_of_ne hc hq), if_pos hc, en]
          exact v2
    · obtain ⟨v, v1, v2⟩ := line_l hA f1 f2 c1 c2 he r d N V ((0 : Int32) ||| ((1 : Int32) <<< (nI (21 - (d + 1)) &&& 31))) (by omega) (by omega)
      refine ⟨v, ?_, ?_⟩
      · unfold f_X7_bestStands_L6 f_X7_bestStands_L30 f_X7_bestStands_L44
        rw [if_neg g1, hp, mb1_s, if_neg hc, if_pos rfl, en]
        exact v1
      · unfold f_X11_line_L24 f_X11_line_L55 f_X11_line_L74 f_X11_line_L91
        rw [if_neg g2, hm, mb1_s, if_neg hc, if_neg (show ¬ V < most from fun q => hc (Int32.le_of_lt q)), if_neg hc, en]
        exact v2
theorem op_line {c_now_stones_many : Int32} {c_now_stones_wetness : Int32} {c_now_stones_kinds : Nat → Int32} {c_now_game_player : Int32} {c_now_game_undoable : Int32} {c_now_game_totals : Nat → Int32} {c_now_game_gains : Nat → Int32} {c_now_written_many : Int32} {c_now_written_cells : Nat → Int32} {c_spread_ways : Nat → Int32} {c_spread_anyBack : Nat → Int32} {c_spread_edgeBack : Nat → Int32} {c_refused : Nat → Int32} {m_s : Nat → Int32} {m_refused : Nat → Int32} (hN : NowR c_now_stones_kinds c_now_stones_many c_now_stones_wetness c_now_game_totals c_now_game_gains c_now_game_player c_now_game_undoable c_now_written_cells c_now_written_many m_s) (hE : RefR c_refused m_refused) (y0 : Int32) (y1 : Int32) (y2 : Int32) : ∃ (r : Int32) (dc_refused : Nat → Int32) (dc_spread_ways : Nat → Int32) (dc_spread_anyBack : Nat → Int32) (dc_spread_edgeBack : Nat → Int32) (dm_refused : Nat → Int32), f_X10_line y0 y1 y2 c_now_stones_many c_now_stones_wetness c_refused c_now_stones_kinds c_spread_ways c_spread_anyBack c_spread_edgeBack = some (r, dc_refused, dc_spread_ways, dc_spread_anyBack, dc_spread_edgeBack) ∧ f_X11_line y0 y1 y2 m_s m_refused = some (r, dm_refused) ∧ RefR dc_refused dm_refused := by
  obtain ⟨⟨nm, nw, b1, b2, rfl, rfl, e0, e1, hk⟩, hG, hB⟩ := hN
  unfold f_X10_line f_X11_line f_X10_gather f_X7_bestStands
  rw [isThrow10 b1, isThrow11 b1 e0]
  cases hT : inT y0 y1 y2 (nI nm) with
  | false =>
    simp only [mb0_s, mb1_s, mb2_s, mb3_s, mb4_s, mb5_s, mb6_s, mb7_s, mb8_s, mb9_s, mb10_s, mb11_s, mb12_s, mb13_s, mb14_s, mb15_s, mb16_s, mb17_s, mb18_s, mb19_s, mb20_s, mb21_s, mb22_s, mb23_s, mb24_s, ifI_t, ifI_f, isB_bI, bad10, no10, full10, bad11, badAs11, no11, full11, mb0_s, mb1_s, mb2_s, mb3_s, mb4_s, mb5_s, mb6_s, mb7_s, mb8_s, mb9_s, mb10_s, mb11_s, mb12_s, mb13_s, mb14_s, mb15_s, mb16_s, mb17_s, mb18_s, mb19_s, mb20_s, mb21_s, mb22_s, mb23_s, mb24_s, mg_tt, ib_0_2, ib_0_3, ib_0_4, ib_0_44, ib_0_117, ib_1_2, ib_1_3, ib_1_4, ib_1_117, ib_2_3, ib_2_4, ib_2_117, ib_3_4, ib_3_117, ib_4_117, ib_5_117, ib_44_117, tn_0, tn_1, tn_2, tn_3, tn_4, tn_5, tn_8, tn_10, tn_44, tn_72, cp_0, cp_1, cp_2, cp_3, cp_4]
    exact ⟨_, _, _, _, _, _, rfl, rfl, hE.bump 0⟩
  | true =>
    obtain ⟨i, x, t, i1, rfl, x1, x2, rfl, t1, t2, rfl⟩ := inT_z b1 hT
    obtain ⟨j, hj, hA⟩ := At.of b1 b2 e0 e1 hk i1
    obtain ⟨wy, an, ed, k1, k2, k3, k4⟩ := gat hA.2.2.1 b2 x1 x2 t1 t2 c_spread_ways c_spread_anyBack c_spread_edgeBack
    rw [mb1_s, if_neg (show ¬ bI true = 0 from by decide), kind10 b1 i1, mb1_s, hj, k1, mb3_s, mb3_s]
    rw [mb1_s, if_neg (show ¬ bI true = 0 from by decide)]
    have hp := mean10 hA.2.2.1 b2 x1 x2 t1 t2 (Y := 0) (by omega) (by omega) k4
    have hm := mean11 hA x1 x2 t1 t2 (Y := 0) (by omega) (by omega)
    obtain ⟨V, v1, v2⟩ := zMean_r hA.2.2.1 b2 (Y := 0) x1 x2 t1 t2
    rw [v2, show zI 0 = 0 from rfl] at hp hm
    obtain ⟨v, l1, l2⟩ := line_l hA x1 x2 t1 t2 k4 m_refused 20 99999 (nI V) ((0 : Int32) ||| ((1 : Int32) <<< ((0 : Int32) &&& 31))) (by omega) (by omega)
    have s1 : f_X7_bestStands_L6 ed 100000 (-1) 0 0 = some v := by
      rw [show 100000 = 99999 + 1 from rfl]
      unfold f_X7_bestStands_L6 f_X7_bestStands_L30 f_X7_bestStands_L44
      rw [if_neg (show ¬ (20 : Int32) < 0 from by decide), hp, mb1_s, if_neg (show ¬ nI V ≤ -1 from by rw [nI_z, zl_1, zI_neg, zI_le (by omega) (by omega) (by omega) (by omega)]; omega), if_pos rfl]
      exact l1
    have s2 : f_X11_line_L24 m_s 100000 (nI i) (zI x) (zI t) 0 0 0 m_refused = some (v, m_refused) := by
      rw [show 100000 = 99999 + 1 from rfl]
      unfold f_X11_line_L24 f_X11_line_L55 f_X11_line_L74 f_X11_line_L91
      rw [if_neg (show ¬ (21 : Int32) ≤ 0 from by decide), hm, mb1_s, if_neg (show ¬ nI V < 0 from nI_pos (by omega))]
      by_cases hv : nI V ≤ 0
      · have hV : V = 0 := by
          rw [nI_z, zl_0, zI_le (by omega) (by omega) (by omega) (by omega)] at hv
          omega
        subst hV
        rw [if_pos hv, if_pos hv]
        exact l2
      · rw [if_neg hv, if_neg hv]
        exact l2
    rw [s1, s2, mb1_s]
    exact ⟨_, _, _, _, _, _, rfl, rfl, hE⟩
