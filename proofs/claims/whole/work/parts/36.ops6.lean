set_option maxRecDepth 8000
/-! the book, the evening, the digest -/
theorem cell10 {r c : Nat} (hr : r < 12) (hc : c < 6) (cs : Nat → Int32) : f_X1_cell (nI r) (nI c) cs = some (cs (6 * r + c)) := by
  unfold f_X1_cell
  have e : nI r * 6 + nI c = nI (6 * r + c) := by
    rw [nI_z, nI_z, nI_z, zl_6, zI_mul, zI_add]; congr 1; omega
  rw [e, if_neg (nI_pos (by omega)), if_neg, inB_nI (show 6 * r + c < 72 by omega) (by omega), mg_tt, clN (by omega)]
  show ¬ nI 72 ≤ _
  rw [nI_leI (by omega) (by omega)]
  omega
theorem pl11 {r c : Nat} (hr : r < 12) (hc : c < 6) : inB (45 + 6 * nI r + nI c) 117 = true ∧ (45 + 6 * nI r + nI c).toNatClampNeg = 45 + 6 * r + c := by
  have e : 45 + 6 * nI r + nI c = nI (45 + 6 * r + c) := by
    rw [nI_z, nI_z, nI_z, zl_6, zl_45, zI_mul, zI_add, zI_add]; congr 1
  rw [e]
  exact ⟨inB_nI (by omega) (by omega), clN (by omega)⟩
theorem slip10 (z : Int32) : ∃ a : Int, -1 ≤ a ∧ a ≤ 1 ∧ f_X10_slipOf z = some (zI a) ∧ f_X11_slip z = some (zI a) := by
  unfold f_X10_slipOf f_X11_slip
  by_cases h0 : z = 0
  · exact ⟨-1, by omega, by omega, by rw [if_pos h0]; rfl, by rw [if_pos h0]; rfl⟩
  · by_cases h3 : z = 3
    · exact ⟨1, by omega, by omega, by rw [if_neg h0, if_pos h3]; rfl, by rw [if_neg h0, if_pos h3]; rfl⟩
    · exact ⟨0, by omega, by omega, by rw [if_neg h0, if_neg h3]; rfl, by rw [if_neg h0, if_neg h3]; rfl⟩
theorem eve_l {s : Nat → Int32} {i j w nm : Nat} (hA : At s i j w nm) {ks : Nat → Int32} (hj : ks i = nI j) {F C Y : Int} (f1 : 1 ≤ F) (f2 : F ≤ 9) (c1 : 0 ≤ C) (c2 : C ≤ 9) (y1 : 0 ≤ Y) (y2 : Y ≤ 20) (n : Nat) (hn : n ≤ 60) (r r' : Nat → Int32) : ∀ (d N : Nat) (x : Int64) (sum : Int32), d ≤ n → d < N → ∃ v : Int32, f_X10_evening_L70 (nI nm) (nI w) ks N (nI i) (zI F) (zI C) (zI Y) (nI n) x sum (nI (n - d)) r = some (v, r) ∧ f_X11_evening_L65 s N (nI i) (zI F) (zI C) (zI Y) (nI n) x sum (nI (n - d)) r' = some (v, r')
  | 0, N + 1, x, sum, _, _ => by
    refine ⟨sum, ?_, ?_⟩
    · unfold f_X10_evening_L70
      rw [if_pos (nI_le (by omega) (by omega))]
    · unfold f_X11_evening_L65
      rw [if_pos (nI_le (by omega) (by omega))]
  | d + 1, N + 1, x, sum, h1, h2 => by
    have e0 : nI (n - (d + 1)) + 1 = nI (n - d) := by rw [nI_1]; congr 1; omega
    have hne : ¬ nI n ≤ nI (n - (d + 1)) := nI_ge (by omega) (by omega)
    obtain ⟨a, a1, a2, a3, a4⟩ := slip10 (Int64.toInt32 (lrm (lrm (x * 1103515245 + 12345) 2147483648 / 65536) 16) / 4)
    obtain ⟨b, b1, b2, b3, b4⟩ := slip10 (irm (Int64.toInt32 (lrm (lrm (x * 1103515245 + 12345) 2147483648 / 65536) 16)) 4)
    obtain ⟨v, v1, v2⟩ := eve_l hA hj f1 f2 c1 c2 y1 y2 n hn r r' d N (lrm (x * 1103515245 + 12345) 2147483648) (sum + zPts (nI j) (nI w) (zI (F + a)) (zI (C + b)) (zI Y)) (by omega) (by omega)
    refine ⟨v, ?_, ?_⟩
    · unfold f_X10_evening_L70 f_X10_thrown
      simp only [hne, if_false, a3, b3, mb1_s, kind10 hA.1 hA.2.1, hj, pts10 hA.2.2.1, zI_add, e0]
      exact v1
    · unfold f_X11_evening_L65
      have hp := pts11 hA (F := F + a) (C := C + b) (Y := Y) (by omega) (by omega) (by omega) (by omega) (by omega) y1 y2
      simp only [hne, if_false, a4, b4, mb1_s, zI_add, hp, e0]
      exact v2
theorem op_evening {c_now_stones_many : Int32} {c_now_stones_wetness : Int32} {c_now_stones_kinds : Nat → Int32} {c_now_game_player : Int32} {c_now_game_undoable : Int32} {c_now_game_totals : Nat → Int32} {c_now_game_gains : Nat → Int32} {c_now_written_many : Int32} {c_now_written_cells : Nat → Int32} {c_refused : Nat → Int32} {m_s : Nat → Int32} {m_refused : Nat → Int32} (hN : NowR c_now_stones_kinds c_now_stones_many c_now_stones_wetness c_now_game_totals c_now_game_gains c_now_game_player c_now_game_undoable c_now_written_cells c_now_written_many m_s) (hE : RefR c_refused m_refused) (y0 : Int32) (y1 : Int32) (y2 : Int32) (y3 : Int32) (y4 : Int32) (y5 : Int32) : ∃ (r : Int32) (dc_refused : Nat → Int32) (dm_refused : Nat → Int32), f_X10_evening y0 y1 y2 y3 y4 y5 c_now_stones_many c_now_stones_wetness c_refused c_now_stones_kinds = some (r, dc_refused) ∧ f_X11_evening y0 y1 y2 y3 y4 y5 m_s m_refused = some (r, dm_refused) ∧ RefR dc_refused dm_refused := by
  obtain ⟨⟨nm, nw, b1, b2, rfl, rfl, e0, e1, hk⟩, hG, hB⟩ := hN
  unfold f_X10_evening f_X11_evening f_X10_evening_L44 f_X10_evening_L45 f_X11_evening_L49 f_X10_isStand
  rw [isThrow10 b1, isThrow11 b1 e0, cw, cw, cw, mw y3 0 20 (lo' := 0) (hi' := 20) rfl rfl, mw y4 0 60 (lo' := 0) (hi' := 60) rfl rfl, mw y5 0 999999 (lo' := 0) (hi' := 999999) rfl rfl]
  cases hT : inT y0 y1 y2 (nI nm) with
  | false =>
    simp only [mb0_s, mb1_s, mb2_s, mb3_s, mb4_s, mb5_s, mb6_s, mb7_s, mb8_s, mb9_s, mb10_s, mb11_s, mb12_s, mb13_s, mb14_s, mb15_s, mb16_s, mb17_s, mb18_s, mb19_s, mb20_s, mb21_s, mb22_s, mb23_s, mb24_s, ifI_t, ifI_f, isB_bI, bad10, no10, full10, bad11, badAs11, no11, full11, mb0_s, mb1_s, mb2_s, mb3_s, mb4_s, mb5_s, mb6_s, mb7_s, mb8_s, mb9_s, mb10_s, mb11_s, mb12_s, mb13_s, mb14_s, mb15_s, mb16_s, mb17_s, mb18_s, mb19_s, mb20_s, mb21_s, mb22_s, mb23_s, mb24_s, mg_tt, ib_0_2, ib_0_3, ib_0_4, ib_0_44, ib_0_117, ib_1_2, ib_1_3, ib_1_4, ib_1_117, ib_2_3, ib_2_4, ib_2_117, ib_3_4, ib_3_117, ib_4_117, ib_5_117, ib_44_117, tn_0, tn_1, tn_2, tn_3, tn_4, tn_5, tn_8, tn_10, tn_44, tn_72, cp_0, cp_1, cp_2, cp_3, cp_4]
    rw [if_pos trivial]
    exact ⟨_, _, _, rfl, rfl, hE.bump 0⟩
  | true =>
  cases hg : inR y3 0 20 with
  | false =>
    simp only [mb0_s, mb1_s, mb2_s, mb3_s, mb4_s, mb5_s, mb6_s, mb7_s, mb8_s, mb9_s, mb10_s, mb11_s, mb12_s, mb13_s, mb14_s, mb15_s, mb16_s, mb17_s, mb18_s, mb19_s, mb20_s, mb21_s, mb22_s, mb23_s, mb24_s, ifI_t, ifI_f, isB_bI, bad10, no10, full10, bad11, badAs11, no11, full11, mb0_s, mb1_s, mb2_s, mb3_s, mb4_s, mb5_s, mb6_s, mb7_s, mb8_s, mb9_s, mb10_s, mb11_s, mb12_s, mb13_s, mb14_s, mb15_s, mb16_s, mb17_s, mb18_s, mb19_s, mb20_s, mb21_s, mb22_s, mb23_s, mb24_s, mg_tt, ib_0_2, ib_0_3, ib_0_4, ib_0_44, ib_0_117, ib_1_2, ib_1_3, ib_1_4, ib_1_117, ib_2_3, ib_2_4, ib_2_117, ib_3_4, ib_3_117, ib_4_117, ib_5_117, ib_44_117, tn_0, tn_1, tn_2, tn_3, tn_4, tn_5, tn_8, tn_10, tn_44, tn_72, cp_0, cp_1, cp_2, cp_3, cp_4]
    rw [if_pos trivial]
    exact ⟨_, _, _, rfl, rfl, hE.bump 0⟩
  | true =>
  cases hg4 : inR y4 0 60 with
  | false =>
    simp only [mb0_s, mb1_s, mb2_s, mb3_s, mb4_s, mb5_s, mb6_s, mb7_s, mb8_s, mb9_s, mb10_s, mb11_s, mb12_s, mb13_s, mb14_s, mb15_s, mb16_s, mb17_s, mb18_s, mb19_s, mb20_s, mb21_s, mb22_s, mb23_s, mb24_s, ifI_t, ifI_f, isB_bI, bad10, no10, full10, bad11, badAs11, no11, full11, mb0_s, mb1_s, mb2_s, mb3_s, mb4_s, mb5_s, mb6_s, mb7_s, mb8_s, mb9_s, mb10_s, mb11_s, mb12_s, mb13_s, mb14_s, mb15_s, mb16_s, mb17_s, mb18_s, mb19_s, mb20_s, mb21_s, mb22_s, mb23_s, mb24_s, mg_tt, ib_0_2, ib_0_3, ib_0_4, ib_0_44, ib_0_117, ib_1_2, ib_1_3, ib_1_4, ib_1_117, ib_2_3, ib_2_4, ib_2_117, ib_3_4, ib_3_117, ib_4_117, ib_5_117, ib_44_117, tn_0, tn_1, tn_2, tn_3, tn_4, tn_5, tn_8, tn_10, tn_44, tn_72, cp_0, cp_1, cp_2, cp_3, cp_4]
    rw [if_pos trivial]
    exact ⟨_, _, _, rfl, rfl, hE.bump 0⟩
  | true =>
  cases hg5 : inR y5 0 999999 with
  | false =>
    simp only [mb0_s, mb1_s, mb2_s, mb3_s, mb4_s, mb5_s, mb6_s, mb7_s, mb8_s, mb9_s, mb10_s, mb11_s, mb12_s, mb13_s, mb14_s, mb15_s, mb16_s, mb17_s, mb18_s, mb19_s, mb20_s, mb21_s, mb22_s, mb23_s, mb24_s, ifI_t, ifI_f, isB_bI, bad10, no10, full10, bad11, badAs11, no11, full11, mb0_s, mb1_s, mb2_s, mb3_s, mb4_s, mb5_s, mb6_s, mb7_s, mb8_s, mb9_s, mb10_s, mb11_s, mb12_s, mb13_s, mb14_s, mb15_s, mb16_s, mb17_s, mb18_s, mb19_s, mb20_s, mb21_s, mb22_s, mb23_s, mb24_s, mg_tt, ib_0_2, ib_0_3, ib_0_4, ib_0_44, ib_0_117, ib_1_2, ib_1_3, ib_1_4, ib_1_117, ib_2_3, ib_2_4, ib_2_117, ib_3_4, ib_3_117, ib_4_117, ib_5_117, ib_44_117, tn_0, tn_1, tn_2, tn_3, tn_4, tn_5, tn_8, tn_10, tn_44, tn_72, cp_0, cp_1, cp_2, cp_3, cp_4]
    rw [if_pos trivial]
    exact ⟨_, _, _, rfl, rfl, hE.bump 0⟩
  | true =>
  obtain ⟨i, x, t, i1, rfl, x1, x2, rfl, t1, t2, rfl⟩ := inT_z b1 hT
  obtain ⟨j, hj, hA⟩ := At.of b1 b2 e0 e1 hk i1
  obtain ⟨y, g1, g2, rfl⟩ := inR_z 0 20 rfl rfl hg
  obtain ⟨n, -, n2, rfl⟩ := inR_nI 0 60 rfl rfl hg4
  simp only [mb0_s, mb1_s, mb2_s, mb3_s, mb4_s, mb5_s, mb6_s, mb7_s, mb8_s, mb9_s, mb10_s, mb11_s, mb12_s, mb13_s, mb14_s, mb15_s, mb16_s, mb17_s, mb18_s, mb19_s, mb20_s, mb21_s, mb22_s, mb23_s, mb24_s, ifI_t, ifI_f, isB_bI, bad10, no10, full10, bad11, badAs11, no11, full11, mb0_s, mb1_s, mb2_s, mb3_s, mb4_s, mb5_s, mb6_s, mb7_s, mb8_s, mb9_s, mb10_s, mb11_s, mb12_s, mb13_s, mb14_s, mb15_s, mb16_s, mb17_s, mb18_s, mb19_s, mb20_s, mb21_s, mb22_s, mb23_s, mb24_s, mg_tt, ib_0_2, ib_0_3, ib_0_4, ib_0_44, ib_0_117, ib_1_2, ib_1_3, ib_1_4, ib_1_117, ib_2_3, ib_2_4, ib_2_117, ib_3_4, ib_3_117, ib_4_117, ib_5_117, ib_44_117, tn_0, tn_1, tn_2, tn_3, tn_4, tn_5, tn_8, tn_10, tn_44, tn_72, cp_0, cp_1, cp_2, cp_3, cp_4]
  rw [if_neg (show ¬ ((1 : Int32) = 0) from by decide)]
  obtain ⟨v, v1, v2⟩ := eve_l hA hj x1 x2 t1 t2 g1 g2 n n2 c_refused m_refused n 100000 y5.toInt64 0 (by omega) (by omega)
  rw [show n - n = 0 by omega] at v1 v2
  rw [show f_X10_evening_L70 (nI nm) (nI nw) c_now_stones_kinds 100000 (nI i) (zI x) (zI t) (zI y) (nI n) y5.toInt64 0 0 c_refused = _ from v1, show f_X11_evening_L65 m_s 100000 (nI i) (zI x) (zI t) (zI y) (nI n) y5.toInt64 0 0 m_refused = _ from v2]
  exact ⟨_, _, _, rfl, rfl, hE⟩
theorem told_l {cs : Nat → Int32} {s : Nat → Int32} {n : Nat} (hn : n ≤ 12) (hc : ∀ r : Nat, r < n → s (45 + 6 * r + 5) = cs (6 * r + 5)) (x1 x2 : Int32) (e : Nat) (he : e ≤ n) (hx : x1 + x2 = nI e) : ∀ (d N : Nat) (sum : Int32), d ≤ e → d < N → ∃ v : Int32, f_X1_told_L5 cs N (nI e) sum (nI (e - d)) = some v ∧ f_X11_toldFrom_L5 s N x1 x2 sum (nI (e - d)) = some v
  | 0, N + 1, sum, _, _ => by
    refine ⟨sum, ?_, ?_⟩
    · unfold f_X1_told_L5
      rw [if_pos (nI_le (by omega) (by omega))]
    · unfold f_X11_toldFrom_L5
      rw [hx, if_pos (nI_le (by omega) (by omega))]
  | d + 1, N + 1, sum, h1, h2 => by
    have e0 : nI (e - (d + 1)) + 1 = nI (e - d) := by rw [nI_1]; congr 1; omega
    have hne : ¬ nI e ≤ nI (e - (d + 1)) := nI_ge (by omega) (by omega)
    obtain ⟨v, v1, v2⟩ := told_l hn hc x1 x2 e he hx d N (sum + cs (6 * (e - (d + 1)) + 5)) (by omega) (by omega)
    obtain ⟨p1, p2⟩ := pl11 (show e - (d + 1) < 12 by omega) (show 5 < 6 by omega)
    refine ⟨v, ?_, ?_⟩
    · unfold f_X1_told_L5
      rw [if_neg hne, show (5 : Int32) = nI 5 from rfl, cell10 (by omega) (by omega), mb1_s, e0]
      exact v1
    · unfold f_X11_toldFrom_L5
      rw [hx, if_neg hne, show (5 : Int32) = nI 5 from rfl, p1, p2, mg_tt, hc _ (by omega), e0]
      exact v2
theorem told_e {cs : Nat → Int32} {s : Nat → Int32} {n : Nat} (hn : n ≤ 12) (hc : ∀ r : Nat, r < n → s (45 + 6 * r + 5) = cs (6 * r + 5)) {a k : Nat} (h : a + k ≤ n) : ∃ v : Int32, f_X1_told (nI a) (nI (a + k)) cs = some v ∧ f_X11_toldFrom (nI a) (nI k) s = some v := by
  obtain ⟨v, v1, v2⟩ := told_l hn hc (nI a) (nI k) (a + k) h (nI_add a k) k 100000 0 (by omega) (by omega)
  rw [show a + k - k = a by omega] at v1 v2
  exact ⟨v, v1, v2⟩
theorem hour_l {cs : Nat → Int32} {s : Nat → Int32} {n : Nat} (hn : n ≤ 12) (h44 : s 44 = nI n) (hc : ∀ r : Nat, r < n → s (45 + 6 * r + 5) = cs (6 * r + 5)) {k : Nat} (hk : k ≤ 12) (r' : Nat → Int32) : ∀ (d N a : Nat) (found most : Int32), n < a + k + d → a ≤ 12 → d < N → ∃ v : Int32, f_X1_bestRow_L7 (nI n) cs N (nI k) found most (nI a) = some v ∧ f_X11_hours_L24 s N (nI k) found most (nI a) r' = some (v, r')
  | 0, N + 1, a, found, most, h, _, _ => by
    refine ⟨found, ?_, ?_⟩
    · unfold f_X1_bestRow_L7
      rw [nI_add, if_pos (nI_lt (by omega) (by omega))]
    · unfold f_X11_hours_L24
      rw [ib_44_117, mg_tt, tn_44, h44, nI_add, if_pos (nI_lt (by omega) (by omega))]
  | d + 1, N + 1, a, found, most, h, ha, hN => by
    by_cases hlt : n < a + k
    · refine ⟨found, ?_, ?_⟩
      · unfold f_X1_bestRow_L7
        rw [nI_add, if_pos (nI_lt (by omega) (by omega))]
      · unfold f_X11_hours_L24
        rw [ib_44_117, mg_tt, tn_44, h44, nI_add, if_pos (nI_lt (by omega) (by omega))]
    · by_cases ha12 : a = 12
      · have hk0 : k = 0 := by omega
        subst ha12; subst hk0
        obtain ⟨x, x1, x2⟩ := told_e hn hc (a := 12) (k := 0) (by omega)
        have hw : ∀ (f m : Int32), ∃ v : Int32, f_X1_bestRow_L7 (nI n) cs N (nI 0) f m (nI 12 + 1) = some v ∧ f_X11_hours_L24 s N (nI 0) f m (nI 12 + 1) r' = some (v, r') := by
          intro f m
          cases N with
          | zero => omega
          | succ N =>
            refine ⟨f, ?_, ?_⟩
            · unfold f_X1_bestRow_L7
              rw [nI_1, nI_add, if_pos (nI_lt (by omega) (by omega))]
            · unfold f_X11_hours_L24
              rw [ib_44_117, mg_tt, tn_44, h44, nI_1, nI_add, if_pos (nI_lt (by omega) (by omega))]
        by_cases hm : x ≤ most
        · obtain ⟨v, v1, v2⟩ := hw found most
          refine ⟨v, ?_, ?_⟩
          · unfold f_X1_bestRow_L7 f_X1_bestRow_L42
            rw [nI_add, if_neg (nI_nlt (by omega) (by omega)), x1, mb1_s, if_pos hm]
            exact v1
          · unfold f_X11_hours_L24 f_X11_hours_L59 f_X11_hours_L72
            rw [ib_44_117, mg_tt, tn_44, h44, nI_add, if_neg (nI_nlt (by omega) (by omega)), x2, mb1_s, if_pos hm, if_pos hm]
            exact v2
        · obtain ⟨v, v1, v2⟩ := hw (nI 12) x
          refine ⟨v, ?_, ?_⟩
          · unfold f_X1_bestRow_L7 f_X1_bestRow_L42
            rw [nI_add, if_neg (nI_nlt (by omega) (by omega)), x1, mb1_s, if_neg hm]
            exact v1
          · unfold f_X11_hours_L24 f_X11_hours_L59 f_X11_hours_L72
            rw [ib_44_117, mg_tt, tn_44, h44, nI_add, if_neg (nI_nlt (by omega) (by omega)), x2, mb1_s, if_neg hm, if_neg hm]
            exact v2
      · obtain ⟨x, x1, x2⟩ := told_e hn hc (a := a) (k := k) (by omega)
        by_cases hm : x ≤ most
        · obtain ⟨v, v1, v2⟩ := hour_l hn h44 hc hk r' d N (a + 1) found most (by omega) (by omega) (by omega)
          refine ⟨v, ?_, ?_⟩
          · unfold f_X1_bestRow_L7 f_X1_bestRow_L42
            rw [nI_add, if_neg (nI_nlt (by omega) (by omega)), x1, mb1_s, if_pos hm, nI_1]
            exact v1
          · unfold f_X11_hours_L24 f_X11_hours_L59 f_X11_hours_L72
            rw [ib_44_117, mg_tt, tn_44, h44, nI_add, if_neg (nI_nlt (by omega) (by omega)), x2, mb1_s, if_pos hm, if_pos hm, nI_1]
            exact v2
        · obtain ⟨v, v1, v2⟩ := hour_l hn h44 hc hk r' d N (a + 1) (nI a) x (by omega) (by omega) (by omega)
          refine ⟨v, ?_, ?_⟩
          · unfold f_X1_bestRow_L7 f_X1_bestRow_L42
            rw [nI_add, if_neg (nI_nlt (by omega) (by omega)), x1, mb1_s, if_neg hm, nI_1]
            exact v1
          · unfold f_X11_hours_L24 f_X11_hours_L59 f_X11_hours_L72
            rw [ib_44_117, mg_tt, tn_44, h44, nI_add, if_neg (nI_nlt (by omega) (by omega)), x2, mb1_s, if_neg hm, if_neg hm, nI_1]
            exact v2
theorem op_hours {c_now_stones_many : Int32} {c_now_stones_wetness : Int32} {c_now_stones_kinds : Nat → Int32} {c_now_game_player : Int32} {c_now_game_undoable : Int32} {c_now_game_totals : Nat → Int32} {c_now_game_gains : Nat → Int32} {c_now_written_many : Int32} {c_now_written_cells : Nat → Int32} {c_refused : Nat → Int32} {m_s : Nat → Int32} {m_refused : Nat → Int32} (hN : NowR c_now_stones_kinds c_now_stones_many c_now_stones_wetness c_now_game_totals c_now_game_gains c_now_game_player c_now_game_undoable c_now_written_cells c_now_written_many m_s) (hE : RefR c_refused m_refused) (y0 : Int32) : ∃ (r : Int32) (dc_refused : Nat → Int32) (dm_refused : Nat → Int32), f_X10_hours y0 c_refused c_now_written_many c_now_written_cells = some (r, dc_refused) ∧ f_X11_hours y0 m_refused m_s = some (r, dm_refused) ∧ RefR dc_refused dm_refused := by
  obtain ⟨hS, hG, n, h1, rfl, h3, h4⟩ := hN
  unfold f_X10_hours f_X11_hours f_X1_bestRow
  rw [cw, mw y0 1 12 (lo' := 1) (hi' := 12) rfl rfl]
  cases hg : inR y0 1 12 with
  | false =>
    simp only [mb0_s, mb1_s, mb2_s, mb3_s, mb4_s, mb5_s, mb6_s, mb7_s, mb8_s, mb9_s, mb10_s, mb11_s, mb12_s, mb13_s, mb14_s, mb15_s, mb16_s, mb17_s, mb18_s, mb19_s, mb20_s, mb21_s, mb22_s, mb23_s, mb24_s, ifI_t, ifI_f, isB_bI, bad10, no10, full10, bad11, badAs11, no11, full11, mb0_s, mb1_s, mb2_s, mb3_s, mb4_s, mb5_s, mb6_s, mb7_s, mb8_s, mb9_s, mb10_s, mb11_s, mb12_s, mb13_s, mb14_s, mb15_s, mb16_s, mb17_s, mb18_s, mb19_s, mb20_s, mb21_s, mb22_s, mb23_s, mb24_s, mg_tt, ib_0_2, ib_0_3, ib_0_4, ib_0_44, ib_0_117, ib_1_2, ib_1_3, ib_1_4, ib_1_117, ib_2_3, ib_2_4, ib_2_117, ib_3_4, ib_3_117, ib_4_117, ib_5_117, ib_44_117, tn_0, tn_1, tn_2, tn_3, tn_4, tn_5, tn_8, tn_10, tn_44, tn_72, cp_0, cp_1, cp_2, cp_3, cp_4]
    exact ⟨_, _, _, rfl, rfl, hE.bump 0⟩
  | true =>
    obtain ⟨k, k1, k2, rfl⟩ := inR_nI 1 12 rfl rfl hg
    simp only [mb0_s, mb1_s, mb2_s, mb3_s, mb4_s, mb5_s, mb6_s, mb7_s, mb8_s, mb9_s, mb10_s, mb11_s, mb12_s, mb13_s, mb14_s, mb15_s, mb16_s, mb17_s, mb18_s, mb19_s, mb20_s, mb21_s, mb22_s, mb23_s, mb24_s, ifI_t, ifI_f, isB_bI, bad10, no10, full10, bad11, badAs11, no11, full11, mb0_s, mb1_s, mb2_s, mb3_s, mb4_s, mb5_s, mb6_s, mb7_s, mb8_s, mb9_s, mb10_s, mb11_s, mb12_s, mb13_s, mb14_s, mb15_s, mb16_s, mb17_s, mb18_s, mb19_s, mb20_s, mb21_s, mb22_s, mb23_s, mb24_s, mg_tt, ib_0_2, ib_0_3, ib_0_4, ib_0_44, ib_0_117, ib_1_2, ib_1_3, ib_1_4, ib_1_117, ib_2_3, ib_2_4, ib_2_117, ib_3_4, ib_3_117, ib_4_117, ib_5_117, ib_44_117, tn_0, tn_1, tn_2, tn_3, tn_4, tn_5, tn_8, tn_10, tn_44, tn_72, cp_0, cp_1, cp_2, cp_3, cp_4]
    obtain ⟨v, v1, v2⟩ := hour_l h1 h3 (fun r hr => (h4 r hr).1 5 (by omega)) k2 m_refused 13 100000 0 (-1) (-1) (by omega) (by omega) (by omega)
    rw [show f_X1_bestRow_L7 (nI n) c_now_written_cells 100000 (nI k) (-1) (-1) 0 = _ from v1, show f_X11_hours_L24 m_s 100000 (nI k) (-1) (-1) 0 m_refused = _ from v2]
    exact ⟨_, _, _, rfl, rfl, hE⟩
