set_option maxRecDepth 8000
theorem num_e {nm nw u n t : Nat} {s : Nat → Int32} (e0 : s 0 = nI nm) (e1 : s 1 = nI nw) (e5 : s 5 = nI u) (e44 : s 44 = nI n) {k : Nat} (hk : k ≤ 4) : ∃ v : Int32, f_X10_numberOf (nI k) (nI u) (nI nm) (nI nw) (nI n) (nI t) = some v ∧ f_X11_countOf (nI k) (nI t) s = some v := by
  unfold f_X10_numberOf f_X11_countOf
  simp only [mb0_s, mb1_s, mb2_s, mb3_s, mb4_s, mb5_s, mb6_s, mb7_s, mb8_s, mb9_s, mb10_s, mb11_s, mb12_s, mb13_s, mb14_s, mb15_s, mb16_s, mb17_s, mb18_s, mb19_s, mb20_s, mb21_s, mb22_s, mb23_s, mb24_s, mg_tt, ib_0_2, ib_0_3, ib_0_4, ib_0_44, ib_0_117, ib_1_2, ib_1_3, ib_1_4, ib_1_117, ib_2_3, ib_2_4, ib_2_117, ib_3_4, ib_3_117, ib_4_117, ib_5_117, ib_44_117, tn_0, tn_1, tn_2, tn_3, tn_4, tn_5, tn_8, tn_10, tn_44, tn_72, cp_0, cp_1, cp_2, cp_3, cp_4, e0, e1, e5, e44]
  obtain rfl | rfl | rfl | rfl | rfl : k = 0 ∨ k = 1 ∨ k = 2 ∨ k = 3 ∨ k = 4 := by omega
  · exact ⟨_, rfl, rfl⟩
  · exact ⟨_, rfl, rfl⟩
  · exact ⟨_, rfl, rfl⟩
  · exact ⟨_, rfl, rfl⟩
  · exact ⟨_, rfl, rfl⟩
theorem dig_r {n : Nat} (hn : n ≤ 12) {cs s : Nat → Int32} (h44 : s 44 = nI n) (hc : ∀ r : Nat, r < n → ∀ c : Nat, c < 6 → s (45 + 6 * r + c) = cs (6 * r + c)) (t : Int32) (ab be : Int64) {r : Nat} (hr : r < n) (kh : Int64 → Int32 → Option Int64) : ∀ (d N : Nat) (h : Int64), d ≤ 6 → d < N → ∃ H : Int64, f_X1_digestFrom_L17 (nI n) cs kh N h (nI r) (nI (6 - d)) = kh H (nI (r + 1)) ∧ ∀ M : Nat, f_X11_digest_L109 t ab be s (M + d) h (nI (6 * r + (6 - d))) = f_X11_digest_L109 t ab be s M H (nI (6 * r + 6))
  | 0, N + 1, h, _, _ => by
    refine ⟨h, ?_, fun M => rfl⟩
    unfold f_X1_digestFrom_L17
    rw [if_pos (show (6 : Int32) ≤ nI (6 - 0) from by decide), nI_1]
  | d + 1, N + 1, h, h1, h2 => by
    have e0 : nI (6 - (d + 1)) + 1 = nI (6 - d) := by rw [nI_1]; congr 1; omega
    have hne : ¬ (6 : Int32) ≤ nI (6 - (d + 1)) := nI_ge (b := 6) (show 6 - (d + 1) < 6 by omega) (by decide)
    obtain ⟨H, a1, a2⟩ := dig_r hn h44 hc t ab be hr kh d N (31 * h + (cs (6 * r + (6 - (d + 1)))).toInt64) (by omega) (by omega)
    refine ⟨H, ?_, fun M => ?_⟩
    · unfold f_X1_digestFrom_L17
      rw [if_neg hne, cell10 (by omega) (by omega), mb1_s, e0]
      exact a1
    · rw [show M + (d + 1) = (M + d) + 1 from rfl]
      conv => lhs; unfold f_X11_digest_L109
      have e3 : (6 : Int32) * nI n = nI (6 * n) := by rw [nI_z, nI_z, zl_6, zI_mul]; congr 1
      have e4 : (45 : Int32) + nI (6 * r + (6 - (d + 1))) = nI (45 + 6 * r + (6 - (d + 1))) := by
        rw [nI_z, nI_z, zl_45, zI_add]; congr 1; omega
      have e5 : nI (6 * r + (6 - (d + 1))) + 1 = nI (6 * r + (6 - d)) := by rw [nI_1]; congr 1; omega
      rw [ib_44_117, mg_tt, tn_44, h44, e3, if_neg (nI_ge (by omega) (by omega)), e4, inB_nI (show 45 + 6 * r + (6 - (d + 1)) < 117 by omega) (by omega), mg_tt, clN (by omega), hc r hr _ (by omega), e5]
      exact a2 M
theorem dig_b {n : Nat} (hn : n ≤ 12) {cs s : Nat → Int32} (h44 : s 44 = nI n) (hc : ∀ r : Nat, r < n → ∀ c : Nat, c < 6 → s (45 + 6 * r + c) = cs (6 * r + c)) (t : Int32) (ab be : Int64) : ∀ (d N : Nat) (h : Int64), d ≤ n → d < N → ∃ H : Int64, f_X1_digestFrom_L5 (nI n) cs N h (nI (n - d)) = some H ∧ ∀ M : Nat, f_X11_digest_L109 t ab be s (M + 1 + 6 * d) h (nI (6 * (n - d))) = some (31 * (31 * H + ab) + be)
  | 0, N + 1, h, _, _ => by
    refine ⟨h, ?_, fun M => ?_⟩
    · unfold f_X1_digestFrom_L5
      rw [if_pos (nI_le (by omega) (by omega))]
    · show f_X11_digest_L109 t ab be s (M + 1) h (nI (6 * (n - 0))) = _
      unfold f_X11_digest_L109
      have e3 : (6 : Int32) * nI n = nI (6 * n) := by rw [nI_z, nI_z, zl_6, zI_mul]; congr 1
      rw [ib_44_117, mg_tt, tn_44, h44, e3, if_pos (nI_le (by omega) (by omega))]
  | d + 1, N + 1, h, h1, h2 => by
    obtain ⟨H1, a1, a2⟩ := dig_r hn h44 hc t ab be (show n - (d + 1) < n by omega) (fun z0 z1 => f_X1_digestFrom_L5 (nI n) cs N z0 z1) 6 100000 h (by omega) (by omega)
    obtain ⟨H, b1, b2⟩ := dig_b hn h44 hc t ab be d N H1 (by omega) (by omega)
    refine ⟨H, ?_, fun M => ?_⟩
    · unfold f_X1_digestFrom_L5
      rw [if_neg (nI_ge (by omega) (by omega)), show (0 : Int32) = nI (6 - 6) from rfl, a1, show n - (d + 1) + 1 = n - d by omega]
      exact b1
    · have := a2 (M + 1 + 6 * d)
      rw [show 6 * (n - (d + 1)) + (6 - 6) = 6 * (n - (d + 1)) by omega, show 6 * (n - (d + 1)) + 6 = 6 * (n - d) by omega, show M + 1 + 6 * d + 6 = M + 1 + 6 * (d + 1) by omega] at this
      rw [this]
      exact b2 M
theorem dig_k {nm nw u p n t : Nat} {s ks tot cs : Nat → Int32} (b1 : nm ≤ 8) (hn : n ≤ 12) (e0 : s 0 = nI nm) (e2 : s 2 = tot 0) (e3 : s 3 = tot 1) (e4 : s 4 = nI p) (h44 : s 44 = nI n) (hk : ∀ k : Nat, k < nm → s (6 + k) = ks k) (hc : ∀ r : Nat, r < n → ∀ c : Nat, c < 6 → s (45 + 6 * r + c) = cs (6 * r + c)) (ab be : Int64) : ∀ (d N : Nat) (h : Int64), d ≤ nm → d < N → ∃ H : Int64, f_X10_digest_L32 (nI nm) (nI nw) (nI p) (nI u) tot (nI n) cs ab be ks (nI t) N h (nI (nm - d)) = some H ∧ f_X11_digest_L32 (nI t) ab be s N h (nI (nm - d)) = some H
  | 0, N + 1, h, _, _ => by
    have e0' : (0 : Int32) = nI (n - n) := by rw [Nat.sub_self]; rfl
    obtain ⟨H, a1, a2⟩ := dig_b hn h44 hc (nI t) ab be n 100000 (31 * (31 * (31 * h + (tot 0).toInt64) + (tot 1).toInt64) + (nI p).toInt64) (by omega) (by omega)
    refine ⟨31 * (31 * H + ab) + be, ?_, ?_⟩
    · unfold f_X10_digest_L32 f_X1_digestFrom
      simp only [mb0_s, mb1_s, mb2_s, mb3_s, mb4_s, mb5_s, mb6_s, mb7_s, mb8_s, mb9_s, mb10_s, mb11_s, mb12_s, mb13_s, mb14_s, mb15_s, mb16_s, mb17_s, mb18_s, mb19_s, mb20_s, mb21_s, mb22_s, mb23_s, mb24_s, mg_tt, ib_0_2, ib_0_3, ib_0_4, ib_0_44, ib_0_117, ib_1_2, ib_1_3, ib_1_4, ib_1_117, ib_2_3, ib_2_4, ib_2_117, ib_3_4, ib_3_117, ib_4_117, ib_5_117, ib_44_117, tn_0, tn_1, tn_2, tn_3, tn_4, tn_5, tn_8, tn_10, tn_44, tn_72, cp_0, cp_1, cp_2, cp_3, cp_4]
      rw [if_pos (nI_le (by omega) (by omega)), show f_X1_digestFrom_L5 (nI n) cs 100000 _ 0 = _ from (congrArg _ e0').trans a1, mb1_s]
    · unfold f_X11_digest_L32
      simp only [mb0_s, mb1_s, mb2_s, mb3_s, mb4_s, mb5_s, mb6_s, mb7_s, mb8_s, mb9_s, mb10_s, mb11_s, mb12_s, mb13_s, mb14_s, mb15_s, mb16_s, mb17_s, mb18_s, mb19_s, mb20_s, mb21_s, mb22_s, mb23_s, mb24_s, mg_tt, ib_0_2, ib_0_3, ib_0_4, ib_0_44, ib_0_117, ib_1_2, ib_1_3, ib_1_4, ib_1_117, ib_2_3, ib_2_4, ib_2_117, ib_3_4, ib_3_117, ib_4_117, ib_5_117, ib_44_117, tn_0, tn_1, tn_2, tn_3, tn_4, tn_5, tn_8, tn_10, tn_44, tn_72, cp_0, cp_1, cp_2, cp_3, cp_4, e0, e2, e3, e4]
      have := a2 (100000 - 1 - 6 * n)
      rw [show 100000 - 1 - 6 * n + 1 + 6 * n = 100000 by omega, Nat.sub_self, Nat.mul_zero] at this
      rw [if_pos (nI_le (by omega) (by omega))]
      exact this
  | d + 1, N + 1, h, h1, h2 => by
    obtain ⟨H, a1, a2⟩ := dig_k b1 hn e0 e2 e3 e4 h44 hk hc ab be d N (31 * h + (ks (nm - (d + 1))).toInt64) (by omega) (by omega)
    have e1 : nI (nm - (d + 1)) + 1 = nI (nm - d) := by rw [nI_1]; congr 1; omega
    have ei := inI (show nm - (d + 1) < 8 by omega)
    refine ⟨H, ?_, ?_⟩
    · unfold f_X10_digest_L32
      rw [if_neg (nI_ge (by omega) (by omega)), kind10 b1 (by omega), mb1_s, e1]
      exact a1
    · unfold f_X11_digest_L32
      rw [ib_0_117, mg_tt, tn_0, e0, if_neg (nI_ge (by omega) (by omega)), ei.1, mg_tt, ei.2, hk _ (by omega), e1]
      exact a2
theorem dig_c {nm nw u p n t : Nat} {s ks tot cs : Nat → Int32} (b1 : nm ≤ 8) (hn : n ≤ 12) (e0 : s 0 = nI nm) (e1 : s 1 = nI nw) (e5 : s 5 = nI u) (e2 : s 2 = tot 0) (e3 : s 3 = tot 1) (e4 : s 4 = nI p) (h44 : s 44 = nI n) (hk : ∀ k : Nat, k < nm → s (6 + k) = ks k) (hc : ∀ r : Nat, r < n → ∀ c : Nat, c < 6 → s (45 + 6 * r + c) = cs (6 * r + c)) (ab be : Int64) : ∀ (d N : Nat) (h : Int64), d ≤ 5 → d < N → ∃ H : Int64, f_X10_digest_L6 (nI nm) (nI nw) (nI p) (nI u) tot (nI n) cs ab be ks (nI t) N h (nI (5 - d)) = some H ∧ f_X11_digest_L6 (nI t) ab be s N h (nI (5 - d)) = some H
  | 0, N + 1, h, _, _ => by
    obtain ⟨H, a1, a2⟩ := dig_k (u := u) (nw := nw) (t := t) b1 hn e0 e2 e3 e4 h44 hk hc ab be nm 100000 h (by omega) (by omega)
    rw [Nat.sub_self] at a1 a2
    refine ⟨H, ?_, ?_⟩
    · unfold f_X10_digest_L6
      rw [if_pos (show (4 : Int32) < nI (5 - 0) from by decide)]
      exact a1
    · unfold f_X11_digest_L6
      rw [if_pos (show (5 : Int32) ≤ nI (5 - 0) from by decide)]
      exact a2
  | d + 1, N + 1, h, h1, h2 => by
    obtain ⟨v, v1, v2⟩ := num_e (t := t) e0 e1 e5 h44 (show 5 - (d + 1) ≤ 4 by omega)
    obtain ⟨H, a1, a2⟩ := dig_c (t := t) b1 hn e0 e1 e5 e2 e3 e4 h44 hk hc ab be d N (31 * h + v.toInt64) (by omega) (by omega)
    have e1' : nI (5 - (d + 1)) + 1 = nI (5 - d) := by rw [nI_1]; congr 1; omega
    refine ⟨H, ?_, ?_⟩
    · unfold f_X10_digest_L6
      rw [if_neg (show ¬ (4 : Int32) < nI (5 - (d + 1)) from nI_nlt (a := 4) (b := 5 - (d + 1)) (by omega) (by decide)), v1, mb1_s, e1']
      exact a1
    · unfold f_X11_digest_L6
      rw [if_neg (show ¬ (5 : Int32) ≤ nI (5 - (d + 1)) from nI_ge (b := 5) (show 5 - (d + 1) < 5 by omega) (by decide)), v2, mb1_s, e1']
      exact a2
theorem op_digest {c_now_stones_many : Int32} {c_now_stones_wetness : Int32} {c_now_stones_kinds : Nat → Int32} {c_now_game_player : Int32} {c_now_game_undoable : Int32} {c_now_game_totals : Nat → Int32} {c_now_game_gains : Nat → Int32} {c_now_written_many : Int32} {c_now_written_cells : Nat → Int32} {c_text_many : Int32} {c_text_bytes : Nat → Int32} {c_fraction_above : Int64} {c_fraction_below : Int64} {m_typed : Int32} {m_above : Int64} {m_below : Int64} {m_s : Nat → Int32} {m_text : Nat → Int32} (hN : NowR c_now_stones_kinds c_now_stones_many c_now_stones_wetness c_now_game_totals c_now_game_gains c_now_game_player c_now_game_undoable c_now_written_cells c_now_written_many m_s) (hT : TxtR c_text_many c_text_bytes m_typed m_text) (hF : FrcR c_fraction_above c_fraction_below m_above m_below) : ∃ (r : Int64), f_X10_digest c_now_stones_many c_now_stones_wetness c_now_game_player c_now_game_undoable c_now_game_totals c_now_written_many c_now_written_cells c_fraction_above c_fraction_below c_now_stones_kinds c_text_many = some (r) ∧ f_X11_digest m_typed m_above m_below m_s = some (r) := by
  obtain ⟨⟨nm, nw, b1, b2, rfl, rfl, e0, e1, hk⟩, ⟨u, p, h1, h2, rfl, rfl, h5, h6, h7, h8, h9⟩, n, c1, rfl, c3, c4⟩ := hN
  obtain ⟨tn, t1, rfl, rfl, t4⟩ := hT
  obtain ⟨rfl, rfl⟩ := hF
  unfold f_X10_digest f_X11_digest
  obtain ⟨H, a1, a2⟩ := dig_c (u := u) (t := tn) b1 c1 e0 e1 h5 h7 h8 h6 c3 (fun k hkk => (hk k hkk).1) (fun r hr => (c4 r hr).1) m_above m_below 5 100000 823 (by omega) (by omega)
  exact ⟨H, a1, a2⟩
/-! which row is wrong -/
theorem ok_e {nm nw n : Nat} {ks cs s : Nat → Int32} (b1 : nm ≤ 8) (b2 : nw ≤ 3) (hn : n ≤ 12) (e0 : s 0 = nI nm) (e1 : s 1 = nI nw) (hk : ∀ k : Nat, k < nm → s (6 + k) = ks k ∧ ∃ j : Nat, j ≤ 5 ∧ ks k = nI j) {r : Nat} (hr : r < n) (hc : ∀ c : Nat, c < 6 → s (45 + 6 * r + c) = cs (6 * r + c)) {a f h y sl pt : Nat} (hb : a ≤ 7 ∧ 1 ≤ f ∧ f ≤ 9 ∧ h ≤ 9 ∧ y ≤ 20 ∧ sl ≤ 8 ∧ (pt = 0 ∨ pt = 5 ∨ pt = 10)) (d0 : cs (6 * r) = nI a) (d1 : cs (6 * r + 1) = nI f) (d2 : cs (6 * r + 2) = nI h) (d3 : cs (6 * r + 3) = nI y) (d4 : cs (6 * r + 4) = nI sl) (d5 : cs (6 * r + 5) = nI pt) : ∃ b : Bool, f_X10_isRight (nI r) cs (nI nm) (nI nw) ks = some (bI b) ∧ f_X11_isSo (nI r) s = some (bI b) := by
  obtain ⟨g1, g2, g3, g4, g5, g6, g7⟩ := hb
  have hr12 : r < 12 := by omega
  have k0 : f_X1_cell (nI r) 0 cs = some (nI a) := (cell10 hr12 (show 0 < 6 by omega) cs).trans (congrArg some d0)
  have k1 : f_X1_cell (nI r) 1 cs = some (nI f) := (cell10 hr12 (show 1 < 6 by omega) cs).trans (congrArg some d1)
  have k2 : f_X1_cell (nI r) 2 cs = some (nI h) := (cell10 hr12 (show 2 < 6 by omega) cs).trans (congrArg some d2)
  have k3 : f_X1_cell (nI r) 3 cs = some (nI y) := (cell10 hr12 (show 3 < 6 by omega) cs).trans (congrArg some d3)
  have k4 : f_X1_cell (nI r) 4 cs = some (nI sl) := (cell10 hr12 (show 4 < 6 by omega) cs).trans (congrArg some d4)
  have k5 : f_X1_cell (nI r) 5 cs = some (nI pt) := (cell10 hr12 (show 5 < 6 by omega) cs).trans (congrArg some d5)
  have p0 : inB (45 + 6 * nI r) 117 = true ∧ (45 + 6 * nI r).toNatClampNeg = 45 + 6 * r := by
    have e : 45 + 6 * nI r = nI (45 + 6 * r) := by
      rw [nI_z, nI_z, zl_6, zl_45, zI_mul, zI_add]; congr 1
    rw [e]
    exact ⟨inB_nI (by omega) (by omega), clN (by omega)⟩
  have p1 := pl11 hr12 (show 1 < 6 by omega)
  have p2 := pl11 hr12 (show 2 < 6 by omega)
  have p3 := pl11 hr12 (show 3 < 6 by omega)
  have p4 := pl11 hr12 (show 4 < 6 by omega)
  have p5 := pl11 hr12 (show 5 < 6 by omega)
  have c0 : s (45 + 6 * r) = nI a := (hc 0 (by omega)).trans d0
  have c1 : s (45 + 6 * r + 1) = nI f := (hc 1 (by omega)).trans d1
  have c2 : s (45 + 6 * r + 2) = nI h := (hc 2 (by omega)).trans d2
  have c3 : s (45 + 6 * r + 3) = nI y := (hc 3 (by omega)).trans d3
  have c4 : s (45 + 6 * r + 4) = nI sl := (hc 4 (by omega)).trans d4
  have c5 : s (45 + 6 * r + 5) = nI pt := (hc 5 (by omega)).trans d5
  have q1 : inB (45 + 6 * nI r + 1) 117 = true ∧ (45 + 6 * nI r + 1).toNatClampNeg = 45 + 6 * r + 1 := p1
  have q2 : inB (45 + 6 * nI r + 2) 117 = true ∧ (45 + 6 * nI r + 2).toNatClampNeg = 45 + 6 * r + 2 := p2
  have q3 : inB (45 + 6 * nI r + 3) 117 = true ∧ (45 + 6 * nI r + 3).toNatClampNeg = 45 + 6 * r + 3 := p3
  have q4 : inB (45 + 6 * nI r + 4) 117 = true ∧ (45 + 6 * nI r + 4).toNatClampNeg = 45 + 6 * r + 4 := p4
  have q5 : inB (45 + 6 * nI r + 5) 117 = true ∧ (45 + 6 * nI r + 5).toNatClampNeg = 45 + 6 * r + 5 := p5
  unfold f_X10_isRight f_X11_isSo f_X10_thrown
  simp only [k0, k1, k2, k3, k4, k5, mb1_s, p0, q1, q2, q3, q4, q5, c0, c1, c2, c3, c4, c5, mg_tt, has10 b1, isStone11 b1 e0]
  cases hg : inR (nI a) 0 (nI nm - 1) with
  | false => exact ⟨false, rfl, rfl⟩
  | true =>
    have ham : a < nm := by
      have := (inR_iff _ _ _).mp hg
      rw [nI_toInt (show a < 2 ^ 31 by omega)] at this
      have e : (nI nm - 1).toInt = (nm : Int) - 1 := by
        rw [nI_z, zl_1, zI_sub, zI_i (by omega) (by omega)]
      rw [e] at this
      omega
    obtain ⟨j, hj, hA⟩ := At.of b1 b2 e0 e1 hk ham
    have ef : nI f + nI sl / 3 - 1 = zI ((f : Int) + (sl : Int) / 3 - 1) := by
      simp (disch := omega) only [nI_z, zI_add, zI_sub, zI_mul, zI_neg, zL_add, zL_sub, zL_mul, zL_neg, zI_lt, zI_le, zI_eq, zL_lt, zL_le, zL_eq, zI_div, zI_rm, zL_div, zL_rm, zI_cl, zI_in, zI_l, zL_n, on_2, on_8, on_10, on_72, on_120, zl_72, zl_234, zl_0, zl_1, zl_2, zl_3, zl_4, zl_5, zl_6, zl_7, zl_8, zl_9, zl_10, zl_11, zl_12, zl_13, zl_14, zl_15, zl_16, zl_17, zl_18, zl_19, zl_20, zl_21, zl_22, zl_23, zl_24, zl_25, zl_26, zl_27, zl_28, zl_29, zl_30, zl_31, zl_32, zl_33, zl_34, zl_35, zl_36, zl_37, zl_38, zl_39, zl_40, zl_41, zl_42, zl_43, zl_44, zl_45, zl_46, zl_47, zl_48, zl_49, zl_50, zl_51, zl_52, zl_53, zl_54, zl_55, zl_56, zl_57, zl_58, zl_59, zl_60, zl_97, zl_100, zl_117, zl_120, zl_122, zl_210, zl_255, zl_1000, zl_1890, zl_999999, zm_0, zm_1, zm_2, zm_3, zm_4, zm_5, zm_6, zm_7, zm_8, zm_9, zm_10, zm_11, zm_12, zm_13, zm_14, zm_15, zm_16, zm_17, zm_18, zm_19, zm_20, zm_30, zm_31, zm_40, zm_48, zm_57, zm_60, zm_97, zm_100, zm_122, zm_255, zm_256, zm_823, zm_12345, zm_65536, zm_999999, zm_7824756, zm_1103515245, zm_2147483648, zm_495874698853]
    have eh : nI h + irm (nI sl) 3 - 1 = zI ((h : Int) + (sl : Int) % 3 - 1) := by
      simp (disch := omega) only [nI_z, zI_add, zI_sub, zI_mul, zI_neg, zL_add, zL_sub, zL_mul, zL_neg, zI_lt, zI_le, zI_eq, zL_lt, zL_le, zL_eq, zI_div, zI_rm, zL_div, zL_rm, zI_cl, zI_in, zI_l, zL_n, on_2, on_8, on_10, on_72, on_120, zl_72, zl_234, zl_0, zl_1, zl_2, zl_3, zl_4, zl_5, zl_6, zl_7, zl_8, zl_9, zl_10, zl_11, zl_12, zl_13, zl_14, zl_15, zl_16, zl_17, zl_18, zl_19, zl_20, zl_21, zl_22, zl_23, zl_24, zl_25, zl_26, zl_27, zl_28, zl_29, zl_30, zl_31, zl_32, zl_33, zl_34, zl_35, zl_36, zl_37, zl_38, zl_39, zl_40, zl_41, zl_42, zl_43, zl_44, zl_45, zl_46, zl_47, zl_48, zl_49, zl_50, zl_51, zl_52, zl_53, zl_54, zl_55, zl_56, zl_57, zl_58, zl_59, zl_60, zl_97, zl_100, zl_117, zl_120, zl_122, zl_210, zl_255, zl_1000, zl_1890, zl_999999, zm_0, zm_1, zm_2, zm_3, zm_4, zm_5, zm_6, zm_7, zm_8, zm_9, zm_10, zm_11, zm_12, zm_13, zm_14, zm_15, zm_16, zm_17, zm_18, zm_19, zm_20, zm_30, zm_31, zm_40, zm_48, zm_57, zm_60, zm_97, zm_100, zm_122, zm_255, zm_256, zm_823, zm_12345, zm_65536, zm_999999, zm_7824756, zm_1103515245, zm_2147483648, zm_495874698853]
    rw [ef, eh, kind10 b1 ham, hj, nI_z y]
    have hp := pts11 hA (F := (f : Int) + (sl : Int) / 3 - 1) (C := (h : Int) + (sl : Int) % 3 - 1) (Y := (y : Int)) (by omega) (by omega) (by omega) (by omega) (by omega) (by omega) (by omega)
    rw [hp]
    simp only [mb1_s, pts10 hA.2.2.1, ifI_t]
    by_cases hq : zPts (nI j) (nI nw) (zI ((f : Int) + (sl : Int) / 3 - 1)) (zI ((h : Int) + (sl : Int) % 3 - 1)) (zI (y : Int)) = nI pt
    · exact ⟨true, by rw [if_pos hq]; rfl, by rw [if_pos hq]; rfl⟩
    · exact ⟨false, by rw [if_neg hq]; rfl, by rw [if_neg hq]; rfl⟩
def zFw (ok : Nat → Bool) : Nat → Nat → Int32
  | 0, _ => -1
  | d + 1, r => if ok r = true then zFw ok d (r + 1) else nI r
theorem fw10 {n : Nat} (hn : n ≤ 12) {cs ks : Nat → Int32} {m w : Int32} {ok : Nat → Bool} (hok : ∀ r : Nat, r < n → f_X10_isRight (nI r) cs m w ks = some (bI (ok r))) : ∀ (d N : Nat), d ≤ n → d < N → f_X10_firstWrong_L2 (nI n) cs m w ks N (nI (n - d)) = some (zFw ok d (n - d))
  | 0, N + 1, _, _ => by
    unfold f_X10_firstWrong_L2 zFw
    rw [if_pos (nI_le (by omega) (by omega))]
  | d + 1, N + 1, h1, h2 => by
    unfold f_X10_firstWrong_L2 zFw
    rw [if_neg (nI_ge (by omega) (by omega)), hok _ (by omega), mb1_s, nI_1, show n - (d + 1) + 1 = n - d by omega]
    cases ok (n - (d + 1)) with
    | false => rw [bI_f, if_pos rfl, if_neg (by decide)]
    | true => rw [bI_t, if_neg (by decide), if_pos rfl]; exact fw10 hn hok d N (by omega) (by omega)
theorem fw11 {n : Nat} (hn : n ≤ 12) {s : Nat → Int32} {ok : Nat → Bool} (hok : ∀ r : Nat, r < n → f_X11_isSo (nI r) s = some (bI (ok r))) (h44 : s 44 = nI n) (x1 : Int32) (r' : Nat → Int32) : ∀ (k N : Nat), k ≤ n → k < N → ∃ M : Nat, 0 < M ∧ f_X11_book_L27 s N x1 (zFw ok (n - k) k) (zI ((k : Int) - 1)) r' = f_X11_book_L27 s M x1 (zFw ok n 0) (zI (-1)) r'
  | 0, N + 1, _, _ => ⟨N + 1, by omega, rfl⟩
  | k + 1, N + 1, h1, h2 => by
    obtain ⟨M, m1, m2⟩ := fw11 hn hok h44 x1 r' k N (by omega) (by omega)
    refine ⟨M, m1, ?_⟩
    rw [← m2]
    have e1 : zI (((k + 1 : Nat) : Int) - 1) = nI k := by rw [nI_z]; congr 1; omega
    have e2 : nI k + (-1 : Int32) = zI ((k : Int) - 1) := by rw [nI_z, zl_1, zI_neg, zI_add]; congr 1
    rw [e1]
    conv => lhs; unfold f_X11_book_L27
    unfold f_X11_book_L44
    rw [if_neg (nI_pos (by omega)), hok k (by omega), mb1_s, e2, show n - k = n - (k + 1) + 1 by omega]
    conv => rhs; unfold zFw
    cases ok k with
    | false => rw [bI_f, if_pos rfl, if_neg (by decide)]
    | true => rw [bI_t, if_neg (by decide), if_pos rfl]
theorem op_book {c_now_stones_many : Int32} {c_now_stones_wetness : Int32} {c_now_stones_kinds : Nat → Int32} {c_now_game_player : Int32} {c_now_game_undoable : Int32} {c_now_game_totals : Nat → Int32} {c_now_game_gains : Nat → Int32} {c_now_written_many : Int32} {c_now_written_cells : Nat → Int32} {c_refused : Nat → Int32} {m_s : Nat → Int32} {m_refused : Nat → Int32} (hN : NowR c_now_stones_kinds c_now_stones_many c_now_stones_wetness c_now_game_totals c_now_game_gains c_now_game_player c_now_game_undoable c_now_written_cells c_now_written_many m_s) (hE : RefR c_refused m_refused) (y0 : Int32) : ∃ (r : Int32) (dc_refused : Nat → Int32) (dm_refused : Nat → Int32), f_X10_book y0 c_refused c_now_written_many c_now_written_cells c_now_stones_many c_now_stones_wetness c_now_stones_kinds = some (r, dc_refused) ∧ f_X11_book y0 m_s m_refused = some (r, dm_refused) ∧ RefR dc_refused dm_refused := by
  obtain ⟨⟨nm, nw, b1, b2, rfl, rfl, e0, e1, hk⟩, hG, n, c1, rfl, c3, c4⟩ := hN
  unfold f_X10_book f_X11_book f_X10_firstWrong
  rw [cw, mw y0 0 1 (lo' := 0) (hi' := 1) rfl rfl]
  cases hg : inR y0 0 1 with
  | false =>
    simp only [mb0_s, mb1_s, mb2_s, mb3_s, mb4_s, mb5_s, mb6_s, mb7_s, mb8_s, mb9_s, mb10_s, mb11_s, mb12_s, mb13_s, mb14_s, mb15_s, mb16_s, mb17_s, mb18_s, mb19_s, mb20_s, mb21_s, mb22_s, mb23_s, mb24_s, ifI_t, ifI_f, isB_bI, bad10, no10, full10, bad11, badAs11, no11, full11, mb0_s, mb1_s, mb2_s, mb3_s, mb4_s, mb5_s, mb6_s, mb7_s, mb8_s, mb9_s, mb10_s, mb11_s, mb12_s, mb13_s, mb14_s, mb15_s, mb16_s, mb17_s, mb18_s, mb19_s, mb20_s, mb21_s, mb22_s, mb23_s, mb24_s, mg_tt, ib_0_2, ib_0_3, ib_0_4, ib_0_44, ib_0_117, ib_1_2, ib_1_3, ib_1_4, ib_1_117, ib_2_3, ib_2_4, ib_2_117, ib_3_4, ib_3_117, ib_4_117, ib_5_117, ib_44_117, tn_0, tn_1, tn_2, tn_3, tn_4, tn_5, tn_8, tn_10, tn_44, tn_72, cp_0, cp_1, cp_2, cp_3, cp_4]
    exact ⟨_, _, _, rfl, rfl, hE.bump 0⟩
  | true =>
    have hb : ∀ r : Nat, r < n → ∃ b : Bool, f_X10_isRight (nI r) c_now_written_cells (nI nm) (nI nw) c_now_stones_kinds = some (bI b) ∧ f_X11_isSo (nI r) m_s = some (bI b) := by
      intro r hr
      obtain ⟨q1, a, f, h, y, sl, pt, q2, q3, q4, q5, q6, q7, q8⟩ := c4 r hr
      exact ok_e b1 b2 c1 e0 e1 hk hr q1 q2 q3 q4 q5 q6 q7 q8
    have hok1 : ∀ r : Nat, r < n → f_X10_isRight (nI r) c_now_written_cells (nI nm) (nI nw) c_now_stones_kinds = some (bI (decide (f_X10_isRight (nI r) c_now_written_cells (nI nm) (nI nw) c_now_stones_kinds = some 1))) := by
      intro r hr
      obtain ⟨b, q1, -⟩ := hb r hr
      rw [q1]
      cases b <;> rfl
    have hok2 : ∀ r : Nat, r < n → f_X11_isSo (nI r) m_s = some (bI (decide (f_X10_isRight (nI r) c_now_written_cells (nI nm) (nI nw) c_now_stones_kinds = some 1))) := by
      intro r hr
      obtain ⟨b, q1, q2⟩ := hb r hr
      rw [q1, q2]
      cases b <;> rfl
    have f1 := fw10 c1 hok1 n 100000 (by omega) (by omega)
    rw [Nat.sub_self] at f1
    obtain ⟨M, m1, m2⟩ := fw11 c1 hok2 c3 y0 m_refused n 100000 (by omega) (by omega)
    rw [Nat.sub_self] at m2
    have e44 : m_s 44 - 1 = zI ((n : Int) - 1) := by rw [c3, nI_z, zl_1, zI_sub]
    simp only [mb0_s, mb1_s, mb2_s, mb3_s, mb4_s, mb5_s, mb6_s, mb7_s, mb8_s, mb9_s, mb10_s, mb11_s, mb12_s, mb13_s, mb14_s, mb15_s, mb16_s, mb17_s, mb18_s, mb19_s, mb20_s, mb21_s, mb22_s, mb23_s, mb24_s, ifI_t, ifI_f, isB_bI, bad10, no10, full10, bad11, badAs11, no11, full11, mb0_s, mb1_s, mb2_s, mb3_s, mb4_s, mb5_s, mb6_s, mb7_s, mb8_s, mb9_s, mb10_s, mb11_s, mb12_s, mb13_s, mb14_s, mb15_s, mb16_s, mb17_s, mb18_s, mb19_s, mb20_s, mb21_s, mb22_s, mb23_s, mb24_s, mg_tt, ib_0_2, ib_0_3, ib_0_4, ib_0_44, ib_0_117, ib_1_2, ib_1_3, ib_1_4, ib_1_117, ib_2_3, ib_2_4, ib_2_117, ib_3_4, ib_3_117, ib_4_117, ib_5_117, ib_44_117, tn_0, tn_1, tn_2, tn_3, tn_4, tn_5, tn_8, tn_10, tn_44, tn_72, cp_0, cp_1, cp_2, cp_3, cp_4, e44]
    obtain ⟨v, t1, t2⟩ := told_e c1 (fun r hr => (c4 r hr).1 5 (by omega)) (a := 0) (k := n) (by omega)
    rw [Nat.zero_add] at t1
    rw [show f_X11_book_L27 m_s 100000 y0 (-1) (zI ((n : Int) - 1)) m_refused = _ from m2]
    obtain ⟨M, rfl⟩ : ∃ m, M = m + 1 := ⟨M - 1, by omega⟩
    unfold f_X11_book_L27
    rw [if_pos (show zI (-1) < 0 from by decide)]
    by_cases h0 : y0 = 0
    · rw [if_pos h0, if_pos h0, show f_X10_firstWrong_L2 (nI n) c_now_written_cells (nI nm) (nI nw) c_now_stones_kinds 100000 0 = _ from f1, mb1_s]
      exact ⟨_, _, _, rfl, rfl, hE⟩
    · rw [if_neg h0, if_neg h0, show f_X1_told 0 (nI n) c_now_written_cells = _ from t1, mb1_s, ib_44_117, mg_tt, tn_44, c3, show f_X11_toldFrom 0 (nI n) m_s = _ from t2, mb1_s]
      exact ⟨_, _, _, rfl, rfl, hE⟩
