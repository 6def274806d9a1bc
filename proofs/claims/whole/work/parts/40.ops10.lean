set_option maxRecDepth 8000
/-! by lot -/
def zOkC (x y : Option Int64) : Bool := match x with
  | some v => decide (0 ≤ v.toInt ∧ v.toInt < 4194304 ∧ y = some v)
  | none => false
theorem zOkC_e {x y : Option Int64} (h : zOkC x y = true) : ∃ U : Nat, U < 4194304 ∧ x = some (zL (U : Int)) ∧ y = some (zL (U : Int)) := by
  unfold zOkC at h
  cases x with
  | none => exact Bool.noConfusion h
  | some v =>
    obtain ⟨h1, h2, h3⟩ := of_decide_eq_true h
    refine ⟨v.toInt.toNat, by omega, ?_, ?_⟩
    · rw [Int.toNat_of_nonneg h1, ← zL_of]
    · rw [Int.toNat_of_nonneg h1, ← zL_of]; exact h3
theorem cho_all : ∀ a : Fin 25, ∀ b : Fin 37, zOkC (f_X6_choices (nI a) (zI ((b.val : Int) - 12))) (f_X11_choose (nI a) (zI ((b.val : Int) - 12))) = true := by decide +kernel
theorem cho_pos : ∀ a : Fin 25, ∀ b : Fin 25, b.val ≤ a.val → f_X6_choices (nI a) (nI b) ≠ some 0 := by decide +kernel
theorem cho_e {a : Nat} {b : Int} (ha : a ≤ 24) (b1 : -12 ≤ b) (b2 : b ≤ 24) : ∃ U : Nat, U < 4194304 ∧ f_X6_choices (nI a) (zI b) = some (zL (U : Int)) ∧ f_X11_choose (nI a) (zI b) = some (zL (U : Int)) := by
  have h := zOkC_e (cho_all ⟨a, by omega⟩ ⟨(b + 12).toNat, by omega⟩)
  rw [show (((b + 12).toNat : Nat) : Int) - 12 = b from by omega] at h
  exact h
theorem lot_l {n a m b : Nat} (hn : n ≤ 12) (hm : m ≤ 12) (ha : a ≤ n) (hb : b ≤ m) (v w : Int64) (r : Nat → Int32) : ∀ (d N S : Nat), d ≤ n + 1 → a ≤ n + 1 - d → d < N → S ≤ (20 - d) * 17592186044416 → ∃ S' : Nat, S' ≤ 20 * 17592186044416 ∧ f_X6_dealsWithAtLeast_L6 N (nI n) (nI a) (nI m) (nI b) (zL (S : Int)) (nI (n + 1 - d)) = some (zL (S' : Int)) ∧ f_X11_lot_L58 N (nI n) (nI a) (nI m) (nI b) (zL (S : Int)) (nI (n + 1 - d)) v w r = mb1 (f_X11_choose (nI n + nI m) (nI a + nI b)) (fun r12 => mb2 (f_X11_tells (zL (S' : Int)) r12 v w) (fun o14 o15 => some ((1 : Int32), o14, o15, r)))
  | 0, N + 1, S, _, _, _, hS => by
    refine ⟨S, by omega, ?_, ?_⟩
    · unfold f_X6_dealsWithAtLeast_L6
      rw [if_pos (nI_lt (by omega) (by omega))]
    · unfold f_X11_lot_L58
      rw [if_pos (nI_lt (by omega) (by omega))]
  | d + 1, N + 1, S, h1, h2, h3, hS => by
    have hx : ¬ nI n < nI (n + 1 - (d + 1)) := nI_nlt (by omega) (by omega)
    obtain ⟨U, u1, u2, u3⟩ := cho_e (a := n) (b := ((n + 1 - (d + 1) : Nat) : Int)) (by omega) (by omega) (by omega)
    obtain ⟨V, v1, v2, v3⟩ := cho_e (a := m) (b := (a : Int) + (b : Int) - ((n + 1 - (d + 1) : Nat) : Int)) (by omega) (by omega) (by omega)
    have e1 : nI a + nI b - nI (n + 1 - (d + 1)) = zI ((a : Int) + (b : Int) - ((n + 1 - (d + 1) : Nat) : Int)) := by
      rw [nI_z, nI_z, nI_z, zI_add, zI_sub]
    have e2 : zL (S : Int) + zL (U : Int) * zL (V : Int) = zL ((S + U * V : Nat) : Int) := by
      rw [zL_mul, zL_add]; congr 1
    have e3 : nI (n + 1 - (d + 1)) + 1 = nI (n + 1 - d) := by rw [nI_1]; congr 1; omega
    have b1 : U * V ≤ 4194304 * 4194304 := Nat.mul_le_mul (by omega) (by omega)
    obtain ⟨S', s1, s2, s3⟩ := lot_l hn hm ha hb v w r d N (S + U * V) (by omega) (by omega) (by omega) (by omega)
    refine ⟨S', s1, ?_, ?_⟩
    · unfold f_X6_dealsWithAtLeast_L6
      rw [if_neg hx, e1, nI_z (n + 1 - (d + 1)), u2, mb1_s, v2, mb1_s, e2, ← nI_z, e3]
      exact s2
    · unfold f_X11_lot_L58
      rw [if_neg hx, e1, nI_z (n + 1 - (d + 1)), u3, mb1_s, v3, mb1_s, e2, ← nI_z, e3]
      exact s3
theorem op_lot {c_fraction_above : Int64} {c_fraction_below : Int64} {c_refused : Nat → Int32} {m_above : Int64} {m_below : Int64} {m_refused : Nat → Int32} (hF : FrcR c_fraction_above c_fraction_below m_above m_below) (hE : RefR c_refused m_refused) (y0 : Int32) (y1 : Int32) (y2 : Int32) (y3 : Int32) : ∃ (r : Int32) (dc_refused : Nat → Int32) (dc_fraction_above : Int64) (dc_fraction_below : Int64) (dm_above : Int64) (dm_below : Int64) (dm_refused : Nat → Int32), f_X10_lot y0 y1 y2 y3 c_refused c_fraction_above c_fraction_below = some (r, dc_refused, dc_fraction_above, dc_fraction_below) ∧ f_X11_lot y0 y1 y2 y3 m_above m_below m_refused = some (r, dm_above, dm_below, dm_refused) ∧ FrcR dc_fraction_above dc_fraction_below dm_above dm_below ∧ RefR dc_refused dm_refused := by
  obtain ⟨rfl, rfl⟩ := hF
  unfold f_X10_lot f_X11_lot f_X10_lot_L43 f_X10_lot_L44 f_X11_lot_L47 f_X6_dealsWithAtLeast
  rw [cw, cw, cw, cw, mw y0 1 12 (lo' := 1) (hi' := 12) rfl rfl, mw y2 1 12 (lo' := 1) (hi' := 12) rfl rfl, mw y1 0 y0 (lo' := 0) rfl rfl, mw y3 0 y2 (lo' := 0) rfl rfl]
  cases c1 : inR y0 1 12 with
  | false =>
    simp only [mb0_s, mb1_s, mb2_s, mb3_s, mb4_s, mb5_s, mb6_s, mb7_s, mb8_s, mb9_s, mb10_s, mb11_s, mb12_s, mb13_s, mb14_s, mb15_s, mb16_s, mb17_s, mb18_s, mb19_s, mb20_s, mb21_s, mb22_s, mb23_s, mb24_s, ifI_t, ifI_f, isB_bI, bad10, no10, full10, bad11, badAs11, no11, full11, mb0_s, mb1_s, mb2_s, mb3_s, mb4_s, mb5_s, mb6_s, mb7_s, mb8_s, mb9_s, mb10_s, mb11_s, mb12_s, mb13_s, mb14_s, mb15_s, mb16_s, mb17_s, mb18_s, mb19_s, mb20_s, mb21_s, mb22_s, mb23_s, mb24_s, mg_tt, ib_0_2, ib_0_3, ib_0_4, ib_0_44, ib_0_117, ib_1_2, ib_1_3, ib_1_4, ib_1_117, ib_2_3, ib_2_4, ib_2_117, ib_3_4, ib_3_117, ib_4_117, ib_5_117, ib_44_117, tn_0, tn_1, tn_2, tn_3, tn_4, tn_5, tn_8, tn_10, tn_44, tn_72, cp_0, cp_1, cp_2, cp_3, cp_4]
    rw [if_pos trivial]
    exact ⟨_, _, _, _, _, _, _, rfl, rfl, ⟨rfl, rfl⟩, hE.bump 0⟩
  | true =>
  cases c2 : inR y2 1 12 with
  | false =>
    simp only [mb0_s, mb1_s, mb2_s, mb3_s, mb4_s, mb5_s, mb6_s, mb7_s, mb8_s, mb9_s, mb10_s, mb11_s, mb12_s, mb13_s, mb14_s, mb15_s, mb16_s, mb17_s, mb18_s, mb19_s, mb20_s, mb21_s, mb22_s, mb23_s, mb24_s, ifI_t, ifI_f, isB_bI, bad10, no10, full10, bad11, badAs11, no11, full11, mb0_s, mb1_s, mb2_s, mb3_s, mb4_s, mb5_s, mb6_s, mb7_s, mb8_s, mb9_s, mb10_s, mb11_s, mb12_s, mb13_s, mb14_s, mb15_s, mb16_s, mb17_s, mb18_s, mb19_s, mb20_s, mb21_s, mb22_s, mb23_s, mb24_s, mg_tt, ib_0_2, ib_0_3, ib_0_4, ib_0_44, ib_0_117, ib_1_2, ib_1_3, ib_1_4, ib_1_117, ib_2_3, ib_2_4, ib_2_117, ib_3_4, ib_3_117, ib_4_117, ib_5_117, ib_44_117, tn_0, tn_1, tn_2, tn_3, tn_4, tn_5, tn_8, tn_10, tn_44, tn_72, cp_0, cp_1, cp_2, cp_3, cp_4]
    rw [if_pos trivial]
    exact ⟨_, _, _, _, _, _, _, rfl, rfl, ⟨rfl, rfl⟩, hE.bump 0⟩
  | true =>
  cases c3 : inR y1 0 y0 with
  | false =>
    simp only [mb0_s, mb1_s, mb2_s, mb3_s, mb4_s, mb5_s, mb6_s, mb7_s, mb8_s, mb9_s, mb10_s, mb11_s, mb12_s, mb13_s, mb14_s, mb15_s, mb16_s, mb17_s, mb18_s, mb19_s, mb20_s, mb21_s, mb22_s, mb23_s, mb24_s, ifI_t, ifI_f, isB_bI, bad10, no10, full10, bad11, badAs11, no11, full11, mb0_s, mb1_s, mb2_s, mb3_s, mb4_s, mb5_s, mb6_s, mb7_s, mb8_s, mb9_s, mb10_s, mb11_s, mb12_s, mb13_s, mb14_s, mb15_s, mb16_s, mb17_s, mb18_s, mb19_s, mb20_s, mb21_s, mb22_s, mb23_s, mb24_s, mg_tt, ib_0_2, ib_0_3, ib_0_4, ib_0_44, ib_0_117, ib_1_2, ib_1_3, ib_1_4, ib_1_117, ib_2_3, ib_2_4, ib_2_117, ib_3_4, ib_3_117, ib_4_117, ib_5_117, ib_44_117, tn_0, tn_1, tn_2, tn_3, tn_4, tn_5, tn_8, tn_10, tn_44, tn_72, cp_0, cp_1, cp_2, cp_3, cp_4]
    rw [if_pos trivial]
    exact ⟨_, _, _, _, _, _, _, rfl, rfl, ⟨rfl, rfl⟩, hE.bump 0⟩
  | true =>
  cases c4 : inR y3 0 y2 with
  | false =>
    simp only [mb0_s, mb1_s, mb2_s, mb3_s, mb4_s, mb5_s, mb6_s, mb7_s, mb8_s, mb9_s, mb10_s, mb11_s, mb12_s, mb13_s, mb14_s, mb15_s, mb16_s, mb17_s, mb18_s, mb19_s, mb20_s, mb21_s, mb22_s, mb23_s, mb24_s, ifI_t, ifI_f, isB_bI, bad10, no10, full10, bad11, badAs11, no11, full11, mb0_s, mb1_s, mb2_s, mb3_s, mb4_s, mb5_s, mb6_s, mb7_s, mb8_s, mb9_s, mb10_s, mb11_s, mb12_s, mb13_s, mb14_s, mb15_s, mb16_s, mb17_s, mb18_s, mb19_s, mb20_s, mb21_s, mb22_s, mb23_s, mb24_s, mg_tt, ib_0_2, ib_0_3, ib_0_4, ib_0_44, ib_0_117, ib_1_2, ib_1_3, ib_1_4, ib_1_117, ib_2_3, ib_2_4, ib_2_117, ib_3_4, ib_3_117, ib_4_117, ib_5_117, ib_44_117, tn_0, tn_1, tn_2, tn_3, tn_4, tn_5, tn_8, tn_10, tn_44, tn_72, cp_0, cp_1, cp_2, cp_3, cp_4]
    rw [if_pos trivial]
    exact ⟨_, _, _, _, _, _, _, rfl, rfl, ⟨rfl, rfl⟩, hE.bump 0⟩
  | true =>
  obtain ⟨n, n1, n2, rfl⟩ := inR_nI 1 12 rfl rfl c1
  obtain ⟨m, m1, m2, rfl⟩ := inR_nI 1 12 rfl rfl c2
  obtain ⟨a, -, a2, rfl⟩ := inR_nI 0 n rfl (nI_toInt (by omega)) c3
  obtain ⟨b, -, b2, rfl⟩ := inR_nI 0 m rfl (nI_toInt (by omega)) c4
  obtain ⟨S, s1, s2, s3⟩ := lot_l n2 m2 a2 b2 m_above m_below m_refused (n + 1 - a) 100000 0 (by omega) (by omega) (by omega) (by omega)
  obtain ⟨L, l1, l2, l3⟩ := cho_e (a := n + m) (b := ((a + b : Nat) : Int)) (by omega) (by omega) (by omega)
  rw [← nI_z] at l2 l3
  have hL : 0 < L := by
    have := cho_pos ⟨n + m, by omega⟩ ⟨a + b, by omega⟩ (by show a + b ≤ n + m; omega)
    rw [show f_X6_choices (nI (n + m)) (nI (a + b)) = _ from l2] at this
    rcases Nat.eq_zero_or_pos L with h | h
    · subst h
      exact absurd rfl this
    · exact h
  rw [show n + 1 - (n + 1 - a) = a by omega] at s2 s3
  have z0 : (0 : Int64) = zL ((0 : Nat) : Int) := by decide +kernel
  simp only [mb0_s, mb1_s, mb2_s, mb3_s, mb4_s, mb5_s, mb6_s, mb7_s, mb8_s, mb9_s, mb10_s, mb11_s, mb12_s, mb13_s, mb14_s, mb15_s, mb16_s, mb17_s, mb18_s, mb19_s, mb20_s, mb21_s, mb22_s, mb23_s, mb24_s, ifI_t, ifI_f, isB_bI, bad10, no10, full10, bad11, badAs11, no11, full11, mb0_s, mb1_s, mb2_s, mb3_s, mb4_s, mb5_s, mb6_s, mb7_s, mb8_s, mb9_s, mb10_s, mb11_s, mb12_s, mb13_s, mb14_s, mb15_s, mb16_s, mb17_s, mb18_s, mb19_s, mb20_s, mb21_s, mb22_s, mb23_s, mb24_s, mg_tt, ib_0_2, ib_0_3, ib_0_4, ib_0_44, ib_0_117, ib_1_2, ib_1_3, ib_1_4, ib_1_117, ib_2_3, ib_2_4, ib_2_117, ib_3_4, ib_3_117, ib_4_117, ib_5_117, ib_44_117, tn_0, tn_1, tn_2, tn_3, tn_4, tn_5, tn_8, tn_10, tn_44, tn_72, cp_0, cp_1, cp_2, cp_3, cp_4, z0]
  rw [if_neg (show ¬ ((1 : Int32) = 0) from by decide), s2, s3, nI_add, nI_add, l2, l3, mb1_s, mb1_s, mb1_s, hold_e (by omega) (by omega) hL, tells_e (by omega) (by omega) hL, mb2_s, mb2_s]
  exact ⟨_, _, _, _, _, _, _, rfl, rfl, ⟨rfl, rfl⟩, hE⟩
/-! both at once -/
def zLev (d his h others o : Int32) : Int32 := (if his - others < d then 0 else h * o) + (if his < d then 0 else h * (16 - o)) + (if 0 < d then 0 else (16 - h) * (16 - o))
theorem lev10 (d his h others o : Int32) : f_X6_casesLevel d his h others o = some (zLev d his h others o) := by
  unfold f_X6_casesLevel f_X6_casesLevel_L15 f_X6_casesLevel_L35 zLev
  by_cases h1 : his - others < d
  · rw [if_pos h1, if_pos h1]
    by_cases h2 : his < d
    · rw [if_pos h2, if_pos h2]
      by_cases h3 : 0 < d
      · rw [if_pos h3, if_pos h3]
      · rw [if_neg h3, if_neg h3]
    · rw [if_neg h2, if_neg h2]
      by_cases h3 : 0 < d
      · rw [if_pos h3, if_pos h3]
      · rw [if_neg h3, if_neg h3]
  · rw [if_neg h1, if_neg h1]
    by_cases h2 : his < d
    · rw [if_pos h2, if_pos h2]
      by_cases h3 : 0 < d
      · rw [if_pos h3, if_pos h3]
      · rw [if_neg h3, if_neg h3]
    · rw [if_neg h2, if_neg h2]
      by_cases h3 : 0 < d
      · rw [if_pos h3, if_pos h3]
      · rw [if_neg h3, if_neg h3]
theorem lev11 (kh : Int32 → Int32 → Int32 → Int32 → Int32 → Int32 → (Nat → Int32) → Option (Nat → Int32)) {d : Int32} (hd : d = 0 ↔ ¬ 0 < d) (p q r u x6 his h others o : Int32) (lv : Nat → Int32) : f_X11_laysLevel_L53 kh d p q r u x6 his h others o lv = mg (inB x6 4) (kh d p q r u (x6 + 1) (upd lv (Int32.toNatClampNeg x6) (zLev d his h others o))) := by
  unfold f_X11_laysLevel_L53 f_X11_laysLevel_L73 f_X11_laysLevel_L95 f_X11_laysLevel_L119 zLev
  by_cases h3 : 0 < d
  · have hz : ¬ d = 0 := fun e => (hd.mp e) h3
    rw [if_pos h3]
    by_cases h2 : his < d
    · rw [if_pos h2, if_pos h2]
      by_cases h1 : his - others < d
      · rw [if_pos h1, if_pos h1, if_neg hz]
      · rw [if_neg h1, if_neg h1, if_neg hz, Int32.add_comm 0 (h * o)]
    · rw [if_neg h2, if_neg h2]
      by_cases h1 : his - others < d
      · rw [if_pos h1, if_pos h1, if_neg hz, Int32.add_comm 0 (h * (16 - o))]
      · rw [if_neg h1, if_neg h1, if_neg hz, Int32.add_comm (h * o)]
  · have hz : d = 0 := hd.mpr h3
    rw [if_neg h3]
    by_cases h2 : his < d
    · rw [if_pos h2, if_pos h2]
      by_cases h1 : his - others < d
      · rw [if_pos h1, if_pos h1, if_pos hz]
      · rw [if_neg h1, if_neg h1, if_pos hz, Int32.add_comm 0 (h * o)]
    · rw [if_neg h2, if_neg h2]
      by_cases h1 : his - others < d
      · rw [if_pos h1, if_pos h1, if_pos hz, Int32.add_comm 0 (h * (16 - o))]
      · rw [if_neg h1, if_neg h1, if_pos hz, Int32.add_comm (h * o)]
theorem lays (N : Nat) {d : Int32} (hd : d = 0 ↔ ¬ 0 < d) (p q r u : Int32) (lv : Nat → Int32) : f_X11_laysLevel_L3 (N + 5) d p q r u 0 lv = some (upd (upd (upd (upd lv 0 (zLev d 1 p 1 r)) 1 (zLev d 2 q 1 r)) 2 (zLev d 1 p 2 u)) 3 (zLev d 2 q 2 u)) := by
  unfold f_X11_laysLevel_L3 f_X11_laysLevel_L29
  rw [if_neg (by decide), if_pos (by decide), if_pos (by decide), lev11 _ hd, show inB 0 4 = true from by decide, mg_tt]
  unfold f_X11_laysLevel_L3 f_X11_laysLevel_L29
  rw [if_neg (by decide), if_neg (by decide), if_pos (by decide), lev11 _ hd, show inB (0 + 1) 4 = true from by decide, mg_tt]
  unfold f_X11_laysLevel_L3 f_X11_laysLevel_L29
  rw [if_neg (by decide), if_pos (by decide), if_neg (by decide), lev11 _ hd, show inB (0 + 1 + 1) 4 = true from by decide, mg_tt]
  unfold f_X11_laysLevel_L3 f_X11_laysLevel_L29
  rw [if_neg (by decide), if_neg (by decide), if_neg (by decide), lev11 _ hd, show inB (0 + 1 + 1 + 1) 4 = true from by decide, mg_tt]
  unfold f_X11_laysLevel_L3
  rw [if_pos (by decide)]
  rfl
theorem lev_all : ∀ d : Fin 5, ∀ hi : Fin 2, ∀ ot : Fin 2, ∀ h : Fin 17, ∀ o : Fin 17, decide (0 ≤ (zLev (nI d) (nI (hi.val + 1)) (nI h) (nI (ot.val + 1)) (nI o)).toInt ∧ (zLev (nI d) (nI (hi.val + 1)) (nI h) (nI (ot.val + 1)) (nI o)).toInt ≤ 256) = true := by decide +kernel
theorem nI_nn {z : Int32} {n : Nat} (h1 : 0 ≤ z.toInt) (h2 : z.toInt ≤ n) : ∃ v : Nat, v ≤ n ∧ z = nI v := by
  refine ⟨z.toInt.toNat, by omega, ?_⟩
  rw [nI_z, Int.toNat_of_nonneg h1, ← zI_of]
theorem lev_n {d h o : Nat} (hd : d ≤ 4) (hi ot : Fin 2) (hh : h ≤ 16) (ho : o ≤ 16) : ∃ v : Nat, v ≤ 256 ∧ zLev (nI d) (nI (hi.val + 1)) (nI h) (nI (ot.val + 1)) (nI o) = nI v := by
  have hq : 0 ≤ (zLev (nI d) (nI (hi.val + 1)) (nI h) (nI (ot.val + 1)) (nI o)).toInt ∧ (zLev (nI d) (nI (hi.val + 1)) (nI h) (nI (ot.val + 1)) (nI o)).toInt ≤ 256 := of_decide_eq_true (lev_all ⟨d, by omega⟩ hi ot ⟨h, by omega⟩ ⟨o, by omega⟩)
  exact nI_nn hq.1 hq.2
def zRs (x y z : Nat) : Nat := if x < y then 0 else if z < x then 0 else 1
theorem rs10 {x y z : Nat} (hx : x ≤ 256) (hy : y ≤ 256) (hz : z ≤ 256) : f_X6_rests (nI x) (nI y) (nI z) = some (nI (zRs x y z)) := by
  unfold f_X6_rests zRs
  by_cases h1 : x < y
  · rw [if_pos ((nI_ltI (by omega) (by omega)).mpr h1), if_pos h1]; rfl
  · rw [if_neg (fun e => h1 ((nI_ltI (by omega) (by omega)).mp e)), if_neg h1]
    by_cases h2 : z < x
    · rw [if_pos ((nI_ltI (by omega) (by omega)).mpr h2), if_pos h2]; rfl
    · rw [if_neg (fun e => h2 ((nI_ltI (by omega) (by omega)).mp e)), if_neg h2]; rfl
theorem zRs_le (x y z : Nat) : zRs x y z ≤ 1 := by
  unfold zRs
  split
  · omega
  · split <;> omega
/-- one of the four pairs -/
theorem rs11 {n x y z k : Nat} (hx : x ≤ 256) (hy : y ≤ 256) (hz : z ≤ 256) (hk : k < 4) {i j : Nat} (hi : i < 4) (hj : j < 4) (e1 : nI k ^^^ 1 = nI i) (e2 : nI k ^^^ 2 = nI j) {lv : Nat → Int32} (l0 : lv k = nI x) (l1 : lv i = nI y) (l2 : lv j = nI z) (x6 x7 : Int32) (v w : Int64) (r : Nat → Int32) : f_X11_both_L87 (n + 1) x6 x7 (nI k) v w r lv = f_X11_both_L87 n (x6 + nI (zRs x y z)) (if zRs x y z = 0 then x7 else nI x) (nI (k + 1)) v w r lv := by
  conv => lhs; unfold f_X11_both_L87
  unfold f_X11_both_L135 f_X11_both_L136 f_X11_both_L150 f_X11_both_L170
  rw [if_neg (show ¬ (4 : Int32) ≤ nI k from nI_ge (b := 4) hk (by decide)), e1, e2, inB_nI hk (by omega), inB_nI hi (by omega), inB_nI hj (by omega), mg_tt, mg_tt, mg_tt, mg_tt, clN (by omega), clN (by omega), clN (by omega), l0, l1, l2, nI_1]
  unfold zRs
  by_cases h1 : x < y
  · rw [if_pos ((nI_ltI (by omega) (by omega)).mpr h1), if_pos h1, if_pos rfl, if_pos rfl, if_pos rfl]; rfl
  · rw [if_neg (fun e => h1 ((nI_ltI (by omega) (by omega)).mp e)), if_neg h1]
    by_cases h2 : z < x
    · rw [if_pos ((nI_ltI (by omega) (by omega)).mpr h2), if_pos h2, if_pos rfl, if_pos rfl, if_pos rfl]; rfl
    · rw [if_neg (fun e => h2 ((nI_ltI (by omega) (by omega)).mp e)), if_neg h2, if_neg (show ¬ ((1 : Int32) = 0) from by decide), if_neg (show ¬ ((1 : Int32) = 0) from by decide), mg_tt, if_neg (show ¬ ((1 : Nat) = 0) from by decide)]; rfl
theorem imx_n {a b : Nat} (ha : a ≤ 256) (hb : b ≤ 256) : imx (nI a) (nI b) = nI (max a b) := by
  unfold imx
  split
  · rename_i h
    rw [nI_ltI (by omega) (by omega)] at h
    rw [show max a b = b by omega]
  · rename_i h
    rw [nI_ltI (by omega) (by omega)] at h
    rw [show max a b = a by omega]
theorem imn_n {a b : Nat} (ha : a ≤ 256) (hb : b ≤ 256) : imn (nI a) (nI b) = nI (min a b) := by
  unfold imn
  split
  · rename_i h
    rw [nI_ltI (by omega) (by omega)] at h
    rw [show min a b = b by omega]
  · rename_i h
    rw [nI_ltI (by omega) (by omega)] at h
    rw [show min a b = a by omega]
theorem both_f {a b c e : Nat} (ha : a ≤ 256) (hb : b ≤ 256) (hc : c ≤ 256) (he : e ≤ 256) (v w : Int64) (r lv : Nat → Int32) (l0 : lv 0 = nI a) (l1 : lv 1 = nI b) (l2 : lv 2 = nI c) (l3 : lv 3 = nI e) : ∃ A B : Int64, f_X10_holdSureChance (nI a) (nI c) (nI b) (nI e) v w = some (A, B) ∧ f_X11_both_L87 100000 0 0 0 v w r lv = some (nI (zRs a b c) + nI (zRs c e a) + nI (zRs b a e) + nI (zRs e c b), A, B, r, lv) := by
  have s0 := rs11 (n := 99999) ha hb hc (k := 0) (by omega) (i := 1) (j := 2) (by omega) (by omega) (by decide) (by decide) l0 l1 l2 0 0 v w r
  have s1 := rs11 (n := 99998) hb ha he (k := 1) (by omega) (i := 0) (j := 3) (by omega) (by omega) (by decide) (by decide) l1 l0 l3 (0 + nI (zRs a b c)) (if zRs a b c = 0 then 0 else nI a) v w r
  have s2 := rs11 (n := 99997) hc he ha (k := 2) (by omega) (i := 3) (j := 0) (by omega) (by omega) (by decide) (by decide) l2 l3 l0 (0 + nI (zRs a b c) + nI (zRs b a e)) (if zRs b a e = 0 then (if zRs a b c = 0 then 0 else nI a) else nI b) v w r
  have s3 := rs11 (n := 99996) he hc hb (k := 3) (by omega) (i := 2) (j := 1) (by omega) (by omega) (by decide) (by decide) l3 l2 l1 (0 + nI (zRs a b c) + nI (zRs b a e) + nI (zRs c e a)) (if zRs c e a = 0 then (if zRs b a e = 0 then (if zRs a b c = 0 then 0 else nI a) else nI b) else nI c) v w r
  have s := s0.trans (s1.trans (s2.trans s3))
  rw [show f_X11_both_L87 100000 0 0 0 v w r lv = _ from s]
  have hsum : 0 + nI (zRs a b c) + nI (zRs b a e) + nI (zRs c e a) + nI (zRs e c b) = nI (zRs a b c + zRs b a e + zRs c e a + zRs e c b) := by
    rw [show (0 : Int32) = nI 0 from rfl, nI_add, nI_add, nI_add, nI_add, Nat.zero_add]
  have hsum2 : nI (zRs a b c) + nI (zRs c e a) + nI (zRs b a e) + nI (zRs e c b) = nI (zRs a b c + zRs b a e + zRs c e a + zRs e c b) := by
    rw [nI_add, nI_add, nI_add]; congr 1; omega
  rw [hsum, hsum2]
  unfold f_X11_both_L87 f_X10_holdSureChance
  have z1 := zRs_le a b c
  have z2 := zRs_le b a e
  have z3 := zRs_le c e a
  have z4 := zRs_le e c b
  rw [if_pos (show (4 : Int32) ≤ nI (3 + 1) from by decide), imn_n ha hc, imn_n hb he, imx_n (by omega) (by omega), imx_n ha hb, imx_n hc he, imn_n (by omega) (by omega)]
  by_cases hz : zRs a b c + zRs b a e + zRs c e a + zRs e c b = 0
  · have hmix : (a < b ∧ a < c ∧ e < b ∧ e < c) ∨ (b < a ∧ c < a ∧ b < e ∧ c < e) := by
      have q1 : zRs a b c = 0 := by omega
      have q2 : zRs b a e = 0 := by omega
      have q3 : zRs c e a = 0 := by omega
      have q4 : zRs e c b = 0 := by omega
      unfold zRs at q1 q2 q3 q4
      have p1 : a < b ∨ c < a := by
        by_cases g1 : a < b
        · exact Or.inl g1
        · by_cases g2 : c < a
          · exact Or.inr g2
          · rw [if_neg g1, if_neg g2] at q1; omega
      have p2 : b < a ∨ e < b := by
        by_cases g1 : b < a
        · exact Or.inl g1
        · by_cases g2 : e < b
          · exact Or.inr g2
          · rw [if_neg g1, if_neg g2] at q2; omega
      have p3 : c < e ∨ a < c := by
        by_cases g1 : c < e
        · exact Or.inl g1
        · by_cases g2 : a < c
          · exact Or.inr g2
          · rw [if_neg g1, if_neg g2] at q3; omega
      have p4 : e < c ∨ b < e := by
        by_cases g1 : e < c
        · exact Or.inl g1
        · by_cases g2 : b < e
          · exact Or.inr g2
          · rw [if_neg g1, if_neg g2] at q4; omega
      omega
    rw [hz, if_pos (show nI 0 ≤ 0 from by decide), if_neg (by rw [nI_eq (by omega) (by omega)]; omega)]
    simp only [mb0_s, mb1_s, mb2_s, mb3_s, mb4_s, mb5_s, mb6_s, mb7_s, mb8_s, mb9_s, mb10_s, mb11_s, mb12_s, mb13_s, mb14_s, mb15_s, mb16_s, mb17_s, mb18_s, mb19_s, mb20_s, mb21_s, mb22_s, mb23_s, mb24_s, mg_tt, ib_0_2, ib_0_3, ib_0_4, ib_0_44, ib_0_117, ib_1_2, ib_1_3, ib_1_4, ib_1_117, ib_2_3, ib_2_4, ib_2_117, ib_3_4, ib_3_117, ib_4_117, ib_5_117, ib_44_117, tn_0, tn_1, tn_2, tn_3, tn_4, tn_5, tn_8, tn_10, tn_44, tn_72, cp_0, cp_1, cp_2, cp_3, cp_4, l0, l1, l2, l3]
    have e1 : (nI a + nI e - nI b - nI c).toInt64 = zL ((a : Int) + e - b - c) := by
      simp (disch := omega) only [nI_z, zI_add, zI_sub, zI_mul, zI_neg, zL_add, zL_sub, zL_mul, zL_neg, zI_lt, zI_le, zI_eq, zL_lt, zL_le, zL_eq, zI_div, zI_rm, zL_div, zL_rm, zI_cl, zI_in, zI_l, zL_n, on_2, on_8, on_10, on_72, on_120, zl_72, zl_234, zl_0, zl_1, zl_2, zl_3, zl_4, zl_5, zl_6, zl_7, zl_8, zl_9, zl_10, zl_11, zl_12, zl_13, zl_14, zl_15, zl_16, zl_17, zl_18, zl_19, zl_20, zl_21, zl_22, zl_23, zl_24, zl_25, zl_26, zl_27, zl_28, zl_29, zl_30, zl_31, zl_32, zl_33, zl_34, zl_35, zl_36, zl_37, zl_38, zl_39, zl_40, zl_41, zl_42, zl_43, zl_44, zl_45, zl_46, zl_47, zl_48, zl_49, zl_50, zl_51, zl_52, zl_53, zl_54, zl_55, zl_56, zl_57, zl_58, zl_59, zl_60, zl_97, zl_100, zl_117, zl_120, zl_122, zl_210, zl_255, zl_1000, zl_1890, zl_999999, zm_0, zm_1, zm_2, zm_3, zm_4, zm_5, zm_6, zm_7, zm_8, zm_9, zm_10, zm_11, zm_12, zm_13, zm_14, zm_15, zm_16, zm_17, zm_18, zm_19, zm_20, zm_30, zm_31, zm_40, zm_48, zm_57, zm_60, zm_97, zm_100, zm_122, zm_255, zm_256, zm_823, zm_12345, zm_65536, zm_999999, zm_7824756, zm_1103515245, zm_2147483648, zm_495874698853]
    have e2 : (nI a).toInt64 * (nI e).toInt64 - (nI c).toInt64 * (nI b).toInt64 = zL ((a : Int) * e - (c : Int) * b) := by
      simp (disch := omega) only [nI_z, zI_add, zI_sub, zI_mul, zI_neg, zL_add, zL_sub, zL_mul, zL_neg, zI_lt, zI_le, zI_eq, zL_lt, zL_le, zL_eq, zI_div, zI_rm, zL_div, zL_rm, zI_cl, zI_in, zI_l, zL_n, on_2, on_8, on_10, on_72, on_120, zl_72, zl_234, zl_0, zl_1, zl_2, zl_3, zl_4, zl_5, zl_6, zl_7, zl_8, zl_9, zl_10, zl_11, zl_12, zl_13, zl_14, zl_15, zl_16, zl_17, zl_18, zl_19, zl_20, zl_21, zl_22, zl_23, zl_24, zl_25, zl_26, zl_27, zl_28, zl_29, zl_30, zl_31, zl_32, zl_33, zl_34, zl_35, zl_36, zl_37, zl_38, zl_39, zl_40, zl_41, zl_42, zl_43, zl_44, zl_45, zl_46, zl_47, zl_48, zl_49, zl_50, zl_51, zl_52, zl_53, zl_54, zl_55, zl_56, zl_57, zl_58, zl_59, zl_60, zl_97, zl_100, zl_117, zl_120, zl_122, zl_210, zl_255, zl_1000, zl_1890, zl_999999, zm_0, zm_1, zm_2, zm_3, zm_4, zm_5, zm_6, zm_7, zm_8, zm_9, zm_10, zm_11, zm_12, zm_13, zm_14, zm_15, zm_16, zm_17, zm_18, zm_19, zm_20, zm_30, zm_31, zm_40, zm_48, zm_57, zm_60, zm_97, zm_100, zm_122, zm_255, zm_256, zm_823, zm_12345, zm_65536, zm_999999, zm_7824756, zm_1103515245, zm_2147483648, zm_495874698853]
    have e2' : (nI a).toInt64 * (nI e).toInt64 - (nI b).toInt64 * (nI c).toInt64 = zL ((a : Int) * e - (c : Int) * b) := by
      rw [Int.mul_comm (c : Int)]
      simp (disch := omega) only [nI_z, zI_add, zI_sub, zI_mul, zI_neg, zL_add, zL_sub, zL_mul, zL_neg, zI_lt, zI_le, zI_eq, zL_lt, zL_le, zL_eq, zI_div, zI_rm, zL_div, zL_rm, zI_cl, zI_in, zI_l, zL_n, on_2, on_8, on_10, on_72, on_120, zl_72, zl_234, zl_0, zl_1, zl_2, zl_3, zl_4, zl_5, zl_6, zl_7, zl_8, zl_9, zl_10, zl_11, zl_12, zl_13, zl_14, zl_15, zl_16, zl_17, zl_18, zl_19, zl_20, zl_21, zl_22, zl_23, zl_24, zl_25, zl_26, zl_27, zl_28, zl_29, zl_30, zl_31, zl_32, zl_33, zl_34, zl_35, zl_36, zl_37, zl_38, zl_39, zl_40, zl_41, zl_42, zl_43, zl_44, zl_45, zl_46, zl_47, zl_48, zl_49, zl_50, zl_51, zl_52, zl_53, zl_54, zl_55, zl_56, zl_57, zl_58, zl_59, zl_60, zl_97, zl_100, zl_117, zl_120, zl_122, zl_210, zl_255, zl_1000, zl_1890, zl_999999, zm_0, zm_1, zm_2, zm_3, zm_4, zm_5, zm_6, zm_7, zm_8, zm_9, zm_10, zm_11, zm_12, zm_13, zm_14, zm_15, zm_16, zm_17, zm_18, zm_19, zm_20, zm_30, zm_31, zm_40, zm_48, zm_57, zm_60, zm_97, zm_100, zm_122, zm_255, zm_256, zm_823, zm_12345, zm_65536, zm_999999, zm_7824756, zm_1103515245, zm_2147483648, zm_495874698853]
    have e3 : ((nI a).toInt64 + (nI e).toInt64 - (nI c).toInt64 - (nI b).toInt64) * 256 = zL (((a : Int) + e - c - b) * 256) := by
      simp (disch := omega) only [nI_z, zI_add, zI_sub, zI_mul, zI_neg, zL_add, zL_sub, zL_mul, zL_neg, zI_lt, zI_le, zI_eq, zL_lt, zL_le, zL_eq, zI_div, zI_rm, zL_div, zL_rm, zI_cl, zI_in, zI_l, zL_n, on_2, on_8, on_10, on_72, on_120, zl_72, zl_234, zl_0, zl_1, zl_2, zl_3, zl_4, zl_5, zl_6, zl_7, zl_8, zl_9, zl_10, zl_11, zl_12, zl_13, zl_14, zl_15, zl_16, zl_17, zl_18, zl_19, zl_20, zl_21, zl_22, zl_23, zl_24, zl_25, zl_26, zl_27, zl_28, zl_29, zl_30, zl_31, zl_32, zl_33, zl_34, zl_35, zl_36, zl_37, zl_38, zl_39, zl_40, zl_41, zl_42, zl_43, zl_44, zl_45, zl_46, zl_47, zl_48, zl_49, zl_50, zl_51, zl_52, zl_53, zl_54, zl_55, zl_56, zl_57, zl_58, zl_59, zl_60, zl_97, zl_100, zl_117, zl_120, zl_122, zl_210, zl_255, zl_1000, zl_1890, zl_999999, zm_0, zm_1, zm_2, zm_3, zm_4, zm_5, zm_6, zm_7, zm_8, zm_9, zm_10, zm_11, zm_12, zm_13, zm_14, zm_15, zm_16, zm_17, zm_18, zm_19, zm_20, zm_30, zm_31, zm_40, zm_48, zm_57, zm_60, zm_97, zm_100, zm_122, zm_255, zm_256, zm_823, zm_12345, zm_65536, zm_999999, zm_7824756, zm_1103515245, zm_2147483648, zm_495874698853, show (256 : Int64) = zL 256 from by decide +kernel]
    rw [e1, e2, e2', e3]
    have hP : a * e ≤ 256 * 256 := Nat.mul_le_mul ha he
    have hQ : c * b ≤ 256 * 256 := Nat.mul_le_mul hc hb
    unfold f_X11_both_L275 f_X11_both_L297
    obtain ⟨g1, g2, g3, g4⟩ | ⟨g1, g2, g3, g4⟩ := hmix
    · have hPQ : a * e ≤ c * b := Nat.mul_le_mul (by omega) (by omega)
      have n1 : ¬ ((0 : Int64) ≤ zL ((a : Int) + e - b - c)) := by
        rw [zm_0, zL_le (by omega) (by omega) (by omega) (by omega)]; omega
      have d1 : zL ((a : Int) * e - (c : Int) * b) = zL (-((c * b - a * e : Nat) : Int)) := by
        congr 1
        rw [Int.ofNat_sub hPQ, Int.natCast_mul, Int.natCast_mul]; omega
      have d2 : zL (((a : Int) + e - c - b) * 256) = zL (-(((b + c - a - e) * 256 : Nat) : Int)) := by
        congr 1; omega
      have d3 : (-256 : Int64) * zL ((a : Int) + e - b - c) = zL (((b + c - a - e) * 256 : Nat) : Int) := by
        rw [show (-256 : Int64) = zL (-256) from by decide +kernel, zL_mul]
        congr 1; omega
      rw [if_neg n1, if_neg n1, d1, d2, d3, zL_neg, Int.neg_neg, holdm_e (by omega) (by omega) (by omega), tells_e (by omega) (by omega) (by omega), mb2_s, mb2_s]
      exact ⟨_, _, rfl, rfl⟩
    · have hPQ : c * b ≤ a * e := Nat.mul_le_mul (by omega) (by omega)
      have n1 : ((0 : Int64) ≤ zL ((a : Int) + e - b - c)) := by
        rw [zm_0, zL_le (by omega) (by omega) (by omega) (by omega)]; omega
      have d1 : zL ((a : Int) * e - (c : Int) * b) = zL ((a * e - c * b : Nat) : Int) := by
        congr 1
        rw [Int.ofNat_sub hPQ, Int.natCast_mul, Int.natCast_mul]
      have d2 : zL (((a : Int) + e - c - b) * 256) = zL (((a + e - b - c) * 256 : Nat) : Int) := by
        congr 1; omega
      have d3 : (256 : Int64) * zL ((a : Int) + e - b - c) = zL (((a + e - b - c) * 256 : Nat) : Int) := by
        rw [show (256 : Int64) = zL 256 from by decide +kernel, zL_mul]
        congr 1; omega
      rw [if_pos n1, if_pos n1, d1, d2, d3, hold_e (by omega) (by omega) (by omega), tells_e (by omega) (by omega) (by omega), mb2_s, mb2_s]
      exact ⟨_, _, rfl, rfl⟩
  · have hval : ∃ V : Nat, V ≤ 256 ∧ (if zRs e c b = 0 then (if zRs c e a = 0 then (if zRs b a e = 0 then (if zRs a b c = 0 then (0 : Int32) else nI a) else nI b) else nI c) else nI e) = nI V ∧ max (min a c) (min b e) = V ∧ min (max a b) (max c e) = V := by
      have w1 : zRs a b c ≠ 0 → b ≤ a ∧ a ≤ c := by
        unfold zRs
        intro h
        by_cases g1 : a < b
        · rw [if_pos g1] at h; omega
        · by_cases g2 : c < a
          · rw [if_neg g1, if_pos g2] at h; omega
          · omega
      have w2 : zRs b a e ≠ 0 → a ≤ b ∧ b ≤ e := by
        unfold zRs
        intro h
        by_cases g1 : b < a
        · rw [if_pos g1] at h; omega
        · by_cases g2 : e < b
          · rw [if_neg g1, if_pos g2] at h; omega
          · omega
      have w3 : zRs c e a ≠ 0 → e ≤ c ∧ c ≤ a := by
        unfold zRs
        intro h
        by_cases g1 : c < e
        · rw [if_pos g1] at h; omega
        · by_cases g2 : a < c
          · rw [if_neg g1, if_pos g2] at h; omega
          · omega
      have w4 : zRs e c b ≠ 0 → c ≤ e ∧ e ≤ b := by
        unfold zRs
        intro h
        by_cases g1 : e < c
        · rw [if_pos g1] at h; omega
        · by_cases g2 : b < e
          · rw [if_neg g1, if_pos g2] at h; omega
          · omega
      by_cases h4 : zRs e c b = 0
      · by_cases h3 : zRs c e a = 0
        · by_cases h2 : zRs b a e = 0
          · have h1 : zRs a b c ≠ 0 := by omega
            have := w1 h1
            exact ⟨a, ha, by rw [if_pos h4, if_pos h3, if_pos h2, if_neg h1], by omega, by omega⟩
          · have := w2 h2
            exact ⟨b, hb, by rw [if_pos h4, if_pos h3, if_neg h2], by omega, by omega⟩
        · have := w3 h3
          exact ⟨c, hc, by rw [if_pos h4, if_neg h3], by omega, by omega⟩
      · have := w4 h4
        exact ⟨e, he, by rw [if_neg h4], by omega, by omega⟩
    obtain ⟨V, v1, v2, v3, v4⟩ := hval
    have e5 : (nI V).toInt64 = zL (V : Int) := by rw [nI_z, zI_l (by omega) (by omega)]
    rw [v2, v3, v4, if_pos rfl, if_neg (show ¬ nI (zRs a b c + zRs b a e + zRs c e a + zRs e c b) ≤ 0 from nI_nle (by omega) (by omega)), e5, show (256 : Int64) = zL ((256 : Nat) : Int) from by decide +kernel, hold_e (by omega) (by omega) (by omega), tells_e (by omega) (by omega) (by omega), mb2_s, mb2_s]
    exact ⟨_, _, rfl, rfl⟩
theorem op_both {c_fraction_above : Int64} {c_fraction_below : Int64} {c_refused : Nat → Int32} {m_above : Int64} {m_below : Int64} {m_refused : Nat → Int32} {m_level : Nat → Int32} (hF : FrcR c_fraction_above c_fraction_below m_above m_below) (hE : RefR c_refused m_refused) (y0 : Int32) (y1 : Int32) (y2 : Int32) (y3 : Int32) (y4 : Int32) : ∃ (r : Int32) (dc_refused : Nat → Int32) (dc_fraction_above : Int64) (dc_fraction_below : Int64) (dm_above : Int64) (dm_below : Int64) (dm_refused : Nat → Int32) (dm_level : Nat → Int32), f_X10_both y0 y1 y2 y3 y4 c_refused c_fraction_above c_fraction_below = some (r, dc_refused, dc_fraction_above, dc_fraction_below) ∧ f_X11_both y0 y1 y2 y3 y4 m_above m_below m_refused m_level = some (r, dm_above, dm_below, dm_refused, dm_level) ∧ FrcR dc_fraction_above dc_fraction_below dm_above dm_below ∧ RefR dc_refused dm_refused := by
  obtain ⟨rfl, rfl⟩ := hF
  unfold f_X10_both f_X11_both f_X10_both_L43 f_X10_both_L44 f_X11_both_L62 f_X10_isChance
  rw [cw, cw, cw, cw, cw, mw y0 0 4 (lo' := 0) (hi' := 4) rfl rfl, mw y1 0 16 (lo' := 0) (hi' := 16) rfl rfl, mw y2 0 16 (lo' := 0) (hi' := 16) rfl rfl, mw y3 0 16 (lo' := 0) (hi' := 16) rfl rfl, mw y4 0 16 (lo' := 0) (hi' := 16) rfl rfl]
  cases c1 : inR y0 0 4 with
  | false =>
    simp only [mb0_s, mb1_s, mb2_s, mb3_s, mb4_s, mb5_s, mb6_s, mb7_s, mb8_s, mb9_s, mb10_s, mb11_s, mb12_s, mb13_s, mb14_s, mb15_s, mb16_s, mb17_s, mb18_s, mb19_s, mb20_s, mb21_s, mb22_s, mb23_s, mb24_s, ifI_t, ifI_f, isB_bI, bad10, no10, full10, bad11, badAs11, no11, full11, mb0_s, mb1_s, mb2_s, mb3_s, mb4_s, mb5_s, mb6_s, mb7_s, mb8_s, mb9_s, mb10_s, mb11_s, mb12_s, mb13_s, mb14_s, mb15_s, mb16_s, mb17_s, mb18_s, mb19_s, mb20_s, mb21_s, mb22_s, mb23_s, mb24_s, mg_tt, ib_0_2, ib_0_3, ib_0_4, ib_0_44, ib_0_117, ib_1_2, ib_1_3, ib_1_4, ib_1_117, ib_2_3, ib_2_4, ib_2_117, ib_3_4, ib_3_117, ib_4_117, ib_5_117, ib_44_117, tn_0, tn_1, tn_2, tn_3, tn_4, tn_5, tn_8, tn_10, tn_44, tn_72, cp_0, cp_1, cp_2, cp_3, cp_4]
    rw [if_pos trivial]
    exact ⟨_, _, _, _, _, _, _, _, rfl, rfl, ⟨rfl, rfl⟩, hE.bump 0⟩
  | true =>
  cases c2 : inR y1 0 16 with
  | false =>
    simp only [mb0_s, mb1_s, mb2_s, mb3_s, mb4_s, mb5_s, mb6_s, mb7_s, mb8_s, mb9_s, mb10_s, mb11_s, mb12_s, mb13_s, mb14_s, mb15_s, mb16_s, mb17_s, mb18_s, mb19_s, mb20_s, mb21_s, mb22_s, mb23_s, mb24_s, ifI_t, ifI_f, isB_bI, bad10, no10, full10, bad11, badAs11, no11, full11, mb0_s, mb1_s, mb2_s, mb3_s, mb4_s, mb5_s, mb6_s, mb7_s, mb8_s, mb9_s, mb10_s, mb11_s, mb12_s, mb13_s, mb14_s, mb15_s, mb16_s, mb17_s, mb18_s, mb19_s, mb20_s, mb21_s, mb22_s, mb23_s, mb24_s, mg_tt, ib_0_2, ib_0_3, ib_0_4, ib_0_44, ib_0_117, ib_1_2, ib_1_3, ib_1_4, ib_1_117, ib_2_3, ib_2_4, ib_2_117, ib_3_4, ib_3_117, ib_4_117, ib_5_117, ib_44_117, tn_0, tn_1, tn_2, tn_3, tn_4, tn_5, tn_8, tn_10, tn_44, tn_72, cp_0, cp_1, cp_2, cp_3, cp_4]
    rw [if_pos trivial]
    exact ⟨_, _, _, _, _, _, _, _, rfl, rfl, ⟨rfl, rfl⟩, hE.bump 0⟩
  | true =>
  cases c3 : inR y2 0 16 with
  | false =>
    simp only [mb0_s, mb1_s, mb2_s, mb3_s, mb4_s, mb5_s, mb6_s, mb7_s, mb8_s, mb9_s, mb10_s, mb11_s, mb12_s, mb13_s, mb14_s, mb15_s, mb16_s, mb17_s, mb18_s, mb19_s, mb20_s, mb21_s, mb22_s, mb23_s, mb24_s, ifI_t, ifI_f, isB_bI, bad10, no10, full10, bad11, badAs11, no11, full11, mb0_s, mb1_s, mb2_s, mb3_s, mb4_s, mb5_s, mb6_s, mb7_s, mb8_s, mb9_s, mb10_s, mb11_s, mb12_s, mb13_s, mb14_s, mb15_s, mb16_s, mb17_s, mb18_s, mb19_s, mb20_s, mb21_s, mb22_s, mb23_s, mb24_s, mg_tt, ib_0_2, ib_0_3, ib_0_4, ib_0_44, ib_0_117, ib_1_2, ib_1_3, ib_1_4, ib_1_117, ib_2_3, ib_2_4, ib_2_117, ib_3_4, ib_3_117, ib_4_117, ib_5_117, ib_44_117, tn_0, tn_1, tn_2, tn_3, tn_4, tn_5, tn_8, tn_10, tn_44, tn_72, cp_0, cp_1, cp_2, cp_3, cp_4]
    rw [if_pos trivial]
    exact ⟨_, _, _, _, _, _, _, _, rfl, rfl, ⟨rfl, rfl⟩, hE.bump 0⟩
  | true =>
  cases c4 : inR y3 0 16 with
  | false =>
    simp only [mb0_s, mb1_s, mb2_s, mb3_s, mb4_s, mb5_s, mb6_s, mb7_s, mb8_s, mb9_s, mb10_s, mb11_s, mb12_s, mb13_s, mb14_s, mb15_s, mb16_s, mb17_s, mb18_s, mb19_s, mb20_s, mb21_s, mb22_s, mb23_s, mb24_s, ifI_t, ifI_f, isB_bI, bad10, no10, full10, bad11, badAs11, no11, full11, mb0_s, mb1_s, mb2_s, mb3_s, mb4_s, mb5_s, mb6_s, mb7_s, mb8_s, mb9_s, mb10_s, mb11_s, mb12_s, mb13_s, mb14_s, mb15_s, mb16_s, mb17_s, mb18_s, mb19_s, mb20_s, mb21_s, mb22_s, mb23_s, mb24_s, mg_tt, ib_0_2, ib_0_3, ib_0_4, ib_0_44, ib_0_117, ib_1_2, ib_1_3, ib_1_4, ib_1_117, ib_2_3, ib_2_4, ib_2_117, ib_3_4, ib_3_117, ib_4_117, ib_5_117, ib_44_117, tn_0, tn_1, tn_2, tn_3, tn_4, tn_5, tn_8, tn_10, tn_44, tn_72, cp_0, cp_1, cp_2, cp_3, cp_4]
    rw [if_pos trivial]
    exact ⟨_, _, _, _, _, _, _, _, rfl, rfl, ⟨rfl, rfl⟩, hE.bump 0⟩
  | true =>
  cases c5 : inR y4 0 16 with
  | false =>
    simp only [mb0_s, mb1_s, mb2_s, mb3_s, mb4_s, mb5_s, mb6_s, mb7_s, mb8_s, mb9_s, mb10_s, mb11_s, mb12_s, mb13_s, mb14_s, mb15_s, mb16_s, mb17_s, mb18_s, mb19_s, mb20_s, mb21_s, mb22_s, mb23_s, mb24_s, ifI_t, ifI_f, isB_bI, bad10, no10, full10, bad11, badAs11, no11, full11, mb0_s, mb1_s, mb2_s, mb3_s, mb4_s, mb5_s, mb6_s, mb7_s, mb8_s, mb9_s, mb10_s, mb11_s, mb12_s, mb13_s, mb14_s, mb15_s, mb16_s, mb17_s, mb18_s, mb19_s, mb20_s, mb21_s, mb22_s, mb23_s, mb24_s, mg_tt, ib_0_2, ib_0_3, ib_0_4, ib_0_44, ib_0_117, ib_1_2, ib_1_3, ib_1_4, ib_1_117, ib_2_3, ib_2_4, ib_2_117, ib_3_4, ib_3_117, ib_4_117, ib_5_117, ib_44_117, tn_0, tn_1, tn_2, tn_3, tn_4, tn_5, tn_8, tn_10, tn_44, tn_72, cp_0, cp_1, cp_2, cp_3, cp_4]
    rw [if_pos trivial]
    exact ⟨_, _, _, _, _, _, _, _, rfl, rfl, ⟨rfl, rfl⟩, hE.bump 0⟩
  | true =>
  obtain ⟨d, -, d2, rfl⟩ := inR_nI 0 4 rfl rfl c1
  obtain ⟨p, -, p2, rfl⟩ := inR_nI 0 16 rfl rfl c2
  obtain ⟨q, -, q2, rfl⟩ := inR_nI 0 16 rfl rfl c3
  obtain ⟨rr, -, r2, rfl⟩ := inR_nI 0 16 rfl rfl c4
  obtain ⟨u, -, u2, rfl⟩ := inR_nI 0 16 rfl rfl c5
  have hd : nI d = 0 ↔ ¬ 0 < nI d := by
    rw [show (0 : Int32) = nI 0 from rfl, nI_eq (by omega) (by omega), nI_ltI (by omega) (by omega)]
    omega
  have hl := lays 99995 hd (nI p) (nI q) (nI rr) (nI u) m_level
  obtain ⟨a, a1, a2⟩ := lev_n d2 0 0 p2 r2
  obtain ⟨b, b1, b2⟩ := lev_n d2 1 0 q2 r2
  obtain ⟨c, c6, c7⟩ := lev_n d2 0 1 p2 u2
  obtain ⟨e, e1, e2⟩ := lev_n d2 1 1 q2 u2
  have a3 : zLev (nI d) 1 (nI p) 1 (nI rr) = nI a := a2
  have b3 : zLev (nI d) 2 (nI q) 1 (nI rr) = nI b := b2
  have c8 : zLev (nI d) 1 (nI p) 2 (nI u) = nI c := c7
  have e3 : zLev (nI d) 2 (nI q) 2 (nI u) = nI e := e2
  rw [a3, b3, c8, e3] at hl
  simp only [mb0_s, mb1_s, mb2_s, mb3_s, mb4_s, mb5_s, mb6_s, mb7_s, mb8_s, mb9_s, mb10_s, mb11_s, mb12_s, mb13_s, mb14_s, mb15_s, mb16_s, mb17_s, mb18_s, mb19_s, mb20_s, mb21_s, mb22_s, mb23_s, mb24_s, ifI_t, ifI_f, isB_bI, bad10, no10, full10, bad11, badAs11, no11, full11, mb0_s, mb1_s, mb2_s, mb3_s, mb4_s, mb5_s, mb6_s, mb7_s, mb8_s, mb9_s, mb10_s, mb11_s, mb12_s, mb13_s, mb14_s, mb15_s, mb16_s, mb17_s, mb18_s, mb19_s, mb20_s, mb21_s, mb22_s, mb23_s, mb24_s, mg_tt, ib_0_2, ib_0_3, ib_0_4, ib_0_44, ib_0_117, ib_1_2, ib_1_3, ib_1_4, ib_1_117, ib_2_3, ib_2_4, ib_2_117, ib_3_4, ib_3_117, ib_4_117, ib_5_117, ib_44_117, tn_0, tn_1, tn_2, tn_3, tn_4, tn_5, tn_8, tn_10, tn_44, tn_72, cp_0, cp_1, cp_2, cp_3, cp_4]
  rw [if_neg (show ¬ ((1 : Int32) = 0) from by decide)]
  unfold f_X11_laysLevel
  rw [show f_X11_laysLevel_L3 100000 (nI d) (nI p) (nI q) (nI rr) (nI u) 0 m_level = _ from hl, mb1_s]
  simp only [lev10, a3, b3, c8, e3, mb1_s]
  obtain ⟨A, B, h1, h2⟩ := both_f a1 b1 c6 e1 m_above m_below m_refused (upd (upd (upd (upd m_level 0 (nI a)) 1 (nI b)) 2 (nI c)) 3 (nI e)) (by simp (disch := omega) only [up_s, up_n]) (by simp (disch := omega) only [up_s, up_n]) (by simp (disch := omega) only [up_s, up_n]) (up_s _ _ _)
  rw [h1, h2, mb2_s, rs10 a1 b1 c6, rs10 c6 e1 a1, rs10 b1 a1 e1, rs10 e1 c6 b1, mb1_s, mb1_s, mb1_s, mb1_s]
  exact ⟨_, _, _, _, _, _, _, _, rfl, rfl, ⟨rfl, rfl⟩, hE⟩
