set_option maxRecDepth 8000
theorem zSel_t {set : Int32} {i : Nat} {p : Prop} (h : (set >>> (nI i &&& 31)) &&& 1 = 1 ↔ p) : zSel set i = true ↔ p := by
  unfold zSel
  rw [decide_eq_true_eq]
  exact h
theorem hPart {nm w : Nat} {s ks cs : Nat → Int32} (b1 : nm ≤ 8) (hw : w ≤ 3) (hk : ∀ n : Nat, n < nm → s (6 + n) = ks n ∧ ∃ j : Nat, j ≤ 5 ∧ ks n = nI j) (hc : ∀ i : Nat, i < nm → ∀ j : Nat, ks i = nI j → j ≤ 5 → cs (4 * j + w) = zCode (nI j) (nI w)) : ∀ i : Nat, i < nm → zP ks w i ≤ 160 ∧ f_X0_partOf (nI i) 0 (nI nm) (nI w) ks cs = some (nI (zP ks w i)) := by
  intro i hi
  obtain ⟨-, j, j1, j2⟩ := hk i hi
  refine ⟨(zP_r hw j1 j2).1, ?_⟩
  have := part10 b1 hi j1 hw j2 (hc i hi j j2 j1) (x := 0) (by omega)
  rw [show nI 0 = 0 from nI_0] at this
  rw [this]
  unfold zP
  rw [zKd_e j1 j2]
  rfl
theorem op_worth {c_now_stones_many : Int32} {c_now_stones_wetness : Int32} {c_now_stones_kinds : Nat → Int32} {c_now_game_player : Int32} {c_now_game_undoable : Int32} {c_now_game_totals : Nat → Int32} {c_now_game_gains : Nat → Int32} {c_now_written_many : Int32} {c_now_written_cells : Nat → Int32} {c_spread_ways : Nat → Int32} {c_spread_anyBack : Nat → Int32} {c_spread_edgeBack : Nat → Int32} {c_bests_codes : Nat → Int32} {c_refused : Nat → Int32} {m_most : Int32} {m_found : Int32} {m_s : Nat → Int32} {m_refused : Nat → Int32} (hN : NowR c_now_stones_kinds c_now_stones_many c_now_stones_wetness c_now_game_totals c_now_game_gains c_now_game_player c_now_game_undoable c_now_written_cells c_now_written_many m_s) (hC : CodR c_bests_codes ) (hE : RefR c_refused m_refused) (y0 : Int32) : ∃ (r : Int32) (dc_refused : Nat → Int32) (dc_bests_codes : Nat → Int32) (dc_spread_ways : Nat → Int32) (dc_spread_anyBack : Nat → Int32) (dc_spread_edgeBack : Nat → Int32) (dm_most : Int32) (dm_found : Int32) (dm_refused : Nat → Int32), f_X10_worth y0 c_now_stones_many c_now_stones_wetness c_refused c_now_stones_kinds c_bests_codes c_spread_ways c_spread_anyBack c_spread_edgeBack = some (r, dc_refused, dc_bests_codes, dc_spread_ways, dc_spread_anyBack, dc_spread_edgeBack) ∧ f_X11_worth y0 m_most m_found m_s m_refused = some (r, dm_most, dm_found, dm_refused) ∧ CodR dc_bests_codes  ∧ RefR dc_refused dm_refused := by
  obtain ⟨⟨nm, nw, b1, b2, rfl, rfl, e0, e1, hk⟩, hG, hB⟩ := hN
  unfold f_X10_worth f_X11_worth
  rw [has10 b1, isStone11 b1 e0]
  cases hg : inR y0 0 (nI nm - 1) with
  | false =>
    rw [mb1_s, if_pos bI_f, bad10, mb2_s, mb1_s, if_pos bI_f, bad11, mb2_s]
    exact ⟨_, _, _, _, _, _, _, _, _, rfl, rfl, hC, hE.bump 0⟩
  | true =>
    have e : (nI nm - 1).toInt = (nm : Int) - 1 := by
      rw [nI_z, zl_1, zI_sub, zI_i (by omega) (by omega)]
    obtain ⟨a', a1, a2, rfl⟩ := inR_z 0 ((nm : Int) - 1) rfl e hg
    obtain ⟨a, rfl⟩ : ∃ a : Nat, a' = (a : Int) := ⟨a'.toNat, by omega⟩
    rw [← nI_z]
    have ha : a < nm := by omega
    obtain ⟨cs, p1, p2, p3, r1, r2, r3⟩ := reck b1 b2 (fun i hi => (hk i hi).2) hC c_spread_ways c_spread_anyBack c_spread_edgeBack
    have hP := hPart b1 b2 hk r3
    have m1 := most10 (w := nw) b1 hP (a := 0) (e := nm) (by omega) (by omega) (sel := zSel 255) (wo := -1) (fun i hi => by
      rw [zSel_t (p := True) ⟨fun _ => trivial, fun _ => bit255 ⟨i, by omega⟩⟩]
      refine ⟨fun _ => ⟨by omega, hi, ?_⟩, fun _ => trivial⟩
      rw [nI_z, zl_1, zI_neg, zI_eq (by omega) (by omega) (by omega) (by omega)]; omega)
    have m2 := most10 (w := nw) b1 hP (a := 0) (e := nm) (by omega) (by omega) (sel := zSel ((255 : Int32) &&& (((1 : Int32) <<< (nI a &&& 31)) ^^^ (-1 : Int32)))) (wo := nI a) (fun i hi => by
      rw [zSel_t (bitno ⟨a, by omega⟩ ⟨i, by omega⟩), nI_eq (by omega) (by omega)]
      exact ⟨fun q => ⟨by omega, hi, q⟩, fun q => q.2.2⟩)
    rw [show nI 0 = 0 from nI_0] at m1 m2
    rw [mb1_s, if_neg (show ¬ bI true = 0 from by decide), r1, mb4_s, m1, mb1_s, m2, mb1_s]
    rw [mb1_s, if_neg (show ¬ bI true = 0 from by decide), lay11 b1 b2 e0 e1 hk, mb3_s, lay11 b1 b2 e0 e1 hk, mb3_s]
    exact ⟨_, _, _, _, _, _, _, _, _, rfl, rfl, r2, hE⟩
theorem op_sides {c_now_stones_many : Int32} {c_now_stones_wetness : Int32} {c_now_stones_kinds : Nat → Int32} {c_now_game_player : Int32} {c_now_game_undoable : Int32} {c_now_game_totals : Nat → Int32} {c_now_game_gains : Nat → Int32} {c_now_written_many : Int32} {c_now_written_cells : Nat → Int32} {c_spread_ways : Nat → Int32} {c_spread_anyBack : Nat → Int32} {c_spread_edgeBack : Nat → Int32} {c_bests_codes : Nat → Int32} {c_refused : Nat → Int32} {m_most : Int32} {m_found : Int32} {m_s : Nat → Int32} {m_refused : Nat → Int32} (hN : NowR c_now_stones_kinds c_now_stones_many c_now_stones_wetness c_now_game_totals c_now_game_gains c_now_game_player c_now_game_undoable c_now_written_cells c_now_written_many m_s) (hC : CodR c_bests_codes ) (hE : RefR c_refused m_refused) (y0 : Int32) : ∃ (r : Int32) (dc_bests_codes : Nat → Int32) (dc_spread_ways : Nat → Int32) (dc_spread_anyBack : Nat → Int32) (dc_spread_edgeBack : Nat → Int32) (dc_refused : Nat → Int32) (dm_most : Int32) (dm_found : Int32) (dm_refused : Nat → Int32), f_X10_sides y0 c_now_stones_many c_now_stones_wetness c_now_stones_kinds c_bests_codes c_spread_ways c_spread_anyBack c_spread_edgeBack c_refused = some (r, dc_bests_codes, dc_spread_ways, dc_spread_anyBack, dc_spread_edgeBack, dc_refused) ∧ f_X11_sides y0 m_most m_found m_s m_refused = some (r, dm_most, dm_found, dm_refused) ∧ CodR dc_bests_codes  ∧ RefR dc_refused dm_refused := by
  obtain ⟨⟨nm, nw, b1, b2, rfl, rfl, e0, e1, hk⟩, hG, hB⟩ := hN
  unfold f_X10_sides f_X11_sides
  rw [ib_0_117, mg_tt, tn_0, e0, cw, mw y0 1 (nI nm - 1) (lo' := 1) rfl rfl]
  cases hg : inR y0 1 (nI nm - 1) with
  | false =>
    rw [mb1_s, if_pos bI_f, bad10, mb2_s, mb1_s, if_pos bI_f, badAs11, mb2_s]
    exact ⟨_, _, _, _, _, _, _, _, _, rfl, rfl, hC, hE.bump 0⟩
  | true =>
    have e : (nI nm - 1).toInt = (nm : Int) - 1 := by
      rw [nI_z, zl_1, zI_sub, zI_i (by omega) (by omega)]
    obtain ⟨a', a1, a2, rfl⟩ := inR_z 1 ((nm : Int) - 1) rfl e hg
    obtain ⟨a, rfl⟩ : ∃ a : Nat, a' = (a : Int) := ⟨a'.toNat, by omega⟩
    rw [← nI_z]
    have ha : a < nm := by omega
    obtain ⟨cs, p1, p2, p3, r1, r2, r3⟩ := reck b1 b2 (fun i hi => (hk i hi).2) hC c_spread_ways c_spread_anyBack c_spread_edgeBack
    have hP := hPart b1 b2 hk r3
    have nn : ∀ i : Nat, i < nm → ¬ nI i = -1 := fun i hi => by
      rw [nI_z, zl_1, zI_neg, zI_eq (by omega) (by omega) (by omega) (by omega)]; omega
    have m1 := most10 (w := nw) b1 hP (a := 0) (e := a) (by omega) (by omega) (sel := zSel (((1 : Int32) <<< (nI a &&& 31)) - 1)) (wo := -1) (fun i hi => by
      rw [zSel_t (bitlo ⟨a, by omega⟩ ⟨i, by omega⟩)]
      exact ⟨fun q => ⟨by omega, q, nn i hi⟩, fun q => q.2.1⟩)
    have m2 := most10 (w := nw) b1 hP (a := a) (e := nm) (by omega) (by omega) (sel := zSel ((255 : Int32) &&& ((((1 : Int32) <<< (nI a &&& 31)) - 1) ^^^ (-1 : Int32)))) (wo := -1) (fun i hi => by
      rw [zSel_t (bithi ⟨a, by omega⟩ ⟨i, by omega⟩)]
      exact ⟨fun q => ⟨q, hi, nn i hi⟩, fun q => q.1⟩)
    rw [show nI 0 = 0 from nI_0] at m1
    rw [mb1_s, if_neg (show ¬ bI true = 0 from by decide), r1, mb4_s, m1, mb1_s, m2, mb1_s]
    rw [mb1_s, if_neg (show ¬ bI true = 0 from by decide), lay11 b1 b2 e0 e1 hk, mb3_s, lay11 b1 b2 e0 e1 hk, mb3_s]
    exact ⟨_, _, _, _, _, _, _, _, _, rfl, rfl, r2, hE⟩
/-- the same part of the best throw, out of the model's place -/
theorem last_e {s ks : Nat → Int32} {nm w i0 : Nat} (b1 : nm ≤ 8) (hw : w ≤ 3) (hi : i0 < nm) (hr : zP ks w i0 ≤ 160 ∧ zI2 ks w i0 < 1890) {set m f : Int32} {r : Nat → Int32} {x : Nat} (hx : x ≤ 4) (hlay : f_X11_laysBest set m f s = some (nI (zP ks w i0), zI ((zP ks w i0 : Nat) : Int), zI ((1890 * i0 + zI2 ks w i0 : Nat) : Int))) : f_X11_best_L47 s (nI x) set m f r = some (nI (if x = 1 then i0 else if x = 2 then 1 + zI2 ks w i0 / 210 else if x = 3 then zI2 ks w i0 / 21 % 10 else if x = 4 then zI2 ks w i0 % 21 else zP ks w i0), zI ((zP ks w i0 : Nat) : Int), zI ((1890 * i0 + zI2 ks w i0 : Nat) : Int), r) := by
  unfold f_X11_best_L47
  obtain ⟨k1, k2, k3, k4⟩ := dec_k (i := i0) (n := zI2 ks w i0) (by omega) hr.2
  rw [nI_z (1890 * i0 + zI2 ks w i0)] at k1 k2 k3 k4
  have hn : ¬ zI ((1890 * i0 + zI2 ks w i0 : Nat) : Int) = -1 := by
    rw [zl_1, zI_neg, zI_eq (by omega) (by omega) (by omega) (by omega)]; omega
  rw [hlay, mb3_s, if_neg hn, k1, k2, k3, k4]
  obtain rfl | rfl | rfl | rfl | rfl : x = 0 ∨ x = 1 ∨ x = 2 ∨ x = 3 ∨ x = 4 := by omega
  · rw [if_pos (show nI 0 = 0 from nI_0), if_neg (by omega), if_neg (by omega), if_neg (by omega), if_neg (by omega)]
  · rw [if_neg (show ¬ nI 1 = 0 from by decide), if_pos (show nI 1 = 1 from rfl), if_pos (rfl : 1 = 1)]
  · rw [if_neg (show ¬ nI 2 = 0 from by decide), if_neg (show ¬ nI 2 = 1 from by decide), if_pos (show nI 2 = 2 from rfl), if_neg (by omega), if_pos (rfl : 2 = 2)]
  · rw [if_neg (show ¬ nI 3 = 0 from by decide), if_neg (show ¬ nI 3 = 1 from by decide), if_neg (show ¬ nI 3 = 2 from by decide), if_pos (show nI 3 = 3 from rfl), if_neg (by omega), if_neg (by omega), if_pos (rfl : 3 = 3)]
  · rw [if_neg (show ¬ nI 4 = 0 from by decide), if_neg (show ¬ nI 4 = 1 from by decide), if_neg (show ¬ nI 4 = 2 from by decide), if_neg (show ¬ nI 4 = 3 from by decide), if_neg (by omega), if_neg (by omega), if_neg (by omega), if_pos (rfl : 4 = 4)]
theorem op_best {c_now_stones_many : Int32} {c_now_stones_wetness : Int32} {c_now_stones_kinds : Nat → Int32} {c_now_game_player : Int32} {c_now_game_undoable : Int32} {c_now_game_totals : Nat → Int32} {c_now_game_gains : Nat → Int32} {c_now_written_many : Int32} {c_now_written_cells : Nat → Int32} {c_spread_ways : Nat → Int32} {c_spread_anyBack : Nat → Int32} {c_spread_edgeBack : Nat → Int32} {c_bests_codes : Nat → Int32} {c_refused : Nat → Int32} {m_most : Int32} {m_found : Int32} {m_s : Nat → Int32} {m_refused : Nat → Int32} (hN : NowR c_now_stones_kinds c_now_stones_many c_now_stones_wetness c_now_game_totals c_now_game_gains c_now_game_player c_now_game_undoable c_now_written_cells c_now_written_many m_s) (hC : CodR c_bests_codes ) (hE : RefR c_refused m_refused) (y0 : Int32) (y1 : Int32) : ∃ (r : Int32) (dc_refused : Nat → Int32) (dc_bests_codes : Nat → Int32) (dc_spread_ways : Nat → Int32) (dc_spread_anyBack : Nat → Int32) (dc_spread_edgeBack : Nat → Int32) (dm_most : Int32) (dm_found : Int32) (dm_refused : Nat → Int32), f_X10_best y0 y1 c_now_stones_many c_now_stones_wetness c_refused c_now_stones_kinds c_bests_codes c_spread_ways c_spread_anyBack c_spread_edgeBack = some (r, dc_refused, dc_bests_codes, dc_spread_ways, dc_spread_anyBack, dc_spread_edgeBack) ∧ f_X11_best y0 y1 m_most m_found m_s m_refused = some (r, dm_most, dm_found, dm_refused) ∧ CodR dc_bests_codes  ∧ RefR dc_refused dm_refused := by
  obtain ⟨⟨nm, nw, b1, b2, rfl, rfl, e0, e1, hk⟩, hG, hB⟩ := hN
  unfold f_X10_best f_X11_best f_X10_best_L19 f_X10_best_L24 f_X10_best_L38 f_X11_best_L25 f_X11_best_L32
  rw [has10 b1, isStone11 b1 e0, cw, mw y1 0 4 (lo' := 0) (hi' := 4) rfl rfl]
  have t1 : ¬ ((1 : Int32) = 0) := by decide
  have tt : ¬ bI true = 0 := by decide
  cases hg : inR y1 0 4 with
  | false =>
    rw [mb1_s, if_pos bI_f]
    rw [mb1_s]
    rw [mb1_s, if_pos bI_f, badAs11, mb2_s, bad10, mb2_s, if_pos (rfl : (0 : Int32) = 0), if_neg t1]
    by_cases h1 : y0 = -1
    · rw [if_pos h1]
      exact ⟨_, _, _, _, _, _, _, _, _, rfl, rfl, hC, hE.bump 0⟩
    · rw [if_neg h1]
      by_cases h2 : bI (inR y0 0 (nI nm - 1)) = 0
      · rw [if_pos h2]
        exact ⟨_, _, _, _, _, _, _, _, _, rfl, rfl, hC, hE.bump 0⟩
      · rw [if_neg h2]
        exact ⟨_, _, _, _, _, _, _, _, _, rfl, rfl, hC, hE.bump 0⟩
  | true =>
    obtain ⟨x, -, x2, rfl⟩ := inR_nI 0 4 rfl rfl hg
    obtain ⟨cs, p1, p2, p3, r1, r2, r3⟩ := reck b1 b2 (fun i hi => (hk i hi).2) hC c_spread_ways c_spread_anyBack c_spread_edgeBack
    have hP := hPart b1 b2 hk r3
    have nn : ∀ i : Nat, i < nm → ¬ nI i = -1 := fun i hi => by
      rw [nI_z, zl_1, zI_neg, zI_eq (by omega) (by omega) (by omega) (by omega)]; omega
    have pt : ∀ i0 : Nat, i0 < nm → f_X10_best_L76 (nI nm) (nI nw) c_now_stones_kinds (nI x) (nI i0) c_refused cs p1 p2 p3 = some (nI (if x = 1 then i0 else if x = 2 then 1 + zI2 c_now_stones_kinds nw i0 / 210 else if x = 3 then zI2 c_now_stones_kinds nw i0 / 21 % 10 else if x = 4 then zI2 c_now_stones_kinds nw i0 % 21 else zP c_now_stones_kinds nw i0), c_refused, cs, p1, p2, p3) := by
      intro i0 hi0
      obtain ⟨-, j, j1, j2⟩ := hk i0 hi0
      have h := part10 b1 hi0 j1 b2 j2 (r3 i0 hi0 j j2 j1) (x := x) x2
      unfold f_X10_best_L76
      rw [if_neg (nn i0 hi0), h, mb1_s]
      unfold zP zI2
      rw [zKd_e j1 j2]
    rw [mb1_s, if_neg tt]
    rw [mb1_s]
    rw [mb1_s, if_neg tt, if_pos (rfl : (0 : Int32) = 0), if_neg t1, r1, mb4_s]
    by_cases h1 : y0 = -1
    · rw [if_pos h1, if_pos h1, if_pos h1, if_pos h1]
      have hall : ∀ i : Nat, i < nm → zSel 255 i = true := fun i hi => (zSel_t (p := True) ⟨fun _ => trivial, fun _ => bit255 ⟨i, by omega⟩⟩).mpr trivial
      have m1 := most10 (w := nw) b1 hP (a := 0) (e := nm) (by omega) (by omega) (sel := zSel 255) (wo := -1) (fun i hi => by
        exact ⟨fun _ => ⟨by omega, hi, nn i hi⟩, fun _ => hall i hi⟩)
      rw [show nI 0 = 0 from nI_0] at m1
      have hl := lay11 b1 b2 e0 e1 hk 255 m_most m_found
      have hzc := (zF_C (zSel 255) (zP c_now_stones_kinds nw) (zI2 c_now_stones_kinds nw) nm).2
      unfold f_X10_bestStone
      rw [m1, mb1_s]
      by_cases hz : nm = 0
      · subst hz
        have z2 : f_X10_bestStone_L19 (nI 0) (nI nw) c_now_stones_kinds cs 100000 (nI (zC (zSel 255) (zP c_now_stones_kinds nw) 0)) 0 = some (-1) := by
          rw [show 100000 = 99999 + 1 from rfl]
          unfold f_X10_bestStone_L19
          rw [if_pos (by decide)]
        rw [z2, mb1_s]
        unfold f_X10_best_L76 f_X11_best_L47
        rw [if_pos rfl, hl, mb3_s, if_pos (show zI (zF (zSel 255) (zP c_now_stones_kinds nw) (zI2 c_now_stones_kinds nw) 0).2 = -1 from by unfold zF; rfl)]
        exact ⟨_, _, _, _, _, _, _, _, _, rfl, rfl, r2, hE⟩
      · obtain ⟨i0, q1, q2, q3⟩ := zF_all (sel := zSel 255) (mP := zP c_now_stones_kinds nw) (mI := zI2 c_now_stones_kinds nw) nm (by omega) hall
        rw [q2] at hzc hl
        have hcc : zC (zSel 255) (zP c_now_stones_kinds nw) nm = zP c_now_stones_kinds nw i0 := by
          have h5 : (zC (zSel 255) (zP c_now_stones_kinds nw) nm : Int) = max 0 (zP c_now_stones_kinds nw i0 : Int) := hzc
          omega
        rw [hcc] at hl ⊢
        have hf := first_l (w := nw) b1 hP q1 q3 i0 100000 (by omega) (by omega)
        rw [Nat.sub_self, show nI 0 = 0 from nI_0] at hf
        obtain ⟨-, j, j1, j2⟩ := hk i0 q1
        rw [hf, mb1_s, pt i0 q1, last_e b1 b2 q1 (zP_r b2 j1 j2) x2 hl]
        exact ⟨_, _, _, _, _, _, _, _, _, rfl, rfl, r2, hE⟩
    · rw [if_neg h1, if_neg h1, if_neg h1, if_neg h1, mb1_s]
      cases hs : inR y0 0 (nI nm - 1) with
      | false =>
        rw [if_pos bI_f, if_pos bI_f, badAs11, mb2_s, bad10, mb2_s]
        exact ⟨_, _, _, _, _, _, _, _, _, rfl, rfl, hC, hE.bump 0⟩
      | true =>
        have e : (nI nm - 1).toInt = (nm : Int) - 1 := by
          rw [nI_z, zl_1, zI_sub, zI_i (by omega) (by omega)]
        obtain ⟨a', a1, a2, rfl⟩ := inR_z 0 ((nm : Int) - 1) rfl e hs
        obtain ⟨a, rfl⟩ : ∃ a : Nat, a' = (a : Int) := ⟨a'.toNat, by omega⟩
        rw [← nI_z]
        have ha : a < nm := by omega
        have hone := zF_one (sel := zSel ((1 : Int32) <<< (nI a &&& 31))) (mP := zP c_now_stones_kinds nw) (mI := zI2 c_now_stones_kinds nw) (a := a) nm (fun i hi => zSel_t (bit1 ⟨a, by omega⟩ ⟨i, by omega⟩))
        rw [if_pos ha] at hone
        have hl := lay11 b1 b2 e0 e1 hk ((1 : Int32) <<< (nI a &&& 31)) m_most m_found
        have hzc := (zF_C (zSel ((1 : Int32) <<< (nI a &&& 31))) (zP c_now_stones_kinds nw) (zI2 c_now_stones_kinds nw) nm).2
        rw [hone] at hzc hl
        have hcc : zC (zSel ((1 : Int32) <<< (nI a &&& 31))) (zP c_now_stones_kinds nw) nm = zP c_now_stones_kinds nw a := by
          have h5 : (zC (zSel ((1 : Int32) <<< (nI a &&& 31))) (zP c_now_stones_kinds nw) nm : Int) = max 0 (zP c_now_stones_kinds nw a : Int) := hzc
          omega
        rw [hcc] at hl
        obtain ⟨-, j, j1, j2⟩ := hk a ha
        rw [if_neg tt, if_neg tt, pt a ha, last_e b1 b2 ha (zP_r b2 j1 j2) x2 hl]
        exact ⟨_, _, _, _, _, _, _, _, _, rfl, rfl, r2, hE⟩
