set_option maxRecDepth 8000
/-! images -/
theorem StnR.cl {k k' : Nat → Int32} {m w : Int32} {s : Nat → Int32} (h : StnR k m w s) (hk : ∀ j : Nat, j < 8 → k' j = k j) : StnR k' m w s := by
  obtain ⟨nm, nw, h1, h2, h3, h4, h5, h6, h7⟩ := h
  exact ⟨nm, nw, h1, h2, h3, h4, h5, h6, fun j hj => by rw [hk j (by omega)]; exact h7 j hj⟩
theorem GamR.cl {t t' g g' : Nat → Int32} {p u : Int32} {s : Nat → Int32} (h : GamR t g p u s) (ht : ∀ j : Nat, j < 2 → t' j = t j) (hg : ∀ j : Nat, j < 10 → g' j = g j) : GamR t' g' p u s := by
  obtain ⟨n, q, h1, h2, h3, h4, h5, h6, h7, h8, h9⟩ := h
  refine ⟨n, q, h1, h2, h3, h4, h5, h6, by rw [ht 0 (by omega)]; exact h7, by rw [ht 1 (by omega)]; exact h8, fun j hj => by rw [hg j (by omega)]; exact h9 j hj⟩
theorem BokR.cl {c c' : Nat → Int32} {m : Int32} {s : Nat → Int32} (h : BokR c m s) (hc : ∀ j : Nat, j < 72 → c' j = c j) : BokR c' m s := by
  obtain ⟨n, h1, h2, h3, h4⟩ := h
  refine ⟨n, h1, h2, h3, fun r hr => ?_⟩
  obtain ⟨a1, a, f, hh, y, sl, pt, b0, b1, b2, b3, b4, b5, b6⟩ := h4 r hr
  refine ⟨fun c hc6 => by rw [hc _ (by omega)]; exact a1 c hc6, a, f, hh, y, sl, pt, b0, ?_, ?_, ?_, ?_, ?_, ?_⟩
  all_goals rw [hc _ (by omega)]; assumption
theorem NowR.fr {k : Nat → Int32} {m w : Int32} {t g : Nat → Int32} {p u : Int32} {c : Nat → Int32} {b : Int32} {s s' : Nat → Int32} (h : NowR k m w t g p u c b s) (hs : ∀ j : Nat, j < 117 → s' j = s j) : NowR k m w t g p u c b s' :=
  ⟨h.1.fr (fun j a => hs j (by omega)), h.2.1.fr (fun j a a2 a3 => hs j (by omega)), h.2.2.fr (fun j a a2 => hs j a2)⟩
theorem cpy_e (f g : Nat → Int32) {n k : Nat} (h : k < n) : va_cpy f g 0 0 n k = f k := by
  unfold va_cpy
  rw [if_pos (by omega)]
  congr 1
  omega
theorem NowR.cp {k k0 : Nat → Int32} {m w : Int32} {t t0 g g0 : Nat → Int32} {p u : Int32} {c c0 : Nat → Int32} {b : Int32} {s : Nat → Int32} (h : NowR k m w t g p u c b s) : NowR (va_cpy k k0 0 0 8) m w (va_cpy t t0 0 0 2) (va_cpy g g0 0 0 10) p u (va_cpy c c0 0 0 72) b s :=
  ⟨h.1.cl (fun j a => cpy_e _ _ a), h.2.1.cl (fun j a => cpy_e _ _ a) (fun j a => cpy_e _ _ a), h.2.2.cl (fun j a => cpy_e _ _ a)⟩
theorem held10 (m0 w0 m w : Int32) (k0 k : Nat → Int32) (p0 u0 p u : Int32) (t0 t g0 g : Nat → Int32) (b0 b : Int32) (c0 c : Nat → Int32) : f_X4_copyFrom m0 w0 m w k0 k p0 u0 p u t0 t g0 g b0 b c0 c = some (m, w, va_cpy k k0 0 0 8, p, u, va_cpy t t0 0 0 2, va_cpy g g0 0 0 10, b, va_cpy c c0 0 0 72) := by
  unfold f_X4_copyFrom f_X8_copyFrom f_X3_copyFrom f_X1_copyFrom
  simp only [mb0_s, mb1_s, mb2_s, mb3_s, mb4_s, mb5_s, mb6_s, mb7_s, mb8_s, mb9_s, mb10_s, mb11_s, mb12_s, mb13_s, mb14_s, mb15_s, mb16_s, mb17_s, mb18_s, mb19_s, mb20_s, mb21_s, mb22_s, mb23_s, mb24_s, mg_tt, ib_0_2, ib_0_3, ib_0_4, ib_0_44, ib_0_117, ib_1_2, ib_1_3, ib_1_4, ib_1_117, ib_2_3, ib_2_4, ib_2_117, ib_3_4, ib_3_117, ib_4_117, ib_5_117, ib_44_117, tn_0, tn_1, tn_2, tn_3, tn_4, tn_5, tn_8, tn_10, tn_44, tn_72, cp_0, cp_1, cp_2, cp_3, cp_4]
  simp only [on_2, on_8, on_10, on_72, tn_0, tn_2, tn_8, tn_10, tn_72]
theorem img_l (s r : Nat → Int32) (kp : Nat → Int32) {i : Nat} (hi : i ≤ 1) : ∀ (d N : Nat) (im : Nat → Int32), d ≤ 117 → d < N → ∃ im' : Nat → Int32, f_X11_image_L17 s N (nI i) (nI (117 - d)) im kp r = some (1, im', upd kp i 1, r) ∧ (∀ k : Nat, 117 - d ≤ k → k < 117 → im' (117 * i + k) = s k) ∧ ∀ k : Nat, ¬ (117 * i + (117 - d) ≤ k ∧ k < 117 * i + 117) → im' k = im k
  | 0, N + 1, im, _, _ => by
    refine ⟨im, ?_, fun k a b => by omega, fun k _ => rfl⟩
    unfold f_X11_image_L17
    rw [if_pos (by decide), inB_nI (show i < 2 by omega) (by omega), mg_tt, clN (by omega)]
  | d + 1, N + 1, im, h1, h2 => by
    have e0 : nI (117 - (d + 1)) + 1 = nI (117 - d) := by rw [nI_1]; congr 1; omega
    have e3 : (117 : Int32) * nI i + nI (117 - (d + 1)) = nI (117 * i + (117 - (d + 1))) := by
      rw [← nI_add]; congr 1
      rw [nI_z, nI_z, zl_117, zI_mul]; congr 1
    obtain ⟨im', a1, a2, a3⟩ := img_l s r kp hi d N (upd im (117 * i + (117 - (d + 1))) (s (117 - (d + 1)))) (by omega) (by omega)
    refine ⟨im', ?_, fun k b1 b2 => ?_, fun k b1 => ?_⟩
    · unfold f_X11_image_L17
      rw [if_neg, inB_nI (show 117 - (d + 1) < 117 by omega) (by omega), e3, inB_nI (show 117 * i + (117 - (d + 1)) < 234 by omega) (by omega), mg_tt, mg_tt, clN (by omega), clN (by omega), e0]
      · exact a1
      · show ¬ nI 117 ≤ nI _
        rw [nI_leI (by omega) (by omega)]
        omega
    · by_cases hk : k = 117 - (d + 1)
      · rw [a3 _ (by omega), hk, up_s]
      · exact a2 k (by omega) b2
    · rw [a3 k (by omega), up_n (by omega)]
theorem frm_l (r kp im : Nat → Int32) {i : Nat} (hi : i ≤ 1) : ∀ (d N : Nat) (s : Nat → Int32), d ≤ 117 → d < N → ∃ s' : Nat → Int32, f_X11_from_L31 kp im N (nI i) (nI (117 - d)) s r = some (1, s', r) ∧ (∀ k : Nat, 117 - d ≤ k → k < 117 → s' k = im (117 * i + k))
  | 0, N + 1, s, _, _ => by
    refine ⟨s, ?_, fun k a b => by omega⟩
    unfold f_X11_from_L31
    rw [if_pos (by decide)]
  | d + 1, N + 1, s, h1, h2 => by
    have e0 : nI (117 - (d + 1)) + 1 = nI (117 - d) := by rw [nI_1]; congr 1; omega
    have e3 : (117 : Int32) * nI i + nI (117 - (d + 1)) = nI (117 * i + (117 - (d + 1))) := by
      rw [← nI_add]; congr 1
      rw [nI_z, nI_z, zl_117, zI_mul]; congr 1
    have key : ∀ (d N : Nat) (s : Nat → Int32), d ≤ 117 → d < N → ∃ s' : Nat → Int32, f_X11_from_L31 kp im N (nI i) (nI (117 - d)) s r = some (1, s', r) ∧ (∀ k : Nat, 117 - d ≤ k → k < 117 → s' k = im (117 * i + k)) ∧ (∀ k : Nat, k < 117 - d → s' k = s k) := by
      intro d
      induction d with
      | zero =>
        intro N s _ hN
        obtain ⟨N, rfl⟩ : ∃ n, N = n + 1 := ⟨N - 1, by omega⟩
        refine ⟨s, ?_, fun k a b => by omega, fun k _ => rfl⟩
        unfold f_X11_from_L31
        rw [if_pos (by decide)]
      | succ d ih =>
        intro N s h1 hN
        obtain ⟨N, rfl⟩ : ∃ n, N = n + 1 := ⟨N - 1, by omega⟩
        have e0 : nI (117 - (d + 1)) + 1 = nI (117 - d) := by rw [nI_1]; congr 1; omega
        have e3 : (117 : Int32) * nI i + nI (117 - (d + 1)) = nI (117 * i + (117 - (d + 1))) := by
          rw [← nI_add]; congr 1
          rw [nI_z, nI_z, zl_117, zI_mul]; congr 1
        obtain ⟨s', a1, a2, a3⟩ := ih N (upd s (117 - (d + 1)) (im (117 * i + (117 - (d + 1))))) (by omega) (by omega)
        refine ⟨s', ?_, fun k b1 b2 => ?_, fun k b1 => ?_⟩
        · unfold f_X11_from_L31
          rw [if_neg, inB_nI (show 117 - (d + 1) < 117 by omega) (by omega), e3, inB_nI (show 117 * i + (117 - (d + 1)) < 234 by omega) (by omega), mg_tt, mg_tt, clN (by omega), clN (by omega), e0]
          · exact a1
          · show ¬ nI 117 ≤ nI _
            rw [nI_leI (by omega) (by omega)]
            omega
        · by_cases hk : k = 117 - (d + 1)
          · rw [a3 k (by omega), hk, up_s]
          · exact a2 k (by omega) b2
        · rw [a3 k (by omega), up_n (by omega)]
    obtain ⟨s', a1, a2, -⟩ := key (d + 1) (N + 1) s h1 h2
    exact ⟨s', a1, a2⟩
theorem KepR.set {k k' : Nat → Int32} (h : KepR k k') (i : Nat) (hi : i ≤ 1) : KepR (upd k i 1) (upd k' i 1) := by
  obtain ⟨a, b, c, d⟩ := h
  obtain rfl | rfl : i = 0 ∨ i = 1 := by omega
  · exact ⟨rfl, b, Or.inr rfl, d⟩
  · exact ⟨a, rfl, c, Or.inr rfl⟩
theorem op_image {c_now_stones_many : Int32} {c_now_stones_wetness : Int32} {c_now_stones_kinds : Nat → Int32} {c_now_game_player : Int32} {c_now_game_undoable : Int32} {c_now_game_totals : Nat → Int32} {c_now_game_gains : Nat → Int32} {c_now_written_many : Int32} {c_now_written_cells : Nat → Int32} {c_images_0_stones_many : Int32} {c_images_0_stones_wetness : Int32} {c_images_0_stones_kinds : Nat → Int32} {c_images_0_game_player : Int32} {c_images_0_game_undoable : Int32} {c_images_0_game_totals : Nat → Int32} {c_images_0_game_gains : Nat → Int32} {c_images_0_written_many : Int32} {c_images_0_written_cells : Nat → Int32} {c_images_1_stones_many : Int32} {c_images_1_stones_wetness : Int32} {c_images_1_stones_kinds : Nat → Int32} {c_images_1_game_player : Int32} {c_images_1_game_undoable : Int32} {c_images_1_game_totals : Nat → Int32} {c_images_1_game_gains : Nat → Int32} {c_images_1_written_many : Int32} {c_images_1_written_cells : Nat → Int32} {c_kept : Nat → Int32} {c_refused : Nat → Int32} {m_s : Nat → Int32} {m_images : Nat → Int32} {m_kept : Nat → Int32} {m_refused : Nat → Int32} (hN : NowR c_now_stones_kinds c_now_stones_many c_now_stones_wetness c_now_game_totals c_now_game_gains c_now_game_player c_now_game_undoable c_now_written_cells c_now_written_many m_s) (hI0 : NowR c_images_0_stones_kinds c_images_0_stones_many c_images_0_stones_wetness c_images_0_game_totals c_images_0_game_gains c_images_0_game_player c_images_0_game_undoable c_images_0_written_cells c_images_0_written_many m_images) (hI1 : NowR c_images_1_stones_kinds c_images_1_stones_many c_images_1_stones_wetness c_images_1_game_totals c_images_1_game_gains c_images_1_game_player c_images_1_game_undoable c_images_1_written_cells c_images_1_written_many (mSh 117 m_images)) (hK : KepR c_kept m_kept) (hE : RefR c_refused m_refused) (y0 : Int32) : ∃ (r : Int32) (dc_refused : Nat → Int32) (dc_images_0_stones_many : Int32) (dc_images_0_stones_wetness : Int32) (dc_images_0_stones_kinds : Nat → Int32) (dc_images_0_game_player : Int32) (dc_images_0_game_undoable : Int32) (dc_images_0_game_totals : Nat → Int32) (dc_images_0_game_gains : Nat → Int32) (dc_images_0_written_many : Int32) (dc_images_0_written_cells : Nat → Int32) (dc_kept : Nat → Int32) (dc_images_1_stones_many : Int32) (dc_images_1_stones_wetness : Int32) (dc_images_1_stones_kinds : Nat → Int32) (dc_images_1_game_player : Int32) (dc_images_1_game_undoable : Int32) (dc_images_1_game_totals : Nat → Int32) (dc_images_1_game_gains : Nat → Int32) (dc_images_1_written_many : Int32) (dc_images_1_written_cells : Nat → Int32) (dm_images : Nat → Int32) (dm_kept : Nat → Int32) (dm_refused : Nat → Int32), f_X10_image y0 c_refused c_images_0_stones_many c_images_0_stones_wetness c_now_stones_many c_now_stones_wetness c_images_0_stones_kinds c_now_stones_kinds c_images_0_game_player c_images_0_game_undoable c_now_game_player c_now_game_undoable c_images_0_game_totals c_now_game_totals c_images_0_game_gains c_now_game_gains c_images_0_written_many c_now_written_many c_images_0_written_cells c_now_written_cells c_kept c_images_1_stones_many c_images_1_stones_wetness c_images_1_stones_kinds c_images_1_game_player c_images_1_game_undoable c_images_1_game_totals c_images_1_game_gains c_images_1_written_many c_images_1_written_cells = some (r, dc_refused, dc_images_0_stones_many, dc_images_0_stones_wetness, dc_images_0_stones_kinds, dc_images_0_game_player, dc_images_0_game_undoable, dc_images_0_game_totals, dc_images_0_game_gains, dc_images_0_written_many, dc_images_0_written_cells, dc_kept, dc_images_1_stones_many, dc_images_1_stones_wetness, dc_images_1_stones_kinds, dc_images_1_game_player, dc_images_1_game_undoable, dc_images_1_game_totals, dc_images_1_game_gains, dc_images_1_written_many, dc_images_1_written_cells) ∧ f_X11_image y0 m_s m_images m_kept m_refused = some (r, dm_images, dm_kept, dm_refused) ∧ NowR dc_images_0_stones_kinds dc_images_0_stones_many dc_images_0_stones_wetness dc_images_0_game_totals dc_images_0_game_gains dc_images_0_game_player dc_images_0_game_undoable dc_images_0_written_cells dc_images_0_written_many dm_images ∧ NowR dc_images_1_stones_kinds dc_images_1_stones_many dc_images_1_stones_wetness dc_images_1_game_totals dc_images_1_game_gains dc_images_1_game_player dc_images_1_game_undoable dc_images_1_written_cells dc_images_1_written_many (mSh 117 dm_images) ∧ KepR dc_kept dm_kept ∧ RefR dc_refused dm_refused := by
  unfold f_X10_image f_X11_image
  rw [cw, mw y0 0 1 (lo' := 0) (hi' := 1) rfl rfl]
  cases hg : inR y0 0 1 with
  | false =>
    rw [mb1_s, mb1_s, bI_f, if_pos rfl, if_pos rfl, bad10, bad11, mb2_s, mb2_s]
    exact ⟨_, _, _, _, _, _, _, _, _, _, _, _, _, _, _, _, _, _, _, _, _, _, _, _, rfl, rfl, hI0, hI1, hK, hE.bump 0⟩
  | true =>
    obtain ⟨k, -, hk, rfl⟩ := inR_nI 0 1 rfl rfl hg
    rw [mb1_s, mb1_s, bI_t, if_neg (show ¬ ((1 : Int32) = 0) from by decide), if_neg (show ¬ ((1 : Int32) = 0) from by decide)]
    obtain ⟨im, a1, a2, a3⟩ := img_l m_s m_refused m_kept hk 117 100000 m_images (by omega) (by omega)
    rw [show (0 : Int32) = nI (117 - 117) from rfl, a1, held10, held10]
    obtain rfl | rfl : k = 0 ∨ k = 1 := by omega
    · rw [if_pos rfl, mb9_s, inB_nI (show 0 < 2 by omega) (by omega), mg_tt, clN (by omega)]
      refine ⟨_, _, _, _, _, _, _, _, _, _, _, _, _, _, _, _, _, _, _, _, _, _, _, _, rfl, rfl, (hN.fr (s' := im) (fun j hj => ?_)).cp, hI1.fr (fun j hj => ?_), hK.set 0 (by omega), hE⟩
      · have := a2 j (by omega) hj
        rw [show 117 * 0 + j = j by omega] at this
        exact this
      · unfold mSh
        exact a3 _ (by omega)
    · rw [if_neg (show ¬ (nI 1 = nI (117 - 117)) from by decide), if_pos (show nI 1 = 1 from rfl), mb9_s, inB_nI (show 1 < 2 by omega) (by omega), mg_tt, clN (by omega)]
      refine ⟨_, _, _, _, _, _, _, _, _, _, _, _, _, _, _, _, _, _, _, _, _, _, _, _, rfl, rfl, hI0.fr (fun j hj => ?_), (hN.fr (s' := mSh 117 im) (fun j hj => ?_)).cp, hK.set 1 (by omega), hE⟩
      · exact a3 _ (by omega)
      · unfold mSh
        exact a2 j (by omega) hj
theorem op_from {c_now_stones_many : Int32} {c_now_stones_wetness : Int32} {c_now_stones_kinds : Nat → Int32} {c_now_game_player : Int32} {c_now_game_undoable : Int32} {c_now_game_totals : Nat → Int32} {c_now_game_gains : Nat → Int32} {c_now_written_many : Int32} {c_now_written_cells : Nat → Int32} {c_images_0_stones_many : Int32} {c_images_0_stones_wetness : Int32} {c_images_0_stones_kinds : Nat → Int32} {c_images_0_game_player : Int32} {c_images_0_game_undoable : Int32} {c_images_0_game_totals : Nat → Int32} {c_images_0_game_gains : Nat → Int32} {c_images_0_written_many : Int32} {c_images_0_written_cells : Nat → Int32} {c_images_1_stones_many : Int32} {c_images_1_stones_wetness : Int32} {c_images_1_stones_kinds : Nat → Int32} {c_images_1_game_player : Int32} {c_images_1_game_undoable : Int32} {c_images_1_game_totals : Nat → Int32} {c_images_1_game_gains : Nat → Int32} {c_images_1_written_many : Int32} {c_images_1_written_cells : Nat → Int32} {c_kept : Nat → Int32} {c_refused : Nat → Int32} {m_s : Nat → Int32} {m_images : Nat → Int32} {m_kept : Nat → Int32} {m_refused : Nat → Int32} (hN : NowR c_now_stones_kinds c_now_stones_many c_now_stones_wetness c_now_game_totals c_now_game_gains c_now_game_player c_now_game_undoable c_now_written_cells c_now_written_many m_s) (hI0 : NowR c_images_0_stones_kinds c_images_0_stones_many c_images_0_stones_wetness c_images_0_game_totals c_images_0_game_gains c_images_0_game_player c_images_0_game_undoable c_images_0_written_cells c_images_0_written_many m_images) (hI1 : NowR c_images_1_stones_kinds c_images_1_stones_many c_images_1_stones_wetness c_images_1_game_totals c_images_1_game_gains c_images_1_game_player c_images_1_game_undoable c_images_1_written_cells c_images_1_written_many (mSh 117 m_images)) (hK : KepR c_kept m_kept) (hE : RefR c_refused m_refused) (y0 : Int32) : ∃ (r : Int32) (dc_refused : Nat → Int32) (dc_now_stones_many : Int32) (dc_now_stones_wetness : Int32) (dc_now_stones_kinds : Nat → Int32) (dc_now_game_player : Int32) (dc_now_game_undoable : Int32) (dc_now_game_totals : Nat → Int32) (dc_now_game_gains : Nat → Int32) (dc_now_written_many : Int32) (dc_now_written_cells : Nat → Int32) (dm_s : Nat → Int32) (dm_refused : Nat → Int32), f_X10_from y0 c_refused c_kept c_now_stones_many c_now_stones_wetness c_images_0_stones_many c_images_0_stones_wetness c_now_stones_kinds c_images_0_stones_kinds c_now_game_player c_now_game_undoable c_images_0_game_player c_images_0_game_undoable c_now_game_totals c_images_0_game_totals c_now_game_gains c_images_0_game_gains c_now_written_many c_images_0_written_many c_now_written_cells c_images_0_written_cells c_images_1_stones_many c_images_1_stones_wetness c_images_1_stones_kinds c_images_1_game_player c_images_1_game_undoable c_images_1_game_totals c_images_1_game_gains c_images_1_written_many c_images_1_written_cells = some (r, dc_refused, dc_now_stones_many, dc_now_stones_wetness, dc_now_stones_kinds, dc_now_game_player, dc_now_game_undoable, dc_now_game_totals, dc_now_game_gains, dc_now_written_many, dc_now_written_cells) ∧ f_X11_from y0 m_kept m_images m_s m_refused = some (r, dm_s, dm_refused) ∧ NowR dc_now_stones_kinds dc_now_stones_many dc_now_stones_wetness dc_now_game_totals dc_now_game_gains dc_now_game_player dc_now_game_undoable dc_now_written_cells dc_now_written_many dm_s ∧ RefR dc_refused dm_refused := by
  unfold f_X10_from f_X11_from
  rw [cw, mw y0 0 1 (lo' := 0) (hi' := 1) rfl rfl]
  cases hg : inR y0 0 1 with
  | false =>
    rw [mb1_s, mb1_s, bI_f, if_pos rfl, if_pos rfl, bad10, bad11, mb2_s, mb2_s]
    exact ⟨_, _, _, _, _, _, _, _, _, _, _, _, _, rfl, rfl, hN, hE.bump 0⟩
  | true =>
    obtain ⟨k, -, hk, rfl⟩ := inR_nI 0 1 rfl rfl hg
    rw [mb1_s, mb1_s, bI_t, if_neg (show ¬ ((1 : Int32) = 0) from by decide), if_neg (show ¬ ((1 : Int32) = 0) from by decide), inB_nI (show k < 2 by omega) (by omega), mg_tt, mg_tt, clN (by omega)]
    have hkk : m_kept k = c_kept k := by
      obtain rfl | rfl : k = 0 ∨ k = 1 := by omega
      · exact hK.1
      · exact hK.2.1
    rw [hkk]
    by_cases h0 : c_kept k = 0
    · rw [if_pos h0, if_pos h0, no10, no11, mb2_s, mb2_s]
      exact ⟨_, _, _, _, _, _, _, _, _, _, _, _, _, rfl, rfl, hN, hE.bump 1⟩
    · rw [if_neg h0, if_neg h0]
      obtain ⟨s', a1, a2⟩ := frm_l m_refused m_kept m_images hk 117 100000 m_s (by omega) (by omega)
      rw [show f_X11_from_L31 m_kept m_images 100000 (nI k) 0 m_s m_refused = _ from a1, held10, held10]
      obtain rfl | rfl : k = 0 ∨ k = 1 := by omega
      · rw [if_pos (show nI 0 = 0 from rfl), mb9_s]
        refine ⟨_, _, _, _, _, _, _, _, _, _, _, _, _, rfl, rfl, (hI0.fr (s' := s') (fun j hj => ?_)).cp, hE⟩
        have := a2 j (by omega) hj
        rw [show 117 * 0 + j = j by omega] at this
        exact this
      · rw [if_neg (show ¬ (nI 1 = 0) from by decide), if_pos (show nI 1 = 1 from rfl), mb9_s]
        refine ⟨_, _, _, _, _, _, _, _, _, _, _, _, _, rfl, rfl, (hI1.fr (s' := s') (fun j hj => ?_)).cp, hE⟩
        exact a2 j (by omega) hj
