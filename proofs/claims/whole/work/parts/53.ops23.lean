set_option maxRecDepth 8000
theorem tz5 {by' : Nat → Int32} {n k : Nat} (h : zW0 (zB by' n) k) : zTz by' n k = 5 ∧ k + 5 ≤ n ∧ zSo (zB by' n k) = 1 := by
  obtain ⟨h0, h1, h2, h3, h4, h5⟩ := h
  have s0 : zSo (zB by' n k) = 1 := (so1 _).mpr (by omega)
  have s1 : zSo (zB by' n (k + 1)) = 1 := (so1 _).mpr (by omega)
  have s2 : zSo (zB by' n (k + 2)) = 1 := (so1 _).mpr (by omega)
  have s3 : zSo (zB by' n (k + 3)) = 1 := (so1 _).mpr (by omega)
  have s4 : zSo (zB by' n (k + 4)) = 1 := (so1 _).mpr (by omega)
  have r0 : zRun (zB by' n) n 1 k = if zSo (zB by' n k) = 1 then 1 + zRun (zB by' n) n 1 (k + 1) else 0 := zRun_e (by omega) k
  have r1 : zRun (zB by' n) n 1 (k + 1) = if zSo (zB by' n (k + 1)) = 1 then 1 + zRun (zB by' n) n 1 (k + 2) else 0 := zRun_e (by omega) (k + 1)
  have r2 : zRun (zB by' n) n 1 (k + 2) = if zSo (zB by' n (k + 2)) = 1 then 1 + zRun (zB by' n) n 1 (k + 3) else 0 := zRun_e (by omega) (k + 2)
  have r3 : zRun (zB by' n) n 1 (k + 3) = if zSo (zB by' n (k + 3)) = 1 then 1 + zRun (zB by' n) n 1 (k + 4) else 0 := zRun_e (by omega) (k + 3)
  have r4 : zRun (zB by' n) n 1 (k + 4) = if zSo (zB by' n (k + 4)) = 1 then 1 + zRun (zB by' n) n 1 (k + 5) else 0 := zRun_e (by omega) (k + 4)
  have r5 : zRun (zB by' n) n 1 (k + 5) = if zSo (zB by' n (k + 5)) = 1 then 1 + zRun (zB by' n) n 1 (k + 6) else 0 := zRun_e (by omega) (k + 5)
  rw [if_pos s0] at r0
  rw [if_pos s1] at r1
  rw [if_pos s2] at r2
  rw [if_pos s3] at r3
  rw [if_pos s4] at r4
  rw [if_neg h5] at r5
  refine ⟨?_, ?_, s0⟩
  · unfold zTz
    rw [s0, if_neg (show ¬ 1 = 0 by omega), if_pos (rfl : 1 = 1)]
    omega
  · rcases Nat.lt_or_ge (k + 4) n with h | h
    · omega
    · exfalso
      unfold zB at h4
      rw [if_neg (show ¬ k + 4 < n by omega)] at h4
      omega
theorem tz3 {by' : Nat → Int32} {n k : Nat} (h : zW1 (zB by' n) k) : zTz by' n k = 3 ∧ k + 3 ≤ n ∧ zSo (zB by' n k) = 1 := by
  obtain ⟨h0, h1, h2, h5⟩ := h
  have s0 : zSo (zB by' n k) = 1 := (so1 _).mpr (by omega)
  have s1 : zSo (zB by' n (k + 1)) = 1 := (so1 _).mpr (by omega)
  have s2 : zSo (zB by' n (k + 2)) = 1 := (so1 _).mpr (by omega)
  have r0 : zRun (zB by' n) n 1 k = if zSo (zB by' n k) = 1 then 1 + zRun (zB by' n) n 1 (k + 1) else 0 := zRun_e (by omega) k
  have r1 : zRun (zB by' n) n 1 (k + 1) = if zSo (zB by' n (k + 1)) = 1 then 1 + zRun (zB by' n) n 1 (k + 2) else 0 := zRun_e (by omega) (k + 1)
  have r2 : zRun (zB by' n) n 1 (k + 2) = if zSo (zB by' n (k + 2)) = 1 then 1 + zRun (zB by' n) n 1 (k + 3) else 0 := zRun_e (by omega) (k + 2)
  have r5 : zRun (zB by' n) n 1 (k + 3) = if zSo (zB by' n (k + 3)) = 1 then 1 + zRun (zB by' n) n 1 (k + 4) else 0 := zRun_e (by omega) (k + 3)
  rw [if_pos s0] at r0
  rw [if_pos s1] at r1
  rw [if_pos s2] at r2
  rw [if_neg h5] at r5
  refine ⟨?_, ?_, s0⟩
  · unfold zTz
    rw [s0, if_neg (show ¬ 1 = 0 by omega), if_pos (rfl : 1 = 1)]
    omega
  · rcases Nat.lt_or_ge (k + 2) n with h | h
    · omega
    · exfalso
      unfold zB at h2
      rw [if_neg (show ¬ k + 2 < n by omega)] at h2
      omega
theorem item_e {by' tx : Nat → Int32} {n : Nat} (hn : n ≤ 120) (ht : ∀ k : Nat, k < n → tx k = by' k) (hb : ∀ k : Nat, k < n → ∃ b : Nat, b < 256 ∧ by' k = nI b) {k : Nat} (hk : k < n) {dm dw : Int32} {dk dr : Nat → Int32} (hD : DraR dm dw dk dr) : ItR n k (f_X9_readsItem (nI n) (nI k) by' dm dw dk) (f_X11_readsItem (nI n) (nI (k + zTz by' n k)) (nI (zSo (zB by' n k))) (nI k) (nI (zTz by' n k)) tx dr) := by
  obtain ⟨w, w1, w2, w3, w4, w5⟩ := word11 hn ht hb (show k ≤ 200 by omega)
  obtain ⟨i0, i1⟩ := is0 hn hb (show k ≤ 200 by omega)
  obtain ⟨j0, j1⟩ := is1 hn hb (show k ≤ 200 by omega)
  have c1 : (zL w = (495874698853 : Int64)) ↔ zW0 (zB by' n) k := by
    rw [zm_495874698853, zL_eq (by omega) (by omega) (by omega) (by omega)]; exact w4
  have c2 : (zL w = (7824756 : Int64)) ↔ zW1 (zB by' n) k := by
    rw [zm_7824756, zL_eq (by omega) (by omega) (by omega) (by omega)]; exact w5
  unfold f_X9_readsItem f_X11_readsItem
  rw [w1, mb1_s]
  have n10 : ¬ ((1 : Int32) = 0) := by decide
  by_cases h0 : zW0 (zB by' n) k
  · obtain ⟨t1, t2, t3⟩ := tz5 h0
    rw [i0 h0, mb1_s, if_neg n10, if_pos (c1.mpr h0), t1]
    unfold f_X9_readsItem_L22 f_X9_readsItem_L40 f_X11_readsItem_L18 f_X11_readsItem_L31 f_X11_readsItem_L48
    rw [if_neg n10, if_neg n10, if_neg n10, if_neg n10, if_neg n10, ib_0_44, mg_tt, tn_0]
    have hDD := hD
    obtain ⟨q, w', q1, -, rfl, -, d0, -⟩ := hD
    rw [d0]
    by_cases hq : q < 8
    · rw [if_pos (show nI q < 8 from nI_lt (b := 8) hq (by decide)), if_neg (show ¬ nI q = 8 from fun e => by have := (nI_eq (b := 8) (by omega) (by decide)).mp e; omega), show decide (0 < 2) = true from rfl, mg_tt]
      exact tail_e hn ht hb t2 (by omega) true hDD (fun _ => nI_lt (b := 8) hq (by decide)) _ _ _
    · have hq8 : q = 8 := by omega
      subst hq8
      rw [if_neg (show ¬ nI 8 < 8 from by decide), if_pos (show nI 8 = 8 from rfl)]
      exact Or.inl ⟨k, _, _, _, _, _, _, _, by omega, rfl, rfl⟩
  · rw [i1 h0, mb1_s, if_pos (rfl : (0 : Int32) = 0), if_neg (fun e => h0 (c1.mp e))]
    unfold f_X11_readsItem_L18
    rw [if_pos (rfl : (0 : Int32) = 0)]
    by_cases h1 : zW1 (zB by' n) k
    · obtain ⟨t1, t2, t3⟩ := tz3 h1
      rw [j0 h1, mb1_s, if_neg n10, if_pos (c2.mpr h1), t1]
      unfold f_X9_readsItem_L22 f_X9_readsItem_L40 f_X11_readsItem_L31 f_X11_readsItem_L48
      rw [if_pos (rfl : (0 : Int32) = 0), if_pos (rfl : (0 : Int32) = 0), if_pos (rfl : (0 : Int32) = 0), if_pos (rfl : (0 : Int32) = 0), show decide (1 < 2) = true from rfl, mg_tt]
      exact tail_e hn ht hb t2 (by omega) false hD (fun e => Bool.noConfusion e) _ _ _
    · rw [j1 h1, mb1_s, if_pos (rfl : (0 : Int32) = 0), if_neg (fun e => h1 (c2.mp e))]
      exact Or.inl ⟨k, _, _, _, _, _, _, _, by omega, rfl, rfl⟩
theorem rd_l {by' tx : Nat → Int32} {n : Nat} (hn : n ≤ 120) (ht : ∀ k : Nat, k < n → tx k = by' k) (hb : ∀ k : Nat, k < n → ∃ b : Nat, b < 256 ∧ by' k = nI b) : ∀ (m N k i it : Nat) (dm dw : Int32) (dk dr : Nat → Int32), n - k ≤ m → m < N → k ≤ n → i ≤ k → DraR dm dw dk dr → (∃ (it' a dm' dw' : Int32) (dk' : Nat → Int32) (a2 so2 st2 sz2 : Int32) (dr' : Nat → Int32), f_X9_faultOfText_L32 (nI n) by' N (nI i) (nI it) (nI k) dm dw dk = some (-1, it', a, dm', dw', dk') ∧ f_X11_reads_L35 (nI n) tx N (nI (k + zTz by' n k)) (nI (zSo (zB by' n k))) (nI k) (nI (zTz by' n k)) (nI it) dr = some (1, a2, so2, st2, sz2, it', dr') ∧ DraR dm' dw' dk' dr') ∨ (∃ (f : Nat) (it1 a dm' dw' : Int32) (dk' : Nat → Int32) (a2 so2 sz2 it2 : Int32) (dr' : Nat → Int32), f ≤ 1000 ∧ f_X9_faultOfText_L32 (nI n) by' N (nI i) (nI it) (nI k) dm dw dk = some (nI f, it1, a, dm', dw', dk') ∧ f_X11_reads_L35 (nI n) tx N (nI (k + zTz by' n k)) (nI (zSo (zB by' n k))) (nI k) (nI (zTz by' n k)) (nI it) dr = some (0, a2, so2, nI f, sz2, it2, dr'))
  | m, 0, k, i, it, dm, dw, dk, dr, _, hN, _, _, _ => by omega
  | m, N + 1, k, i, it, dm, dw, dk, dr, hm, hN, hk, hi, hD => by
    by_cases hkn : k < n
    · have hB := zBy_r hb k
      have hso : ¬ nI (zSo (zB by' n k)) = 0 := by
        intro e
        have := (nI_eq (b := 0) (by have := so4 (zB by' n k); omega) (by decide)).mp e
        have := (so0 _).mp this
        have := hB.2.2 hkn
        omega
      have h120 : ¬ (120 : Int32) ≤ nI i := nI_ge (b := 120) (by omega) (by decide)
      have hit := item_e hn ht hb hkn hD
      unfold f_X9_faultOfText_L32 f_X11_reads_L35
      rw [if_neg h120, if_neg (nI_ge hkn (by omega)), if_neg hso]
      obtain ⟨f, dm1, dw1, dk1, a1, s1, z1, dr1, hf, hx, hy⟩ | ⟨p, dm1, dw1, dk1, s1, t1, z1, dr1, hp1, hp2, hx, hy, hD1⟩ := hit
      · rw [hx, hy, mb5_s, mb6_s, if_pos (rfl : (0 : Int32) = 0), if_pos (rfl : (0 : Int32) = 0)]
        exact Or.inr ⟨f, _, _, _, _, _, _, _, _, _, _, hf, rfl, rfl⟩
      · have hsk := zSk_r (zB by' n) (n - p) p
        have hsr : p ≤ zS2 (zB by' n) n p ∧ zS2 (zB by' n) n p ≤ n := by unfold zS2; omega
        rw [hx, hy, mb5_s, mb6_s, if_neg (show ¬ ((1 : Int32) = 0) from by decide), if_neg (show ¬ ((1 : Int32) = 0) from by decide), sk10 hn (by omega), mb1_s, tk11 hn ht hb hp2, mb4_s, nI_1, nI_1]
        exact rd_l hn ht hb (m - 1) N (zS2 (zB by' n) n p) (i + 1) (it + 1) dm1 dw1 dk1 dr1 (by omega) (by omega) hsr.2 (by omega) hD1
    · have hkn' : k = n := by omega
      have hso : nI (zSo (zB by' n k)) = 0 := by
        unfold zB
        rw [if_neg hkn]
        rfl
      refine Or.inl ⟨nI it, nI k, dm, dw, dk, nI (k + zTz by' n k), nI (zSo (zB by' n k)), nI k, nI (zTz by' n k), dr, ?_, ?_, hD⟩
      · unfold f_X9_faultOfText_L32
        by_cases h120 : (120 : Int32) ≤ nI i
        · rw [if_pos h120]
        · rw [if_neg h120, if_pos (nI_le (by omega) (by omega))]
      · unfold f_X11_reads_L35
        rw [if_pos hso]
theorem zero_l (ty at' so st sz it : Int32) (tx : Nat → Int32) : ∀ (d N : Nat) (dr : Nat → Int32), d ≤ 44 → d < N → ∃ dr' : Nat → Int32, f_X11_reads_L2 ty tx N (nI (44 - d)) at' so st sz it dr = mb4 (f_X11_token ty 0 so st sz tx) (fun o1 o2 o3 o4 => f_X11_reads_L35 ty tx 100000 o1 o2 o3 o4 0 dr') ∧ (∀ j : Nat, 44 - d ≤ j → j < 44 → dr' j = 0) ∧ ∀ j : Nat, j < 44 - d → dr' j = dr j
  | 0, N + 1, dr, _, _ => by
    refine ⟨dr, ?_, fun j a b => by omega, fun j _ => rfl⟩
    unfold f_X11_reads_L2
    rw [if_pos (show (44 : Int32) ≤ nI (44 - 0) from by decide)]
  | d + 1, N + 1, dr, h1, h2 => by
    obtain ⟨dr', a1, a2, a3⟩ := zero_l ty at' so st sz it tx d N (upd dr (44 - (d + 1)) 0) (by omega) (by omega)
    refine ⟨dr', ?_, fun j b1 b2 => ?_, fun j b1 => ?_⟩
    · unfold f_X11_reads_L2
      rw [if_neg (show ¬ (44 : Int32) ≤ nI (44 - (d + 1)) from nI_ge (b := 44) (by omega) (by decide)), inB_nI (show 44 - (d + 1) < 44 by omega) (by omega), mg_tt, clN (by omega), nI_1, show 44 - (d + 1) + 1 = 44 - d by omega]
      exact a1
    · by_cases hj : j = 44 - (d + 1)
      · rw [a3 j (by omega), hj, up_s]
      · exact a2 j (by omega) b2
    · rw [a3 j (by omega), up_n (by omega)]
theorem take_l (ty at' so st sz it : Int32) (tx dr : Nat → Int32) : ∀ (d N : Nat) (s : Nat → Int32), d ≤ 44 → d < N → ∃ s' : Nat → Int32, f_X11_read_L17 ty tx N (nI (44 - d)) at' so st sz it dr s = some (it, at', so, st, sz, it, dr, s') ∧ (∀ j : Nat, 44 - d ≤ j → j < 44 → s' j = dr j) ∧ ∀ j : Nat, ¬ (44 - d ≤ j ∧ j < 44) → s' j = s j
  | 0, N + 1, s, _, _ => by
    refine ⟨s, ?_, fun j a b => by omega, fun j _ => rfl⟩
    unfold f_X11_read_L17
    rw [if_pos (show (44 : Int32) ≤ nI (44 - 0) from by decide)]
  | d + 1, N + 1, s, h1, h2 => by
    obtain ⟨s', a1, a2, a3⟩ := take_l ty at' so st sz it tx dr d N (upd s (44 - (d + 1)) (dr (44 - (d + 1)))) (by omega) (by omega)
    refine ⟨s', ?_, fun j b1 b2 => ?_, fun j b1 => ?_⟩
    · unfold f_X11_read_L17
      rw [if_neg (show ¬ (44 : Int32) ≤ nI (44 - (d + 1)) from nI_ge (b := 44) (by omega) (by decide)), inB_nI (show 44 - (d + 1) < 44 by omega) (by omega), inB_nI (show 44 - (d + 1) < 117 by omega) (by omega), mg_tt, mg_tt, clN (by omega), nI_1, show 44 - (d + 1) + 1 = 44 - d by omega]
      exact a1
    · by_cases hj : j = 44 - (d + 1)
      · rw [a3 j (by omega), hj, up_s]
      · exact a2 j (by omega) b2
    · rw [a3 j (by omega), up_n (by omega)]
theorem op_read {c_now_stones_many : Int32} {c_now_stones_wetness : Int32} {c_now_stones_kinds : Nat → Int32} {c_now_game_player : Int32} {c_now_game_undoable : Int32} {c_now_game_totals : Nat → Int32} {c_now_game_gains : Nat → Int32} {c_now_written_many : Int32} {c_now_written_cells : Nat → Int32} {c_text_many : Int32} {c_text_items : Int32} {c_text_at : Int32} {c_text_draft_many : Int32} {c_text_draft_wetness : Int32} {c_text_draft_kinds : Nat → Int32} {c_text_bytes : Nat → Int32} {m_typed : Int32} {m_at : Int32} {m_sort : Int32} {m_start : Int32} {m_size : Int32} {m_items : Int32} {m_s : Nat → Int32} {m_draft : Nat → Int32} {m_text : Nat → Int32} (hN : NowR c_now_stones_kinds c_now_stones_many c_now_stones_wetness c_now_game_totals c_now_game_gains c_now_game_player c_now_game_undoable c_now_written_cells c_now_written_many m_s) (hT : TxtR c_text_many c_text_bytes m_typed m_text) : ∃ (r : Int32) (dc_text_items : Int32) (dc_text_at : Int32) (dc_text_draft_many : Int32) (dc_text_draft_wetness : Int32) (dc_text_draft_kinds : Nat → Int32) (dc_now_stones_many : Int32) (dc_now_stones_wetness : Int32) (dc_now_stones_kinds : Nat → Int32) (dc_now_game_player : Int32) (dc_now_game_undoable : Int32) (dc_now_game_totals : Nat → Int32) (dm_at : Int32) (dm_sort : Int32) (dm_start : Int32) (dm_size : Int32) (dm_items : Int32) (dm_draft : Nat → Int32) (dm_s : Nat → Int32), f_X10_read c_text_many c_text_items c_text_at c_text_draft_many c_text_draft_wetness c_text_bytes c_text_draft_kinds c_now_stones_many c_now_stones_wetness c_now_stones_kinds c_now_game_player c_now_game_undoable c_now_game_totals = some (r, dc_text_items, dc_text_at, dc_text_draft_many, dc_text_draft_wetness, dc_text_draft_kinds, dc_now_stones_many, dc_now_stones_wetness, dc_now_stones_kinds, dc_now_game_player, dc_now_game_undoable, dc_now_game_totals) ∧ f_X11_read m_typed m_at m_sort m_start m_size m_items m_text m_draft m_s = some (r, dm_at, dm_sort, dm_start, dm_size, dm_items, dm_draft, dm_s) ∧ NowR dc_now_stones_kinds dc_now_stones_many dc_now_stones_wetness dc_now_game_totals c_now_game_gains dc_now_game_player dc_now_game_undoable c_now_written_cells c_now_written_many dm_s := by
  obtain ⟨n, hn, rfl, rfl, hT⟩ := hT
  have ht : ∀ k : Nat, k < n → m_text k = c_text_bytes k := fun k hk => (hT k hk).1
  have hb : ∀ k : Nat, k < n → ∃ b : Nat, b < 256 ∧ c_text_bytes k = nI b := fun k hk => (hT k hk).2
  obtain ⟨dr0, z1, z2, -⟩ := zero_l (nI n) m_at m_sort m_start m_size m_items m_text 44 100000 m_draft (by omega) (by omega)
  rw [Nat.sub_self, show nI 0 = 0 from nI_0] at z1
  have htk := tk11 hn ht hb (Nat.zero_le n) m_sort m_start m_size
  have hsk := sk10 (by' := c_text_bytes) hn (show 0 ≤ 500 by omega)
  rw [show nI 0 = 0 from nI_0] at htk hsk
  have hr := zSk_r (zB c_text_bytes n) (n - 0) 0
  have hr2 : zS2 (zB c_text_bytes n) n 0 ≤ n := by unfold zS2; omega
  have hD0 : DraR 0 0 c_text_draft_kinds dr0 := ⟨0, 0, by omega, by omega, rfl, rfl, z2 0 (by omega) (by omega), z2 1 (by omega) (by omega), fun i hi => by omega, z2 2 (by omega) (by omega), z2 3 (by omega) (by omega), z2 4 (by omega) (by omega), z2 5 (by omega) (by omega)⟩
  have hl := rd_l hn ht hb n 100000 (zS2 (zB c_text_bytes n) n 0) 0 0 0 0 c_text_draft_kinds dr0 (by omega) (by omega) hr2 (by omega) hD0
  rw [show nI 0 = 0 from nI_0] at hl
  unfold f_X10_read f_X11_read f_X9_faultOfText f_X11_reads
  rw [hsk, mb1_s, z1, htk, mb4_s]
  obtain ⟨it', a, dm, dw, dk, a2, so2, st2, sz2, dr, e1, e2, e3⟩ | ⟨f, it1, a, dm, dw, dk, a2, so2, sz2, it2, dr, hf, e1, e2⟩ := hl
  · rw [e1, e2, mb6_s, mb7_s, if_pos (rfl : (-1 : Int32) = -1), if_neg (show ¬ ((1 : Int32) = 0) from by decide)]
    obtain ⟨s', t1, t2, t3⟩ := take_l (nI n) a2 so2 st2 sz2 it' m_text dr 44 100000 m_s (by omega) (by omega)
    rw [Nat.sub_self, show nI 0 = 0 from nI_0] at t1
    rw [t1]
    unfold f_X8_copyFrom f_X3_beginAnew
    rw [show cpB (0 : Int32) (0 : Int32) (Int32.ofNat 8) 8 8 = true from by decide, mg_tt, mb3_s, ib_0_2, mg_tt, ib_1_2, mg_tt, mb3_s, tn_0, tn_1, on_8, tn_8]
    obtain ⟨q, w, q1, w1, rfl, rfl, d0, d1, dq, d2, d3, d4, d5⟩ := e3
    obtain ⟨hS, hG, hB⟩ := hN
    refine ⟨_, _, _, _, _, _, _, _, _, _, _, _, _, _, _, _, _, _, _, rfl, rfl, ⟨q, w, q1, w1, rfl, rfl, ?_, ?_, fun i hi => ?_⟩, ⟨0, 0, by omega, by omega, rfl, rfl, ?_, ?_, ?_, ?_, fun j hj => by omega⟩, hB.fr (fun j a b => t3 j (by omega))⟩
    · rw [t2 0 (by omega) (by omega)]; exact d0
    · rw [t2 1 (by omega) (by omega)]; exact d1
    · rw [t2 (6 + i) (by omega) (by omega), cpy_e _ _ (show i < 8 by omega)]; exact dq i hi
    · rw [t2 5 (by omega) (by omega)]; exact d5
    · rw [t2 4 (by omega) (by omega)]; exact d4
    · rw [t2 2 (by omega) (by omega), d2, up_n (by omega), up_s]
    · rw [t2 3 (by omega) (by omega), d3, up_s]
  · rw [e1, e2, mb6_s, mb7_s, if_neg (show ¬ nI f = -1 by rw [nI_z, zl_1, zI_neg, zI_eq (by omega) (by omega) (by omega) (by omega)]; omega), if_pos (rfl : (0 : Int32) = 0)]
    exact ⟨_, _, _, _, _, _, _, _, _, _, _, _, _, _, _, _, _, _, _, rfl, rfl, hN⟩
