set_option maxRecDepth 8000
theorem so1 (b : Int) : zSo b = 1 ↔ 97 ≤ b ∧ b ≤ 122 := by
  unfold zSo
  split
  · omega
  · split
    · omega
    · split
      · omega
      · split <;> omega
theorem so2 (b : Int) : zSo b = 2 ↔ 48 ≤ b ∧ b ≤ 57 := by
  unfold zSo
  split
  · omega
  · split
    · omega
    · split
      · omega
      · split <;> omega
theorem so3 (b : Int) : zSo b = 3 ↔ b = 59 := by
  unfold zSo
  split
  · omega
  · split
    · omega
    · split
      · omega
      · split <;> omega
theorem so0 (b : Int) : zSo b = 0 ↔ b < 0 := by
  unfold zSo
  split
  · omega
  · split
    · omega
    · split
      · omega
      · split <;> omega
theorem so4 (b : Int) : zSo b ≤ 4 := by
  unfold zSo
  split
  · omega
  · split
    · omega
    · split
      · omega
      · split <;> omega
/-! words -/
theorem iw_s {by' : Nat → Int32} {n i j k N : Nat} {c : Int} (hn : n ≤ 120) (hb : ∀ k : Nat, k < n → ∃ b : Nat, b < 256 ∧ by' k = nI b) (hi : i < 2) (hj : j < mLen.getD i 0) (hl : mLen.getD i 0 ≤ 5) (hk : k ≤ 200) (hc : mCh i j = zI c) (c1 : 0 ≤ c) (c2 : c ≤ 255) : f_X9_isWord_L2 (nI n) (nI k) by' (N + 1) i (nI j) = if zB by' n (k + j) = c then f_X9_isWord_L2 (nI n) (nI k) by' N i (nI (j + 1)) else some 0 := by
  have hB := zBy_r hb (k + j)
  conv => lhs; unfold f_X9_isWord_L2
  rw [decide_eq_true hi, mg_tt, if_neg (nI_ge hj (by omega)), nI_add, byt10 hn (by omega), mb1_s, inB_nI hj (by omega), clN (by omega), hc, nI_1]
  by_cases h : zB by' n (k + j) = c
  · rw [if_pos (show zI (zB by' n (k + j)) = zI c by rw [h]), if_pos h]
    rfl
  · rw [if_neg (show ¬ zI (zB by' n (k + j)) = zI c by rw [zI_eq (by omega) (by omega) (by omega) (by omega)]; exact h), if_neg h]
    rfl
theorem iw_e {by' : Nat → Int32} {n i k N : Nat} (hn : n ≤ 120) (hb : ∀ k : Nat, k < n → ∃ b : Nat, b < 256 ∧ by' k = nI b) (hi : i < 2) (hl : mLen.getD i 0 ≤ 5) (hk : k ≤ 200) : f_X9_isWord_L2 (nI n) (nI k) by' (N + 1) i (nI (mLen.getD i 0)) = some (bI (decide (¬ zSo (zB by' n (k + mLen.getD i 0)) = 1))) := by
  have hB := zBy_r hb (k + mLen.getD i 0)
  unfold f_X9_isWord_L2
  rw [decide_eq_true hi, mg_tt, if_pos (nI_le (Nat.le_refl _) (by omega)), mg_tt, nI_add, byt10 hn (by omega), mb1_s, let10 hB.1 hB.2.1, mb1_s]
  by_cases h : zSo (zB by' n (k + mLen.getD i 0)) = 1
  · rw [decide_eq_true h, if_neg (show ¬ bI true = 0 from by decide), decide_eq_false (show ¬ ¬ zSo (zB by' n (k + mLen.getD i 0)) = 1 from fun q => q h)]
    rfl
  · rw [decide_eq_false h, if_pos bI_f, decide_eq_true h]
    rfl
def zW0 (B : Nat → Int) (k : Nat) : Prop := B k = 115 ∧ B (k + 1) = 116 ∧ B (k + 2) = 111 ∧ B (k + 3) = 110 ∧ B (k + 4) = 101 ∧ ¬ zSo (B (k + 5)) = 1
def zW1 (B : Nat → Int) (k : Nat) : Prop := B k = 119 ∧ B (k + 1) = 101 ∧ B (k + 2) = 116 ∧ ¬ zSo (B (k + 3)) = 1
theorem is0 {by' : Nat → Int32} {n k : Nat} (hn : n ≤ 120) (hb : ∀ k : Nat, k < n → ∃ b : Nat, b < 256 ∧ by' k = nI b) (hk : k ≤ 200) : (zW0 (zB by' n) k → f_X9_isWord 0 (nI n) (nI k) by' = some 1) ∧ (¬ zW0 (zB by' n) k → f_X9_isWord 0 (nI n) (nI k) by' = some 0) := by
  have s0 := iw_s (N := 99999) (c := 115) hn hb (i := 0) (j := 0) (by omega) (by decide) (by decide) hk (by decide) (by omega) (by omega)
  have s1 := iw_s (N := 99998) (c := 116) hn hb (i := 0) (j := 1) (by omega) (by decide) (by decide) hk (by decide) (by omega) (by omega)
  have s2 := iw_s (N := 99997) (c := 111) hn hb (i := 0) (j := 2) (by omega) (by decide) (by decide) hk (by decide) (by omega) (by omega)
  have s3 := iw_s (N := 99996) (c := 110) hn hb (i := 0) (j := 3) (by omega) (by decide) (by decide) hk (by decide) (by omega) (by omega)
  have s4 := iw_s (N := 99995) (c := 101) hn hb (i := 0) (j := 4) (by omega) (by decide) (by decide) hk (by decide) (by omega) (by omega)
  have s5 := iw_e (N := 99994) hn hb (i := 0) (k := k) (by omega) (by decide) hk
  have l0 : mLen.getD 0 0 = 5 := by decide
  rw [l0] at s5
  have e : f_X9_isWord 0 (nI n) (nI k) by' = if zB by' n (k + 0) = 115 then (if zB by' n (k + 1) = 116 then (if zB by' n (k + 2) = 111 then (if zB by' n (k + 3) = 110 then (if zB by' n (k + 4) = 101 then some (bI (decide (¬ zSo (zB by' n (k + 5)) = 1))) else some 0) else some 0) else some 0) else some 0) else some 0 := by
    rw [← s5, ← s4, ← s3, ← s2, ← s1, ← s0]
    rfl
  rw [e, Nat.add_zero]
  unfold zW0
  by_cases h0 : zB by' n k = 115
  · rw [if_pos h0]
    by_cases h1 : zB by' n (k + 1) = 116
    · rw [if_pos h1]
      by_cases h2 : zB by' n (k + 2) = 111
      · rw [if_pos h2]
        by_cases h3 : zB by' n (k + 3) = 110
        · rw [if_pos h3]
          by_cases h4 : zB by' n (k + 4) = 101
          · rw [if_pos h4]
            by_cases h5 : zSo (zB by' n (k + 5)) = 1
            · rw [decide_eq_false (fun q => q h5)]
              exact ⟨fun q => absurd h5 q.2.2.2.2.2, fun _ => rfl⟩
            · rw [decide_eq_true h5]
              exact ⟨fun _ => rfl, fun q => absurd ⟨h0, h1, h2, h3, h4, h5⟩ q⟩
          · rw [if_neg h4]; exact ⟨fun q => absurd q.2.2.2.2.1 h4, fun _ => rfl⟩
        · rw [if_neg h3]; exact ⟨fun q => absurd q.2.2.2.1 h3, fun _ => rfl⟩
      · rw [if_neg h2]; exact ⟨fun q => absurd q.2.2.1 h2, fun _ => rfl⟩
    · rw [if_neg h1]; exact ⟨fun q => absurd q.2.1 h1, fun _ => rfl⟩
  · rw [if_neg h0]; exact ⟨fun q => absurd q.1 h0, fun _ => rfl⟩
theorem is1 {by' : Nat → Int32} {n k : Nat} (hn : n ≤ 120) (hb : ∀ k : Nat, k < n → ∃ b : Nat, b < 256 ∧ by' k = nI b) (hk : k ≤ 200) : (zW1 (zB by' n) k → f_X9_isWord 1 (nI n) (nI k) by' = some 1) ∧ (¬ zW1 (zB by' n) k → f_X9_isWord 1 (nI n) (nI k) by' = some 0) := by
  have s0 := iw_s (N := 99999) (c := 119) hn hb (i := 1) (j := 0) (by omega) (by decide) (by decide) hk (by decide) (by omega) (by omega)
  have s1 := iw_s (N := 99998) (c := 101) hn hb (i := 1) (j := 1) (by omega) (by decide) (by decide) hk (by decide) (by omega) (by omega)
  have s2 := iw_s (N := 99997) (c := 116) hn hb (i := 1) (j := 2) (by omega) (by decide) (by decide) hk (by decide) (by omega) (by omega)
  have s3 := iw_e (N := 99996) hn hb (i := 1) (k := k) (by omega) (by decide) hk
  have l0 : mLen.getD 1 0 = 3 := by decide
  rw [l0] at s3
  have e : f_X9_isWord 1 (nI n) (nI k) by' = if zB by' n (k + 0) = 119 then (if zB by' n (k + 1) = 101 then (if zB by' n (k + 2) = 116 then some (bI (decide (¬ zSo (zB by' n (k + 3)) = 1))) else some 0) else some 0) else some 0 := by
    rw [← s3, ← s2, ← s1, ← s0]
    rfl
  rw [e, Nat.add_zero]
  unfold zW1
  by_cases h0 : zB by' n k = 119
  · rw [if_pos h0]
    by_cases h1 : zB by' n (k + 1) = 101
    · rw [if_pos h1]
      by_cases h2 : zB by' n (k + 2) = 116
      · rw [if_pos h2]
        by_cases h5 : zSo (zB by' n (k + 3)) = 1
        · rw [decide_eq_false (fun q => q h5)]
          exact ⟨fun q => absurd h5 q.2.2.2, fun _ => rfl⟩
        · rw [decide_eq_true h5]
          exact ⟨fun _ => rfl, fun q => absurd ⟨h0, h1, h2, h5⟩ q⟩
      · rw [if_neg h2]; exact ⟨fun q => absurd q.2.2.1 h2, fun _ => rfl⟩
    · rw [if_neg h1]; exact ⟨fun q => absurd q.2.1 h1, fun _ => rfl⟩
  · rw [if_neg h0]; exact ⟨fun q => absurd q.1 h0, fun _ => rfl⟩
def zWv (B : Nat → Int) (k : Nat) : Nat → Int | 0 => 0 | m + 1 => 256 * zWv B k m + B (k + m)
theorem wv_l {by' tx : Nat → Int32} {n : Nat} (hn : n ≤ 120) (ht : ∀ k : Nat, k < n → tx k = by' k) (hb : ∀ k : Nat, k < n → ∃ b : Nat, b < 256 ∧ by' k = nI b) {k z : Nat} (hk : k ≤ 200) (hz : z ≤ 5) : ∀ (d N : Nat), d ≤ z → d < N → f_X11_word_L4 (nI n) (nI 1) (nI k) (nI z) tx N (zL (zWv (zB by' n) k (z - d))) (nI (z - d)) = some (zL (zWv (zB by' n) k z))
  | 0, N + 1, _, _ => by
    unfold f_X11_word_L4
    rw [if_pos (nI_le (by omega) (by omega))]
    rfl
  | d + 1, N + 1, h1, h2 => by
    have hB := zBy_r hb (k + (z - (d + 1)))
    have ih := wv_l hn ht hb hk hz d N (by omega) (by omega)
    have e : zWv (zB by' n) k (z - d) = 256 * zWv (zB by' n) k (z - (d + 1)) + zB by' n (k + (z - (d + 1))) := by
      rw [show z - d = z - (d + 1) + 1 by omega]; rfl
    rw [e] at ih
    unfold f_X11_word_L4
    rw [if_neg (nI_ge (by omega) (by omega)), if_neg (show ¬ (6 : Int32) ≤ nI z from nI_ge (b := 6) (by omega) (by decide)), if_pos (show nI 1 = 1 from rfl), nI_add, byt11 hn (by omega) ht, mb1_s, zI_l (by omega) (by omega), zm_256, zL_mul, zL_add, nI_1, show z - (d + 1) + 1 = z - d by omega]
    exact ih
theorem word11 {by' tx : Nat → Int32} {n : Nat} (hn : n ≤ 120) (ht : ∀ k : Nat, k < n → tx k = by' k) (hb : ∀ k : Nat, k < n → ∃ b : Nat, b < 256 ∧ by' k = nI b) {k : Nat} (hk : k ≤ 200) : ∃ w : Int, f_X11_word (nI n) (nI (zSo (zB by' n k))) (nI k) (nI (zTz by' n k)) tx = some (zL w) ∧ 0 ≤ w ∧ w < 281474976710656 ∧ (w = 495874698853 ↔ zW0 (zB by' n) k) ∧ (w = 7824756 ↔ zW1 (zB by' n) k) := by
  by_cases hs : zSo (zB by' n k) = 1
  · have ez : zTz by' n k = zRun (zB by' n) n 1 k := by unfold zTz; rw [hs]; rfl
    have r0 := zRun_e (by' := by') (n := n) (s := 1) (by omega) k
    have r1 : zRun (zB by' n) n 1 (k + 1) = if zSo (zB by' n (k + 1)) = 1 then 1 + zRun (zB by' n) n 1 (k + 2) else 0 := zRun_e (by omega) (k + 1)
    have r2 : zRun (zB by' n) n 1 (k + 2) = if zSo (zB by' n (k + 2)) = 1 then 1 + zRun (zB by' n) n 1 (k + 3) else 0 := zRun_e (by omega) (k + 2)
    have r3 : zRun (zB by' n) n 1 (k + 3) = if zSo (zB by' n (k + 3)) = 1 then 1 + zRun (zB by' n) n 1 (k + 4) else 0 := zRun_e (by omega) (k + 3)
    have r4 : zRun (zB by' n) n 1 (k + 4) = if zSo (zB by' n (k + 4)) = 1 then 1 + zRun (zB by' n) n 1 (k + 5) else 0 := zRun_e (by omega) (k + 4)
    have r5 : zRun (zB by' n) n 1 (k + 5) = if zSo (zB by' n (k + 5)) = 1 then 1 + zRun (zB by' n) n 1 (k + 6) else 0 := zRun_e (by omega) (k + 5)
    have hrl : zRun (zB by' n) n 1 k ≤ n := by
      have := zRl_r (zB by' n) 1 (n - k) k
      unfold zRun
      omega
    rw [if_pos hs] at r0
    have fin : ∀ z : Nat, zRun (zB by' n) n 1 k = z → z ≤ 5 → f_X11_word (nI n) (nI (zSo (zB by' n k))) (nI k) (nI (zTz by' n k)) tx = some (zL (zWv (zB by' n) k z)) := by
      intro z e1 e2
      have := wv_l hn ht hb hk e2 z 100000 (Nat.le_refl _) (by omega)
      rw [Nat.sub_self] at this
      unfold f_X11_word
      rw [hs, ez, e1]
      exact this
    have b0 := (so1 _).mp hs
    unfold zW0 zW1
    by_cases h1 : zSo (zB by' n (k + 1)) = 1
    · rw [if_pos h1] at r1
      have b1 := (so1 _).mp h1
      by_cases h2 : zSo (zB by' n (k + 2)) = 1
      · rw [if_pos h2] at r2
        have b2 := (so1 _).mp h2
        by_cases h3 : zSo (zB by' n (k + 3)) = 1
        · rw [if_pos h3] at r3
          have b3 := (so1 _).mp h3
          by_cases h4 : zSo (zB by' n (k + 4)) = 1
          · rw [if_pos h4] at r4
            have b4 := (so1 _).mp h4
            by_cases h5 : zSo (zB by' n (k + 5)) = 1
            · rw [if_pos h5] at r5
              refine ⟨0, ?_, by omega, by omega, ⟨fun q => by omega, fun q => absurd h5 q.2.2.2.2.2⟩, ⟨fun q => by omega, fun q => absurd h3 q.2.2.2⟩⟩
              unfold f_X11_word f_X11_word_L4
              rw [hs, ez, if_neg (show ¬ nI (zRun (zB by' n) n 1 k) ≤ 0 from nI_nle (by omega) (by omega)), if_pos (show (6 : Int32) ≤ nI (zRun (zB by' n) n 1 k) from nI_le (a := 6) (by omega) (by omega))]
              rfl
            · rw [if_neg h5] at r5
              refine ⟨_, fin 5 (by omega) (by omega), ?_⟩
              unfold zWv zWv zWv zWv zWv zWv
              rw [Nat.add_zero]
              refine ⟨by omega, by omega, ⟨fun q => ?_, fun q => by omega⟩, ⟨fun q => by omega, fun q => absurd h3 q.2.2.2⟩⟩
              exact ⟨by omega, by omega, by omega, by omega, by omega, h5⟩
          · rw [if_neg h4] at r4
            have b4 := fun q => h4 ((so1 _).mpr q)
            refine ⟨_, fin 4 (by omega) (by omega), ?_⟩
            unfold zWv zWv zWv zWv zWv
            rw [Nat.add_zero]
            refine ⟨by omega, by omega, ⟨fun q => by omega, fun q => absurd (by omega) b4⟩, ⟨fun q => by omega, fun q => absurd h3 q.2.2.2⟩⟩
        · rw [if_neg h3] at r3
          have b3 := fun q => h3 ((so1 _).mpr q)
          refine ⟨_, fin 3 (by omega) (by omega), ?_⟩
          unfold zWv zWv zWv zWv
          rw [Nat.add_zero]
          refine ⟨by omega, by omega, ⟨fun q => by omega, fun q => absurd (by omega) b3⟩, ⟨fun q => ?_, fun q => by omega⟩⟩
          exact ⟨by omega, by omega, by omega, h3⟩
      · rw [if_neg h2] at r2
        have b2 := fun q => h2 ((so1 _).mpr q)
        refine ⟨_, fin 2 (by omega) (by omega), ?_⟩
        unfold zWv zWv zWv
        rw [Nat.add_zero]
        refine ⟨by omega, by omega, ⟨fun q => by omega, fun q => absurd (by omega) b2⟩, ⟨fun q => by omega, fun q => absurd (by omega) b2⟩⟩
    · rw [if_neg h1] at r1
      have b1 := fun q => h1 ((so1 _).mpr q)
      refine ⟨_, fin 1 (by omega) (by omega), ?_⟩
      unfold zWv zWv
      rw [Nat.add_zero]
      refine ⟨by omega, by omega, ⟨fun q => by omega, fun q => absurd (by omega) b1⟩, ⟨fun q => by omega, fun q => absurd (by omega) b1⟩⟩
  · have b0 := fun q => hs ((so1 _).mpr q)
    unfold zW0 zW1
    refine ⟨0, ?_, by omega, by omega, ⟨fun q => by omega, fun q => absurd (by omega) b0⟩, ⟨fun q => by omega, fun q => absurd (by omega) b0⟩⟩
    unfold f_X11_word f_X11_word_L4
    have h4 := so4 (zB by' n k)
    split
    · rfl
    · split
      · rfl
      · rw [if_neg (show ¬ nI (zSo (zB by' n k)) = 1 from fun q => hs ((nI_eq (b := 1) (by omega) (by decide)).mp q))]
        rfl
