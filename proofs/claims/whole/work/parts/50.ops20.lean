set_option maxRecDepth 8000
/-! the street's text -/
def zB (by' : Nat → Int32) (n k : Nat) : Int := if k < n then (by' k).toInt else -1
def zSo (b : Int) : Nat := if b < 0 then 0 else if 97 ≤ b ∧ b ≤ 122 then 1 else if 48 ≤ b ∧ b ≤ 57 then 2 else if b = 59 then 3 else 4
theorem zBy_r {by' : Nat → Int32} {n : Nat} (hb : ∀ k : Nat, k < n → ∃ b : Nat, b < 256 ∧ by' k = nI b) (k : Nat) : -1 ≤ zB by' n k ∧ zB by' n k ≤ 255 ∧ (k < n → 0 ≤ zB by' n k) := by
  unfold zB
  by_cases h : k < n
  · rw [if_pos h]
    obtain ⟨b, b1, b2⟩ := hb k h
    rw [b2, nI_toInt (by omega)]
    omega
  · rw [if_neg h]
    omega
theorem byt10 {by' : Nat → Int32} {n k : Nat} (hn : n ≤ 120) (hk : k ≤ 1000) : f_X9_byteAt (nI k) (nI n) by' = some (zI (zB by' n k)) := by
  unfold f_X9_byteAt zB
  rw [if_neg (nI_pos (by omega))]
  by_cases h : k < n
  · rw [if_neg (nI_ge h (by omega)), if_neg (show ¬ Int32.ofNat 120 ≤ nI k from nI_ge (b := 120) (by omega) (by decide)), inB_nI (by omega) (by omega), mg_tt, clN (by omega), if_pos h, ← zI_of]
  · rw [if_pos (nI_le (by omega) (by omega)), if_neg h]
    rfl
theorem byt11 {by' tx : Nat → Int32} {n k : Nat} (hn : n ≤ 120) (hk : k ≤ 1000) (ht : ∀ k : Nat, k < n → tx k = by' k) : f_X11_byteAt (nI k) (nI n) tx = some (zI (zB by' n k)) := by
  unfold f_X11_byteAt zB
  by_cases h : k < n
  · rw [if_neg (nI_ge h (by omega)), inB_nI (by omega) (by omega), mg_tt, clN (by omega), if_pos h, ht k h, ← zI_of]
  · rw [if_pos (nI_le (by omega) (by omega)), if_neg h]
    rfl
theorem so11 {b : Int} (h1 : -1 ≤ b) (h2 : b ≤ 255) : f_X11_sortOf (zI b) = some (nI (zSo b)) := by
  unfold f_X11_sortOf zSo
  rw [mw (zI b) 97 122 (lo' := 97) (hi' := 122) rfl rfl, mw (zI b) 48 57 (lo' := 48) (hi' := 57) rfl rfl]
  by_cases h0 : b < 0
  · rw [if_neg (by rw [zl_0, zI_le (by omega) (by omega) (by omega) (by omega)]; omega), if_pos h0]
    rfl
  · rw [if_pos (by rw [zl_0, zI_le (by omega) (by omega) (by omega) (by omega)]; omega), if_neg h0, mb1_s, mb1_s]
    cases hl : inR (zI b) 97 122 with
    | true =>
      rw [inR_iff, zI_i (by omega) (by omega)] at hl
      have e1 : (97 : Int32).toInt = 97 := rfl
      have e2 : (122 : Int32).toInt = 122 := rfl
      rw [if_neg (show ¬ bI true = 0 from by decide), if_pos (by omega)]
      rfl
    | false =>
      have hl' : ¬ (97 ≤ b ∧ b ≤ 122) := by
        intro q
        have : inR (zI b) 97 122 = true := by
          rw [inR_iff, zI_i (by omega) (by omega)]
          exact q
        rw [hl] at this
        exact Bool.noConfusion this
      rw [if_pos bI_f, if_neg hl']
      cases hd : inR (zI b) 48 57 with
      | true =>
        rw [inR_iff, zI_i (by omega) (by omega)] at hd
        have e1 : (48 : Int32).toInt = 48 := rfl
        have e2 : (57 : Int32).toInt = 57 := rfl
        rw [if_neg (show ¬ bI true = 0 from by decide), if_pos (show 48 ≤ b ∧ b ≤ 57 by omega)]
        rfl
      | false =>
        have hd' : ¬ (48 ≤ b ∧ b ≤ 57) := by
          intro q
          have : inR (zI b) 48 57 = true := by
            rw [inR_iff, zI_i (by omega) (by omega)]
            exact q
          rw [hd] at this
          exact Bool.noConfusion this
        rw [if_pos bI_f, if_neg hd']
        by_cases h9 : b = 59
        · rw [if_pos (show zI b = 59 by rw [h9]; rfl), if_pos h9]; rfl
        · rw [if_neg (show ¬ zI b = 59 by rw [zl_59, zI_eq (by omega) (by omega) (by omega) (by omega)]; exact h9), if_neg h9]; rfl
theorem let10 {b : Int} (h1 : -1 ≤ b) (h2 : b ≤ 255) : f_X9_isLetter (zI b) = some (bI (decide (zSo b = 1))) := by
  unfold f_X9_isLetter zSo
  by_cases h : b < 97
  · rw [if_pos (by rw [zl_97, zI_lt (by omega) (by omega) (by omega) (by omega)]; exact h)]
    have : ¬ ((if b < 0 then 0 else if 97 ≤ b ∧ b ≤ 122 then 1 else if 48 ≤ b ∧ b ≤ 57 then 2 else if b = 59 then 3 else 4) = 1) := by
      split
      · omega
      · split
        · omega
        · split
          · omega
          · split <;> omega
    rw [decide_eq_false this]; rfl
  · rw [if_neg (by rw [zl_97, zI_lt (by omega) (by omega) (by omega) (by omega)]; exact h)]
    by_cases h2 : 122 < b
    · rw [if_pos (by rw [zl_122, zI_lt (by omega) (by omega) (by omega) (by omega)]; exact h2)]
      have : ¬ ((if b < 0 then 0 else if 97 ≤ b ∧ b ≤ 122 then 1 else if 48 ≤ b ∧ b ≤ 57 then 2 else if b = 59 then 3 else 4) = 1) := by
        split
        · omega
        · split
          · omega
          · split
            · omega
            · split <;> omega
      rw [decide_eq_false this]; rfl
    · rw [if_neg (by rw [zl_122, zI_lt (by omega) (by omega) (by omega) (by omega)]; exact h2), if_neg (by omega), if_pos (by omega)]; rfl
theorem fig10 {b : Int} (h1 : -1 ≤ b) (h2 : b ≤ 255) : f_X9_isFigure (zI b) = some (bI (decide (zSo b = 2))) := by
  unfold f_X9_isFigure zSo
  by_cases h : b < 48
  · rw [if_pos (by rw [zl_48, zI_lt (by omega) (by omega) (by omega) (by omega)]; exact h)]
    have : ¬ ((if b < 0 then 0 else if 97 ≤ b ∧ b ≤ 122 then 1 else if 48 ≤ b ∧ b ≤ 57 then 2 else if b = 59 then 3 else 4) = 2) := by
      split
      · omega
      · split
        · omega
        · split
          · omega
          · split <;> omega
    rw [decide_eq_false this]; rfl
  · rw [if_neg (by rw [zl_48, zI_lt (by omega) (by omega) (by omega) (by omega)]; exact h)]
    by_cases h2 : 57 < b
    · rw [if_pos (by rw [zl_57, zI_lt (by omega) (by omega) (by omega) (by omega)]; exact h2)]
      have : ¬ ((if b < 0 then 0 else if 97 ≤ b ∧ b ≤ 122 then 1 else if 48 ≤ b ∧ b ≤ 57 then 2 else if b = 59 then 3 else 4) = 2) := by
        split
        · omega
        · split
          · omega
          · split
            · omega
            · split <;> omega
      rw [decide_eq_false this]; rfl
    · rw [if_neg (by rw [zl_57, zI_lt (by omega) (by omega) (by omega) (by omega)]; exact h2), if_neg (by omega), if_neg (by omega), if_pos (by omega)]; rfl
/-! blanks -/
def zSk (B : Nat → Int) : Nat → Nat → Nat
  | 0, k => k
  | d + 1, k => if B k = 32 then zSk B d (k + 1) else k
def zS2 (B : Nat → Int) (n k : Nat) : Nat := zSk B (n - k) k
theorem zSk_r (B : Nat → Int) : ∀ d k : Nat, k ≤ zSk B d k ∧ zSk B d k ≤ k + d ∧ (zSk B d k < k + d → B (zSk B d k) ≠ 32)
  | 0, k => by unfold zSk; omega
  | d + 1, k => by
    have ih := zSk_r B d (k + 1)
    unfold zSk
    split
    · omega
    · rename_i h
      exact ⟨by omega, by omega, fun _ => h⟩
theorem skip10 {by' : Nat → Int32} {n : Nat} (hn : n ≤ 120) : ∀ (d N k : Nat), n - k = d → k ≤ 500 → d < N → f_X9_skipBlanks_L0 (nI n) by' N (nI k) = some (nI (zSk (zB by' n) d k))
  | 0, N + 1, k, hd, hk, _ => by
    unfold f_X9_skipBlanks_L0
    rw [if_pos (nI_le (by omega) (by omega))]
    rfl
  | d + 1, N + 1, k, hd, hk, hN => by
    have hb := byt10 (by' := by') hn (show k ≤ 1000 by omega)
    unfold f_X9_skipBlanks_L0 zSk
    rw [if_neg (nI_ge (by omega) (by omega)), hb, mb1_s]
    by_cases h : zB by' n k = 32
    · rw [if_pos (show zI (zB by' n k) = 32 by rw [h]; rfl), if_pos h, nI_1]
      exact skip10 hn d N (k + 1) (by omega) (by omega) (by omega)
    · rw [if_neg h, if_neg]
      intro q
      by_cases hh : -1 ≤ zB by' n k ∧ zB by' n k ≤ 2147483647
      · rw [zl_32, zI_eq (by omega) (by omega) (by omega) (by omega)] at q
        exact h q
      · have hi := Int32.le_toInt (by' k)
        have hj := Int32.toInt_lt (by' k)
        unfold zB at q h hh
        rw [if_pos (show k < n by omega)] at q h hh
        rw [← zI_of] at q
        rw [q] at h
        exact h rfl
theorem sk10 {by' : Nat → Int32} {n k : Nat} (hn : n ≤ 120) (hk : k ≤ 500) : f_X9_skipBlanks (nI n) (nI k) by' = some (nI (zS2 (zB by' n) n k)) := by
  unfold f_X9_skipBlanks zS2
  exact skip10 hn (n - k) 100000 k rfl hk (by omega)
/-! tokens -/
def zRl (B : Nat → Int) (s : Nat) : Nat → Nat → Nat
  | 0, _ => 0
  | d + 1, k => if zSo (B k) = s then 1 + zRl B s d (k + 1) else 0
def zRun (B : Nat → Int) (n s k : Nat) : Nat := zRl B s (n - k) k
theorem zRun_e {by' : Nat → Int32} {n s : Nat} (hs : s ≠ 0) (k : Nat) : zRun (zB by' n) n s k = if zSo (zB by' n k) = s then 1 + zRun (zB by' n) n s (k + 1) else 0 := by
  unfold zRun
  by_cases h : k < n
  · obtain ⟨d, hd⟩ : ∃ d, n - k = d + 1 := ⟨n - k - 1, by omega⟩
    rw [hd, show n - (k + 1) = d by omega]
    rfl
  · rw [show n - k = 0 by omega]
    have : zSo (zB by' n k) = 0 := by
      unfold zB zSo
      rw [if_neg h]
      rfl
    rw [this, if_neg (fun q => hs q.symm)]
    rfl
theorem zRl_r (B : Nat → Int) (s : Nat) : ∀ d k : Nat, zRl B s d k ≤ d
  | 0, _ => Nat.le_refl _
  | d + 1, k => by
    have := zRl_r B s d (k + 1)
    unfold zRl
    split <;> omega
def zTz (by' : Nat → Int32) (n k : Nat) : Nat := if zSo (zB by' n k) = 0 then 0 else if zSo (zB by' n k) = 1 then zRun (zB by' n) n 1 k else if zSo (zB by' n k) = 2 then zRun (zB by' n) n 2 k else 1
/-- the run of a word or of figures, from its second byte on -/
theorem run11 {by' tx : Nat → Int32} {n : Nat} (hn : n ≤ 120) (ht : ∀ k : Nat, k < n → tx k = by' k) (hb : ∀ k : Nat, k < n → ∃ b : Nat, b < 256 ∧ by' k = nI b) {s : Nat} (hs : s = 1 ∨ s = 2) (st : Int32) : ∀ (d N k z : Nat), n - k = d → k ≤ n → z ≤ k → 1 ≤ z → d < N → f_X11_token_L54 (nI n) tx N (nI k) (nI s) st (nI z) = some (nI (k + zRl (zB by' n) s d k), nI s, st, nI (z + zRl (zB by' n) s d k))
  | d, 0, k, z, _, _, _, _, hN => by omega
  | d, N + 1, k, z, hd, hk, hz, hz1, hN => by
    have hB := zBy_r hb k
    have b1 := byt11 (by' := by') (k := k) hn (by omega) ht
    have s1 := so11 hB.1 hB.2.1
    have hz0 : ¬ nI z = 0 := nI_ne0 (by omega) (by omega)
    have key : f_X11_token_L68 (nI n) tx (fun z0 z1 z2 z3 => f_X11_token_L54 (nI n) tx N z0 z1 z2 z3) (nI k) (nI s) st (nI z) = if zSo (zB by' n k) = s then f_X11_token_L54 (nI n) tx N (nI (k + 1)) (nI s) st (nI (z + 1)) else some (nI k, nI s, st, nI z) := by
      unfold f_X11_token_L68 f_X11_token_L84 f_X11_token_L102
      rw [b1, mb1_s, s1, mb1_s, nI_1, nI_1]
      have hso : zSo (zB by' n k) ≤ 4 := by
        unfold zSo
        split
        · omega
        · split
          · omega
          · split
            · omega
            · split <;> omega
      have hq : (nI (zSo (zB by' n k)) = nI s) ↔ zSo (zB by' n k) = s := nI_eq (by omega) (by omega)
      obtain rfl | rfl := hs
      · rw [if_pos (show nI 1 = 1 from rfl)]
        by_cases h : zSo (zB by' n k) = 1
        · rw [if_pos (hq.mpr h), if_pos h]
        · rw [if_neg (fun e => h (hq.mp e)), if_neg h]
      · rw [if_neg (show ¬ nI 2 = 1 from by decide), if_pos (show nI 2 = 2 from rfl)]
        by_cases h : zSo (zB by' n k) = 2
        · rw [if_pos (hq.mpr h), if_pos h]
        · rw [if_neg (fun e => h (hq.mp e)), if_neg h]
    conv => lhs; unfold f_X11_token_L54
    rw [if_neg hz0, key]
    cases d with
    | zero =>
      have h0 : zSo (zB by' n k) = 0 := by
        unfold zB zSo
        rw [if_neg (show ¬ k < n by omega)]
        rfl
      rw [if_neg (by omega)]
      rfl
    | succ d =>
      unfold zRl
      by_cases h : zSo (zB by' n k) = s
      · rw [if_pos h, if_pos h, run11 hn ht hb hs st d N (k + 1) (z + 1) (by omega) (by omega) (by omega) (by omega) (by omega), show k + 1 + zRl (zB by' n) s d (k + 1) = k + (1 + zRl (zB by' n) s d (k + 1)) by omega, show z + 1 + zRl (zB by' n) s d (k + 1) = z + (1 + zRl (zB by' n) s d (k + 1)) by omega]
      · rw [if_neg h, if_neg h]
        rfl
theorem tok11 {by' tx : Nat → Int32} {n : Nat} (hn : n ≤ 120) (ht : ∀ k : Nat, k < n → tx k = by' k) (hb : ∀ k : Nat, k < n → ∃ b : Nat, b < 256 ∧ by' k = nI b) : ∀ (d N k : Nat) (so st sz : Int32), n - k = d → k ≤ n → d < N → f_X11_token_L0 (nI n) tx N (nI k) so st sz = some (nI (zSk (zB by' n) d k + zTz by' n (zSk (zB by' n) d k)), nI (zSo (zB by' n (zSk (zB by' n) d k))), nI (zSk (zB by' n) d k), nI (zTz by' n (zSk (zB by' n) d k)))
  | d, 0, k, so, st, sz, _, _, hN => by omega
  | d, N + 1, k, so, st, sz, hd, hk, hN => by
    have hB := zBy_r hb k
    have b1 := byt11 (by' := by') (k := k) hn (by omega) ht
    have s1 := so11 hB.1 hB.2.1
    have last : f_X11_token_L54 (nI n) tx 100000 (nI k) (nI (zSo (zB by' n k))) (nI k) 0 = some (nI (k + zTz by' n k), nI (zSo (zB by' n k)), nI k, nI (zTz by' n k)) := by
      rw [show 100000 = 99999 + 1 from rfl]
      have h4 : zSo (zB by' n k) = 0 ∨ zSo (zB by' n k) = 1 ∨ zSo (zB by' n k) = 2 ∨ zSo (zB by' n k) = 3 ∨ zSo (zB by' n k) = 4 := by
        unfold zSo
        split
        · omega
        · split
          · omega
          · split
            · omega
            · split <;> omega
      conv => lhs; unfold f_X11_token_L54
      unfold f_X11_token_L68 f_X11_token_L102
      unfold zTz
      have one : (0 : Int32) + 1 = nI 1 := rfl
      have nx : zSo (zB by' n k) ≠ 0 → k < n := by
        intro h
        rcases Nat.lt_or_ge k n with h1 | h1
        · exact h1
        · exfalso
          apply h
          have e : zB by' n k = -1 := by unfold zB; rw [if_neg (show ¬ k < n by omega)]
          rw [e]
          rfl
      rw [if_pos (rfl : (0 : Int32) = 0)]
      obtain h | h | h | h | h := h4
      · rw [h, if_pos (show nI 0 = 0 from nI_0), if_neg (show ¬ nI 0 = 1 from by decide), if_neg (show ¬ nI 0 = 2 from by decide), if_pos rfl]
        rfl
      · have hkn := nx (by omega)
        rw [h, if_neg (show ¬ nI 1 = 0 from by decide), one, nI_1]
        show f_X11_token_L54 (nI n) tx 99999 (nI (k + 1)) (nI 1) (nI k) (nI 1) = _
        rw [run11 hn ht hb (Or.inl rfl) (nI k) (n - (k + 1)) 99999 (k + 1) 1 rfl (by omega) (by omega) (by omega) (by omega), if_neg (show ¬ 1 = 0 by omega), if_pos (rfl : 1 = 1), zRun_e (by omega), h, if_pos rfl]
        unfold zRun
        rw [show k + 1 + zRl (zB by' n) 1 (n - (k + 1)) (k + 1) = k + (1 + zRl (zB by' n) 1 (n - (k + 1)) (k + 1)) by omega]
      · have hkn := nx (by omega)
        rw [h, if_neg (show ¬ nI 2 = 0 from by decide), one, nI_1]
        show f_X11_token_L54 (nI n) tx 99999 (nI (k + 1)) (nI 2) (nI k) (nI 1) = _
        rw [run11 hn ht hb (Or.inr rfl) (nI k) (n - (k + 1)) 99999 (k + 1) 1 rfl (by omega) (by omega) (by omega) (by omega), if_neg (show ¬ 2 = 0 by omega), if_neg (show ¬ 2 = 1 by omega), if_pos (rfl : 2 = 2), zRun_e (by omega), h, if_pos rfl]
        unfold zRun
        rw [show k + 1 + zRl (zB by' n) 2 (n - (k + 1)) (k + 1) = k + (1 + zRl (zB by' n) 2 (n - (k + 1)) (k + 1)) by omega]
      · rw [h, if_neg (show ¬ nI 3 = 0 from by decide), one, nI_1]
        show f_X11_token_L54 (nI n) tx (99998 + 1) (nI (k + 1)) (nI 3) (nI k) (nI 1) = _
        unfold f_X11_token_L54 f_X11_token_L68
        rw [if_neg (show ¬ nI 1 = 0 from by decide), if_neg (show ¬ nI 3 = 1 from by decide), if_neg (show ¬ nI 3 = 2 from by decide), if_neg (show ¬ 3 = 0 by omega), if_neg (show ¬ 3 = 1 by omega), if_neg (show ¬ 3 = 2 by omega)]
      · rw [h, if_neg (show ¬ nI 4 = 0 from by decide), one, nI_1]
        show f_X11_token_L54 (nI n) tx (99998 + 1) (nI (k + 1)) (nI 4) (nI k) (nI 1) = _
        unfold f_X11_token_L54 f_X11_token_L68
        rw [if_neg (show ¬ nI 1 = 0 from by decide), if_neg (show ¬ nI 4 = 1 from by decide), if_neg (show ¬ nI 4 = 2 from by decide), if_neg (show ¬ 4 = 0 by omega), if_neg (show ¬ 4 = 1 by omega), if_neg (show ¬ 4 = 2 by omega)]
    conv => lhs; unfold f_X11_token_L0
    rw [b1, mb1_s, mb1_s, s1, mb1_s]
    cases d with
    | zero =>
      have h0 : ¬ zI (zB by' n k) = 32 := by
        unfold zB
        rw [if_neg (by omega)]
        decide
      rw [if_neg h0]
      exact last
    | succ d =>
      unfold zSk
      by_cases h : zB by' n k = 32
      · rw [if_pos (show zI (zB by' n k) = 32 by rw [h]; rfl), if_pos h, nI_1]
        exact tok11 hn ht hb d N (k + 1) so st sz (by omega) (by omega) (by omega)
      · rw [if_neg (show ¬ zI (zB by' n k) = 32 by rw [zl_32, zI_eq (by omega) (by omega) (by omega) (by omega)]; exact h), if_neg h]
        exact last
theorem tk11 {by' tx : Nat → Int32} {n : Nat} (hn : n ≤ 120) (ht : ∀ k : Nat, k < n → tx k = by' k) (hb : ∀ k : Nat, k < n → ∃ b : Nat, b < 256 ∧ by' k = nI b) {k : Nat} (hk : k ≤ n) (so st sz : Int32) : f_X11_token (nI n) (nI k) so st sz tx = some (nI (zS2 (zB by' n) n k + zTz by' n (zS2 (zB by' n) n k)), nI (zSo (zB by' n (zS2 (zB by' n) n k))), nI (zS2 (zB by' n) n k), nI (zTz by' n (zS2 (zB by' n) n k))) := by
  unfold f_X11_token zS2
  exact tok11 hn ht hb (n - k) 100000 k so st sz rfl hk (by omega)
