set_option maxRecDepth 8000
theorem nL (k : Nat) (h : k < 2 ^ 31) : (nI k).toInt64 = zL (k : Int) := by rw [nI_z, zI_l (by omega) (by omega)]
theorem restL {c d : Nat} (h : c + d ≤ 16) : ((16 : Int32) - nI c - nI d).toInt64 = zL (16 - (c : Int) - (d : Int)) := by
  rw [nI_z, nI_z, zl_16, zI_sub, zI_sub, zI_l (by omega) (by omega)]
theorem bel10 {c d : Nat} (h : c + d ≤ 16) : ∀ (j F : Nat) (a : Int), j < F → j ≤ 20 → -500 + 10 * (j : Int) ≤ a → a ≤ 500 → f_X6_casesBelow F (zI a) (nI j) (nI c) (nI d) = some (zL (zBl c d a j))
  | 0, F + 1, a, _, _, h1, h2 => by
    unfold f_X6_casesBelow
    rw [zBl_z]
    by_cases ha : a ≤ 0
    · rw [if_neg (by rw [zl_0, zI_lt (by omega) (by omega) (by omega) (by omega)]; omega), if_pos ha]
      rfl
    · rw [if_pos (by rw [zl_0, zI_lt (by omega) (by omega) (by omega) (by omega)]; omega), if_neg (by decide), if_neg ha]
      rfl
  | j + 1, F + 1, a, hF, hj, h1, h2 => by
    unfold f_X6_casesBelow
    by_cases ha : a ≤ 0
    · rw [if_neg (by rw [zl_0, zI_lt (by omega) (by omega) (by omega) (by omega)]; omega), zBl_0 _ _ ha]
      rfl
    · rw [if_pos (by rw [zl_0, zI_lt (by omega) (by omega) (by omega) (by omega)]; omega), if_pos (show (0 : Int32) < nI (j + 1) from nI_lt (a := 0) (by omega) (by omega)), nI_pred, zl_10, zI_sub, zl_5, zI_sub, bel10 h j F (a - 10) (by omega) (by omega) (by omega) (by omega), mb1_s, bel10 h j F (a - 5) (by omega) (by omega) (by omega) (by omega), mb1_s, bel10 h j F a (by omega) (by omega) (by omega) (by omega), mb1_s, nL c (by omega), nL d (by omega), restL h, zL_mul, zL_mul, zL_mul, zL_add, zL_add, zBl_s _ _ (by omega)]
theorem win_l {c d n : Nat} (h : c + d ≤ 16) (hn : n ≤ 8) {A B : Int} (a1 : -100 ≤ A) (a2 : A ≤ 100) (b1 : -100 ≤ B) (b2 : B ≤ 100) : ∀ (q N m : Nat) (s : Int), n ≤ 2 * m + q → m ≤ 5 → q < N → f_X6_winCases_L6 N (zI A) (zI B) (nI n) (nI c) (nI d) (zL s) (nI (m + 1)) = some (zL (s + zGG (n - 2 * m) (fun j => zBl c d A (j + m)) (fun j => zBl c d B (j + m))))
  | q, 0, m, s, _, _, hN => by omega
  | q, N + 1, m, s, hq, hm, hN => by
    have e1 : (2 : Int32) * nI (m + 1) - 1 = nI (2 * m + 1) := by
      rw [nI_z, nI_z, zl_2, zl_1, zI_mul, zI_sub]; refine congrArg zI ?_; omega
    unfold f_X6_winCases_L6
    by_cases hc : n ≤ 2 * m
    · rw [e1, if_pos (nI_lt (by omega) (by omega)), show n - 2 * m = 0 by omega]
      show some (zL s) = some (zL (s + 0))
      rw [Int.add_zero]
    · have e2 : nI n - 2 * nI (m + 1) + 1 = nI (n - 2 * m - 1) := by
        rw [nI_z, nI_z, nI_z, zl_2, zl_1, zI_mul, zI_sub, zI_add]; refine congrArg zI ?_; omega
      have hall : f_X6_allCases (nI (n - 2 * m - 1)) = some (zL ((16 ^ (n - 2 * m - 1) : Nat) : Int)) := (all_m ⟨n - 2 * m - 1, by omega⟩).1
      have e16 : (16 : Int64) = zL 16 := zm_16
      rw [e1, if_neg (nI_nlt (by omega) (by omega)), nI_pred, bel10 h m 12 A (by omega) (by omega) (by omega) (by omega), mb1_s, bel10 h (m + 1) 12 A (by omega) (by omega) (by omega) (by omega), mb1_s, bel10 h m 12 B (by omega) (by omega) (by omega) (by omega), mb1_s, e2, hall, mb1_s, e16, zL_mul, zL_sub, zL_mul, zL_mul, zL_add, nI_1]
      have ih := win_l h hn a1 a2 b1 b2 (q - 1) N (m + 1) (s + (16 * zBl c d A m - zBl c d A (m + 1)) * zBl c d B m * ((16 ^ (n - 2 * m - 1) : Nat) : Int)) (by omega) (by omega) (by omega)
      rw [ih]
      refine congrArg some (congrArg zL ?_)
      by_cases h1 : n - 2 * m = 1
      · rw [show n - 2 * (m + 1) = 0 by omega, h1]
        unfold zGG
        dsimp only
        rw [show 1 - 1 = 0 from rfl, Nat.zero_add, show 1 + m = m + 1 by omega]
        simp
      · obtain ⟨r, hr⟩ : ∃ r, n - 2 * m = r + 2 := ⟨n - 2 * m - 2, by omega⟩
        rw [show n - 2 * (m + 1) = r by omega, hr]
        conv => rhs; unfold zGG
        dsimp only
        rw [show r + 2 - 1 = r + 1 from rfl, Nat.zero_add, show 0 + 1 + m = m + 1 by omega, Int.natCast_pow]
        have ee : ∀ X : Int, (fun j => zBl (c : Int) d X (j + (m + 1))) = (fun j => zBl (c : Int) d X (j + 1 + m)) := fun X => funext (fun j => by congr 1; omega)
        rw [ee, ee]
        generalize zGG r (fun j => zBl (c : Int) d A (j + 1 + m)) (fun j => zBl (c : Int) d B (j + 1 + m)) = g
        show s + (16 * zBl c d A m - zBl c d A (m + 1)) * zBl c d B m * (16 : Int) ^ (r + 1) + g = s + ((16 * zBl c d A m - zBl c d A (m + 1)) * zBl c d B m * (16 : Int) ^ (r + 1) + g)
        omega
theorem win10 {c d n : Nat} (h : c + d ≤ 16) (hn : n ≤ 8) {A B : Int} (a1 : -100 ≤ A) (a2 : A ≤ 100) (b1 : -100 ≤ B) (b2 : B ≤ 100) : f_X6_winCases (zI A) (zI B) (nI n) (nI c) (nI d) = some (zL (zGG n (zBl c d A) (zBl c d B))) := by
  have h1 := win_l h hn a1 a2 b1 b2 n 100000 0 0 (by omega) (by omega) (by omega)
  rw [Nat.mul_zero, Nat.sub_zero, Int.zero_add] at h1
  unfold f_X6_winCases
  rw [show (0 : Int64) = zL 0 from zm_0, show (1 : Int32) = nI (0 + 1) from rfl]
  exact h1
/-! the model's rows -/
theorem row11 {c d n : Nat} (h : c + d ≤ 16) (hn : n ≤ 8) {t : Int} (t1 : 0 ≤ t) (t2 : t ≤ 40) (kh : Int32 → Int32 → Int32 → Int32 → Int32 → Int32 → Int64 → Int32 → (Nat → Int32) → Option (Int64 × (Nat → Int32))) (x1 x2 x9 : Int32) (s : Int) (r : Nat → Int32) : ∀ (m N : Nat) (cs a b won : Int) (v : Nat), m ≤ n → m < N → -10 ≤ a → a + 10 * (m : Int) ≤ 200 → -10 ≤ b → b + 10 * (m : Int) ≤ 200 → (won = 0 ∨ won = 1 ∨ won = 2) → v < 100000 → f_X11_wins_L159 kh N x1 x2 (zI t) (nI n) (nI c) (nI d) (zL s) x9 (zL cs) (zI a) (zI b) (zI won) (nI v) (nI (n - m)) r = kh x1 x2 (zI t) (nI n) (nI c) (nI d) (zL (s + cs * zRw c d t m (n - m) a b won v)) (x9 + 1) r
  | 0, N + 1, cs, a, b, won, v, _, _, _, _, _, _, hw, _ => by
    unfold f_X11_wins_L159 f_X11_wins_L309 zRw
    rw [if_pos (nI_le (by omega) (by omega))]
    by_cases h1 : won = 1
    · rw [if_pos (show zI won = 1 by rw [h1]; rfl), if_pos h1, zL_add, Int.mul_one]
    · rw [if_neg (show ¬ zI won = 1 by rw [zl_1, zI_eq (by omega) (by omega) (by omega) (by omega)]; exact h1), if_neg h1, zm_0, zL_add, Int.mul_zero]
  | m + 1, N + 1, cs, a, b, won, v, h1, h2, ha1, ha2, hb1, hb2, hw, hv => by
    have en : nI (n - (m + 1)) + 1 = nI (n - m) := by rw [nI_1]; congr 1; omega
    have ek : n - (m + 1) + 1 = n - m := by omega
    have v3 : irm (nI v) 3 = nI (v % 3) := by
      rw [nI_z, nI_z, zl_3, zI_rm (by omega) (by omega) (by omega) (by omega)]; rfl
    have vd : nI v / 3 = nI (v / 3) := by
      rw [nI_z, nI_z, zl_3, zI_div (by omega) (by omega) (by omega) (by omega)]; rfl
    have k2 : irm (nI (n - (m + 1))) 2 = nI ((n - (m + 1)) % 2) := by
      rw [nI_z, nI_z, zl_2, zI_rm (by omega) (by omega) (by omega) (by omega)]; rfl
    have ih := fun cs' a' b' won' (p1 : -10 ≤ a') p2 (p3 : -10 ≤ b') p4 p5 => row11 h hn t1 t2 kh x1 x2 x9 s r m N cs' a' b' won' (v / 3) (by omega) (by omega) p1 p2 p3 p4 p5 (by omega)
    -- what follows a draw g
    have tl : ∀ (g : Nat) (W : Int64) (w : Int), g = v % 3 → W = zL w → f_X11_wins_L212 kh (fun z0 z1 z2 z3 z4 z5 z6 z7 z8 z9 z10 z11 z12 z13 z14 => f_X11_wins_L159 kh N z0 z1 z2 z3 z4 z5 z6 z7 z8 z9 z10 z11 z12 z13 z14) x1 x2 (zI t) (nI n) (nI c) (nI d) (zL s) x9 (zI a) (zI b) (zI won) (nI (v / 3)) (nI (n - (m + 1))) (nI g) (zL cs) W r = kh x1 x2 (zI t) (nI n) (nI c) (nI d) (zL (s + cs * (w * zRw c d t m (n - (m + 1) + 1) (a + if (n - (m + 1)) % 2 = 0 then 5 * (g : Int) else 0) (b + if (n - (m + 1)) % 2 = 1 then 5 * (g : Int) else 0) (if 0 < won then won else if t ≤ a + (if (n - (m + 1)) % 2 = 0 then 5 * (g : Int) else 0) then 1 else if t ≤ b + (if (n - (m + 1)) % 2 = 1 then 5 * (g : Int) else 0) then 2 else 0) (v / 3)))) (x9 + 1) r := by
      intro g W w hg hW
      subst hW
      have g2 : g ≤ 2 := by omega
      have eg : (5 : Int32) * nI g = zI (5 * (g : Int)) := by rw [nI_z, zl_5, zI_mul]
      -- the two sums
      have fin : ∀ a' b' : Int, -10 ≤ a' → a' + 10 * (m : Int) ≤ 200 → -10 ≤ b' → b' + 10 * (m : Int) ≤ 200 → (if zI won ≤ 0 then (if zI a' < zI t then (if zI b' < zI t then f_X11_wins_L159 kh N x1 x2 (zI t) (nI n) (nI c) (nI d) (zL s) x9 (zL (cs * w)) (zI a') (zI b') 0 (nI (v / 3)) (nI (n - m)) r else f_X11_wins_L159 kh N x1 x2 (zI t) (nI n) (nI c) (nI d) (zL s) x9 (zL (cs * w)) (zI a') (zI b') 2 (nI (v / 3)) (nI (n - m)) r) else f_X11_wins_L159 kh N x1 x2 (zI t) (nI n) (nI c) (nI d) (zL s) x9 (zL (cs * w)) (zI a') (zI b') 1 (nI (v / 3)) (nI (n - m)) r) else f_X11_wins_L159 kh N x1 x2 (zI t) (nI n) (nI c) (nI d) (zL s) x9 (zL (cs * w)) (zI a') (zI b') (zI won) (nI (v / 3)) (nI (n - m)) r) = kh x1 x2 (zI t) (nI n) (nI c) (nI d) (zL (s + cs * (w * zRw c d t m (n - (m + 1) + 1) a' b' (if 0 < won then won else if t ≤ a' then 1 else if t ≤ b' then 2 else 0) (v / 3)))) (x9 + 1) r := by
        intro a' b' q1 q2 q3 q4
        rw [ek, ← Int.mul_assoc]
        by_cases hwn : won ≤ 0
        · rw [if_pos (by rw [zl_0, zI_le (by omega) (by omega) (by omega) (by omega)]; exact hwn), if_neg (show ¬ 0 < won by omega)]
          by_cases hta : t ≤ a'
          · rw [if_neg (by rw [zI_lt (by omega) (by omega) (by omega) (by omega)]; omega), if_pos hta, show (1 : Int32) = zI 1 from zl_1]
            exact ih (cs * w) a' b' 1 q1 q2 q3 q4 (Or.inr (Or.inl rfl))
          · rw [if_pos (by rw [zI_lt (by omega) (by omega) (by omega) (by omega)]; omega), if_neg hta]
            by_cases htb : t ≤ b'
            · rw [if_neg (by rw [zI_lt (by omega) (by omega) (by omega) (by omega)]; omega), if_pos htb, show (2 : Int32) = zI 2 from zl_2]
              exact ih (cs * w) a' b' 2 q1 q2 q3 q4 (Or.inr (Or.inr rfl))
            · rw [if_pos (by rw [zI_lt (by omega) (by omega) (by omega) (by omega)]; omega), if_neg htb, show (0 : Int32) = zI 0 from zl_0]
              exact ih (cs * w) a' b' 0 q1 q2 q3 q4 (Or.inl rfl)
        · rw [if_neg (by rw [zl_0, zI_le (by omega) (by omega) (by omega) (by omega)]; exact hwn), if_pos (show 0 < won by omega)]
          exact ih (cs * w) a' b' won q1 q2 q3 q4 hw
      unfold f_X11_wins_L212 f_X11_wins_L232 f_X11_wins_L253 f_X11_wins_L287
      rw [k2, eg, en]
      by_cases hk : (n - (m + 1)) % 2 = 0
      · rw [hk, if_pos (show nI 0 = 0 from nI_0), if_neg (show ¬ nI 0 = 1 from by decide), if_pos (rfl : 0 = 0), if_neg (show ¬ 0 = 1 by omega), zL_mul, zI_add, zl_0, zI_add]
        exact fin (a + 5 * (g : Int)) (b + 0) (by omega) (by omega) (by omega) (by omega)
      · have hk1 : (n - (m + 1)) % 2 = 1 := by omega
        rw [hk1, if_neg (show ¬ nI 1 = 0 from by decide), if_pos (show nI 1 = 1 from rfl), if_neg (show ¬ 1 = 0 by omega), if_pos (rfl : 1 = 1), zL_mul, zI_add, zl_0, zI_add]
        exact fin (a + 0) (b + 5 * (g : Int)) (by omega) (by omega) (by omega) (by omega)
    conv => lhs; unfold f_X11_wins_L159
    rw [if_neg (nI_ge (by omega) (by omega)), v3, vd]
    have hz : zRw c d t (m + 1) (n - (m + 1)) a b won v = zWg c d (v % 3) * zRw c d t m (n - (m + 1) + 1) (a + if (n - (m + 1)) % 2 = 0 then 5 * ((v % 3 : Nat) : Int) else 0) (b + if (n - (m + 1)) % 2 = 1 then 5 * ((v % 3 : Nat) : Int) else 0) (if 0 < won then won else if t ≤ a + (if (n - (m + 1)) % 2 = 0 then 5 * ((v % 3 : Nat) : Int) else 0) then 1 else if t ≤ b + (if (n - (m + 1)) % 2 = 1 then 5 * ((v % 3 : Nat) : Int) else 0) then 2 else 0) (v / 3) := rfl
    rw [hz]
    have hv3 : v % 3 = 0 ∨ v % 3 = 1 ∨ v % 3 = 2 := by omega
    obtain hg | hg | hg := hv3
    · rw [if_pos (show nI (v % 3) = 0 by rw [hg]; exact nI_0), tl (v % 3) _ (16 - (c : Int) - d) rfl (restL h)]
      have : zWg c d (v % 3) = 16 - (c : Int) - d := by unfold zWg; rw [if_pos hg]
      rw [this]
    · rw [if_neg (show ¬ nI (v % 3) = 0 by rw [hg]; decide), if_pos (show nI (v % 3) = 1 by rw [hg]; rfl), tl (v % 3) _ (d : Int) rfl (nL d (by omega))]
      have : zWg c d (v % 3) = (d : Int) := by unfold zWg; rw [if_neg (by omega), if_pos hg]
      rw [this]
    · rw [if_neg (show ¬ nI (v % 3) = 0 by rw [hg]; decide), if_neg (show ¬ nI (v % 3) = 1 by rw [hg]; decide), tl (v % 3) _ (c : Int) rfl (nL c (by omega))]
      have : zWg c d (v % 3) = (c : Int) := by unfold zWg; rw [if_neg (by omega), if_neg (by omega)]
      rw [this]
