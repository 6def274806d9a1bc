set_option maxRecDepth 8000
/-! who wins -/
def zBl (c d : Int) : Int → Nat → Int
  | a, 0 => if a ≤ 0 then 0 else 1
  | a, j + 1 => if a ≤ 0 then 0 else c * zBl c d (a - 10) j + d * zBl c d (a - 5) j + (16 - c - d) * zBl c d a j
theorem zBl_0 (c d : Int) {a : Int} (h : a ≤ 0) : ∀ j : Nat, zBl c d a j = 0
  | 0 => by unfold zBl; rw [if_pos h]
  | j + 1 => by unfold zBl; rw [if_pos h]
def zGG : Nat → (Nat → Int) → (Nat → Int) → Int
  | 0, _, _ => 0
  | 1, x, y => (16 * x 0 - x 1) * y 0
  | n + 2, x, y => (16 * x 0 - x 1) * y 0 * 16 ^ (n + 1) + zGG n (fun j => x (j + 1)) (fun j => y (j + 1))
theorem zGG_l (p1 p2 p3 : Int) : ∀ (n : Nat) (x1 x2 x3 y : Nat → Int), zGG n (fun j => p1 * x1 j + p2 * x2 j + p3 * x3 j) y = p1 * zGG n x1 y + p2 * zGG n x2 y + p3 * zGG n x3 y
  | 0, x1, x2, x3, y => by unfold zGG; simp
  | 1, x1, x2, x3, y => by
    unfold zGG
    grind
  | n + 2, x1, x2, x3, y => by
    have ih := zGG_l p1 p2 p3 n (fun j => x1 (j + 1)) (fun j => x2 (j + 1)) (fun j => x3 (j + 1)) (fun j => y (j + 1))
    unfold zGG
    rw [ih]
    generalize (16 : Int) ^ (n + 1) = w
    grind
theorem zGG_r (p1 p2 p3 : Int) : ∀ (n : Nat) (x y1 y2 y3 : Nat → Int), zGG n x (fun j => p1 * y1 j + p2 * y2 j + p3 * y3 j) = p1 * zGG n x y1 + p2 * zGG n x y2 + p3 * zGG n x y3
  | 0, x, y1, y2, y3 => by unfold zGG; simp
  | 1, x, y1, y2, y3 => by
    unfold zGG
    grind
  | n + 2, x, y1, y2, y3 => by
    have ih := zGG_r p1 p2 p3 n (fun j => x (j + 1)) (fun j => y1 (j + 1)) (fun j => y2 (j + 1)) (fun j => y3 (j + 1))
    unfold zGG
    rw [ih]
    generalize (16 : Int) ^ (n + 1) = w
    grind
theorem zGG_0l : ∀ (n : Nat) (y : Nat → Int), zGG n (fun _ => 0) y = 0
  | 0, y => rfl
  | 1, y => by unfold zGG; simp
  | n + 2, y => by
    unfold zGG
    rw [zGG_0l n]
    simp
theorem zGG_0r : ∀ (n : Nat) (x : Nat → Int), zGG n x (fun _ => 0) = 0
  | 0, y => rfl
  | 1, y => by unfold zGG; simp
  | n + 2, y => by
    unfold zGG
    rw [zGG_0r n]
    simp
theorem zBl_s (c d : Int) {a : Int} (h : 0 < a) (j : Nat) : zBl c d a (j + 1) = c * zBl c d (a - 10) j + d * zBl c d (a - 5) j + (16 - c - d) * zBl c d a j := by
  conv => lhs; unfold zBl
  rw [if_neg (by omega)]
theorem zBl_z (c d a : Int) : zBl c d a 0 = if a ≤ 0 then 0 else 1 := by unfold zBl; rfl
/-! the rows -/
def zWg (c d : Int) (g : Nat) : Int := if g = 0 then 16 - c - d else if g = 1 then d else c
def zRw (c d t : Int) : Nat → Nat → Int → Int → Int → Nat → Int
  | 0, _, _, _, won, _ => if won = 1 then 1 else 0
  | n + 1, k, a, b, won, v => zWg c d (v % 3) * zRw c d t n (k + 1) (a + if k % 2 = 0 then 5 * ((v % 3 : Nat) : Int) else 0) (b + if k % 2 = 1 then 5 * ((v % 3 : Nat) : Int) else 0) (if 0 < won then won else if t ≤ a + (if k % 2 = 0 then 5 * ((v % 3 : Nat) : Int) else 0) then 1 else if t ≤ b + (if k % 2 = 1 then 5 * ((v % 3 : Nat) : Int) else 0) then 2 else 0) (v / 3)
def zSm (f : Nat → Int) : Nat → Int | 0 => 0 | n + 1 => zSm f n + f n
theorem zSm_3 (f : Nat → Nat → Int) : ∀ m : Nat, zSm (fun v => f (v % 3) (v / 3)) (3 * m) = zSm (fun v => f 0 v) m + zSm (fun v => f 1 v) m + zSm (fun v => f 2 v) m
  | 0 => rfl
  | m + 1 => by
    rw [show 3 * (m + 1) = 3 * m + 1 + 1 + 1 by omega]
    show zSm (fun v => f (v % 3) (v / 3)) (3 * m) + f (3 * m % 3) (3 * m / 3) + f ((3 * m + 1) % 3) ((3 * m + 1) / 3) + f ((3 * m + 1 + 1) % 3) ((3 * m + 1 + 1) / 3) = zSm (fun v => f 0 v) m + f 0 m + (zSm (fun v => f 1 v) m + f 1 m) + (zSm (fun v => f 2 v) m + f 2 m)
    rw [zSm_3 f m, show 3 * m % 3 = 0 by omega, show 3 * m / 3 = m by omega, show (3 * m + 1) % 3 = 1 by omega, show (3 * m + 1) / 3 = m by omega, show (3 * m + 1 + 1) % 3 = 2 by omega, show (3 * m + 1 + 1) / 3 = m by omega]
    omega
theorem zSm_c (w : Int) (f : Nat → Int) : ∀ m : Nat, zSm (fun v => w * f v) m = w * zSm f m
  | 0 => by unfold zSm; simp
  | m + 1 => by
    show zSm (fun v => w * f v) m + w * f m = w * (zSm f m + f m)
    rw [zSm_c w f m, Int.mul_add]
def zSS (c d t : Int) (n k : Nat) (a b won : Int) : Int := zSm (zRw c d t n k a b won) (3 ^ n)
theorem zSS_s (c d t : Int) (n k : Nat) (a b won : Int) : zSS c d t (n + 1) k a b won = (16 - c - d) * zSS c d t n (k + 1) (a + if k % 2 = 0 then 5 * ((0 : Nat) : Int) else 0) (b + if k % 2 = 1 then 5 * ((0 : Nat) : Int) else 0) (if 0 < won then won else if t ≤ a + (if k % 2 = 0 then 5 * ((0 : Nat) : Int) else 0) then 1 else if t ≤ b + (if k % 2 = 1 then 5 * ((0 : Nat) : Int) else 0) then 2 else 0) + d * zSS c d t n (k + 1) (a + if k % 2 = 0 then 5 * ((1 : Nat) : Int) else 0) (b + if k % 2 = 1 then 5 * ((1 : Nat) : Int) else 0) (if 0 < won then won else if t ≤ a + (if k % 2 = 0 then 5 * ((1 : Nat) : Int) else 0) then 1 else if t ≤ b + (if k % 2 = 1 then 5 * ((1 : Nat) : Int) else 0) then 2 else 0) + c * zSS c d t n (k + 1) (a + if k % 2 = 0 then 5 * ((2 : Nat) : Int) else 0) (b + if k % 2 = 1 then 5 * ((2 : Nat) : Int) else 0) (if 0 < won then won else if t ≤ a + (if k % 2 = 0 then 5 * ((2 : Nat) : Int) else 0) then 1 else if t ≤ b + (if k % 2 = 1 then 5 * ((2 : Nat) : Int) else 0) then 2 else 0) := by
  unfold zSS
  rw [Nat.pow_succ, Nat.mul_comm]
  have h := zSm_3 (fun g v => zWg c d g * zRw c d t n (k + 1) (a + if k % 2 = 0 then 5 * ((g : Nat) : Int) else 0) (b + if k % 2 = 1 then 5 * ((g : Nat) : Int) else 0) (if 0 < won then won else if t ≤ a + (if k % 2 = 0 then 5 * ((g : Nat) : Int) else 0) then 1 else if t ≤ b + (if k % 2 = 1 then 5 * ((g : Nat) : Int) else 0) then 2 else 0) v) (3 ^ n)
  rw [zSm_c, zSm_c, zSm_c] at h
  refine Eq.trans ?_ h
  congr 1
theorem zSS_1 (c d t : Int) : ∀ (n k : Nat) (a b : Int), zSS c d t n k a b 1 = 16 ^ n
  | 0, k, a, b => by
    show (0 : Int) + (if (1 : Int) = 1 then 1 else 0) = 16 ^ 0
    rfl
  | n + 1, k, a, b => by
    rw [zSS_s, if_pos (show (0 : Int) < 1 by omega), if_pos (show (0 : Int) < 1 by omega), if_pos (show (0 : Int) < 1 by omega), zSS_1 c d t n, zSS_1 c d t n, zSS_1 c d t n, Int.pow_succ]
    generalize (16 : Int) ^ n = w
    grind
theorem zSS_2 (c d t : Int) : ∀ (n k : Nat) (a b : Int), zSS c d t n k a b 2 = 0
  | 0, k, a, b => by
    show (0 : Int) + (if (2 : Int) = 1 then 1 else 0) = 0
    rfl
  | n + 1, k, a, b => by
    rw [zSS_s, if_pos (show (0 : Int) < 2 by omega), if_pos (show (0 : Int) < 2 by omega), if_pos (show (0 : Int) < 2 by omega), zSS_2 c d t n, zSS_2 c d t n, zSS_2 c d t n]
    simp
/-- a turn of the first one -/
theorem zSS_e (c d t : Int) (n k : Nat) (hk : k % 2 = 0) {a b : Int} (hb : b < t) : zSS c d t (n + 1) k a b 0 = (16 - c - d) * (if t ≤ a then 16 ^ n else zSS c d t n (k + 1) a b 0) + d * (if t ≤ a + 5 then 16 ^ n else zSS c d t n (k + 1) (a + 5) b 0) + c * (if t ≤ a + 10 then 16 ^ n else zSS c d t n (k + 1) (a + 10) b 0) := by
  have key : ∀ x : Int, zSS c d t n (k + 1) x (b + 0) (if (0 : Int) < 0 then 0 else if t ≤ x then 1 else if t ≤ b + 0 then 2 else 0) = if t ≤ x then 16 ^ n else zSS c d t n (k + 1) x b 0 := by
    intro x
    rw [if_neg (show ¬ (0 : Int) < 0 by omega), Int.add_zero]
    by_cases hx : t ≤ x
    · rw [if_pos hx, if_pos hx, zSS_1]
    · rw [if_neg hx, if_neg hx, if_neg (by omega)]
  rw [zSS_s]
  simp only [hk, if_true, show ¬ ((0 : Nat) = 1) from by omega, if_false]
  rw [key, key, key]
  rw [show a + 5 * ((0 : Nat) : Int) = a by omega, show a + 5 * ((1 : Nat) : Int) = a + 5 by omega, show a + 5 * ((2 : Nat) : Int) = a + 10 by omega]
theorem zSS_o (c d t : Int) (n k : Nat) (hk : k % 2 = 1) {a b : Int} (ha : a < t) : zSS c d t (n + 1) k a b 0 = (16 - c - d) * (if t ≤ b then 0 else zSS c d t n (k + 1) a b 0) + d * (if t ≤ b + 5 then 0 else zSS c d t n (k + 1) a (b + 5) 0) + c * (if t ≤ b + 10 then 0 else zSS c d t n (k + 1) a (b + 10) 0) := by
  have key : ∀ x : Int, zSS c d t n (k + 1) (a + 0) x (if (0 : Int) < 0 then 0 else if t ≤ a + 0 then 1 else if t ≤ x then 2 else 0) = if t ≤ x then 0 else zSS c d t n (k + 1) a x 0 := by
    intro x
    rw [if_neg (show ¬ (0 : Int) < 0 by omega), Int.add_zero, if_neg (show ¬ t ≤ a by omega)]
    by_cases hx : t ≤ x
    · rw [if_pos hx, if_pos hx, zSS_2]
    · rw [if_neg hx, if_neg hx]
  rw [zSS_s]
  simp only [hk, if_true, show ¬ ((1 : Nat) = 0) from by omega, if_false]
  rw [key, key, key]
  rw [show b + 5 * ((0 : Nat) : Int) = b by omega, show b + 5 * ((1 : Nat) : Int) = b + 5 by omega, show b + 5 * ((2 : Nat) : Int) = b + 10 by omega]
theorem zSS_G (c d t : Int) : ∀ (n k : Nat) (a b : Int), k % 2 = 0 → a < t → b < t → zSS c d t n k a b 0 = zGG n (zBl c d (t - a)) (zBl c d (t - b))
  | 0, k, a, b, _, _, _ => by
    show (0 : Int) + (if (0 : Int) = 1 then 1 else 0) = 0
    rfl
  | 1, k, a, b, hk, ha, hb => by
    have z0 : ∀ x y : Int, zSS c d t 0 (k + 1) x y 0 = 0 := fun x y => rfl
    rw [zSS_e c d t 0 k hk hb, z0, z0, z0, if_neg (by omega)]
    unfold zGG
    rw [zBl_s c d (by omega), zBl_z, zBl_z, zBl_z, zBl_z, if_neg (show ¬ t - a ≤ 0 by omega), if_neg (show ¬ t - b ≤ 0 by omega)]
    have e5 : (if t ≤ a + 5 then (16 : Int) ^ 0 else 0) = 1 - (if t - a - 5 ≤ 0 then 0 else 1) := by
      by_cases h : t ≤ a + 5
      · rw [if_pos h, if_pos (by omega)]; rfl
      · rw [if_neg h, if_neg (by omega)]; rfl
    have e10 : (if t ≤ a + 10 then (16 : Int) ^ 0 else 0) = 1 - (if t - a - 10 ≤ 0 then 0 else 1) := by
      by_cases h : t ≤ a + 10
      · rw [if_pos h, if_pos (by omega)]; rfl
      · rw [if_neg h, if_neg (by omega)]; rfl
    rw [e5, e10]
    generalize (if t - a - 5 ≤ 0 then (0 : Int) else 1) = u
    generalize (if t - a - 10 ≤ 0 then (0 : Int) else 1) = v
    grind
  | n + 2, k, a, b, hk, ha, hb => by
    have hk1 : (k + 1) % 2 = 1 := by omega
    have hk2 : (k + 1 + 1) % 2 = 0 := by omega
    have odd : ∀ x : Int, x < t → zSS c d t (n + 1) (k + 1) x b 0 = zGG n (zBl c d (t - x)) (fun j => zBl c d (t - b) (j + 1)) := by
      intro x hx
      have g : ∀ y : Int, (if t ≤ y then 0 else zSS c d t n (k + 1 + 1) x y 0) = zGG n (zBl c d (t - x)) (zBl c d (t - y)) := by
        intro y
        by_cases hy : t ≤ y
        · rw [if_pos hy, show zBl c d (t - y) = fun _ => 0 from funext (zBl_0 c d (by omega)), zGG_0r]
        · rw [if_neg hy, zSS_G c d t n (k + 1 + 1) x y hk2 hx (by omega)]
      rw [zSS_o c d t n (k + 1) hk1 hx, g, g, g, show (fun j => zBl c d (t - b) (j + 1)) = (fun j => c * zBl c d (t - b - 10) j + d * zBl c d (t - b - 5) j + (16 - c - d) * zBl c d (t - b) j) from funext (fun j => zBl_s c d (by omega) j), zGG_r, show t - (b + 5) = t - b - 5 by omega, show t - (b + 10) = t - b - 10 by omega]
      omega
    have ev : ∀ x : Int, (if t ≤ x then (16 : Int) ^ (n + 1) else zSS c d t (n + 1) (k + 1) x b 0) = 16 ^ (n + 1) * (1 - (if t - x ≤ 0 then 0 else 1)) + zGG n (zBl c d (t - x)) (fun j => zBl c d (t - b) (j + 1)) := by
      intro x
      by_cases hx : t ≤ x
      · rw [if_pos hx, if_pos (show t - x ≤ 0 by omega), show zBl c d (t - x) = fun _ => 0 from funext (zBl_0 c d (by omega)), zGG_0l]
        omega
      · rw [if_neg hx, if_neg (show ¬ t - x ≤ 0 by omega), odd x (by omega)]
        omega
    rw [zSS_e c d t (n + 1) k hk hb, ev, ev, ev]
    conv => rhs; unfold zGG
    rw [show (fun j => zBl c d (t - a) (j + 1)) = (fun j => c * zBl c d (t - a - 10) j + d * zBl c d (t - a - 5) j + (16 - c - d) * zBl c d (t - a) j) from funext (fun j => zBl_s c d (by omega) j), zGG_l, zBl_s c d (show 0 < t - a by omega), zBl_z, zBl_z, zBl_z, zBl_z, show t - (a + 5) = t - a - 5 by omega, show t - (a + 10) = t - a - 10 by omega, if_neg (show ¬ t - a ≤ 0 by omega), if_neg (show ¬ t - b ≤ 0 by omega)]
    generalize (if t - a - 5 ≤ 0 then (0 : Int) else 1) = u
    generalize (if t - a - 10 ≤ 0 then (0 : Int) else 1) = v
    generalize (16 : Int) ^ (n + 1) = w
    generalize zGG n (zBl c d (t - a)) (fun j => zBl c d (t - b) (j + 1)) = q1
    generalize zGG n (zBl c d (t - a - 5)) (fun j => zBl c d (t - b) (j + 1)) = q2
    generalize zGG n (zBl c d (t - a - 10)) (fun j => zBl c d (t - b) (j + 1)) = q3
    grind
