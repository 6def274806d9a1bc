/-! what the two states have to do with each other -/
def mSh (d : Nat) (f : Nat → Int32) : Nat → Int32 := fun k => f (d + k)
def StnR (kinds : Nat → Int32) (many wet : Int32) (s : Nat → Int32) : Prop := ∃ nm nw : Nat, nm ≤ 8 ∧ nw ≤ 3 ∧ many = nI nm ∧ wet = nI nw ∧ s 0 = nI nm ∧ s 1 = nI nw ∧ ∀ k : Nat, k < nm → s (6 + k) = kinds k ∧ ∃ j : Nat, j ≤ 5 ∧ kinds k = nI j
/-- what stood ahead of play j, of the u that may be undone; behind the last: what stands now -/
def mEnt (u : Nat) (s : Nat → Int32) (j f : Nat) : Int32 := if j = u then s (2 + f) else s (14 + 3 * j + f)
def GamR (tot gains : Nat → Int32) (player undo : Int32) (s : Nat → Int32) : Prop := ∃ u p : Nat, u ≤ 10 ∧ p ≤ 1 ∧ undo = nI u ∧ player = nI p ∧ s 5 = nI u ∧ s 4 = nI p ∧ s 2 = tot 0 ∧ s 3 = tot 1 ∧ ∀ j : Nat, j < u → ∃ q : Nat, q ≤ 1 ∧ mEnt u s j 2 = nI q ∧ mEnt u s (j + 1) 2 = nI (1 - q) ∧ mEnt u s (j + 1) q = mEnt u s j q + gains j ∧ mEnt u s (j + 1) (1 - q) = mEnt u s j (1 - q)
def BokR (cells : Nat → Int32) (many : Int32) (s : Nat → Int32) : Prop := ∃ n : Nat, n ≤ 12 ∧ many = nI n ∧ s 44 = nI n ∧ ∀ r : Nat, r < n → (∀ c : Nat, c < 6 → s (45 + 6 * r + c) = cells (6 * r + c)) ∧ ∃ a f h y sl pt : Nat, (a ≤ 7 ∧ 1 ≤ f ∧ f ≤ 9 ∧ h ≤ 9 ∧ y ≤ 20 ∧ sl ≤ 8 ∧ (pt = 0 ∨ pt = 5 ∨ pt = 10)) ∧ cells (6 * r) = nI a ∧ cells (6 * r + 1) = nI f ∧ cells (6 * r + 2) = nI h ∧ cells (6 * r + 3) = nI y ∧ cells (6 * r + 4) = nI sl ∧ cells (6 * r + 5) = nI pt
def NowR (kinds : Nat → Int32) (many wet : Int32) (tot gains : Nat → Int32) (player undo : Int32) (cells : Nat → Int32) (bmany : Int32) (s : Nat → Int32) : Prop := StnR kinds many wet s ∧ GamR tot gains player undo s ∧ BokR cells bmany s
def KepR (k mk : Nat → Int32) : Prop := mk 0 = k 0 ∧ mk 1 = k 1 ∧ (k 0 = 0 ∨ k 0 = 1) ∧ (k 1 = 0 ∨ k 1 = 1)
def TxtR (many : Int32) (bytes : Nat → Int32) (typed : Int32) (text : Nat → Int32) : Prop := ∃ n : Nat, n ≤ 120 ∧ many = nI n ∧ typed = nI n ∧ ∀ k : Nat, k < n → text k = bytes k ∧ ∃ b : Nat, b < 256 ∧ bytes k = nI b
def FrcR (a b a' b' : Int64) : Prop := a' = a ∧ b' = b
def RefR (r r' : Nat → Int32) : Prop := ∀ k : Nat, k < 3 → r' k = r k
-- a throw: kind, wet, force, steepness, stand
def zLow (k : Int32) : Int32 := if k = 2 then 10 else if k = 5 then 10 else if k = 3 then 13 else if k = 4 then 17 else 14
def zUp (k : Int32) : Int32 := if k = 2 then 11 else if k = 5 then 11 else if k = 4 then 19 else if k = 0 then 16 else 15
def zWay (k w f s : Int32) : Int32 := if f - w < 2 then 0 else if 2 * s + f - w < zLow k then 1 else if zUp k < 2 * s + f - w then 3 else 2
def zYds (k f s : Int32) : Int32 := if k = 0 ∨ k = 5 then f + s else if k = 4 then f + s + 1 else if k = 3 then imx 0 ((f + s - 2) / 2) else imx 0 (f + s - 2)
def zBck (k w f s : Int32) : Int32 := if zWay k w f s = 1 then f / 2 else if zWay k w f s = 2 then zYds k f s else 0
def zPnt (yd y : Int32) : Int32 := if y + 1 < yd then 0 else if yd < y - 4 then 0 else if yd < y - 1 then 5 else 10
def zPts (k w f s y : Int32) : Int32 := if zWay k w f s = 2 then zPnt (zYds k f s) y else 0
def zSlp (q : Nat) : Int32 := if q = 0 then -1 else if q = 3 then 1 else 0
def zSum (g : Nat → Int32) : Nat → Int32 | 0 => 0 | n + 1 => zSum g n + g n
def zMean (k w f s y : Int32) : Int32 := zSum (fun i => zPts k w (f + zSlp (i / 4)) (s + zSlp (i % 4)) y) 16
-- the best throw at a stone, by 1890 throws in their order: points, and which is the first of them
def zMx (g : Nat → Int32) : Nat → Int32 × Nat | 0 => (0, 0) | n + 1 => if (zMx g n).1 < g n then (g n, n) else zMx g n
def zAt (k w : Int32) (i : Nat) : Int32 := zMean k w (nI (1 + i / 210)) (nI (i / 21 % 10)) (nI (i % 21))
def zBest (k w : Int32) : Int32 × Nat := zMx (zAt k w) 1890
def zCode (k w : Int32) : Int32 := (((zBest k w).1 * 10 + nI (1 + (zBest k w).2 / 210)) * 10 + nI ((zBest k w).2 / 21 % 10)) * 21 + nI ((zBest k w).2 % 21)
def CodR (codes : Nat → Int32) : Prop := ∀ k j : Nat, k ≤ 5 → j ≤ 3 → codes (4 * k + j) = 0 ∨ codes (4 * k + j) = zCode (nI k) (nI j)
