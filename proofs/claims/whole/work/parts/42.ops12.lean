set_option maxRecDepth 8000
/-! sixteen cases -/
def zsl (q : Nat) : Int := if q = 0 then -1 else if q = 3 then 1 else 0
theorem slip_all : ∀ m : Fin 16, f_X11_slip (nI m / 4) = some (zI (zsl (m.val / 4))) ∧ f_X11_slip (irm (nI m) 4) = some (zI (zsl (m.val % 4))) := by decide +kernel
theorem zsl_r (q : Nat) : -1 ≤ zsl q ∧ zsl q ≤ 1 := by
  unfold zsl
  split
  · omega
  · split <;> omega
theorem zSlp_z (q : Nat) : zSlp q = zI (zsl q) := by
  unfold zSlp zsl
  split
  · rfl
  · split <;> rfl
def zS (g : Int → Int → Int32) (n : Nat) : Int32 := zSum (fun i => g (zsl (i / 4)) (zsl (i % 4))) n
theorem zS_s (g : Int → Int → Int32) (n : Nat) : zS g (n + 1) = zS g n + g (zsl (n / 4)) (zsl (n % 4)) := rfl
def zG (g : Int → Int → Int32) : Int32 := 0 + 1 * g (-1) (-1) + 2 * g (-1) 0 + 1 * g (-1) 1 + 2 * g 0 (-1) + 4 * g 0 0 + 2 * g 0 1 + 1 * g 1 (-1) + 2 * g 1 0 + 1 * g 1 1
theorem zS_G (g : Int → Int → Int32) : zS g 16 = zG g := by
  show ((((((((((((((((0 : Int32) + g (-1) (-1)) + g (-1) 0) + g (-1) 0) + g (-1) 1) + g 0 (-1)) + g 0 0) + g 0 0) + g 0 1) + g 0 (-1)) + g 0 0) + g 0 0) + g 0 1) + g 1 (-1)) + g 1 0) + g 1 0) + g 1 1 = _
  unfold zG
  rw [zI_of (g (-1) (-1)), zI_of (g (-1) 0), zI_of (g (-1) 1), zI_of (g 0 (-1)), zI_of (g 0 0), zI_of (g 0 1), zI_of (g 1 (-1)), zI_of (g 1 0), zI_of (g 1 1)]
  simp only [zl_0, zl_1, zl_2, zl_4, zI_add, zI_mul]
  congr 1
  omega
theorem zG_add (g h : Int → Int → Int32) : zG g + zG h = zG (fun a b => g a b + h a b) := by
  unfold zG
  dsimp only
  rw [zI_of (g (-1) (-1)), zI_of (g (-1) 0), zI_of (g (-1) 1), zI_of (g 0 (-1)), zI_of (g 0 0), zI_of (g 0 1), zI_of (g 1 (-1)), zI_of (g 1 0), zI_of (g 1 1)]
  rw [zI_of (h (-1) (-1)), zI_of (h (-1) 0), zI_of (h (-1) 1), zI_of (h 0 (-1)), zI_of (h 0 0), zI_of (h 0 1), zI_of (h 1 (-1)), zI_of (h 1 0), zI_of (h 1 1)]
  simp only [zl_0, zl_1, zl_2, zl_4, zI_add, zI_mul]
  refine congrArg zI ?_
  omega
theorem zG_mul (g : Int → Int → Int32) (c : Int32) : zG g * c = zG (fun a b => g a b * c) := by
  unfold zG
  simp only [Int32.add_mul, Int32.mul_assoc, Int32.zero_mul]
theorem zG_0 : zG (fun _ _ => 0) = 0 := by decide +kernel
theorem zG_c {g h : Int → Int → Int32} (e : ∀ a b : Int, -1 ≤ a → a ≤ 1 → -1 ≤ b → b ≤ 1 → g a b = h a b) : zG g = zG h := by
  unfold zG
  rw [e (-1) (-1) (by omega) (by omega) (by omega) (by omega), e (-1) 0 (by omega) (by omega) (by omega) (by omega), e (-1) 1 (by omega) (by omega) (by omega) (by omega), e 0 (-1) (by omega) (by omega) (by omega) (by omega), e 0 0 (by omega) (by omega) (by omega) (by omega), e 0 1 (by omega) (by omega) (by omega) (by omega), e 1 (-1) (by omega) (by omega) (by omega) (by omega), e 1 0 (by omega) (by omega) (by omega) (by omega), e 1 1 (by omega) (by omega) (by omega) (by omega)]
theorem zG_b {g : Int → Int → Int32} {B : Nat} (hB : B ≤ 1000) (e : ∀ a b : Int, -1 ≤ a → a ≤ 1 → -1 ≤ b → b ≤ 1 → ∃ n : Nat, n ≤ B ∧ g a b = nI n) : ∃ v : Nat, v ≤ 16 * B ∧ zG g = nI v := by
  obtain ⟨n1, h1, e1⟩ := e (-1) (-1) (by omega) (by omega) (by omega) (by omega)
  obtain ⟨n2, h2, e2⟩ := e (-1) 0 (by omega) (by omega) (by omega) (by omega)
  obtain ⟨n3, h3, e3⟩ := e (-1) 1 (by omega) (by omega) (by omega) (by omega)
  obtain ⟨n4, h4, e4⟩ := e 0 (-1) (by omega) (by omega) (by omega) (by omega)
  obtain ⟨n5, h5, e5⟩ := e 0 0 (by omega) (by omega) (by omega) (by omega)
  obtain ⟨n6, h6, e6⟩ := e 0 1 (by omega) (by omega) (by omega) (by omega)
  obtain ⟨n7, h7, e7⟩ := e 1 (-1) (by omega) (by omega) (by omega) (by omega)
  obtain ⟨n8, h8, e8⟩ := e 1 0 (by omega) (by omega) (by omega) (by omega)
  obtain ⟨n9, h9, e9⟩ := e 1 1 (by omega) (by omega) (by omega) (by omega)
  refine ⟨n1 + 2 * n2 + n3 + 2 * n4 + 4 * n5 + 2 * n6 + n7 + 2 * n8 + n9, by omega, ?_⟩
  unfold zG
  rw [e1, e2, e3, e4, e5, e6, e7, e8, e9]
  simp only [nI_z, zl_0, zl_1, zl_2, zl_4, zI_add, zI_mul]
  refine congrArg zI ?_
  omega
/-! what a throw may come to -/
theorem zWay_r (k w f s : Int32) : ∃ x : Nat, x ≤ 3 ∧ zWay k w f s = nI x := by
  unfold zWay
  split
  · exact ⟨0, by omega, rfl⟩
  · split
    · exact ⟨1, by omega, rfl⟩
    · split
      · exact ⟨3, by omega, rfl⟩
      · exact ⟨2, by omega, rfl⟩
theorem zBck_r {j w : Nat} (hj : j ≤ 5) (hw : w ≤ 3) {F C : Int} (f1 : 0 ≤ F) (f2 : F ≤ 10) (c1 : -1 ≤ C) (c2 : C ≤ 10) : ∃ e : Nat, e ≤ 21 ∧ zBck (nI j) (nI w) (zI F) (zI C) = nI e := by
  unfold zBck
  by_cases h1 : zWay (nI j) (nI w) (zI F) (zI C) = 1
  · rw [if_pos h1]
    refine ⟨(F / 2).toNat, by omega, ?_⟩
    rw [zl_2, zI_div (by omega) (by omega) (by omega) (by omega), nI_z]
    congr 1
    omega
  · rw [if_neg h1]
    by_cases h2 : zWay (nI j) (nI w) (zI F) (zI C) = 2
    · rw [if_pos h2]
      have := way2 hw (by omega) (by omega) h2
      obtain ⟨e, e1, e2, e3⟩ := zYds_r hj (F := F) (C := C) (by omega) (by omega) (by omega) (by omega) (by omega)
      refine ⟨e.toNat, by omega, ?_⟩
      rw [e3, nI_z]
      congr 1
      omega
    · rw [if_neg h2]
      exact ⟨0, by omega, rfl⟩
theorem zPts_r (k w f s y : Int32) : ∃ n : Nat, n ≤ 10 ∧ zPts k w f s y = nI n := by
  unfold zPts zPnt
  split
  · split
    · exact ⟨0, by omega, rfl⟩
    · split
      · exact ⟨0, by omega, rfl⟩
      · split
        · exact ⟨5, by omega, rfl⟩
        · exact ⟨10, by omega, rfl⟩
  · exact ⟨0, by omega, rfl⟩
/-! the class gathers -/
theorem add7 {x e : Nat} (hx : x ≤ 3) (he : e ≤ 30) (c : Int32) (an ed wy : Nat → Int32) : f_X7_add (nI x) (nI e) c an ed wy = some (upd an e (an e + c), upd ed e (ed e + if nI x = 2 then c else 0), upd wy x (wy x + c)) := by
  unfold f_X7_add f_X7_add_L19
  rw [cw, cw, show inR (nI x) 0 3 = true from inR_of (lo := 0) (hi := 3) (by omega) hx (by omega), show inR (nI e) 0 30 = true from inR_of (lo := 0) (hi := 30) (by omega) he (by omega), inB_nI (show x < 4 by omega) (by omega), inB_nI (show e < 31 by omega) (by omega), clN (show x < 2 ^ 31 by omega), clN (show e < 2 ^ 31 by omega)]
  simp only [mb0_s, mb1_s, mb2_s, mb3_s, mb4_s, mb5_s, mb6_s, mb7_s, mb8_s, mb9_s, mb10_s, mb11_s, mb12_s, mb13_s, mb14_s, mb15_s, mb16_s, mb17_s, mb18_s, mb19_s, mb20_s, mb21_s, mb22_s, mb23_s, mb24_s, ifI_t, ifI_f, isB_bI, bad10, no10, full10, bad11, badAs11, no11, full11, mb0_s, mb1_s, mb2_s, mb3_s, mb4_s, mb5_s, mb6_s, mb7_s, mb8_s, mb9_s, mb10_s, mb11_s, mb12_s, mb13_s, mb14_s, mb15_s, mb16_s, mb17_s, mb18_s, mb19_s, mb20_s, mb21_s, mb22_s, mb23_s, mb24_s, mg_tt, ib_0_2, ib_0_3, ib_0_4, ib_0_44, ib_0_117, ib_1_2, ib_1_3, ib_1_4, ib_1_117, ib_2_3, ib_2_4, ib_2_117, ib_3_4, ib_3_117, ib_4_117, ib_5_117, ib_44_117, tn_0, tn_1, tn_2, tn_3, tn_4, tn_5, tn_8, tn_10, tn_44, tn_72, cp_0, cp_1, cp_2, cp_3, cp_4]
  by_cases h : nI x = 2
  · rw [if_pos h, if_pos h]
  · rw [if_neg h, if_neg h]
def zWt (a b : Int) : Int32 := (2 - iab (zI a)) * (2 - iab (zI b))
theorem ga_s {j w : Nat} (hj : j ≤ 5) (hw : w ≤ 3) {F C a b : Int} (f1 : 1 ≤ F) (f2 : F ≤ 9) (c1 : 0 ≤ C) (c2 : C ≤ 9) (a1 : -1 ≤ a) (a2 : a ≤ 1) (b1 : -1 ≤ b) (b2 : b ≤ 1) (kh : Int32 → Int32 → Int32 → Int32 → Int32 → (Nat → Int32) → (Nat → Int32) → (Nat → Int32) → Option ((Nat → Int32) × (Nat → Int32) × (Nat → Int32))) (N : Nat) (wy an ed : Nat → Int32) : ∃ wy' an' ed' : Nat → Int32, f_X7_gather_L36 kh (N + 1) (nI j) (nI w) (zI F) (zI C) (zI a) (zI b) wy an ed = f_X7_gather_L36 kh N (nI j) (nI w) (zI F) (zI C) (zI a) (zI (b + 1)) wy' an' ed' ∧ (∀ i : Nat, i ≤ 3 → wy' i = wy i + zWt a b * (if zWay (nI j) (nI w) (zI (F + a)) (zI (C + b)) = nI i then 1 else 0)) ∧ (∀ i : Nat, i ≤ 30 → an' i = an i + zWt a b * (if zBck (nI j) (nI w) (zI (F + a)) (zI (C + b)) = nI i then 1 else 0)) ∧ (∀ i : Nat, i ≤ 30 → ed' i = ed i + zWt a b * (if zWay (nI j) (nI w) (zI (F + a)) (zI (C + b)) = 2 ∧ zBck (nI j) (nI w) (zI (F + a)) (zI (C + b)) = nI i then 1 else 0)) := by
  obtain ⟨x, x1, x2⟩ := zWay_r (nI j) (nI w) (zI (F + a)) (zI (C + b))
  obtain ⟨e, e1, e2⟩ := zBck_r hj hw (F := F + a) (C := C + b) (by omega) (by omega) (by omega) (by omega)
  refine ⟨upd wy x (wy x + zWt a b), upd an e (an e + zWt a b), upd ed e (ed e + if nI x = 2 then zWt a b else 0), ?_, fun i hi => ?_, fun i hi => ?_, fun i hi => ?_⟩
  · conv => lhs; unfold f_X7_gather_L36
    have h1 : ¬ (1 : Int32) < zI b := by
      rw [zl_1, zI_lt (by omega) (by omega) (by omega) (by omega)]; omega
    have h2 : zI b + 1 = zI (b + 1) := by rw [zl_1, zI_add]
    rw [if_neg h1, zI_add, zI_add, way10 hj, mb1_s, bck10 hj, mb1_s, x2, e2, add7 x1 (by omega), mb3_s, h2]
    rfl
  · rw [x2]
    by_cases h : x = i
    · subst h
      rw [up_s, if_pos rfl, Int32.mul_one]
    · rw [up_n (fun q => h q.symm), if_neg (by rw [nI_eq (by omega) (by omega)]; exact h), Int32.mul_zero, Int32.add_zero]
  · rw [e2]
    by_cases h : e = i
    · subst h
      rw [up_s, if_pos rfl, Int32.mul_one]
    · rw [up_n (fun q => h q.symm), if_neg (by rw [nI_eq (by omega) (by omega)]; exact h), Int32.mul_zero, Int32.add_zero]
  · rw [x2, e2]
    by_cases h : e = i
    · subst h
      rw [up_s]
      by_cases h2 : nI x = 2
      · rw [if_pos h2, if_pos ⟨h2, rfl⟩, Int32.mul_one]
      · rw [if_neg h2, if_neg (fun q => h2 q.1), Int32.mul_zero]
    · rw [up_n (fun q => h q.symm), if_neg (fun q => h ((nI_eq (by omega) (by omega)).mp q.2)), Int32.mul_zero, Int32.add_zero]
theorem ga_e (kh : Int32 → Int32 → Int32 → Int32 → Int32 → (Nat → Int32) → (Nat → Int32) → (Nat → Int32) → Option ((Nat → Int32) × (Nat → Int32) × (Nat → Int32))) (N : Nat) (k w f s : Int32) (a : Int) (wy an ed : Nat → Int32) : f_X7_gather_L36 kh (N + 1) k w f s (zI a) (zI (1 + 1)) wy an ed = kh k w f s (zI (a + 1)) wy an ed := by
  unfold f_X7_gather_L36
  rw [if_pos (show (1 : Int32) < zI (1 + 1) from by decide), zl_1, zI_add]
theorem ga_f (N : Nat) (k w f s : Int32) (wy an ed : Nat → Int32) : f_X7_gather_L27 (N + 1) k w f s (zI (1 + 1)) wy an ed = some (wy, an, ed) := by
  unfold f_X7_gather_L27
  rw [if_pos (show (1 : Int32) < zI (1 + 1) from by decide)]
/-- a row of three -/
theorem ga_r {j w : Nat} (hj : j ≤ 5) (hw : w ≤ 3) {F C a : Int} (f1 : 1 ≤ F) (f2 : F ≤ 9) (c1 : 0 ≤ C) (c2 : C ≤ 9) (a1 : -1 ≤ a) (a2 : a ≤ 1) (kh : Int32 → Int32 → Int32 → Int32 → Int32 → (Nat → Int32) → (Nat → Int32) → (Nat → Int32) → Option ((Nat → Int32) × (Nat → Int32) × (Nat → Int32))) (wy an ed : Nat → Int32) : ∃ wy' an' ed' : Nat → Int32, f_X7_gather_L36 kh 100000 (nI j) (nI w) (zI F) (zI C) (zI a) (-1) wy an ed = kh (nI j) (nI w) (zI F) (zI C) (zI (a + 1)) wy' an' ed' ∧ (∀ i : Nat, i ≤ 3 → wy' i = wy i + zWt a (-1) * (if zWay (nI j) (nI w) (zI (F + a)) (zI (C + (-1))) = nI i then 1 else 0) + zWt a 0 * (if zWay (nI j) (nI w) (zI (F + a)) (zI (C + 0)) = nI i then 1 else 0) + zWt a 1 * (if zWay (nI j) (nI w) (zI (F + a)) (zI (C + 1)) = nI i then 1 else 0)) ∧ (∀ i : Nat, i ≤ 30 → an' i = an i + zWt a (-1) * (if zBck (nI j) (nI w) (zI (F + a)) (zI (C + (-1))) = nI i then 1 else 0) + zWt a 0 * (if zBck (nI j) (nI w) (zI (F + a)) (zI (C + 0)) = nI i then 1 else 0) + zWt a 1 * (if zBck (nI j) (nI w) (zI (F + a)) (zI (C + 1)) = nI i then 1 else 0)) ∧ (∀ i : Nat, i ≤ 30 → ed' i = ed i + zWt a (-1) * (if zWay (nI j) (nI w) (zI (F + a)) (zI (C + (-1))) = 2 ∧ zBck (nI j) (nI w) (zI (F + a)) (zI (C + (-1))) = nI i then 1 else 0) + zWt a 0 * (if zWay (nI j) (nI w) (zI (F + a)) (zI (C + 0)) = 2 ∧ zBck (nI j) (nI w) (zI (F + a)) (zI (C + 0)) = nI i then 1 else 0) + zWt a 1 * (if zWay (nI j) (nI w) (zI (F + a)) (zI (C + 1)) = 2 ∧ zBck (nI j) (nI w) (zI (F + a)) (zI (C + 1)) = nI i then 1 else 0)) := by
  obtain ⟨w1, n1, d1, q1, r1, s1, t1⟩ := ga_s hj hw f1 f2 c1 c2 a1 a2 (b := -1) (by omega) (by omega) kh 99999 wy an ed
  obtain ⟨w2, n2, d2, q2, r2, s2, t2⟩ := ga_s hj hw f1 f2 c1 c2 a1 a2 (b := 0) (by omega) (by omega) kh 99998 w1 n1 d1
  obtain ⟨w3, n3, d3, q3, r3, s3, t3⟩ := ga_s hj hw f1 f2 c1 c2 a1 a2 (b := 1) (by omega) (by omega) kh 99997 w2 n2 d2
  refine ⟨w3, n3, d3, ?_, fun i hi => ?_, fun i hi => ?_, fun i hi => ?_⟩
  · rw [show (-1 : Int) + 1 = 0 from rfl] at q1
    rw [show (0 : Int) + 1 = 1 from rfl] at q2
    rw [show (-1 : Int32) = zI (-1) from by decide, show 100000 = 99999 + 1 from rfl, q1, show 99999 = 99998 + 1 from rfl, q2, show 99998 = 99997 + 1 from rfl, q3, show 99997 = 99996 + 1 from rfl, ga_e]
  · rw [r3 i hi, r2 i hi, r1 i hi]
  · rw [s3 i hi, s2 i hi, s1 i hi]
  · rw [t3 i hi, t2 i hi, t1 i hi]
theorem fil_l (n : Nat) (hn : n < 1000) : ∀ (d N : Nat) (v : Nat → Int32), d ≤ n → d < N → ∃ v' : Nat → Int32, f_J7_fill_53178_L5 n N 0 (nI (n - d)) (nI n) v = some v' ∧ (∀ j : Nat, n - d ≤ j → j < n → v' j = 0) ∧ ∀ j : Nat, j < n - d → v' j = v j
  | 0, N + 1, v, _, _ => by
    refine ⟨v, ?_, fun j a b => by omega, fun j _ => rfl⟩
    unfold f_J7_fill_53178_L5
    rw [if_pos (nI_le (by omega) (by omega))]
  | d + 1, N + 1, v, h1, h2 => by
    obtain ⟨v', a1, a2, a3⟩ := fil_l n hn d N (upd v (n - (d + 1)) 0) (by omega) (by omega)
    have e0 : nI (n - (d + 1)) + 1 = nI (n - d) := by rw [nI_1]; congr 1; omega
    refine ⟨v', ?_, fun j b1 b2 => ?_, fun j b1 => ?_⟩
    · unfold f_J7_fill_53178_L5
      rw [if_neg (nI_ge (by omega) (by omega)), inB_nI (by omega) (by omega), mg_tt, clN (by omega), e0]
      exact a1
    · by_cases hj : j = n - (d + 1)
      · rw [a3 j (by omega), hj, up_s]
      · exact a2 j (by omega) b2
    · rw [a3 j (by omega), up_n (by omega)]
theorem fil (n : Nat) (hn : n < 1000) (v : Nat → Int32) : ∃ v' : Nat → Int32, f_J7_fill_53178 0 n v = some v' ∧ ∀ j : Nat, j < n → v' j = 0 := by
  obtain ⟨v', a1, a2, -⟩ := fil_l n hn n 100000 v (by omega) (by omega)
  rw [Nat.sub_self] at a1 a2
  exact ⟨v', a1, fun j hj => a2 j (by omega) hj⟩
theorem gat {j w : Nat} (hj : j ≤ 5) (hw : w ≤ 3) {F C : Int} (f1 : 1 ≤ F) (f2 : F ≤ 9) (c1 : 0 ≤ C) (c2 : C ≤ 9) (wy an ed : Nat → Int32) : ∃ wy' an' ed' : Nat → Int32, f_X7_gather (nI j) (nI w) (zI F) (zI C) wy an ed = some (wy', an', ed') ∧ (∀ i : Nat, i ≤ 3 → wy' i = zG (fun a b => if zWay (nI j) (nI w) (zI (F + a)) (zI (C + b)) = nI i then 1 else 0)) ∧ (∀ i : Nat, i ≤ 30 → an' i = zG (fun a b => if zBck (nI j) (nI w) (zI (F + a)) (zI (C + b)) = nI i then 1 else 0)) ∧ (∀ i : Nat, i ≤ 30 → ed' i = zG (fun a b => if zWay (nI j) (nI w) (zI (F + a)) (zI (C + b)) = 2 ∧ zBck (nI j) (nI w) (zI (F + a)) (zI (C + b)) = nI i then 1 else 0)) := by
  obtain ⟨w0, p0, z0⟩ := fil 4 (by omega) wy
  obtain ⟨n0, p1, z1⟩ := fil 31 (by omega) an
  obtain ⟨d0, p2, z2⟩ := fil 31 (by omega) ed
  obtain ⟨w1, n1, d1, q1, r1, s1, t1⟩ := ga_r hj hw f1 f2 c1 c2 (a := -1) (by omega) (by omega) (fun z0 z1 z2 z3 z4 z5 z6 z7 => f_X7_gather_L27 99999 z0 z1 z2 z3 z4 z5 z6 z7) w0 n0 d0
  obtain ⟨w2, n2, d2, q2, r2, s2, t2⟩ := ga_r hj hw f1 f2 c1 c2 (a := 0) (by omega) (by omega) (fun z0 z1 z2 z3 z4 z5 z6 z7 => f_X7_gather_L27 99998 z0 z1 z2 z3 z4 z5 z6 z7) w1 n1 d1
  obtain ⟨w3, n3, d3, q3, r3, s3, t3⟩ := ga_r hj hw f1 f2 c1 c2 (a := 1) (by omega) (by omega) (fun z0 z1 z2 z3 z4 z5 z6 z7 => f_X7_gather_L27 99997 z0 z1 z2 z3 z4 z5 z6 z7) w2 n2 d2
  have u : ∀ (N : Nat) (a : Int) (wy an ed : Nat → Int32), -1 ≤ a → a ≤ 1 → f_X7_gather_L27 (N + 1) (nI j) (nI w) (zI F) (zI C) (zI a) wy an ed = f_X7_gather_L36 (fun z0 z1 z2 z3 z4 z5 z6 z7 => f_X7_gather_L27 N z0 z1 z2 z3 z4 z5 z6 z7) 100000 (nI j) (nI w) (zI F) (zI C) (zI a) (-1) wy an ed := by
    intro N a wy an ed b1 b2
    conv => lhs; unfold f_X7_gather_L27
    rw [if_neg (by rw [zl_1, zI_lt (by omega) (by omega) (by omega) (by omega)]; omega)]
  have hend : f_X7_gather_L27 99997 (nI j) (nI w) (zI F) (zI C) (zI (1 + 1)) w3 n3 d3 = some (w3, n3, d3) := ga_f 99996 _ _ _ _ w3 n3 d3
  refine ⟨w3, n3, d3, ?_, fun i hi => ?_, fun i hi => ?_, fun i hi => ?_⟩
  · unfold f_X7_gather
    rw [p0, mb1_s, p1, mb1_s, p2, mb1_s]
    rw [show (-1 : Int) + 1 = 0 from rfl] at q1
    rw [show (0 : Int) + 1 = 1 from rfl] at q2
    rw [show (-1 : Int32) = zI (-1) from by decide, show f_X7_gather_L27 100000 (nI j) (nI w) (zI F) (zI C) (zI (-1)) w0 n0 d0 = _ from u 99999 (-1) w0 n0 d0 (by omega) (by omega), q1]
    refine (u 99998 0 w1 n1 d1 (by omega) (by omega)).trans ?_
    rw [q2]
    refine (u 99997 1 w2 n2 d2 (by omega) (by omega)).trans ?_
    rw [q3]
    exact hend
  · rw [r3 i hi, r2 i hi, r1 i hi, z0 i (by omega)]; rfl
  · rw [s3 i hi, s2 i hi, s1 i hi, z1 i (by omega)]; rfl
  · rw [t3 i hi, t2 i hi, t1 i hi, z2 i (by omega)]; rfl
/-! points at a stand -/
theorem edB {ed : Nat → Int32} {g : Nat → Int32} (h : ∀ i : Nat, i ≤ 30 → ed i = g i) {z : Int} (z1 : -10 ≤ z) (z2 : z ≤ 30) : f_X7_edgesBack (zI z) ed = some (if 0 ≤ z then g z.toNat else 0) := by
  unfold f_X7_edgesBack
  rw [cw]
  by_cases hz : 0 ≤ z
  · have hr : inR (zI z) 0 30 = true := by
      rw [inR_iff, zI_i (by omega) (by omega)]
      exact ⟨hz, z2⟩
    rw [hr, if_pos hz]
    simp only [mb0_s, mb1_s, mb2_s, mb3_s, mb4_s, mb5_s, mb6_s, mb7_s, mb8_s, mb9_s, mb10_s, mb11_s, mb12_s, mb13_s, mb14_s, mb15_s, mb16_s, mb17_s, mb18_s, mb19_s, mb20_s, mb21_s, mb22_s, mb23_s, mb24_s, ifI_t, ifI_f, isB_bI, bad10, no10, full10, bad11, badAs11, no11, full11, mb0_s, mb1_s, mb2_s, mb3_s, mb4_s, mb5_s, mb6_s, mb7_s, mb8_s, mb9_s, mb10_s, mb11_s, mb12_s, mb13_s, mb14_s, mb15_s, mb16_s, mb17_s, mb18_s, mb19_s, mb20_s, mb21_s, mb22_s, mb23_s, mb24_s, mg_tt, ib_0_2, ib_0_3, ib_0_4, ib_0_44, ib_0_117, ib_1_2, ib_1_3, ib_1_4, ib_1_117, ib_2_3, ib_2_4, ib_2_117, ib_3_4, ib_3_117, ib_4_117, ib_5_117, ib_44_117, tn_0, tn_1, tn_2, tn_3, tn_4, tn_5, tn_8, tn_10, tn_44, tn_72, cp_0, cp_1, cp_2, cp_3, cp_4]
    rw [zI_in hz (show z < (31 : Nat) by omega) (by omega), mg_tt, zI_cl (by omega) (by omega), h _ (by omega)]
  · have hr : inR (zI z) 0 30 = false := by
      cases hc : inR (zI z) 0 30 with
      | false => rfl
      | true =>
        rw [inR_iff, zI_i (by omega) (by omega)] at hc
        exact absurd hc.1 hz
    rw [hr, if_neg hz]
    simp only [mb0_s, mb1_s, mb2_s, mb3_s, mb4_s, mb5_s, mb6_s, mb7_s, mb8_s, mb9_s, mb10_s, mb11_s, mb12_s, mb13_s, mb14_s, mb15_s, mb16_s, mb17_s, mb18_s, mb19_s, mb20_s, mb21_s, mb22_s, mb23_s, mb24_s, ifI_t, ifI_f, isB_bI, bad10, no10, full10, bad11, badAs11, no11, full11, mb0_s, mb1_s, mb2_s, mb3_s, mb4_s, mb5_s, mb6_s, mb7_s, mb8_s, mb9_s, mb10_s, mb11_s, mb12_s, mb13_s, mb14_s, mb15_s, mb16_s, mb17_s, mb18_s, mb19_s, mb20_s, mb21_s, mb22_s, mb23_s, mb24_s, mg_tt, ib_0_2, ib_0_3, ib_0_4, ib_0_44, ib_0_117, ib_1_2, ib_1_3, ib_1_4, ib_1_117, ib_2_3, ib_2_4, ib_2_117, ib_3_4, ib_3_117, ib_4_117, ib_5_117, ib_44_117, tn_0, tn_1, tn_2, tn_3, tn_4, tn_5, tn_8, tn_10, tn_44, tn_72, cp_0, cp_1, cp_2, cp_3, cp_4]
theorem pa_s {ed g : Nat → Int32} (h : ∀ i : Nat, i ≤ 30 → ed i = g i) {z Y : Int} (y1 : 0 ≤ Y) (y2 : Y ≤ 20) (z1 : Y - 4 ≤ z) (z2 : z ≤ Y + 1) (N : Nat) (acc : Int32) : f_X7_pointsAt_L6 ed (N + 1) (zI Y) acc (zI z) = f_X7_pointsAt_L6 ed N (zI Y) (acc + (if 0 ≤ z then g z.toNat else 0) * zPnt (zI z) (zI Y)) (zI (z + 1)) := by
  conv => lhs; unfold f_X7_pointsAt_L6
  rw [if_neg (by rw [zl_1, zI_add, zI_lt (by omega) (by omega) (by omega) (by omega)]; omega), edB h (by omega) (by omega), mb1_s, pnt10, mb1_s, show zI z + 1 = zI (z + 1) from by rw [zl_1, zI_add]]
theorem pa_e (ed : Nat → Int32) {z Y : Int} (y1 : 0 ≤ Y) (y2 : Y ≤ 20) (z1 : Y + 1 < z) (z2 : z ≤ 30) (N : Nat) (acc : Int32) : f_X7_pointsAt_L6 ed (N + 1) (zI Y) acc (zI z) = some acc := by
  unfold f_X7_pointsAt_L6
  rw [if_pos (by rw [zl_1, zI_add, zI_lt (by omega) (by omega) (by omega) (by omega)]; omega)]
theorem pa10 {ed g : Nat → Int32} (h : ∀ i : Nat, i ≤ 30 → ed i = g i) {Y : Int} (y1 : 0 ≤ Y) (y2 : Y ≤ 20) : f_X7_pointsAt (zI Y) ed = some (0 + (if 0 ≤ Y - 4 then g (Y - 4).toNat else 0) * zPnt (zI (Y - 4)) (zI Y) + (if 0 ≤ Y - 3 then g (Y - 3).toNat else 0) * zPnt (zI (Y - 3)) (zI Y) + (if 0 ≤ Y - 2 then g (Y - 2).toNat else 0) * zPnt (zI (Y - 2)) (zI Y) + (if 0 ≤ Y - 1 then g (Y - 1).toNat else 0) * zPnt (zI (Y - 1)) (zI Y) + (if 0 ≤ Y then g Y.toNat else 0) * zPnt (zI Y) (zI Y) + (if 0 ≤ Y + 1 then g (Y + 1).toNat else 0) * zPnt (zI (Y + 1)) (zI Y)) := by
  unfold f_X7_pointsAt
  rw [show zI Y - 4 = zI (Y - 4) from by rw [zl_4, zI_sub]]
  refine (pa_s h y1 y2 (z := Y - 4) (by omega) (by omega) 99999 0).trans ?_
  rw [show Y - 4 + 1 = Y - 3 by omega]
  refine (pa_s h y1 y2 (z := Y - 3) (by omega) (by omega) 99998 _).trans ?_
  rw [show Y - 3 + 1 = Y - 2 by omega]
  refine (pa_s h y1 y2 (z := Y - 2) (by omega) (by omega) 99997 _).trans ?_
  rw [show Y - 2 + 1 = Y - 1 by omega]
  refine (pa_s h y1 y2 (z := Y - 1) (by omega) (by omega) 99996 _).trans ?_
  rw [show Y - 1 + 1 = Y by omega]
  refine (pa_s h y1 y2 (z := Y) (by omega) (by omega) 99995 _).trans ?_
  refine (pa_s h y1 y2 (z := Y + 1) (by omega) (by omega) 99994 _).trans ?_
  exact pa_e ed y1 y2 (by omega) (by omega) 99993 _
/-- at one case: the stands' points taken one by one are the throw's points -/
theorem one_e {j w : Nat} (hj : j ≤ 5) (hw : w ≤ 3) {F C Y : Int} (f1 : 0 ≤ F) (f2 : F ≤ 10) (c1 : -1 ≤ C) (c2 : C ≤ 10) (y1 : 0 ≤ Y) (y2 : Y ≤ 20) (ind : Int → Int32) (hi : ∀ z : Int, 0 ≤ z → z ≤ 30 → ind z = if zWay (nI j) (nI w) (zI F) (zI C) = 2 ∧ zBck (nI j) (nI w) (zI F) (zI C) = nI z.toNat then 1 else 0) (hneg : ∀ z : Int, z < 0 → ind z = 0) : ind (Y - 4) * zPnt (zI (Y - 4)) (zI Y) + ind (Y - 3) * zPnt (zI (Y - 3)) (zI Y) + ind (Y - 2) * zPnt (zI (Y - 2)) (zI Y) + ind (Y - 1) * zPnt (zI (Y - 1)) (zI Y) + ind Y * zPnt (zI Y) (zI Y) + ind (Y + 1) * zPnt (zI (Y + 1)) (zI Y) = zPts (nI j) (nI w) (zI F) (zI C) (zI Y) := by
  unfold zPts
  by_cases h2 : zWay (nI j) (nI w) (zI F) (zI C) = 2
  · rw [if_pos h2]
    have hF := way2 hw (by omega) (by omega) h2
    obtain ⟨e, e1, e2, e3⟩ := zYds_r hj (F := F) (C := C) (by omega) (by omega) (by omega) (by omega) (by omega)
    have hb : zBck (nI j) (nI w) (zI F) (zI C) = zI e := by
      unfold zBck
      rw [if_neg (by rw [h2]; decide), if_pos h2, e3]
    have hind : ∀ z : Int, z ≤ 30 → ind z = if z = e then 1 else 0 := by
      intro z z2
      by_cases hz : 0 ≤ z
      · rw [hi z hz z2, hb, nI_z z.toNat, Int.toNat_of_nonneg hz]
        by_cases he : z = e
        · subst he
          rw [if_pos ⟨h2, rfl⟩, if_pos rfl]
        · rw [if_neg (fun q => he ((zI_eq (by omega) (by omega) (by omega) (by omega)).mp q.2).symm), if_neg he]
      · rw [hneg z (by omega), if_neg (by omega)]
    rw [hind (Y - 4) (by omega), hind (Y - 3) (by omega), hind (Y - 2) (by omega), hind (Y - 1) (by omega), hind Y (by omega), hind (Y + 1) (by omega), e3]
    have k0 : ∀ x : Int32, (0 : Int32) * x = 0 := fun x => by simp
    have k1 : ∀ x : Int32, (1 : Int32) * x = x := fun x => by simp
    have s0 : ∀ x : Int32, (0 : Int32) + x = x := fun x => by simp
    have s1 : ∀ x : Int32, x + (0 : Int32) = x := fun x => by simp
    by_cases g1 : e = Y - 4
    · subst g1
      rw [if_pos rfl, if_neg (by omega), if_neg (by omega), if_neg (by omega), if_neg (by omega), if_neg (by omega)]
      simp only [k0, k1, s0, s1]
    · by_cases g2 : e = Y - 3
      · subst g2
        rw [if_neg (by omega), if_pos rfl, if_neg (by omega), if_neg (by omega), if_neg (by omega), if_neg (by omega)]
        simp only [k0, k1, s0, s1]
      · by_cases g3 : e = Y - 2
        · subst g3
          rw [if_neg (by omega), if_neg (by omega), if_pos rfl, if_neg (by omega), if_neg (by omega), if_neg (by omega)]
          simp only [k0, k1, s0, s1]
        · by_cases g4 : e = Y - 1
          · subst g4
            rw [if_neg (by omega), if_neg (by omega), if_neg (by omega), if_pos rfl, if_neg (by omega), if_neg (by omega)]
            simp only [k0, k1, s0, s1]
          · by_cases g5 : e = Y
            · subst g5
              rw [if_neg (by omega), if_neg (by omega), if_neg (by omega), if_neg (by omega), if_pos rfl, if_neg (by omega)]
              simp only [k0, k1, s0, s1]
            · by_cases g6 : e = Y + 1
              · subst g6
                rw [if_neg (by omega), if_neg (by omega), if_neg (by omega), if_neg (by omega), if_neg (by omega), if_pos rfl]
                simp only [k0, k1, s0, s1]
              · rw [if_neg (by omega), if_neg (by omega), if_neg (by omega), if_neg (by omega), if_neg (by omega), if_neg (by omega)]
                simp only [k0, s0, s1]
                rw [zPnt_z (by omega) (by omega) (by omega) (by omega)]
                by_cases h6 : Y + 1 < e
                · rw [if_pos h6]
                · rw [if_neg h6, if_pos (by omega)]
  · rw [if_neg h2]
    have hind : ∀ z : Int, z ≤ 30 → ind z = 0 := by
      intro z z2
      by_cases hz : 0 ≤ z
      · rw [hi z hz z2, if_neg (fun q => h2 q.1)]
      · exact hneg z (by omega)
    rw [hind (Y - 4) (by omega), hind (Y - 3) (by omega), hind (Y - 2) (by omega), hind (Y - 1) (by omega), hind Y (by omega), hind (Y + 1) (by omega)]
    simp only [Int32.zero_mul, Int32.add_zero]
theorem mean_G {j w : Nat} (hj : j ≤ 5) (hw : w ≤ 3) {F C Y : Int} (f1 : 1 ≤ F) (f2 : F ≤ 9) (c1 : 0 ≤ C) (c2 : C ≤ 9) : zMean (nI j) (nI w) (zI F) (zI C) (zI Y) = zG (fun a b => zPts (nI j) (nI w) (zI (F + a)) (zI (C + b)) (zI Y)) := by
  rw [← zS_G]
  unfold zMean zS
  simp only [zSlp_z, zI_add]
theorem mean10 {j w : Nat} (hj : j ≤ 5) (hw : w ≤ 3) {F C Y : Int} (f1 : 1 ≤ F) (f2 : F ≤ 9) (c1 : 0 ≤ C) (c2 : C ≤ 9) (y1 : 0 ≤ Y) (y2 : Y ≤ 20) {ed : Nat → Int32} (he : ∀ i : Nat, i ≤ 30 → ed i = zG (fun a b => if zWay (nI j) (nI w) (zI (F + a)) (zI (C + b)) = 2 ∧ zBck (nI j) (nI w) (zI (F + a)) (zI (C + b)) = nI i then 1 else 0)) : f_X7_pointsAt (zI Y) ed = some (zMean (nI j) (nI w) (zI F) (zI C) (zI Y)) := by
  rw [pa10 he y1 y2, mean_G hj hw f1 f2 c1 c2]
  refine congrArg some ?_
  have hq : ∀ z : Int, (if 0 ≤ z then zG (fun a b => if zWay (nI j) (nI w) (zI (F + a)) (zI (C + b)) = 2 ∧ zBck (nI j) (nI w) (zI (F + a)) (zI (C + b)) = nI z.toNat then 1 else 0) else 0) = zG (fun a b => if 0 ≤ z then (if zWay (nI j) (nI w) (zI (F + a)) (zI (C + b)) = 2 ∧ zBck (nI j) (nI w) (zI (F + a)) (zI (C + b)) = nI z.toNat then 1 else 0) else 0) := by
    intro z
    by_cases h : 0 ≤ z
    · simp only [h, if_true]
    · simp only [h, if_false, zG_0]
  rw [hq, hq, hq, hq, hq, hq, zG_mul, zG_mul, zG_mul, zG_mul, zG_mul, zG_mul, Int32.zero_add, zG_add, zG_add, zG_add, zG_add, zG_add]
  refine zG_c (fun a b a1 a2 b1 b2 => ?_)
  exact one_e hj hw (by omega) (by omega) (by omega) (by omega) y1 y2 (fun z => if 0 ≤ z then (if zWay (nI j) (nI w) (zI (F + a)) (zI (C + b)) = 2 ∧ zBck (nI j) (nI w) (zI (F + a)) (zI (C + b)) = nI z.toNat then 1 else 0) else 0) (fun z z1 _ => by rw [if_pos z1]) (fun z z1 => by rw [if_neg (by omega)])
/-! the model's mean -/
theorem mean_l {s : Nat → Int32} {i j w nm : Nat} (hA : At s i j w nm) {F C Y : Int} (f1 : 1 ≤ F) (f2 : F ≤ 9) (c1 : 0 ≤ C) (c2 : C ≤ 9) (y1 : 0 ≤ Y) (y2 : Y ≤ 20) : ∀ (d N : Nat), d ≤ 16 → d < N → f_X11_meanOf_L6 s N (nI i) (zI F) (zI C) (zI Y) (zS (fun a b => zPts (nI j) (nI w) (zI (F + a)) (zI (C + b)) (zI Y)) (16 - d)) (nI (16 - d)) = some (zS (fun a b => zPts (nI j) (nI w) (zI (F + a)) (zI (C + b)) (zI Y)) 16)
  | 0, N + 1, _, _ => by
    unfold f_X11_meanOf_L6
    rw [if_pos (show (16 : Int32) ≤ nI (16 - 0) from by decide)]
  | d + 1, N + 1, h1, h2 => by
    obtain ⟨p1, p2⟩ := slip_all ⟨16 - (d + 1), by omega⟩
    have p1' : f_X11_slip (nI (16 - (d + 1)) / 4) = some (zI (zsl ((16 - (d + 1)) / 4))) := p1
    have p2' : f_X11_slip (irm (nI (16 - (d + 1))) 4) = some (zI (zsl ((16 - (d + 1)) % 4))) := p2
    have q1 := zsl_r ((16 - (d + 1)) / 4)
    have q2 := zsl_r ((16 - (d + 1)) % 4)
    have hp := pts11 hA (F := F + zsl ((16 - (d + 1)) / 4)) (C := C + zsl ((16 - (d + 1)) % 4)) (Y := Y) (by omega) (by omega) (by omega) (by omega) (by omega) y1 y2
    unfold f_X11_meanOf_L6
    rw [if_neg (show ¬ (16 : Int32) ≤ nI (16 - (d + 1)) from nI_ge (b := 16) (by omega) (by decide)), p1', mb1_s, p2', mb1_s, zI_add, zI_add, hp, mb1_s, nI_1, show 16 - (d + 1) + 1 = 16 - d by omega]
    have := mean_l hA f1 f2 c1 c2 y1 y2 d N (by omega) (by omega)
    rw [show 16 - d = 16 - (d + 1) + 1 by omega, zS_s] at this
    rw [show 16 - d = 16 - (d + 1) + 1 by omega]
    exact this
theorem mean11 {s : Nat → Int32} {i j w nm : Nat} (hA : At s i j w nm) {F C Y : Int} (f1 : 1 ≤ F) (f2 : F ≤ 9) (c1 : 0 ≤ C) (c2 : C ≤ 9) (y1 : 0 ≤ Y) (y2 : Y ≤ 20) : f_X11_meanOf (nI i) (zI F) (zI C) (zI Y) s = some (zMean (nI j) (nI w) (zI F) (zI C) (zI Y)) := by
  rw [mean_G hA.2.2.1 hA.2.2.2.1 f1 f2 c1 c2, ← zS_G]
  unfold f_X11_meanOf
  exact mean_l hA f1 f2 c1 c2 y1 y2 16 100000 (by omega) (by omega)
