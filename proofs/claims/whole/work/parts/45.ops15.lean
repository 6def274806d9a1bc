set_option maxRecDepth 8000
/-! best, sides, worth -/
theorem bit255 : ∀ i : Fin 8, ((255 : Int32) >>> (nI i &&& 31)) &&& 1 = 1 := by decide +kernel
theorem bit1 : ∀ a i : Fin 8, (((1 : Int32) <<< (nI a &&& 31)) >>> (nI i &&& 31)) &&& 1 = 1 ↔ i.val = a.val := by decide +kernel
theorem bitlo : ∀ a i : Fin 8, ((((1 : Int32) <<< (nI a &&& 31)) - 1) >>> (nI i &&& 31)) &&& 1 = 1 ↔ i.val < a.val := by decide +kernel
theorem bithi : ∀ a i : Fin 8, (((255 : Int32) &&& ((((1 : Int32) <<< (nI a &&& 31)) - 1) ^^^ (-1 : Int32))) >>> (nI i &&& 31)) &&& 1 = 1 ↔ a.val ≤ i.val := by decide +kernel
theorem bitno : ∀ a i : Fin 8, (((255 : Int32) &&& (((1 : Int32) <<< (nI a &&& 31)) ^^^ (-1 : Int32))) >>> (nI i &&& 31)) &&& 1 = 1 ↔ ¬ i.val = a.val := by decide +kernel
def zKd (ks : Nat → Int32) (i : Nat) : Nat := (ks i).toInt.toNat
def zP (ks : Nat → Int32) (w i : Nat) : Nat := (zN (zV (zKd ks i) w) 1890).1
def zI2 (ks : Nat → Int32) (w i : Nat) : Nat := (zN (zV (zKd ks i) w) 1890).2
theorem zKd_e {ks : Nat → Int32} {i j : Nat} (hj : j ≤ 5) (h : ks i = nI j) : zKd ks i = j := by
  unfold zKd
  rw [h, nI_toInt (by omega)]
  omega
theorem zP_r {ks : Nat → Int32} {w i j : Nat} (hw : w ≤ 3) (hj : j ≤ 5) (h : ks i = nI j) : zP ks w i ≤ 160 ∧ zI2 ks w i < 1890 := by
  unfold zP zI2
  rw [zKd_e hj h]
  exact zB_r hj hw
def zSel (set : Int32) (i : Nat) : Bool := decide ((set >>> (nI i &&& 31)) &&& 1 = 1)
theorem lay_l {s ks : Nat → Int32} {nm w : Nat} (b1 : nm ≤ 8) (hw : w ≤ 3) (e0 : s 0 = nI nm) (e1 : s 1 = nI w) (hk : ∀ n : Nat, n < nm → s (6 + n) = ks n ∧ ∃ j : Nat, j ≤ 5 ∧ ks n = nI j) (set : Int32) : ∀ (d N : Nat), d ≤ nm → 1890 * d + 1 ≤ N → f_X11_laysBest_L12 s N set (nI (1890 * (nm - d))) (zI (zF (zSel set) (zP ks w) (zI2 ks w) (nm - d)).1) (zI (zF (zSel set) (zP ks w) (zI2 ks w) (nm - d)).2) = some (nI (zC (zSel set) (zP ks w) nm), zI (zF (zSel set) (zP ks w) (zI2 ks w) nm).1, zI (zF (zSel set) (zP ks w) (zI2 ks w) nm).2)
  | 0, N, _, hN => by
    obtain ⟨N, rfl⟩ : ∃ n, N = n + 1 := ⟨N - 1, by omega⟩
    have hb := zF_b (sel := zSel set) (mP := zP ks w) (mI := zI2 ks w) nm b1 (fun i hi => by obtain ⟨-, j, j1, j2⟩ := hk i hi; exact zP_r hw j1 j2)
    obtain ⟨-, hc⟩ := zF_C (zSel set) (zP ks w) (zI2 ks w) nm
    have e1890 : nI nm * 1890 = nI (1890 * nm) := by rw [nI_z, nI_z, zl_1890, zI_mul]; congr 1; omega
    unfold f_X11_laysBest_L12
    rw [Nat.sub_zero, ib_0_117, mg_tt, tn_0, e0, e1890, if_pos (nI_le (by omega) (by omega))]
    generalize (zF (zSel set) (zP ks w) (zI2 ks w) nm).1 = m at *
    generalize (zF (zSel set) (zP ks w) (zI2 ks w) nm).2 = f at *
    generalize zC (zSel set) (zP ks w) nm = c at *
    by_cases hm : m = -1
    · rw [if_pos (show zI m = -1 by rw [hm]; rfl), show c = 0 by omega]
      rfl
    · rw [if_neg (show ¬ zI m = -1 by rw [zl_1, zI_neg, zI_eq (by omega) (by omega) (by omega) (by omega)]; exact hm), nI_z c, show (c : Int) = m by omega]
  | d + 1, N, h1, hN => by
    have hi : nm - (d + 1) < nm := by omega
    obtain ⟨j, hj, hA⟩ := At.of b1 hw e0 e1 hk hi
    have hbb := zF_b (sel := zSel set) (mP := zP ks w) (mI := zI2 ks w) (nm - (d + 1)) (by omega) (fun i hi => by obtain ⟨-, j, j1, j2⟩ := hk i (by omega); exact zP_r hw j1 j2)
    have hst : zF (zSel set) (zP ks w) (zI2 ks w) (nm - (d + 1) + 1) = if zSel set (nm - (d + 1)) = true ∧ (zF (zSel set) (zP ks w) (zI2 ks w) (nm - (d + 1))).1 < (zP ks w (nm - (d + 1)) : Int) then ((zP ks w (nm - (d + 1)) : Int), ((1890 * (nm - (d + 1)) + zI2 ks w (nm - (d + 1)) : Nat) : Int)) else zF (zSel set) (zP ks w) (zI2 ks w) (nm - (d + 1)) := rfl
    have ih := fun M hM => lay_l b1 hw e0 e1 hk set d M (by omega) hM
    rw [show nm - d = nm - (d + 1) + 1 by omega, hst] at ih
    by_cases hb : (set >>> (nI (nm - (d + 1)) &&& 31)) &&& 1 = 1
    · have hsel : zSel set (nm - (d + 1)) = true := decide_eq_true hb
      obtain ⟨M, g1, g2⟩ := lay_i hA hb (m0 := (zF (zSel set) (zP ks w) (zI2 ks w) (nm - (d + 1))).1) (f0 := (zF (zSel set) (zP ks w) (zI2 ks w) (nm - (d + 1))).2) hbb.1 hbb.2.1 1890 N (by omega) (by omega)
      have hih := ih M (by omega)
      have hz0 : ∀ z : Nat × Nat, zSt (zF (zSel set) (zP ks w) (zI2 ks w) (nm - (d + 1))).1 (zF (zSel set) (zP ks w) (zI2 ks w) (nm - (d + 1))).2 (nm - (d + 1)) (1890 - 1890) z = zF (zSel set) (zP ks w) (zI2 ks w) (nm - (d + 1)) := fun z => if_pos rfl
      rw [hz0, Nat.sub_self, Nat.add_zero] at g2
      rw [g2, ← hih]
      have hz1 : zSt (zF (zSel set) (zP ks w) (zI2 ks w) (nm - (d + 1))).1 (zF (zSel set) (zP ks w) (zI2 ks w) (nm - (d + 1))).2 (nm - (d + 1)) 1890 (zN (zV j w) 1890) = if zSel set (nm - (d + 1)) = true ∧ (zF (zSel set) (zP ks w) (zI2 ks w) (nm - (d + 1))).1 < (zP ks w (nm - (d + 1)) : Int) then ((zP ks w (nm - (d + 1)) : Int), ((1890 * (nm - (d + 1)) + zI2 ks w (nm - (d + 1)) : Nat) : Int)) else zF (zSel set) (zP ks w) (zI2 ks w) (nm - (d + 1)) := by
        unfold zSt zP zI2
        rw [if_neg (show ¬ 1890 = 0 by omega), zKd_e hA.2.2.1 hj]
        by_cases hq : (zF (zSel set) (fun i => (zN (zV (zKd ks i) w) 1890).1) (fun i => (zN (zV (zKd ks i) w) 1890).2) (nm - (d + 1))).1 < ((zN (zV j w) 1890).1 : Int)
        · rw [if_pos hq, if_pos ⟨hsel, hq⟩]
        · rw [if_neg hq, if_neg (fun q => hq q.2)]
      rw [hz1]
    · have hsel : ¬ zSel set (nm - (d + 1)) = true := fun q => hb (of_decide_eq_true q)
      obtain ⟨M, g1, g2⟩ := lay_n b1 hi e0 hb (zI (zF (zSel set) (zP ks w) (zI2 ks w) (nm - (d + 1))).1) (zI (zF (zSel set) (zP ks w) (zI2 ks w) (nm - (d + 1))).2) 1890 N (by omega) (by omega)
      have hih := ih M (by omega)
      rw [if_neg (fun q => hsel q.1)] at hih
      rw [Nat.sub_self, Nat.add_zero] at g2
      rw [g2, ← hih]
theorem lay11 {s ks : Nat → Int32} {nm w : Nat} (b1 : nm ≤ 8) (hw : w ≤ 3) (e0 : s 0 = nI nm) (e1 : s 1 = nI w) (hk : ∀ n : Nat, n < nm → s (6 + n) = ks n ∧ ∃ j : Nat, j ≤ 5 ∧ ks n = nI j) (set m f : Int32) : f_X11_laysBest set m f s = some (nI (zC (zSel set) (zP ks w) nm), zI (zF (zSel set) (zP ks w) (zI2 ks w) nm).1, zI (zF (zSel set) (zP ks w) (zI2 ks w) nm).2) := by
  have h := lay_l b1 hw e0 e1 hk set nm 100000 (by omega) (by omega)
  rw [Nat.sub_self, Nat.mul_zero] at h
  unfold f_X11_laysBest
  exact h
/-- one stone alone -/
theorem zF_one {sel : Nat → Bool} {mP mI : Nat → Nat} {a : Nat} : ∀ n : Nat, (∀ i : Nat, i < n → (sel i = true ↔ i = a)) → zF sel mP mI n = if a < n then ((mP a : Int), ((1890 * a + mI a : Nat) : Int)) else (-1, -1)
  | 0, _ => by unfold zF; rw [if_neg (by omega)]
  | n + 1, h => by
    have ih := zF_one (sel := sel) (mP := mP) (mI := mI) (a := a) n (fun i hi => h i (by omega))
    unfold zF
    rw [ih]
    by_cases hn : n = a
    · subst hn
      rw [if_neg (show ¬ n < n by omega), if_pos (show n < n + 1 by omega), if_pos ⟨(h n (by omega)).mpr rfl, by show (-1 : Int) < (mP n : Int); omega⟩]
    · rw [if_neg (show ¬ (sel n = true ∧ _) from fun q => hn ((h n (by omega)).mp q.1))]
      by_cases ha : a < n
      · rw [if_pos ha, if_pos (by omega)]
      · rw [if_neg ha, if_neg (by omega)]
/-- all of them: the first that is best -/
theorem zF_all {sel : Nat → Bool} {mP mI : Nat → Nat} : ∀ n : Nat, 0 < n → (∀ i : Nat, i < n → sel i = true) → ∃ i0 : Nat, i0 < n ∧ zF sel mP mI n = ((mP i0 : Int), ((1890 * i0 + mI i0 : Nat) : Int)) ∧ ∀ i : Nat, i < i0 → mP i < mP i0
  | n + 1, _, h => by
    by_cases h0 : n = 0
    · subst h0
      refine ⟨0, by omega, ?_, fun i hi => by omega⟩
      unfold zF
      rw [if_pos ⟨h 0 (by omega), by unfold zF; show (-1 : Int) < (mP 0 : Int); omega⟩]
    · obtain ⟨i0, a1, a2, a3⟩ := zF_all (sel := sel) (mP := mP) (mI := mI) n (by omega) (fun i hi => h i (by omega))
      unfold zF
      rw [a2]
      by_cases hc : ((mP i0 : Int)) < (mP n : Int)
      · refine ⟨n, by omega, by rw [if_pos ⟨h n (by omega), hc⟩], fun i hi => ?_⟩
        have hz := zF_C sel mP mI
        have key : ∀ m : Nat, m ≤ n → ∀ i : Nat, i < m → (∀ i : Nat, i < m → sel i = true) → (mP i : Int) ≤ (zF sel mP mI m).1 := by
          intro m
          induction m with
          | zero => intro _ i hi; omega
          | succ m ih =>
            intro hm i hi hs
            have ihm := ih (by omega)
            unfold zF
            by_cases him : i = m
            · subst him
              by_cases hx : (zF sel mP mI i).1 < (mP i : Int)
              · rw [if_pos ⟨hs i (by omega), hx⟩]; exact Int.le_refl _
              · rw [if_neg (fun q => hx q.2)]; omega
            · have h1 := ihm i (by omega) (fun i hi => hs i (by omega))
              by_cases hx : (zF sel mP mI m).1 < (mP m : Int)
              · rw [if_pos ⟨hs m (by omega), hx⟩]; show (mP i : Int) ≤ (mP m : Int); omega
              · rw [if_neg (fun q => hx q.2)]; exact h1
        have h1 := key n (by omega) i hi (fun i hi => h i (by omega))
        rw [a2] at h1
        have h2 : (mP i : Int) ≤ (mP i0 : Int) := h1
        omega
      · exact ⟨i0, by omega, by rw [if_neg (fun q => hc q.2)], a3⟩
theorem first_l {nm w : Nat} {ks cs : Nat → Int32} {mP : Nat → Nat} (b1 : nm ≤ 8) (hP : ∀ i : Nat, i < nm → mP i ≤ 160 ∧ f_X0_partOf (nI i) 0 (nI nm) (nI w) ks cs = some (nI (mP i))) {i0 : Nat} (hi0 : i0 < nm) (hlt : ∀ i : Nat, i < i0 → mP i < mP i0) : ∀ (d N : Nat), d ≤ i0 → d < N → f_X10_bestStone_L19 (nI nm) (nI w) ks cs N (nI (mP i0)) (nI (i0 - d)) = some (nI i0)
  | 0, N + 1, _, _ => by
    unfold f_X10_bestStone_L19
    rw [Nat.sub_zero, if_neg (nI_ge (by omega) (by omega)), (hP i0 hi0).2, mb1_s, if_pos rfl]
  | d + 1, N + 1, h1, h2 => by
    have hl := hlt (i0 - (d + 1)) (by omega)
    have hp := hP (i0 - (d + 1)) (by omega)
    have hp0 := (hP i0 hi0).1
    unfold f_X10_bestStone_L19
    rw [if_neg (nI_ge (by omega) (by omega)), hp.2, mb1_s, if_neg (by rw [nI_eq (by omega) (by omega)]; omega), nI_1, show i0 - (d + 1) + 1 = i0 - d by omega]
    exact first_l b1 hP hi0 hlt d N (by omega) (by omega)
