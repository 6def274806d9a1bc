set_option maxRecDepth 8000
/-! the best throw -/
def zV (k w n : Nat) : Nat := (zAt (nI k) (nI w) n).toInt.toNat
theorem zV_e {k w n : Nat} (hk : k ≤ 5) (hw : w ≤ 3) (hn : n < 1890) : zAt (nI k) (nI w) n = nI (zV k w n) ∧ zV k w n ≤ 160 := by
  have h : ∃ v : Nat, v ≤ 160 ∧ zAt (nI k) (nI w) n = nI v := by
    unfold zAt
    rw [nI_z (1 + n / 210), nI_z (n / 21 % 10), nI_z (n % 21)]
    exact zMean_r hk hw (by omega) (by omega) (by omega) (by omega)
  obtain ⟨v, v1, v2⟩ := h
  unfold zV
  rw [v2, nI_toInt (by omega)]
  exact ⟨by congr 1, by omega⟩
def zN (g : Nat → Nat) : Nat → Nat × Nat | 0 => (0, 0) | n + 1 => if (zN g n).1 < g n then (g n, n) else zN g n
theorem zN_r {g : Nat → Nat} {B : Nat} : ∀ n : Nat, (∀ i : Nat, i < n → g i ≤ B) → (zN g n).1 ≤ B ∧ ((zN g n).2 = 0 ∨ (zN g n).2 < n)
  | 0, _ => ⟨Nat.zero_le _, Or.inl rfl⟩
  | n + 1, h => by
    obtain ⟨h1, h2⟩ := zN_r n (fun i hi => h i (by omega))
    unfold zN
    split
    · exact ⟨h n (by omega), Or.inr (by omega)⟩
    · exact ⟨h1, by omega⟩
theorem zMx_N {k w : Nat} (hk : k ≤ 5) (hw : w ≤ 3) : ∀ n : Nat, n ≤ 1890 → zMx (zAt (nI k) (nI w)) n = (nI (zN (zV k w) n).1, (zN (zV k w) n).2)
  | 0, _ => rfl
  | n + 1, h => by
    obtain ⟨e1, e2⟩ := zV_e hk hw (show n < 1890 by omega)
    have hr := zN_r (g := zV k w) (B := 160) n (fun i hi => (zV_e hk hw (by omega)).2)
    unfold zMx zN
    rw [zMx_N hk hw n (by omega), e1]
    by_cases hc : (zN (zV k w) n).1 < zV k w n
    · rw [if_pos (show nI (zN (zV k w) n).1 < nI (zV k w n) from nI_lt hc (by omega)), if_pos hc]
    · rw [if_neg (show ¬ nI (zN (zV k w) n).1 < nI (zV k w n) from nI_nlt (by omega) (by omega)), if_neg hc]
def zCd (p : Nat × Nat) : Nat := ((p.1 * 10 + (1 + p.2 / 210)) * 10 + p.2 / 21 % 10) * 21 + p.2 % 21
theorem zB_r {k w : Nat} (hk : k ≤ 5) (hw : w ≤ 3) : (zN (zV k w) 1890).1 ≤ 160 ∧ (zN (zV k w) 1890).2 < 1890 := by
  have hr := zN_r (g := zV k w) (B := 160) 1890 (fun i hi => (zV_e hk hw hi).2)
  generalize zN (zV k w) 1890 = z at hr ⊢
  omega
theorem zBest_e {k w : Nat} (hk : k ≤ 5) (hw : w ≤ 3) : zBest (nI k) (nI w) = (nI (zN (zV k w) 1890).1, (zN (zV k w) 1890).2) := zMx_N hk hw 1890 (by omega)
theorem zCode_e {k w : Nat} (hk : k ≤ 5) (hw : w ≤ 3) : zCode (nI k) (nI w) = nI (zCd (zN (zV k w) 1890)) := by
  have e := zBest_e hk hw
  unfold zCode
  generalize zBest (nI k) (nI w) = y at e ⊢
  generalize zN (zV k w) 1890 = z at e ⊢
  subst e
  unfold zCd
  simp only [nI_z, zl_10, zl_21, zI_mul, zI_add]
  refine congrArg zI ?_
  omega
theorem code10 {m f s t : Nat} : f_X0_code (nI m) (nI f) (nI s) (nI t) = some (nI (((m * 10 + f) * 10 + s) * 21 + t)) := by
  unfold f_X0_code
  simp only [nI_z, zl_10, zl_21, zI_mul, zI_add]
  refine congrArg some (congrArg zI ?_)
  omega
theorem se_t {k w fi si : Nat} (hk : k ≤ 5) (hw : w ≤ 3) (hf : fi ≤ 8) (hs : si ≤ 9) (kh1 : Int32 → Int32 → Int32 → Int32 → Int32 → (Nat → Int32) → (Nat → Int32) → (Nat → Int32) → Option (Int32 × (Nat → Int32) × (Nat → Int32) × (Nat → Int32))) (kh2 : Int32 → Int32 → Int32 → Int32 → Int32 → Int32 → (Nat → Int32) → (Nat → Int32) → (Nat → Int32) → Option (Int32 × (Nat → Int32) × (Nat → Int32) × (Nat → Int32))) (pw pa pe : Nat → Int32) (he : ∀ Y : Nat, Y ≤ 20 → f_X7_pointsAt (nI Y) pe = some (zMean (nI k) (nI w) (nI (1 + fi)) (nI si) (nI Y))) : ∀ (d N : Nat), d ≤ 21 → d < N → f_X0_search_L44 kh1 kh2 N (nI k) (nI w) (nI (zN (zV k w) (fi * 210 + si * 21 + (21 - d))).1) (nI (zCd (zN (zV k w) (fi * 210 + si * 21 + (21 - d))))) (nI (1 + fi)) (nI si) (nI (21 - d)) pw pa pe = kh2 (nI k) (nI w) (nI (zN (zV k w) (fi * 210 + (si + 1) * 21)).1) (nI (zCd (zN (zV k w) (fi * 210 + (si + 1) * 21)))) (nI (1 + fi)) (nI (si + 1)) pw pa pe
  | 0, N + 1, _, _ => by
    unfold f_X0_search_L44
    rw [if_pos (show (20 : Int32) < nI (21 - 0) from by decide), nI_1, show fi * 210 + si * 21 + (21 - 0) = fi * 210 + (si + 1) * 21 by omega]
  | d + 1, N + 1, h1, h2 => by
    have hidx : fi * 210 + si * 21 + (21 - (d + 1)) < 1890 := by omega
    obtain ⟨e1, e2⟩ := zV_e hk hw hidx
    have hp := he (21 - (d + 1)) (by omega)
    have hz : zMean (nI k) (nI w) (nI (1 + fi)) (nI si) (nI (21 - (d + 1))) = nI (zV k w (fi * 210 + si * 21 + (21 - (d + 1)))) := by
      rw [← e1]
      unfold zAt
      rw [show (fi * 210 + si * 21 + (21 - (d + 1))) / 210 = fi by omega, show (fi * 210 + si * 21 + (21 - (d + 1))) / 21 % 10 = si by omega, show (fi * 210 + si * 21 + (21 - (d + 1))) % 21 = 21 - (d + 1) by omega]
    rw [hz] at hp
    have en : nI (21 - (d + 1)) + 1 = nI (21 - d) := by rw [nI_1]; congr 1; omega
    have ih := se_t hk hw hf hs kh1 kh2 pw pa pe he d N (by omega) (by omega)
    rw [show fi * 210 + si * 21 + (21 - d) = fi * 210 + si * 21 + (21 - (d + 1)) + 1 by omega] at ih
    have hst : zN (zV k w) (fi * 210 + si * 21 + (21 - (d + 1)) + 1) = if (zN (zV k w) (fi * 210 + si * 21 + (21 - (d + 1)))).1 < zV k w (fi * 210 + si * 21 + (21 - (d + 1))) then (zV k w (fi * 210 + si * 21 + (21 - (d + 1))), fi * 210 + si * 21 + (21 - (d + 1))) else zN (zV k w) (fi * 210 + si * 21 + (21 - (d + 1))) := rfl
    rw [hst] at ih
    have hr := zN_r (g := zV k w) (B := 160) (fi * 210 + si * 21 + (21 - (d + 1))) (fun i hi => (zV_e hk hw (by omega)).2)
    unfold f_X0_search_L44 f_X0_search_L81
    rw [if_neg (show ¬ (20 : Int32) < nI (21 - (d + 1)) from nI_nlt (a := 20) (b := 21 - (d + 1)) (by omega) (by decide)), hp, mb1_s]
    by_cases hc : (zN (zV k w) (fi * 210 + si * 21 + (21 - (d + 1)))).1 < zV k w (fi * 210 + si * 21 + (21 - (d + 1)))
    · rw [if_pos hc] at ih
      rw [if_neg (show ¬ nI (zV k w (fi * 210 + si * 21 + (21 - (d + 1)))) ≤ nI (zN (zV k w) (fi * 210 + si * 21 + (21 - (d + 1)))).1 from nI_ge hc (by omega)), code10, mb1_s, en]
      have hcd : zCd (zV k w (fi * 210 + si * 21 + (21 - (d + 1))), fi * 210 + si * 21 + (21 - (d + 1))) = ((zV k w (fi * 210 + si * 21 + (21 - (d + 1))) * 10 + (1 + fi)) * 10 + si) * 21 + (21 - (d + 1)) := by
        unfold zCd
        dsimp only
        rw [show (fi * 210 + si * 21 + (21 - (d + 1))) / 210 = fi by omega, show (fi * 210 + si * 21 + (21 - (d + 1))) / 21 % 10 = si by omega, show (fi * 210 + si * 21 + (21 - (d + 1))) % 21 = 21 - (d + 1) by omega]
      rw [hcd] at ih
      exact ih
    · rw [if_neg hc] at ih
      rw [if_pos (show nI (zV k w (fi * 210 + si * 21 + (21 - (d + 1)))) ≤ nI (zN (zV k w) (fi * 210 + si * 21 + (21 - (d + 1)))).1 from nI_le (by omega) (by omega)), en]
      exact ih
theorem se_s {k w fi : Nat} (hk : k ≤ 5) (hw : w ≤ 3) (hf : fi ≤ 8) (kh1 : Int32 → Int32 → Int32 → Int32 → Int32 → (Nat → Int32) → (Nat → Int32) → (Nat → Int32) → Option (Int32 × (Nat → Int32) × (Nat → Int32) × (Nat → Int32))) : ∀ (d N : Nat) (pw pa pe : Nat → Int32), d ≤ 10 → d < N → ∃ pw' pa' pe' : Nat → Int32, f_X0_search_L24 kh1 N (nI k) (nI w) (nI (zN (zV k w) (fi * 210 + (10 - d) * 21)).1) (nI (zCd (zN (zV k w) (fi * 210 + (10 - d) * 21)))) (nI (1 + fi)) (nI (10 - d)) pw pa pe = kh1 (nI k) (nI w) (nI (zN (zV k w) ((fi + 1) * 210)).1) (nI (zCd (zN (zV k w) ((fi + 1) * 210)))) (nI (1 + (fi + 1))) pw' pa' pe'
  | 0, N + 1, pw, pa, pe, _, _ => by
    refine ⟨pw, pa, pe, ?_⟩
    unfold f_X0_search_L24
    rw [if_pos (show (9 : Int32) < nI (10 - 0) from by decide), nI_1, show fi * 210 + (10 - 0) * 21 = (fi + 1) * 210 by omega, show 1 + fi + 1 = 1 + (fi + 1) by omega]
  | d + 1, N + 1, pw, pa, pe, h1, h2 => by
    obtain ⟨p1, p2, p3, g1, g2, g3, g4⟩ := gat hk hw (F := ((1 + fi : Nat) : Int)) (C := ((10 - (d + 1) : Nat) : Int)) (by omega) (by omega) (by omega) (by omega) pw pa pe
    rw [← nI_z, ← nI_z] at g1
    have he : ∀ Y : Nat, Y ≤ 20 → f_X7_pointsAt (nI Y) p3 = some (zMean (nI k) (nI w) (nI (1 + fi)) (nI (10 - (d + 1))) (nI Y)) := by
      intro Y hY
      have := mean10 hk hw (F := ((1 + fi : Nat) : Int)) (C := ((10 - (d + 1) : Nat) : Int)) (Y := (Y : Int)) (by omega) (by omega) (by omega) (by omega) (by omega) (by omega) g4
      rw [← nI_z, ← nI_z, ← nI_z] at this
      exact this
    have ht := se_t hk hw hf (show 10 - (d + 1) ≤ 9 by omega) kh1 (fun z0 z1 z2 z3 z4 z5 z6 z7 z8 => f_X0_search_L24 kh1 N z0 z1 z2 z3 z4 z5 z6 z7 z8) p1 p2 p3 he 21 100000 (by omega) (by omega)
    rw [show 21 - 21 = 0 from rfl, Nat.add_zero, show 10 - (d + 1) + 1 = 10 - d by omega, show nI 0 = 0 from nI_0] at ht
    obtain ⟨q1, q2, q3, q4⟩ := se_s hk hw hf kh1 d N p1 p2 p3 (by omega) (by omega)
    refine ⟨q1, q2, q3, ?_⟩
    conv => lhs; unfold f_X0_search_L24
    rw [if_neg (show ¬ (9 : Int32) < nI (10 - (d + 1)) from nI_nlt (a := 9) (b := 10 - (d + 1)) (by omega) (by decide)), g1, mb3_s]
    exact ht.trans q4
theorem se_f {k w : Nat} (hk : k ≤ 5) (hw : w ≤ 3) : ∀ (d N : Nat) (pw pa pe : Nat → Int32), d ≤ 9 → d < N → ∃ pw' pa' pe' : Nat → Int32, f_X0_search_L14 N (nI k) (nI w) (nI (zN (zV k w) ((9 - d) * 210)).1) (nI (zCd (zN (zV k w) ((9 - d) * 210)))) (nI (1 + (9 - d))) pw pa pe = some (nI (zCd (zN (zV k w) 1890)), pw', pa', pe')
  | 0, N + 1, pw, pa, pe, _, _ => by
    refine ⟨pw, pa, pe, ?_⟩
    unfold f_X0_search_L14
    rw [if_pos (show (9 : Int32) < nI (1 + (9 - 0)) from by decide)]
  | d + 1, N + 1, pw, pa, pe, h1, h2 => by
    obtain ⟨p1, p2, p3, hs⟩ := se_s hk hw (show 9 - (d + 1) ≤ 8 by omega) (fun z0 z1 z2 z3 z4 z5 z6 z7 => f_X0_search_L14 N z0 z1 z2 z3 z4 z5 z6 z7) 10 100000 pw pa pe (by omega) (by omega)
    rw [show (9 - (d + 1)) * 210 + (10 - 10) * 21 = (9 - (d + 1)) * 210 by omega, show 9 - (d + 1) + 1 = 9 - d by omega, show nI (10 - 10) = 0 from nI_0] at hs
    obtain ⟨q1, q2, q3, q4⟩ := se_f hk hw d N p1 p2 p3 (by omega) (by omega)
    refine ⟨q1, q2, q3, ?_⟩
    conv => lhs; unfold f_X0_search_L14
    rw [if_neg (show ¬ (9 : Int32) < nI (1 + (9 - (d + 1))) from nI_nlt (a := 9) (b := 1 + (9 - (d + 1))) (by omega) (by decide))]
    exact hs.trans q4
theorem search10 {k w : Nat} (hk : k ≤ 5) (hw : w ≤ 3) (pw pa pe : Nat → Int32) : ∃ pw' pa' pe' : Nat → Int32, f_X0_search (nI k) (nI w) pw pa pe = some (zCode (nI k) (nI w), pw', pa', pe') := by
  obtain ⟨p1, p2, p3, h⟩ := se_f hk hw 9 100000 pw pa pe (by omega) (by omega)
  refine ⟨p1, p2, p3, ?_⟩
  unfold f_X0_search
  rw [show (9 - 9) * 210 = 0 from rfl, show zN (zV k w) 0 = (0, 0) from rfl, show zCd (0, 0) = 210 from rfl, show nI ((0, 0) : Nat × Nat).1 = 0 from rfl, show nI (1 + (9 - 9)) = 1 from by decide] at h
  rw [show f_X0_code 0 1 0 0 = some (nI 210) from by decide, mb1_s, zCode_e hk hw]
  exact h
/-! the codes that were reckoned -/
theorem zCd_r {k w : Nat} (hk : k ≤ 5) (hw : w ≤ 3) : 0 < zCd (zN (zV k w) 1890) ∧ zCd (zN (zV k w) 1890) < 1000000 := by
  have := zB_r hk hw
  unfold zCd
  omega
theorem place10 {k w : Nat} (hk : k ≤ 5) (hw : w ≤ 3) : f_X0_placeOf (nI k) (nI w) = some (nI (4 * k + w)) := by
  unfold f_X0_placeOf
  rw [cw, cw, show inR (nI k) 0 5 = true from inR_of (lo := 0) (hi := 5) (by omega) hk (by omega), show inR (nI w) 0 3 = true from inR_of (lo := 0) (hi := 3) (by omega) hw (by omega), mb1_s, if_neg (show ¬ bI true = 0 from by decide), mb1_s, if_neg (show ¬ bI true = 0 from by decide)]
  rw [nI_z, nI_z, nI_z, zl_4, zI_mul, zI_add]
  refine congrArg some (congrArg zI ?_)
  omega
theorem rec_l {nm w : Nat} {ks : Nat → Int32} (b1 : nm ≤ 8) (hw : w ≤ 3) (hk : ∀ i : Nat, i < nm → ∃ j : Nat, j ≤ 5 ∧ ks i = nI j) : ∀ (d N : Nat) (cs pw pa pe : Nat → Int32), d ≤ nm → d < N → CodR cs → (∀ i : Nat, i < nm - d → ∀ j : Nat, ks i = nI j → j ≤ 5 → cs (4 * j + w) = zCode (nI j) (nI w)) → ∃ cs' pw' pa' pe' : Nat → Int32, f_X0_reckon_L2 (nI nm) (nI w) ks N (nI (nm - d)) cs pw pa pe = some (cs', pw', pa', pe') ∧ CodR cs' ∧ ∀ i : Nat, i < nm → ∀ j : Nat, ks i = nI j → j ≤ 5 → cs' (4 * j + w) = zCode (nI j) (nI w)
  | 0, N + 1, cs, pw, pa, pe, _, _, hC, hd => by
    refine ⟨cs, pw, pa, pe, ?_, hC, hd⟩
    unfold f_X0_reckon_L2
    rw [if_pos (nI_le (by omega) (by omega))]
  | d + 1, N + 1, cs, pw, pa, pe, h1, h2, hC, hd => by
    obtain ⟨j, j1, j2⟩ := hk (nm - (d + 1)) (by omega)
    have en : nI (nm - (d + 1)) + 1 = nI (nm - d) := by rw [nI_1]; congr 1; omega
    have hpn : ¬ nI (4 * j + w) = -1 := by
      rw [nI_z, zl_1, zI_neg, zI_eq (by omega) (by omega) (by omega) (by omega)]; omega
    have hz := zCode_e j1 hw
    have hr := zCd_r j1 hw
    unfold f_X0_reckon_L2 f_X0_reckon_L60
    rw [if_neg (nI_ge (by omega) (by omega)), kind10 b1 (by omega), mb1_s, j2, place10 j1 hw, mb1_s, if_neg hpn, inB_nI (show 4 * j + w < 24 by omega) (by omega), mg_tt, clN (by omega)]
    by_cases h0 : cs (4 * j + w) = 0
    · obtain ⟨p1, p2, p3, hs⟩ := search10 j1 hw pw pa pe
      rw [if_pos h0, mb1_s, hs, mb4_s, mg_tt, en]
      refine rec_l b1 hw hk d N (upd cs (4 * j + w) (zCode (nI j) (nI w))) p1 p2 p3 (by omega) (by omega) ?_ ?_
      · intro a b ha hb
        by_cases hab : 4 * a + b = 4 * j + w
        · obtain rfl : a = j := by omega
          obtain rfl : b = w := by omega
          rw [up_s]
          exact Or.inr rfl
        · rw [up_n hab]
          exact hC a b ha hb
      · intro i hi j' hj' hj5
        by_cases hjj : j' = j
        · subst hjj
          rw [up_s]
        · rw [up_n (by omega)]
          by_cases hii : i = nm - (d + 1)
          · subst hii
            rw [j2] at hj'
            exact absurd ((nI_eq (by omega) (by omega)).mp hj').symm hjj
          · exact hd i (by omega) j' hj' hj5
    · rw [if_neg h0, en]
      refine rec_l b1 hw hk d N cs pw pa pe (by omega) (by omega) hC ?_
      intro i hi j' hj' hj5
      by_cases hii : i = nm - (d + 1)
      · subst hii
        rw [j2] at hj'
        have := (nI_eq (by omega) (by omega)).mp hj'
        subst this
        exact (hC j w j1 hw).resolve_left h0
      · exact hd i (by omega) j' hj' hj5
theorem reck {nm w : Nat} {ks : Nat → Int32} (b1 : nm ≤ 8) (hw : w ≤ 3) (hk : ∀ i : Nat, i < nm → ∃ j : Nat, j ≤ 5 ∧ ks i = nI j) {cs : Nat → Int32} (hC : CodR cs) (pw pa pe : Nat → Int32) : ∃ cs' pw' pa' pe' : Nat → Int32, f_X0_reckon (nI nm) (nI w) ks cs pw pa pe = some (cs', pw', pa', pe') ∧ CodR cs' ∧ ∀ i : Nat, i < nm → ∀ j : Nat, ks i = nI j → j ≤ 5 → cs' (4 * j + w) = zCode (nI j) (nI w) := by
  obtain ⟨cs', p1, p2, p3, h, h2, h3⟩ := rec_l b1 hw hk nm 100000 cs pw pa pe (by omega) (by omega) hC (fun i hi => by omega)
  rw [Nat.sub_self] at h
  exact ⟨cs', p1, p2, p3, h, h2, h3⟩
/-- what a code says -/
theorem part10 {nm w i j : Nat} {ks cs : Nat → Int32} (b1 : nm ≤ 8) (hi : i < nm) (hj : j ≤ 5) (hw : w ≤ 3) (hk : ks i = nI j) (hc : cs (4 * j + w) = zCode (nI j) (nI w)) {x : Nat} (hx : x ≤ 4) : f_X0_partOf (nI i) (nI x) (nI nm) (nI w) ks cs = some (nI (if x = 1 then i else if x = 2 then 1 + (zN (zV j w) 1890).2 / 210 else if x = 3 then (zN (zV j w) 1890).2 / 21 % 10 else if x = 4 then (zN (zV j w) 1890).2 % 21 else (zN (zV j w) 1890).1)) := by
  have hpn : ¬ nI (4 * j + w) = -1 := by
    rw [nI_z, zl_1, zI_neg, zI_eq (by omega) (by omega) (by omega) (by omega)]; omega
  have hr := zCd_r hj hw
  have hb := zB_r hj hw
  unfold f_X0_partOf f_X0_partOf_L31
  rw [kind10 b1 hi, mb1_s, hk, place10 hj hw, mb1_s, if_neg hpn, inB_nI (show 4 * j + w < 24 by omega) (by omega), mg_tt, clN (by omega), hc, zCode_e hj hw]
  unfold zCd at hr ⊢
  generalize (zN (zV j w) 1890).1 = m at *
  generalize (zN (zV j w) 1890).2 = n at *
  obtain rfl | rfl | rfl | rfl | rfl : x = 0 ∨ x = 1 ∨ x = 2 ∨ x = 3 ∨ x = 4 := by omega
  · rw [if_neg (by decide), if_neg (by decide), if_neg (by decide), if_neg (by decide), if_neg (by decide), if_neg (by decide), if_neg (by decide), if_neg (by decide)]
    refine congrArg some ?_
    simp (disch := omega) only [nI_z, zl_21, zl_100, zI_div]
    refine congrArg zI ?_
    omega
  · rw [if_pos (show nI 1 = 1 from rfl), if_pos (rfl : 1 = 1)]
  · rw [if_neg (by decide), if_pos (show nI 2 = 2 from rfl), if_neg (by decide), if_pos (rfl : 2 = 2)]
    refine congrArg some ?_
    simp (disch := omega) only [nI_z, zl_21, zl_10, zI_div, zI_rm]
    refine congrArg zI ?_
    omega
  · rw [if_neg (by decide), if_neg (by decide), if_pos (show nI 3 = 3 from rfl), if_neg (by decide), if_neg (by decide), if_pos (rfl : 3 = 3)]
    refine congrArg some ?_
    simp (disch := omega) only [nI_z, zl_21, zl_10, zI_div, zI_rm]
    refine congrArg zI ?_
    omega
  · rw [if_neg (by decide), if_neg (by decide), if_neg (by decide), if_pos (show nI 4 = 4 from rfl), if_neg (by decide), if_neg (by decide), if_neg (by decide), if_pos (rfl : 4 = 4)]
    refine congrArg some ?_
    simp (disch := omega) only [nI_z, zl_21, zl_10, zI_div, zI_rm]
    refine congrArg zI ?_
    omega
/-! which stones are looked at -/
def zF (sel : Nat → Bool) (mP mI : Nat → Nat) : Nat → Int × Int
  | 0 => (-1, -1)
  | n + 1 => if sel n = true ∧ (zF sel mP mI n).1 < (mP n : Int) then ((mP n : Int), ((1890 * n + mI n : Nat) : Int)) else zF sel mP mI n
def zC (sel : Nat → Bool) (mP : Nat → Nat) : Nat → Nat
  | 0 => 0
  | n + 1 => if sel n = true ∧ zC sel mP n < mP n then mP n else zC sel mP n
theorem zF_C (sel : Nat → Bool) (mP mI : Nat → Nat) : ∀ n : Nat, (-1 ≤ (zF sel mP mI n).1 ∧ (zC sel mP n : Int) = max 0 (zF sel mP mI n).1)
  | 0 => ⟨by unfold zF; omega, by unfold zF zC; rfl⟩
  | n + 1 => by
    obtain ⟨h1, h2⟩ := zF_C sel mP mI n
    unfold zF zC
    by_cases hs : sel n = true
    · by_cases hc : (zF sel mP mI n).1 < (mP n : Int)
      · rw [if_pos ⟨hs, hc⟩]
        refine ⟨by show (-1 : Int) ≤ (mP n : Int); omega, ?_⟩
        show ((if sel n = true ∧ zC sel mP n < mP n then mP n else zC sel mP n : Nat) : Int) = max 0 (mP n : Int)
        by_cases hd : zC sel mP n < mP n
        · rw [if_pos ⟨hs, hd⟩]; omega
        · rw [if_neg (fun q => hd q.2)]; omega
      · rw [if_neg (fun q => hc q.2), if_neg (fun q => by have := q.2; omega)]
        exact ⟨h1, h2⟩
    · rw [if_neg (fun q => hs q.1), if_neg (fun q => hs q.1)]
      exact ⟨h1, h2⟩
theorem zF_b {sel : Nat → Bool} {mP mI : Nat → Nat} : ∀ n : Nat, n ≤ 8 → (∀ i : Nat, i < n → mP i ≤ 160 ∧ mI i < 1890) → (-1 ≤ (zF sel mP mI n).1 ∧ (zF sel mP mI n).1 ≤ 160 ∧ -1 ≤ (zF sel mP mI n).2 ∧ (zF sel mP mI n).2 ≤ 15120)
  | 0, _, _ => by unfold zF; omega
  | n + 1, hn, h => by
    have ih := zF_b (sel := sel) n (by omega) (fun i hi => h i (by omega))
    have h2 := h n (by omega)
    unfold zF
    split
    · show -1 ≤ (mP n : Int) ∧ (mP n : Int) ≤ 160 ∧ -1 ≤ ((1890 * n + mI n : Nat) : Int) ∧ ((1890 * n + mI n : Nat) : Int) ≤ 15120
      omega
    · exact ih
/-- the class's walk over some stones -/
theorem most_l {nm w : Nat} {ks cs : Nat → Int32} {mP : Nat → Nat} (b1 : nm ≤ 8) (hP : ∀ i : Nat, i < nm → mP i ≤ 160 ∧ f_X0_partOf (nI i) 0 (nI nm) (nI w) ks cs = some (nI (mP i))) {e : Nat} (he : e ≤ nm) {sel : Nat → Bool} {wo : Int32} (a : Nat) (hsel : ∀ i : Nat, a ≤ i → i < e → (sel i = true ↔ ¬ nI i = wo)) : ∀ (d N : Nat), d ≤ e → a ≤ e - d → d < N → f_X10_mostPoints_L6 (nI nm) (nI w) ks cs N (nI e) wo (nI (zC sel mP (e - d))) (nI (e - d)) = some (nI (zC sel mP e))
  | 0, N + 1, _, _, _ => by
    unfold f_X10_mostPoints_L6
    rw [if_pos (nI_le (by omega) (by omega))]
    rfl
  | d + 1, N + 1, h1, h2, h3 => by
    obtain ⟨p1, p2⟩ := hP (e - (d + 1)) (by omega)
    have hcb : ∀ n : Nat, n ≤ nm → zC sel mP n ≤ 160 := by
      intro n
      induction n with
      | zero => intro _; exact Nat.zero_le _
      | succ n ih =>
        intro hn
        have := ih (by omega)
        have := (hP n (by omega)).1
        unfold zC
        split <;> omega
    have hc1 := hcb (e - (d + 1)) (by omega)
    have en : nI (e - (d + 1)) + 1 = nI (e - d) := by rw [nI_1]; congr 1; omega
    have ih := most_l b1 hP he a hsel d N (by omega) (by omega) (by omega)
    rw [show e - d = e - (d + 1) + 1 by omega] at ih
    have hst : zC sel mP (e - (d + 1) + 1) = if sel (e - (d + 1)) = true ∧ zC sel mP (e - (d + 1)) < mP (e - (d + 1)) then mP (e - (d + 1)) else zC sel mP (e - (d + 1)) := rfl
    rw [hst] at ih
    rw [show e - d = e - (d + 1) + 1 by omega] at en
    unfold f_X10_mostPoints_L6 f_X10_mostPoints_L49 f_X10_mostPoints_L51
    rw [if_neg (nI_ge (by omega) (by omega)), p2, mb1_s, en]
    by_cases hw : nI (e - (d + 1)) = wo
    · rw [if_pos hw]
      rw [if_neg (fun q => ((hsel _ h2 (by omega)).mp q.1) hw)] at ih
      exact ih
    · rw [if_neg hw]
      have hs := (hsel _ h2 (by omega)).mpr hw
      by_cases hc : zC sel mP (e - (d + 1)) < mP (e - (d + 1))
      · rw [if_neg (nI_ge hc (by omega))]
        rw [if_pos ⟨hs, hc⟩] at ih
        exact ih
      · rw [if_pos (nI_le (by omega) (by omega))]
        rw [if_neg (fun q => hc q.2)] at ih
        exact ih
theorem zC_no {sel : Nat → Bool} {mP : Nat → Nat} (a : Nat) : ∀ d : Nat, (∀ i : Nat, a ≤ i → i < a + d → sel i = false) → zC sel mP (a + d) = zC sel mP a
  | 0, _ => rfl
  | d + 1, h => by
    rw [← zC_no a d (fun i h1 h2 => h i h1 (by omega))]
    show (if sel (a + d) = true ∧ zC sel mP (a + d) < mP (a + d) then mP (a + d) else zC sel mP (a + d)) = _
    rw [if_neg (fun q => by rw [h (a + d) (by omega) (by omega)] at q; exact Bool.noConfusion q.1)]
theorem most10 {nm w : Nat} {ks cs : Nat → Int32} {mP : Nat → Nat} (b1 : nm ≤ 8) (hP : ∀ i : Nat, i < nm → mP i ≤ 160 ∧ f_X0_partOf (nI i) 0 (nI nm) (nI w) ks cs = some (nI (mP i))) {a e : Nat} (hae : a ≤ e) (he : e ≤ nm) {sel : Nat → Bool} {wo : Int32} (hsel : ∀ i : Nat, i < nm → (sel i = true ↔ a ≤ i ∧ i < e ∧ ¬ nI i = wo)) : f_X10_mostPoints (nI a) (nI e) wo (nI nm) (nI w) ks cs = some (nI (zC sel mP nm)) := by
  have h0 : zC sel mP a = 0 := by
    have := zC_no (sel := sel) (mP := mP) 0 a (fun i h1 h2 => by
      cases hs : sel i with
      | false => rfl
      | true => have := (hsel i (by omega)).mp hs; omega)
    rw [Nat.zero_add] at this
    exact this
  have h9 : zC sel mP nm = zC sel mP e := by
    have := zC_no (sel := sel) (mP := mP) e (nm - e) (fun i h1 h2 => by
      cases hs : sel i with
      | false => rfl
      | true => have := (hsel i (by omega)).mp hs; omega)
    rw [show e + (nm - e) = nm by omega] at this
    exact this
  have hl := most_l (w := w) b1 hP he (sel := sel) (wo := wo) a (fun i h1 h2 => by rw [hsel i (by omega)]; exact ⟨fun q => q.2.2, fun q => ⟨h1, h2, q⟩⟩) (e - a) 100000 (by omega) (by omega) (by omega)
  rw [show e - (e - a) = a by omega, h0] at hl
  unfold f_X10_mostPoints
  rw [h9]
  exact hl
/-! the model's walk -/
theorem dec_k {i n : Nat} (hi : i ≤ 7) (hn : n < 1890) : nI (1890 * i + n) / 1890 = nI i ∧ (1 : Int32) + irm (nI (1890 * i + n) / 210) 9 = nI (1 + n / 210) ∧ irm (nI (1890 * i + n) / 21) 10 = nI (n / 21 % 10) ∧ irm (nI (1890 * i + n)) 21 = nI (n % 21) := by
  have e0 : ((1890 * i + n : Nat) : Int) / 1890 = (i : Int) := by omega
  have e1 : (1 : Int) + ((1890 * i + n : Nat) : Int) / 210 % 9 = ((1 + n / 210 : Nat) : Int) := by omega
  have e2 : ((1890 * i + n : Nat) : Int) / 21 % 10 = ((n / 21 % 10 : Nat) : Int) := by omega
  have e3 : ((1890 * i + n : Nat) : Int) % 21 = ((n % 21 : Nat) : Int) := by omega
  refine ⟨?_, ?_, ?_, ?_⟩
  · rw [nI_z, nI_z, zl_1890, zI_div (by omega) (by omega) (by omega) (by omega), e0]
  · rw [nI_z, nI_z, zl_210, zl_9, zl_1, zI_div (by omega) (by omega) (by omega) (by omega), zI_rm (by omega) (by omega) (by omega) (by omega), zI_add, e1]
  · rw [nI_z, nI_z, zl_21, zl_10, zI_div (by omega) (by omega) (by omega) (by omega), zI_rm (by omega) (by omega) (by omega) (by omega), e2]
  · rw [nI_z, nI_z, zl_21, zI_rm (by omega) (by omega) (by omega) (by omega), e3]
def zSt (m0 f0 : Int) (i n : Nat) (z : Nat × Nat) : Int × Int := if n = 0 then (m0, f0) else if m0 < (z.1 : Int) then ((z.1 : Int), ((1890 * i + z.2 : Nat) : Int)) else (m0, f0)
theorem lay_i {s : Nat → Int32} {i j w nm : Nat} (hA : At s i j w nm) {set : Int32} (hb : (set >>> (nI i &&& 31)) &&& 1 = 1) {m0 f0 : Int} (hm1 : -1 ≤ m0) (hm2 : m0 ≤ 160) : ∀ (d N : Nat), d ≤ 1890 → d < N → ∃ M : Nat, M + d = N ∧ f_X11_laysBest_L12 s N set (nI (1890 * i + (1890 - d))) (zI (zSt m0 f0 i (1890 - d) (zN (zV j w) (1890 - d))).1) (zI (zSt m0 f0 i (1890 - d) (zN (zV j w) (1890 - d))).2) = f_X11_laysBest_L12 s M set (nI (1890 * (i + 1))) (zI (zSt m0 f0 i 1890 (zN (zV j w) 1890)).1) (zI (zSt m0 f0 i 1890 (zN (zV j w) 1890)).2)
  | 0, N + 1, _, _ => by
    refine ⟨N + 1, by omega, ?_⟩
    rw [Nat.sub_zero, show 1890 * i + 1890 = 1890 * (i + 1) by omega]
  | d + 1, N + 1, h1, h2 => by
    have hi := hA.2.1
    have hnm := hA.1
    obtain ⟨M, g1, g2⟩ := lay_i hA hb hm1 hm2 (f0 := f0) d N (by omega) (by omega)
    refine ⟨M, by omega, ?_⟩
    rw [← g2]
    have hn : 1890 - (d + 1) < 1890 := by omega
    rw [show 1890 - d = 1890 - (d + 1) + 1 by omega]
    generalize 1890 - (d + 1) = n at *
    obtain ⟨k1, k2, k3, k4⟩ := dec_k (i := i) (n := n) (by omega) hn
    obtain ⟨e1, e2⟩ := zV_e hA.2.2.1 hA.2.2.2.1 hn
    have hmean := mean11 hA (F := ((1 + n / 210 : Nat) : Int)) (C := ((n / 21 % 10 : Nat) : Int)) (Y := ((n % 21 : Nat) : Int)) (by omega) (by omega) (by omega) (by omega) (by omega) (by omega)
    rw [← nI_z, ← nI_z, ← nI_z, show zMean (nI j) (nI w) (nI (1 + n / 210)) (nI (n / 21 % 10)) (nI (n % 21)) = nI (zV j w n) from e1] at hmean
    have e1890 : nI nm * 1890 = nI (1890 * nm) := by rw [nI_z, nI_z, zl_1890, zI_mul]; congr 1; omega
    have hr := zN_r (g := zV j w) (B := 160) n (fun i hi => (zV_e hA.2.2.1 hA.2.2.2.1 (by omega)).2)
    have en : nI (1890 * i + n) + 1 = nI (1890 * i + (n + 1)) := nI_1 _
    have hst : zN (zV j w) (n + 1) = if (zN (zV j w) n).1 < zV j w n then (zV j w n, n) else zN (zV j w) n := rfl
    conv => lhs; unfold f_X11_laysBest_L12
    unfold f_X11_laysBest_L87 f_X11_laysBest_L107 f_X11_laysBest_L110
    rw [ib_0_117, mg_tt, tn_0, hA.2.2.2.2.1, e1890, if_neg (nI_ge (by omega) (by omega)), k1, if_pos hb, k2, k3, k4, hmean, mb1_s, en]
    have hle : ∀ x : Int, -1 ≤ x → x ≤ 160 → (nI (zV j w n) ≤ zI x ↔ (zV j w n : Int) ≤ x) := fun x x1 x2 => by
      rw [nI_z, zI_le (by omega) (by omega) (by omega) (by omega)]
    rw [hst]
    unfold zSt
    by_cases hn0 : n = 0
    · subst hn0
      rw [if_pos (rfl : 0 = 0), if_neg (show ¬ 0 + 1 = 0 by omega)]
      have h00 : (zN (zV j w) 0) = (0, 0) := rfl
      rw [h00]
      dsimp only
      by_cases hc : (zV j w 0 : Int) ≤ m0
      · rw [if_pos ((hle m0 hm1 hm2).mpr hc), if_pos ((hle m0 hm1 hm2).mpr hc)]
        by_cases h0 : 0 < zV j w 0
        · rw [if_pos h0]
          dsimp only
          rw [if_neg (by omega)]
        · rw [if_neg h0]
          dsimp only
          rw [if_neg (by omega)]
      · rw [if_neg (fun q => hc ((hle m0 hm1 hm2).mp q)), if_neg (fun q => hc ((hle m0 hm1 hm2).mp q))]
        by_cases h0 : 0 < zV j w 0
        · rw [if_pos h0]
          dsimp only
          rw [if_pos (by omega)]
          dsimp only
          rw [← nI_z, ← nI_z]
        · rw [if_neg h0]
          dsimp only
          rw [if_pos (by omega)]
          dsimp only
          rw [← nI_z, ← nI_z, show zV j w 0 = 0 by omega]
    · rw [if_neg hn0, if_neg (show ¬ n + 1 = 0 by omega)]
      by_cases hm : m0 < ((zN (zV j w) n).1 : Int)
      · rw [if_pos hm]
        dsimp only
        by_cases hc : (zN (zV j w) n).1 < zV j w n
        · rw [if_neg (fun q => by have := (hle _ (by omega) (by omega)).mp q; omega), if_neg (fun q => by have := (hle _ (by omega) (by omega)).mp q; omega), if_pos hc]
          dsimp only
          rw [if_pos (by omega)]
          dsimp only
          rw [← nI_z, ← nI_z]
        · rw [if_pos ((hle _ (by omega) (by omega)).mpr (by omega)), if_pos ((hle _ (by omega) (by omega)).mpr (by omega)), if_neg hc, if_pos hm]
      · rw [if_neg hm]
        dsimp only
        by_cases hc : (zV j w n : Int) ≤ m0
        · rw [if_pos ((hle m0 hm1 hm2).mpr hc), if_pos ((hle m0 hm1 hm2).mpr hc)]
          by_cases h0 : (zN (zV j w) n).1 < zV j w n
          · rw [if_pos h0]
            dsimp only
            rw [if_neg (by omega)]
          · rw [if_neg h0, if_neg hm]
        · rw [if_neg (fun q => hc ((hle m0 hm1 hm2).mp q)), if_neg (fun q => hc ((hle m0 hm1 hm2).mp q)), if_pos (show (zN (zV j w) n).1 < zV j w n by omega)]
          dsimp only
          rw [if_pos (by omega)]
          dsimp only
          rw [← nI_z, ← nI_z]
theorem lay_n {s : Nat → Int32} {i nm : Nat} (h : nm ≤ 8) (hi : i < nm) (e0 : s 0 = nI nm) {set : Int32} (hb : ¬ (set >>> (nI i &&& 31)) &&& 1 = 1) (m0 f0 : Int32) : ∀ (d N : Nat), d ≤ 1890 → d < N → ∃ M : Nat, M + d = N ∧ f_X11_laysBest_L12 s N set (nI (1890 * i + (1890 - d))) m0 f0 = f_X11_laysBest_L12 s M set (nI (1890 * (i + 1))) m0 f0
  | 0, N + 1, _, _ => by
    refine ⟨N + 1, by omega, ?_⟩
    rw [Nat.sub_zero, show 1890 * i + 1890 = 1890 * (i + 1) by omega]
  | d + 1, N + 1, h1, h2 => by
    obtain ⟨M, g1, g2⟩ := lay_n h hi e0 hb m0 f0 d N (by omega) (by omega)
    refine ⟨M, by omega, ?_⟩
    rw [← g2]
    have hn : 1890 - (d + 1) < 1890 := by omega
    rw [show 1890 - d = 1890 - (d + 1) + 1 by omega]
    generalize 1890 - (d + 1) = n at *
    obtain ⟨k1, -, -, -⟩ := dec_k (i := i) (n := n) (by omega) hn
    have e1890 : nI nm * 1890 = nI (1890 * nm) := by rw [nI_z, nI_z, zl_1890, zI_mul]; congr 1; omega
    have en : nI (1890 * i + n) + 1 = nI (1890 * i + (n + 1)) := nI_1 _
    conv => lhs; unfold f_X11_laysBest_L12
    unfold f_X11_laysBest_L110
    rw [ib_0_117, mg_tt, tn_0, e0, e1890, if_neg (nI_ge (by omega) (by omega)), k1, if_neg hb, en]
