set_option maxRecDepth 8000
/-! items -/
theorem numb10 {by' : Nat → Int32} {n y : Nat} (hn : n ≤ 120) (hb : ∀ k : Nat, k < n → ∃ b : Nat, b < 256 ∧ by' k = nI b) (hy : y ≤ 500) : f_X9_numberHere (nI n) (nI y) by' = some (zI (if zSo (zB by' n y) = 2 ∧ ¬ zSo (zB by' n (y + 1)) = 2 then zB by' n y - 48 else -1)) := by
  have h0 := zBy_r hb y
  have h1 := zBy_r hb (y + 1)
  unfold f_X9_numberHere
  rw [byt10 hn (by omega), mb1_s, fig10 h0.1 h0.2.1, mb1_s, nI_1, byt10 hn (by omega), mb1_s, fig10 h1.1 h1.2.1, mb1_s]
  by_cases a : zSo (zB by' n y) = 2
  · rw [decide_eq_true a, if_neg (show ¬ bI true = 0 from by decide)]
    by_cases b : zSo (zB by' n (y + 1)) = 2
    · rw [decide_eq_true b, if_neg (show ¬ bI true = 0 from by decide), if_neg (fun q => q.2 b)]
      rfl
    · rw [decide_eq_false b, if_pos bI_f, if_pos ⟨a, b⟩, zl_48, zI_sub]
  · rw [decide_eq_false a, if_pos bI_f, if_neg (fun q => a q.1)]
    rfl
theorem tz2 {by' : Nat → Int32} {n y : Nat} (h : zSo (zB by' n y) = 2) : zTz by' n y = 1 ↔ ¬ zSo (zB by' n (y + 1)) = 2 := by
  unfold zTz
  rw [h, if_neg (by omega), if_neg (by omega), if_pos (rfl : 2 = 2), zRun_e (by omega) y, if_pos h]
  have r := zRun_e (by' := by') (n := n) (s := 2) (by omega) (y + 1)
  by_cases b : zSo (zB by' n (y + 1)) = 2
  · rw [if_pos b] at r
    exact ⟨fun q => by omega, fun q => absurd b q⟩
  · rw [if_neg b] at r
    exact ⟨fun _ => b, fun _ => by omega⟩
theorem fig11 {by' tx : Nat → Int32} {n k : Nat} (hn : n ≤ 120) (ht : ∀ k : Nat, k < n → tx k = by' k) (hb : ∀ k : Nat, k < n → ∃ b : Nat, b < 256 ∧ by' k = nI b) (hk : k ≤ n) {hi : Nat} (hh : hi ≤ 9) (so st sz : Int32) {y : Nat} (hy : zS2 (zB by' n) n k = y) : f_X11_figure (nI hi) (nI n) (nI k) so st sz tx = some (zI (if (zSo (zB by' n y) = 2 ∧ ¬ zSo (zB by' n (y + 1)) = 2) ∧ zB by' n y - 48 ≤ hi then zB by' n y - 48 else -1), nI (y + zTz by' n y), nI (zSo (zB by' n y)), nI y, nI (zTz by' n y)) := by
  have hyn : y ≤ n := by
    have := zSk_r (zB by' n) (n - k) k
    unfold zS2 at hy
    omega
  have h0 := zBy_r hb y
  have h4 := so4 (zB by' n y)
  have hz : zTz by' n y ≤ n + 1 := by
    have e1 := zRl_r (zB by' n) 1 (n - y) y
    have e2 := zRl_r (zB by' n) 2 (n - y) y
    unfold zTz zRun
    split
    · omega
    · split
      · omega
      · split <;> omega
  unfold f_X11_figure
  rw [tk11 hn ht hb hk so st sz, mb4_s, hy, byt11 hn (by omega) ht, mb1_s]
  by_cases a : zSo (zB by' n y) = 2
  · have a2 := (so2 _).mp a
    have tz := tz2 (by' := by') (n := n) (y := y) a
    rw [if_pos (show nI (zSo (zB by' n y)) = 2 by rw [a]; rfl)]
    by_cases b : zSo (zB by' n (y + 1)) = 2
    · have t1 : ¬ zTz by' n y = 1 := fun q => (tz.mp q) b
      rw [if_neg (show ¬ nI (zTz by' n y) = 1 from fun q => t1 ((nI_eq (b := 1) (by omega) (by decide)).mp q)), if_neg (fun q => q.1.2 b)]
      rfl
    · have t1 := tz.mpr b
      rw [if_pos (show nI (zTz by' n y) = 1 by rw [t1]; rfl), zl_48, zI_sub, nI_z hi]
      by_cases c : zB by' n y - 48 ≤ hi
      · rw [if_neg (by rw [zI_lt (by omega) (by omega) (by omega) (by omega)]; omega), if_pos ⟨⟨a, b⟩, c⟩]
      · rw [if_pos (by rw [zI_lt (by omega) (by omega) (by omega) (by omega)]; omega), if_neg (fun q => c q.2)]
        rfl
  · rw [if_neg (show ¬ nI (zSo (zB by' n y)) = 2 from fun q => a ((nI_eq (b := 2) (by omega) (by decide)).mp q)), if_neg (fun q => a q.1.1)]
    rfl
def DraR (dm dw : Int32) (dk dr : Nat → Int32) : Prop := ∃ q w : Nat, q ≤ 8 ∧ w ≤ 3 ∧ dm = nI q ∧ dw = nI w ∧ dr 0 = nI q ∧ dr 1 = nI w ∧ (∀ i : Nat, i < q → dr (6 + i) = dk i ∧ ∃ j : Nat, j ≤ 5 ∧ dk i = nI j) ∧ dr 2 = 0 ∧ dr 3 = 0 ∧ dr 4 = 0 ∧ dr 5 = 0
def ItR (n k : Nat) (x : Option (Int32 × Int32 × Int32 × Int32 × (Nat → Int32))) (y : Option (Int32 × Int32 × Int32 × Int32 × Int32 × (Nat → Int32))) : Prop :=
  (∃ (f : Nat) (dm dw : Int32) (dk : Nat → Int32) (a s z : Int32) (dr : Nat → Int32), f ≤ 1000 ∧ x = some (0, nI f, dm, dw, dk) ∧ y = some (0, a, s, nI f, z, dr)) ∨
  (∃ (p : Nat) (dm dw : Int32) (dk : Nat → Int32) (s t z : Int32) (dr : Nat → Int32), k < p ∧ p ≤ n ∧ x = some (1, nI p, dm, dw, dk) ∧ y = some (1, nI p, s, t, z, dr) ∧ DraR dm dw dk dr)
theorem tail_e {by' tx : Nat → Int32} {n : Nat} (hn : n ≤ 120) (ht : ∀ k : Nat, k < n → tx k = by' k) (hb : ∀ k : Nat, k < n → ∃ b : Nat, b < 256 ∧ by' k = nI b) {k z : Nat} (hk : k + z ≤ n) (hz : 1 ≤ z) (fl : Bool) {dm dw : Int32} {dk dr : Nat → Int32} (hD : DraR dm dw dk dr) (hq : fl = true → dm < 8) (so st sz : Int32) : ItR n k (f_X9_readsItem_L62 (nI n) by' (bI fl) (nI k) (nI z) (nI k) dm dw dk) (f_X11_readsItem_L58 (nI n) tx (bI fl) (nI (if fl = true then 5 else 3)) (nI (k + z)) so st sz dr) := by
  generalize hy : zS2 (zB by' n) n (k + z) = y
  have hyr : k + z ≤ y ∧ y ≤ n := by
    have := zSk_r (zB by' n) (n - (k + z)) (k + z)
    unfold zS2 at hy
    omega
  have h0 := zBy_r hb y
  unfold f_X9_readsItem_L62 f_X11_readsItem_L58
  rw [nI_add, sk10 hn (by omega), mb1_s, hy, numb10 hn hb (by omega), mb1_s, fig11 hn ht hb hk (show (if fl = true then 5 else 3) ≤ 9 by split <;> omega) so st sz hy, mb5_s]
  -- the number
  by_cases hg : (zSo (zB by' n y) = 2 ∧ ¬ zSo (zB by' n (y + 1)) = 2) ∧ zB by' n y - 48 ≤ ((if fl = true then 5 else 3 : Nat) : Int)
  · have hgg := hg
    obtain ⟨hg1, hg2⟩ := hg
    have a2 := (so2 _).mp hg1.1
    have t1 := (tz2 hg1.1).mpr hg1.2
    have hyn : y < n := by
      rcases Nat.lt_or_ge y n with h | h
      · exact h
      · exfalso
        unfold zB at a2
        rw [if_neg (show ¬ y < n by omega)] at a2
        omega
    obtain ⟨v, hv⟩ : ∃ v : Nat, zB by' n y - 48 = (v : Int) := ⟨(zB by' n y - 48).toNat, by omega⟩
    generalize hy2 : zS2 (zB by' n) n (y + 1) = y2
    have hy2r : y + 1 ≤ y2 ∧ y2 ≤ n := by
      have := zSk_r (zB by' n) (n - (y + 1)) (y + 1)
      unfold zS2 at hy2
      omega
    have h2 := zBy_r hb y2
    rw [if_pos hg1, if_pos hgg, hv, ← nI_z, t1, if_neg (show ¬ nI v = -1 by rw [nI_z, zl_1, zI_neg, zI_eq (by omega) (by omega) (by omega) (by omega)]; omega)]
    obtain ⟨q, w, q1, w1, rfl, rfl, d0, d1, dq, e2, e3, e4, e5⟩ := hD
    have tokE := fun so' st' sz' => tk11 hn ht hb (show y + 1 ≤ n by omega) so' st' sz'
    have skE := sk10 (by' := by') hn (show y + 1 ≤ 500 by omega)
    have byE := byt10 (by' := by') hn (show y2 ≤ 1000 by omega)
    have s4 := so4 (zB by' n y2)
    cases fl with
    | true =>
      have hq8 : q < 8 := by
        have := hq rfl
        exact (nI_ltI (b := 8) (by omega) (by decide)).mp this
      have hv5 : v ≤ 5 := by
        have h9 : zB by' n y - 48 ≤ ((5 : Nat) : Int) := hg2
        omega
      unfold f_X9_readsItem_L86 f_X9_keep f_X8_lay f_X11_readsItem_L92 f_X11_readsItem_L111
      have hin : inB (6 + nI q) 44 = true ∧ (6 + nI q).toNatClampNeg = 6 + q := by
        rw [show (6 : Int32) + nI q = nI (6 + q) from nI_add 6 q]
        exact ⟨inB_nI (by omega) (by omega), clN (by omega)⟩
      rw [bI_t, if_neg (show ¬ ((1 : Int32) = 0) from by decide), if_neg (show ¬ ((1 : Int32) = 0) from by decide), cw, show inR (nI v) 0 5 = true from inR_of (lo := 0) (hi := 5) (by omega) hv5 (by omega), mb1_s, if_neg (show ¬ bI true = 0 from by decide), nI_1, skE, mb1_s, hy2, byE, mb1_s, if_neg (show ¬ ((1 : Int32) = 0) from by decide), if_neg (show ¬ Int32.ofNat 8 ≤ nI q from nI_ge (b := 8) hq8 (by decide)), inB_nI hq8 (by omega), mg_tt, mb2_s, mb3_s]
      rw [ib_0_44, mg_tt, tn_0, d0, hin.1, hin.2, mg_tt, mg_tt, if_neg (show ¬ ((1 : Int32) = 0) from by decide), mg_tt, tokE, mb4_s, hy2, clN (show q < 2 ^ 31 by omega), nI_1, nI_1, up_n (show 0 ≠ 6 + q by omega), d0]
      by_cases h9 : zB by' n y2 = 59
      · have hy2n : y2 < n := by
          rcases Nat.lt_or_ge y2 n with h | h
          · exact h
          · exfalso
            unfold zB at h9
            rw [if_neg (show ¬ y2 < n by omega)] at h9
            omega
        have so3' := (so3 _).mpr h9
        have tz3 : zTz by' n y2 = 1 := by
          unfold zTz
          rw [so3', if_neg (by omega), if_neg (by omega), if_neg (by omega)]
        rw [if_pos (show zI (zB by' n y2) = 59 by rw [h9]; rfl), if_pos (show nI (zSo (zB by' n y2)) = 3 by rw [so3']; rfl), tz3]
        refine Or.inr ⟨y2 + 1, _, _, _, _, _, _, _, by omega, by omega, rfl, rfl, q + 1, w, by omega, w1, rfl, rfl, ?_, ?_, fun i hi => ?_, ?_, ?_, ?_, ?_⟩
        · rw [up_s, show (1 : Int32) = nI 1 from rfl, nI_add]
        · rw [up_n (by omega), up_n (by omega)]; exact d1
        · rw [up_n (by omega)]
          by_cases hiq : i = q
          · subst hiq
            rw [up_s, up_s]
            exact ⟨rfl, v, hv5, rfl⟩
          · rw [up_n (by omega), up_n (by omega)]
            exact dq i (by omega)
        · rw [up_n (by omega), up_n (by omega)]; exact e2
        · rw [up_n (by omega), up_n (by omega)]; exact e3
        · rw [up_n (by omega), up_n (by omega)]; exact e4
        · rw [up_n (by omega), up_n (by omega)]; exact e5
      · have hs3 : ¬ zSo (zB by' n y2) = 3 := fun c => h9 ((so3 _).mp c)
        rw [if_neg (show ¬ zI (zB by' n y2) = 59 by rw [zl_59, zI_eq (by omega) (by omega) (by omega) (by omega)]; exact h9), if_neg (show ¬ nI (zSo (zB by' n y2)) = 3 from fun c => hs3 ((nI_eq (b := 3) (by omega) (by decide)).mp c))]
        exact Or.inl ⟨y2, _, _, _, _, _, _, _, by omega, rfl, rfl⟩
    | false =>
      have hv3 : v ≤ 3 := by
        have h9 : zB by' n y - 48 ≤ ((3 : Nat) : Int) := hg2
        omega
      unfold f_X9_readsItem_L86 f_X9_keep f_X11_readsItem_L92 f_X11_readsItem_L111
      rw [bI_f, if_pos (rfl : (0 : Int32) = 0), if_pos (rfl : (0 : Int32) = 0), cw, show inR (nI v) 0 3 = true from inR_of (lo := 0) (hi := 3) (by omega) hv3 (by omega), mb1_s, if_neg (show ¬ bI true = 0 from by decide), nI_1, skE, mb1_s, hy2, byE, mb1_s, if_pos (rfl : (0 : Int32) = 0), mb3_s]
      rw [show inB (1 : Int32) 44 = true from by decide, mg_tt, ib_0_44, mg_tt, tn_0, tn_1, if_pos (rfl : (0 : Int32) = 0), mg_tt, tokE, mb4_s, hy2, nI_1, up_n (show 0 ≠ 1 by omega), d0]
      by_cases h9 : zB by' n y2 = 59
      · have hy2n : y2 < n := by
          rcases Nat.lt_or_ge y2 n with h | h
          · exact h
          · exfalso
            unfold zB at h9
            rw [if_neg (show ¬ y2 < n by omega)] at h9
            omega
        have so3' := (so3 _).mpr h9
        have tz3 : zTz by' n y2 = 1 := by
          unfold zTz
          rw [so3', if_neg (by omega), if_neg (by omega), if_neg (by omega)]
        rw [if_pos (show zI (zB by' n y2) = 59 by rw [h9]; rfl), if_pos (show nI (zSo (zB by' n y2)) = 3 by rw [so3']; rfl), tz3]
        refine Or.inr ⟨y2 + 1, _, _, _, _, _, _, _, by omega, by omega, rfl, rfl, q, v, q1, hv3, rfl, rfl, ?_, ?_, fun i hi => ?_, ?_, ?_, ?_, ?_⟩
        · rw [up_s, Int32.add_zero]
        · rw [up_n (by omega), up_s]
        · rw [up_n (by omega), up_n (by omega)]
          exact dq i hi
        · rw [up_n (by omega), up_n (by omega)]; exact e2
        · rw [up_n (by omega), up_n (by omega)]; exact e3
        · rw [up_n (by omega), up_n (by omega)]; exact e4
        · rw [up_n (by omega), up_n (by omega)]; exact e5
      · have hs3 : ¬ zSo (zB by' n y2) = 3 := fun c => h9 ((so3 _).mp c)
        rw [if_neg (show ¬ zI (zB by' n y2) = 59 by rw [zl_59, zI_eq (by omega) (by omega) (by omega) (by omega)]; exact h9), if_neg (show ¬ nI (zSo (zB by' n y2)) = 3 from fun c => hs3 ((nI_eq (b := 3) (by omega) (by decide)).mp c))]
        exact Or.inl ⟨y2, _, _, _, _, _, _, _, by omega, rfl, rfl⟩
  · -- no such number
    rw [if_neg hg, if_pos (show zI (-1) = -1 from by decide)]
    have hout : ∀ hi : Int32, hi = nI (if fl = true then 5 else 3) → inR (zI (if zSo (zB by' n y) = 2 ∧ ¬ zSo (zB by' n (y + 1)) = 2 then zB by' n y - 48 else -1)) 0 hi = false := by
      intro hi hh
      subst hh
      cases hc : inR (zI (if zSo (zB by' n y) = 2 ∧ ¬ zSo (zB by' n (y + 1)) = 2 then zB by' n y - 48 else -1)) 0 (nI (if fl = true then 5 else 3)) with
      | false => rfl
      | true =>
        exfalso
        rw [inR_iff] at hc
        have e0 : (0 : Int32).toInt = 0 := rfl
        have e5 : (nI (if fl = true then 5 else 3)).toInt = ((if fl = true then 5 else 3 : Nat) : Int) := nI_toInt (by split <;> omega)
        by_cases h1 : zSo (zB by' n y) = 2 ∧ ¬ zSo (zB by' n (y + 1)) = 2
        · rw [if_pos h1, zI_i (by omega) (by omega), e0, e5] at hc
          exact hg ⟨h1, hc.2⟩
        · rw [if_neg h1, zI_i (by omega) (by omega)] at hc
          omega
    unfold f_X9_readsItem_L86
    cases fl with
    | true =>
      rw [bI_t, if_neg (show ¬ ((1 : Int32) = 0) from by decide), cw, hout 5 rfl, mb1_s, if_pos bI_f]
      exact Or.inl ⟨y, _, _, _, _, _, _, _, by omega, rfl, rfl⟩
    | false =>
      rw [bI_f, if_pos (rfl : (0 : Int32) = 0), cw, hout 3 rfl, mb1_s, if_pos bI_f]
      exact Or.inl ⟨y, _, _, _, _, _, _, _, by omega, rfl, rfl⟩
