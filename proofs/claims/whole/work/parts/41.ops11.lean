set_option maxRecDepth 8000
/-! when to take the double -/
theorem ul_s (f : Nat → Int64) (k : Nat) (x : Int64) : vp_updL f k x k = x := by unfold vp_updL; exact if_pos rfl
theorem ul_n {f : Nat → Int64} {k j : Nat} {x : Int64} (h : j ≠ k) : vp_updL f k x j = f j := by unfold vp_updL; exact if_neg h
def zT (p q : Nat) : Nat → Nat → Nat
  | 0, o => if o = 0 then 1 else 0
  | t + 1, o => if o = 0 then 16 ^ (t + 1) else max (p * zT p q t (o - 1) + (16 - p) * zT p q t o) (q * zT p q t (o - 2) + (16 - q) * zT p q t o)
def zPl (p q t o : Nat) : Nat := p * zT p q t (o - 1) + (16 - p) * zT p q t o
def zBo (p q t o : Nat) : Nat := q * zT p q t (o - 2) + (16 - q) * zT p q t o
def zD (p q t o : Nat) : Bool := decide (zPl p q t o < zBo p q t o)
theorem zT_0 (p q t : Nat) : zT p q t 0 = 16 ^ t := by
  cases t with
  | zero => rfl
  | succ t => unfold zT; rw [if_pos rfl]
theorem zT_s {p q t o : Nat} (h : o ≠ 0) : zT p q (t + 1) o = max (zPl p q t o) (zBo p q t o) := by
  conv => lhs; unfold zT
  rw [if_neg h]
  rfl
theorem mixb {p x y B : Nat} (hp : p ≤ 16) (hx : x ≤ B) (hy : y ≤ B) : p * x + (16 - p) * y ≤ 16 * B := by
  have h1 : p * x ≤ p * B := Nat.mul_le_mul_left _ hx
  have h2 : (16 - p) * y ≤ (16 - p) * B := Nat.mul_le_mul_left _ hy
  have h3 : p * B + (16 - p) * B = 16 * B := by rw [← Nat.add_mul]; congr 1; omega
  omega
theorem zT_b {p q : Nat} (hp : p ≤ 16) (hq : q ≤ 16) : ∀ t o : Nat, zT p q t o ≤ 16 ^ t
  | 0, o => by unfold zT; split <;> simp
  | t + 1, o => by
    by_cases h : o = 0
    · subst h; rw [zT_0]; exact Nat.le_refl _
    · rw [zT_s h, Nat.pow_succ, Nat.mul_comm]
      have h1 := mixb hp (zT_b hp hq t (o - 1)) (zT_b hp hq t o)
      have h2 := mixb hq (zT_b hp hq t (o - 2)) (zT_b hp hq t o)
      unfold zPl zBo
      omega
theorem p8 {t : Nat} (h : t ≤ 8) : 16 ^ t ≤ 4294967296 := Nat.le_trans (Nat.pow_le_pow_right (by omega) h) (by decide)
theorem pl_b {p q t o : Nat} (hp : p ≤ 16) (hq : q ≤ 16) (ht : t ≤ 8) : zPl p q t o ≤ 68719476736 ∧ zBo p q t o ≤ 68719476736 := by
  have h1 := mixb hp (zT_b hp hq t (o - 1)) (zT_b hp hq t o)
  have h2 := mixb hq (zT_b hp hq t (o - 2)) (zT_b hp hq t o)
  have := p8 ht
  unfold zPl zBo
  omega
/-- a mean of two counts, in the machine's numbers -/
theorem mixL {p x y : Nat} (hp : p ≤ 16) : (nI p).toInt64 * zL (x : Int) + ((16 : Int32) - nI p).toInt64 * zL (y : Int) = zL ((p * x + (16 - p) * y : Nat) : Int) := by
  have e1 : (nI p).toInt64 = zL (p : Int) := by rw [nI_z, zI_l (by omega) (by omega)]
  have e2 : ((16 : Int32) - nI p).toInt64 = zL ((16 - p : Nat) : Int) := by
    rw [nI_z, zl_16, zI_sub, zI_l (by omega) (by omega)]; congr 1; omega
  rw [e1, e2, zL_mul, zL_mul, zL_add]
  congr 1
theorem lt_zL {a b : Nat} (ha : a ≤ 68719476736) (hb : b ≤ 68719476736) : (zL (a : Int) ≤ zL (b : Int)) ↔ a ≤ b := by
  rw [zL_le (by omega) (by omega) (by omega) (by omega)]; omega
theorem lmx_n {a b : Nat} (ha : a ≤ 68719476736) (hb : b ≤ 68719476736) : lmx (zL (a : Int)) (zL (b : Int)) = zL ((max a b : Nat) : Int) := by
  unfold lmx
  split
  · rename_i h
    rw [zL_lt (by omega) (by omega) (by omega) (by omega)] at h
    congr 1; omega
  · rename_i h
    rw [zL_lt (by omega) (by omega) (by omega) (by omega)] at h
    congr 1; omega
theorem fill_l : ∀ (d N : Nat) (v : Nat → Int64), d ≤ 21 → d < N → ∃ v' : Nat → Int64, f_J7_fill_d0a16_L6 21 N 0 (nI (21 - d)) (nI 21) v = some v' ∧ (∀ j : Nat, 21 - d ≤ j → j < 21 → v' j = 0) ∧ ∀ j : Nat, j < 21 - d → v' j = v j
  | 0, N + 1, v, _, _ => by
    refine ⟨v, ?_, fun j a b => by omega, fun j _ => rfl⟩
    unfold f_J7_fill_d0a16_L6
    rw [if_pos (nI_le (by omega) (by omega))]
  | d + 1, N + 1, v, h1, h2 => by
    obtain ⟨v', a1, a2, a3⟩ := fill_l d N (vp_updL v (21 - (d + 1)) 0) (by omega) (by omega)
    have e0 : nI (21 - (d + 1)) + 1 = nI (21 - d) := by rw [nI_1]; congr 1; omega
    refine ⟨v', ?_, fun j b1 b2 => ?_, fun j b1 => ?_⟩
    · unfold f_J7_fill_d0a16_L6
      rw [if_neg (nI_ge (by omega) (by omega)), inB_nI (by omega) (by omega), mg_tt, clN (by omega), e0]
      exact a1
    · by_cases hj : j = 21 - (d + 1)
      · rw [a3 j (by omega), hj, ul_s]
      · exact a2 j (by omega) b2
    · rw [a3 j (by omega), ul_n (by omega)]
theorem imx2 {o : Nat} (h1 : 1 ≤ o) (h : o ≤ 20) : imx 0 (nI o - 2) = nI (o - 2) := by
  unfold imx
  rw [nI_z, zl_2, zI_sub]
  split
  · rename_i c
    rw [zl_0, zI_lt (by omega) (by omega) (by omega) (by omega)] at c
    rw [nI_z]; congr 1; omega
  · rename_i c
    rw [zl_0, zI_lt (by omega) (by omega) (by omega) (by omega)] at c
    rw [show o - 2 = 0 by omega]; rfl
theorem two_i {p q t d k : Nat} (hp : p ≤ 16) (hq : q ≤ 16) (ht : t < 8) (hd : d ≤ 20) (kh : Int32 → Int32 → Int32 → Int32 → Int32 → Int32 → (Nat → Int64) → Option (Int32 × (Nat → Int64))) : ∀ (o N : Nat) (x5 : Int32) (v : Nat → Int64), o ≤ d → o < N → (∀ j : Nat, j ≤ o → v j = zL (zT p q t j : Nat)) → ∃ v' : Nat → Int64, f_X6_chooseAhead_L32 21 kh N (nI d) (nI k) (nI p) (nI q) x5 (nI (t + 1)) (nI o) v = kh (nI d) (nI k) (nI p) (nI q) (if o = d ∧ 1 ≤ o then bI (zD p q t d) else x5) (nI (t + 1 + 1)) v' ∧ (∀ j : Nat, j ≤ o → v' j = zL (zT p q (t + 1) j : Nat)) ∧ ∀ j : Nat, o < j → v' j = v j
  | 0, N + 1, x5, v, _, _, hv => by
    refine ⟨vp_updL v 0 (zL (zT p q (t + 1) 0 : Nat)), ?_, fun j hj => ?_, fun j hj => ul_n (by omega)⟩
    · unfold f_X6_chooseAhead_L32
      have ha : f_X6_allCases (nI (t + 1)) = some (zL ((16 ^ (t + 1) : Nat) : Int)) := (all_m ⟨t + 1, by omega⟩).1
      rw [if_pos (show nI 0 < 1 from by decide), ha, mb1_s, show inB (0 : Int32) 21 = true from by decide, mg_tt, tn_0, if_neg (by omega), zT_0, nI_1]
    · obtain rfl : j = 0 := by omega
      rw [ul_s]
  | o + 1, N + 1, x5, v, h1, h2, hv => by
    obtain ⟨b1, b2⟩ := pl_b (t := t) (o := o + 1) hp hq (by omega)
    obtain ⟨v', a1, a2, a3⟩ := two_i (k := k) hp hq ht hd kh o N (if o + 1 = d then bI (zD p q t d) else x5) (vp_updL v (o + 1) (zL ((max (zPl p q t (o + 1)) (zBo p q t (o + 1)) : Nat) : Int))) (by omega) (by omega) (fun j hj => by rw [ul_n (by omega)]; exact hv j (by omega))
    refine ⟨v', ?_, fun j hj => ?_, fun j hj => ?_⟩
    · unfold f_X6_chooseAhead_L32 f_X6_chooseAhead_L112
      have e1 : nI (o + 1) - 1 = nI o := nI_pred o
      have e2 : nI (o + 1) + (-1 : Int32) = nI o := by
        rw [nI_z, zl_1, zI_neg, zI_add, nI_z]; congr 1; omega
      have m1 : (nI p).toInt64 * v o + ((16 : Int32) - nI p).toInt64 * v (o + 1) = zL (zPl p q t (o + 1) : Nat) := by
        rw [hv o (by omega), hv (o + 1) (by omega), mixL hp]; rfl
      have m2 : (nI q).toInt64 * v (o + 1 - 2) + ((16 : Int32) - nI q).toInt64 * v (o + 1) = zL (zBo p q t (o + 1) : Nat) := by
        rw [hv (o + 1 - 2) (by omega), hv (o + 1) (by omega), mixL hq]; rfl
      rw [if_neg (show ¬ nI (o + 1) < 1 from nI_nlt (a := o + 1) (b := 1) (by omega) (by omega)), e1, e2, imx2 (by omega) (by omega), inB_nI (show o < 21 by omega) (by omega), inB_nI (show o + 1 < 21 by omega) (by omega), inB_nI (show o + 1 - 2 < 21 by omega) (by omega), mg_tt, mg_tt, mg_tt, mg_tt, mg_tt, clN (by omega), clN (by omega), clN (by omega), m1, m2, lmx_n b1 b2]
      have hz : ∀ x : Int32, (if o = d ∧ 1 ≤ o then bI (zD p q t d) else x) = x := fun x => if_neg (by omega)
      rw [hz] at a1
      by_cases hod : o + 1 = d
      · rw [if_pos (show nI (o + 1) = nI d by rw [hod]), if_pos (show o + 1 = d ∧ 1 ≤ o + 1 from ⟨hod, by omega⟩)]
        rw [if_pos hod] at a1
        subst hod
        unfold zD at a1 ⊢
        by_cases hc : zBo p q t (o + 1) ≤ zPl p q t (o + 1)
        · rw [if_pos ((lt_zL b2 b1).mpr hc)]
          rw [show decide (zPl p q t (o + 1) < zBo p q t (o + 1)) = false from decide_eq_false (by omega)] at a1 ⊢
          exact a1
        · rw [if_neg (fun e => hc ((lt_zL b2 b1).mp e))]
          rw [show decide (zPl p q t (o + 1) < zBo p q t (o + 1)) = true from decide_eq_true (by omega)] at a1 ⊢
          exact a1
      · rw [if_neg (show ¬ nI (o + 1) = nI d by rw [nI_eq (by omega) (by omega)]; exact hod), if_neg (show ¬ (o + 1 = d ∧ 1 ≤ o + 1) from fun e => hod e.1)]
        rw [if_neg hod] at a1
        exact a1
    · by_cases hjo : j = o + 1
      · subst hjo
        rw [a3 _ (by omega), ul_s, zT_s (by omega)]
      · exact a2 j (by omega)
    · rw [a3 j (by omega), ul_n (by omega)]
theorem two_o {p q d k : Nat} (hp : p ≤ 16) (hq : q ≤ 16) (hd : d ≤ 20) (hk : k ≤ 8) : ∀ (m N t : Nat) (b : Bool) (v : Nat → Int64), t + m = k → m < N → (∀ j : Nat, j ≤ d → v j = zL (zT p q t j : Nat)) → ∃ v' : Nat → Int64, f_X6_chooseAhead_L23 21 N (nI d) (nI k) (nI p) (nI q) (bI b) (nI (t + 1)) v = some (bI (if 1 ≤ m ∧ 1 ≤ d then zD p q (k - 1) d else b), v') ∧ v' d = zL (zT p q k d : Nat)
  | 0, N + 1, t, b, v, h1, h2, hv => by
    obtain rfl : t = k := by omega
    refine ⟨v, ?_, hv d (by omega)⟩
    unfold f_X6_chooseAhead_L23
    rw [if_pos (nI_lt (by omega) (by omega)), isB_bI, mg_tt, if_neg (by omega)]
  | m + 1, N + 1, t, b, v, h1, h2, hv => by
    obtain ⟨v1, a1, a2, a3⟩ := two_i (k := k) hp hq (show t < 8 by omega) hd (fun z0 z1 z2 z3 z4 z5 z6 => f_X6_chooseAhead_L23 21 N z0 z1 z2 z3 z4 z5 z6) d 100000 (bI b) v (by omega) (by omega) hv
    have hb : (if d = d ∧ 1 ≤ d then bI (zD p q t d) else bI b) = bI (if 1 ≤ d then zD p q t d else b) := by
      by_cases h : 1 ≤ d
      · rw [if_pos ⟨rfl, h⟩, if_pos h]
      · rw [if_neg (by omega), if_neg h]
    rw [hb] at a1
    obtain ⟨v2, c1, c2⟩ := two_o hp hq hd hk m N (t + 1) (if 1 ≤ d then zD p q t d else b) v1 (by omega) (by omega) a2
    refine ⟨v2, ?_, c2⟩
    unfold f_X6_chooseAhead_L23
    rw [if_neg (nI_nlt (by omega) (by omega)), a1, c1]
    by_cases h : 1 ≤ d
    · rw [if_pos h, if_pos (show 1 ≤ m + 1 ∧ 1 ≤ d from ⟨by omega, h⟩)]
      by_cases hm : 1 ≤ m
      · rw [if_pos ⟨hm, h⟩]
      · rw [if_neg (by omega), show k - 1 = t by omega]
    · rw [if_neg h, if_neg (by omega), if_neg (by omega)]
theorem two10 {p q d k : Nat} (hp : p ≤ 16) (hq : q ≤ 16) (hd : d ≤ 20) (hk : k ≤ 8) (v : Nat → Int64) : ∃ v' : Nat → Int64, f_X6_chooseAhead (nI d) (nI k) (nI p) (nI q) 21 v = some (bI (if 1 ≤ k ∧ 1 ≤ d then zD p q (k - 1) d else false), v') ∧ v' d = zL (zT p q k d : Nat) := by
  unfold f_X6_chooseAhead f_J7_fill_d0a16
  obtain ⟨v0, a1, a2, -⟩ := fill_l 21 100000 v (by omega) (by omega)
  have h0 : ∀ j : Nat, j ≤ d → vp_updL v0 0 1 j = zL (zT p q 0 j : Nat) := by
    intro j hj
    by_cases h : j = 0
    · subst h
      rw [ul_s]
      show (1 : Int64) = zL 1
      decide +kernel
    · rw [ul_n h, a2 j (by omega) (by omega)]
      unfold zT
      rw [if_neg h]
      decide +kernel
  obtain ⟨v1, b1, b2⟩ := two_o hp hq hd hk k 100000 0 false (vp_updL v0 0 1) (by omega) (by omega) h0
  refine ⟨v1, ?_, b2⟩
  rw [show f_J7_fill_d0a16_L6 21 100000 0 0 (Int32.ofNat 21) v = _ from a1, mb1_s, if_pos (show nI d < Int32.ofNat 21 from nI_lt (by omega) (by omega)), show inB (0 : Int32) 21 = true from by decide, mg_tt, tn_0]
  exact b1
/-! the same in the table -/
theorem row_l {p q t d k : Nat} (hp : p ≤ 16) (hq : q ≤ 16) (ht : t ≤ 8) (hd : d ≤ 20) (kh : Int32 → Int32 → Int32 → Int32 → Int32 → Int32 → Int64 → Int64 → (Nat → Int32) → (Nat → Int64) → Option (Int32 × Int64 × Int64 × (Nat → Int32) × (Nat → Int64))) (v w : Int64) (r : Nat → Int32) : ∀ (m N : Nat) (b : Bool) (md : Nat → Int64), m ≤ 21 → m < N → (t = 0 → m < 21 → b = false) → (∀ l o : Nat, l < t → o < 21 → md (21 * l + o) = zL (zT p q l o : Nat)) → (∀ o : Nat, o < 21 - m → md (21 * t + o) = zL (zT p q t o : Nat)) → ∃ md' : Nat → Int64, f_X11_twofold_L69 kh N (nI d) (nI k) (nI p) (nI q) (bI b) (nI t) (nI (21 - m)) v w r md = kh (nI d) (nI k) (nI p) (nI q) (bI (if 1 ≤ t ∧ 1 ≤ d ∧ 21 - m ≤ d then zD p q (t - 1) d else if m = 21 then false else b)) (nI (t + 1)) v w r md' ∧ ∀ l o : Nat, l ≤ t → o < 21 → md' (21 * l + o) = zL (zT p q l o : Nat)
  | 0, N + 1, b, md, _, _, _, hl, ho => by
    refine ⟨md, ?_, fun l o h1 h2 => ?_⟩
    · unfold f_X11_twofold_L69
      rw [if_pos (show (21 : Int32) ≤ nI (21 - 0) from by decide), if_neg (show ¬ (1 ≤ t ∧ 1 ≤ d ∧ 21 - 0 ≤ d) by omega), if_neg (by omega), nI_1]
    · by_cases h : l < t
      · exact hl l o h h2
      · obtain rfl : l = t := by omega
        exact ho o (by omega)
  | m + 1, N + 1, b, md, h1, h2, hb0, hl, ho => by
    have eo : nI (21 - (m + 1)) + 1 = nI (21 - m) := by rw [nI_1]; congr 1; omega
    have en : ¬ (21 : Int32) ≤ nI (21 - (m + 1)) := nI_ge (b := 21) (by omega) (by decide)
    have ep : (21 : Int32) * nI t + nI (21 - (m + 1)) = nI (21 * t + (21 - (m + 1))) := by
      rw [nI_z, nI_z, nI_z, zl_21, zI_mul, zI_add]; congr 1
    have hin : inB (nI (21 * t + (21 - (m + 1)))) 189 = true := inB_nI (by omega) (by omega)
    by_cases h0 : m = 20
    · -- the row's first place
      subst h0
      have hpw : f_X11_power 16 (nI t) = some (zL ((16 ^ t : Nat) : Int)) := (all_m ⟨t, by omega⟩).2
      obtain ⟨md', a1, a2⟩ := row_l (k := k) hp hq ht hd kh v w r 20 N false (vp_updL md (21 * t + 0) (zL ((16 ^ t : Nat) : Int))) (by omega) (by omega) (fun _ _ => rfl) (fun l o hlt hot => by rw [ul_n (by omega)]; exact hl l o hlt hot) (fun o hoo => by
        obtain rfl : o = 0 := by omega
        rw [ul_s, zT_0])
      refine ⟨md', ?_, a2⟩
      unfold f_X11_twofold_L69 f_X11_twofold_L96 f_X11_twofold_L119 f_X11_twofold_L250
      have z0 : nI (21 - (20 + 1)) = 0 := rfl
      rw [if_neg en, if_pos z0, if_pos z0, hpw, mb1_s, ep, hin, mg_tt, clN (by omega), eo]
      have hfin : (if 1 ≤ t ∧ 1 ≤ d ∧ 21 - (20 + 1) ≤ d then zD p q (t - 1) d else if 20 + 1 = 21 then false else b) = (if 1 ≤ t ∧ 1 ≤ d ∧ 21 - 20 ≤ d then zD p q (t - 1) d else if 20 = 21 then false else false) := by
        by_cases c1 : 1 ≤ t ∧ 1 ≤ d
        · rw [if_pos (show 1 ≤ t ∧ 1 ≤ d ∧ 21 - (20 + 1) ≤ d by omega), if_pos (show 1 ≤ t ∧ 1 ≤ d ∧ 21 - 20 ≤ d by omega)]
        · rw [if_neg (show ¬ (1 ≤ t ∧ 1 ≤ d ∧ 21 - (20 + 1) ≤ d) by omega), if_neg (show ¬ (1 ≤ t ∧ 1 ≤ d ∧ 21 - 20 ≤ d) by omega)]; rfl
      rw [hfin]
      exact a1
    · have on0 : 21 - (m + 1) ≠ 0 := by omega
      have zn : ¬ nI (21 - (m + 1)) = 0 := nI_ne0 (by omega) (by omega)
      by_cases ht0 : t = 0
      · subst ht0
        have hbf : b = false := hb0 rfl (by omega)
        subst hbf
        obtain ⟨md', a1, a2⟩ := row_l (t := 0) (k := k) hp hq ht hd kh v w r m N false (vp_updL md (21 * 0 + (21 - (m + 1))) 0) (by omega) (by omega) (fun _ _ => rfl) (fun l o hlt hot => by omega) (fun o hoo => by
          by_cases hh : o = 21 - (m + 1)
          · subst hh
            rw [ul_s]
            unfold zT
            rw [if_neg on0]
            decide +kernel
          · rw [ul_n (by omega)]; exact ho o (by omega))
        refine ⟨md', ?_, a2⟩
        unfold f_X11_twofold_L69 f_X11_twofold_L96 f_X11_twofold_L119 f_X11_twofold_L250
        rw [if_neg en, if_neg zn, if_pos (show nI 0 = 0 from rfl), if_neg zn, ep, hin, mg_tt, clN (by omega), eo]
        have hfin : (if 1 ≤ 0 ∧ 1 ≤ d ∧ 21 - (m + 1) ≤ d then zD p q (0 - 1) d else if m + 1 = 21 then false else false) = (if 1 ≤ 0 ∧ 1 ≤ d ∧ 21 - m ≤ d then zD p q (0 - 1) d else if m = 21 then false else false) := by
          rw [if_neg (show ¬ (1 ≤ 0 ∧ 1 ≤ d ∧ 21 - (m + 1) ≤ d) by omega), if_neg (show ¬ m + 1 = 21 by omega), if_neg (show ¬ (1 ≤ 0 ∧ 1 ≤ d ∧ 21 - m ≤ d) by omega), if_neg (show ¬ m = 21 by omega)]
        rw [hfin]
        exact a1
      · obtain ⟨s, rfl⟩ : ∃ s, t = s + 1 := ⟨t - 1, by omega⟩
        generalize ho1 : 21 - (m + 1) = o1 at *
        obtain ⟨b1, b2⟩ := pl_b (t := s) (o := o1) hp hq (by omega)
        have es : 21 - m = o1 + 1 := by omega
        obtain ⟨md', a1, a2⟩ := row_l (k := k) hp hq ht hd kh v w r m N (if o1 = d then zD p q s d else b) (vp_updL md (21 * (s + 1) + o1) (zL ((max (zPl p q s o1) (zBo p q s o1) : Nat) : Int))) (by omega) (by omega) (fun e => absurd e ht0) (fun l o hlt hot => by rw [ul_n (by omega)]; exact hl l o hlt hot) (fun o hoo => by
          by_cases hh : o = o1
          · subst hh
            rw [ul_s, zT_s on0]
          · rw [ul_n (by omega)]; exact ho o (by omega))
        refine ⟨md', ?_, a2⟩
        have zt : ¬ nI (s + 1) = 0 := nI_ne0 (by omega) (by omega)
        have e21 : nI (21 * (s + 1) + o1) - 21 = nI (21 * s + o1) := by
          rw [nI_z, nI_z, zl_21, zI_sub]; congr 1; omega
        have e22 : nI (21 * (s + 1) + o1) - 22 = nI (21 * s + (o1 - 1)) := by
          rw [nI_z, nI_z, zl_22, zI_sub]; congr 1; omega
        have m1 : (nI p).toInt64 * md (21 * s + (o1 - 1)) + ((16 : Int32) - nI p).toInt64 * md (21 * s + o1) = zL (zPl p q s o1 : Nat) := by
          rw [hl s (o1 - 1) (by omega) (by omega), hl s o1 (by omega) (by omega), mixL hp]; rfl
        have m2 : (nI q).toInt64 * md (21 * s + (o1 - 2)) + ((16 : Int32) - nI q).toInt64 * md (21 * s + o1) = zL (zBo p q s o1 : Nat) := by
          rw [hl s (o1 - 2) (by omega) (by omega), hl s o1 (by omega) (by omega), mixL hq]; rfl
        have hfin : (if 1 ≤ s + 1 ∧ 1 ≤ d ∧ o1 ≤ d then zD p q (s + 1 - 1) d else if m + 1 = 21 then false else b) = (if 1 ≤ s + 1 ∧ 1 ≤ d ∧ 21 - m ≤ d then zD p q (s + 1 - 1) d else if m = 21 then false else (if o1 = d then zD p q s d else b)) := by
          by_cases c1 : o1 ≤ d
          · by_cases c2 : o1 = d
            · rw [if_pos (show 1 ≤ s + 1 ∧ 1 ≤ d ∧ o1 ≤ d by omega), if_neg (show ¬ (1 ≤ s + 1 ∧ 1 ≤ d ∧ 21 - m ≤ d) by omega), if_neg (show ¬ m = 21 by omega), if_pos c2]; rfl
            · rw [if_pos (show 1 ≤ s + 1 ∧ 1 ≤ d ∧ o1 ≤ d by omega), if_pos (show 1 ≤ s + 1 ∧ 1 ≤ d ∧ 21 - m ≤ d by omega)]
          · rw [if_neg (show ¬ (1 ≤ s + 1 ∧ 1 ≤ d ∧ o1 ≤ d) by omega), if_neg (show ¬ m + 1 = 21 by omega), if_neg (show ¬ (1 ≤ s + 1 ∧ 1 ≤ d ∧ 21 - m ≤ d) by omega), if_neg (show ¬ m = 21 by omega), if_neg (show ¬ o1 = d by omega)]
        rw [hfin]
        have tail : ∀ s2 : Int32, s2 = nI (21 * s + (o1 - 2)) → f_X11_twofold_L188 kh (fun z0 z1 z2 z3 z4 z5 z6 z7 z8 z9 z10 => f_X11_twofold_L69 kh N z0 z1 z2 z3 z4 z5 z6 z7 z8 z9 z10) (nI d) (nI k) (nI p) (nI q) (bI b) (nI (s + 1)) (nI o1) (nI (21 * (s + 1) + o1)) (md (21 * s + o1)) (zL (zPl p q s o1 : Nat)) (nI q).toInt64 s2 v w r md = f_X11_twofold_L69 kh N (nI d) (nI k) (nI p) (nI q) (bI (if o1 = d then zD p q s d else b)) (nI (s + 1)) (nI (21 - m)) v w r (vp_updL md (21 * (s + 1) + o1) (zL ((max (zPl p q s o1) (zBo p q s o1) : Nat) : Int))) := by
          intro s2 hs2
          subst hs2
          unfold f_X11_twofold_L188 f_X11_twofold_L223 f_X11_twofold_L248 f_X11_twofold_L250
          rw [inB_nI (show 21 * s + (o1 - 2) < 189 by omega) (by omega), mg_tt, clN (show 21 * s + (o1 - 2) < 2 ^ 31 by omega), m2, hin, mg_tt, mg_tt, clN (show 21 * (s + 1) + o1 < 2 ^ 31 by omega), eo]
          by_cases hc : zBo p q s o1 ≤ zPl p q s o1
          · rw [if_pos ((lt_zL b2 b1).mpr hc), if_pos ((lt_zL b2 b1).mpr hc), show max (zPl p q s o1) (zBo p q s o1) = zPl p q s o1 by omega]
            by_cases c2 : o1 = d
            · rw [if_pos (show nI o1 = nI d by rw [c2]), if_pos c2, ← c2]
              unfold zD
              rw [decide_eq_false (show ¬ zPl p q s o1 < zBo p q s o1 by omega)]
              rfl
            · rw [if_neg (show ¬ nI o1 = nI d by rw [nI_eq (by omega) (by omega)]; exact c2), if_neg c2]
          · rw [if_neg (fun e => hc ((lt_zL b2 b1).mp e)), if_neg (fun e => hc ((lt_zL b2 b1).mp e)), show max (zPl p q s o1) (zBo p q s o1) = zBo p q s o1 by omega]
            by_cases c2 : o1 = d
            · rw [if_pos (show nI o1 = nI d by rw [c2]), if_pos c2, ← c2]
              unfold zD
              rw [decide_eq_true (show zPl p q s o1 < zBo p q s o1 by omega)]
              rfl
            · rw [if_neg (show ¬ nI o1 = nI d by rw [nI_eq (by omega) (by omega)]; exact c2), if_neg c2]
        unfold f_X11_twofold_L69
        rw [if_neg en, if_neg zn, if_neg zt, ep, e21, e22, inB_nI (show 21 * s + o1 < 189 by omega) (by omega), inB_nI (show 21 * s + (o1 - 1) < 189 by omega) (by omega), mg_tt, mg_tt, clN (show 21 * s + o1 < 2 ^ 31 by omega), clN (show 21 * s + (o1 - 1) < 2 ^ 31 by omega), m1]
        by_cases c1 : o1 = 1
        · rw [if_pos (show nI o1 = 1 by rw [c1]; rfl), tail _ (by rw [c1])]
          exact a1
        · rw [if_neg (show ¬ nI o1 = 1 from fun e => c1 ((nI_eq (b := 1) (by omega) (by decide)).mp e)), tail _ (by rw [nI_z, nI_z, zl_23, zI_sub]; congr 1; omega)]
          exact a1
theorem tab_l {p q d k : Nat} (hp : p ≤ 16) (hq : q ≤ 16) (hd : d ≤ 20) (hk : k ≤ 8) (v w : Int64) (r : Nat → Int32) : ∀ (m N t : Nat) (b : Bool) (md : Nat → Int64), t + m = k + 1 → m < N → (∀ l o : Nat, l < t → o < 21 → md (21 * l + o) = zL (zT p q l o : Nat)) → ∃ md' : Nat → Int64, f_X11_twofold_L60 N (nI d) (nI k) (nI p) (nI q) (bI b) (nI t) v w r md = (mg (inB ((21 : Int32) * nI k + nI d) 189) (mb1 (f_X11_power (16 : Int64) (nI k)) (fun r12 => mb2 (f_X11_tells (md' (Int32.toNatClampNeg ((21 : Int32) * nI k + nI d))) r12 v w) (fun o14 o15 => if bI (if 1 ≤ m then (if 1 ≤ k ∧ 1 ≤ d then zD p q (k - 1) d else false) else b) = 0 then (some ((0 : Int32), o14, o15, r, md')) else (if nI d ≤ 0 then (some ((0 : Int32), o14, o15, r, md')) else (if nI k ≤ 0 then (some ((0 : Int32), o14, o15, r, md')) else (some ((1 : Int32), o14, o15, r, md')))))))) ∧ (∀ l o : Nat, l ≤ k → o < 21 → md' (21 * l + o) = zL (zT p q l o : Nat))
  | 0, N + 1, t, b, md, h1, h2, hl => by
    refine ⟨md, ?_, fun l o a1 a2 => hl l o (by omega) a2⟩
    unfold f_X11_twofold_L60
    rw [if_pos (show nI k < nI t from nI_lt (by omega) (by omega)), if_neg (show ¬ 1 ≤ 0 by omega)]
  | m + 1, N + 1, t, b, md, h1, h2, hl => by
    obtain ⟨m1, a1, a2⟩ := row_l (t := t) (k := k) hp hq (by omega) hd (fun z0 z1 z2 z3 z4 z5 z6 z7 z8 z9 => f_X11_twofold_L60 N z0 z1 z2 z3 z4 z5 z6 z7 z8 z9) v w r 21 100000 b md (by omega) (by omega) (fun _ e => by omega) hl (fun o ho => by omega)
    have hb : (if 1 ≤ t ∧ 1 ≤ d ∧ 21 - 21 ≤ d then zD p q (t - 1) d else if 21 = 21 then false else b) = (if 1 ≤ t ∧ 1 ≤ d then zD p q (t - 1) d else false) := by
      by_cases c : 1 ≤ t ∧ 1 ≤ d
      · rw [if_pos c, if_pos (show 1 ≤ t ∧ 1 ≤ d ∧ 21 - 21 ≤ d by omega)]
      · rw [if_neg c, if_neg (show ¬ (1 ≤ t ∧ 1 ≤ d ∧ 21 - 21 ≤ d) by omega)]; rfl
    rw [hb] at a1
    obtain ⟨m2, c1, c2⟩ := tab_l hp hq hd hk v w r m N (t + 1) (if 1 ≤ t ∧ 1 ≤ d then zD p q (t - 1) d else false) m1 (by omega) (by omega) (fun l o g1 g2 => a2 l o (by omega) g2)
    refine ⟨m2, ?_, c2⟩
    unfold f_X11_twofold_L60
    rw [if_neg (show ¬ nI k < nI t from nI_nlt (by omega) (by omega)), show f_X11_twofold_L69 (fun z0 z1 z2 z3 z4 z5 z6 z7 z8 z9 => f_X11_twofold_L60 N z0 z1 z2 z3 z4 z5 z6 z7 z8 z9) 100000 (nI d) (nI k) (nI p) (nI q) (bI b) (nI t) 0 v w r md = _ from a1, c1, if_pos (show 1 ≤ m + 1 by omega)]
    by_cases hm : 1 ≤ m
    · rw [if_pos hm]
    · rw [if_neg hm, show t = k by omega]
theorem op_twofold {c_fraction_above : Int64} {c_fraction_below : Int64} {c_chances : Nat → Int64} {c_refused : Nat → Int32} {m_above : Int64} {m_below : Int64} {m_refused : Nat → Int32} {m_made : Nat → Int64} (hF : FrcR c_fraction_above c_fraction_below m_above m_below) (hE : RefR c_refused m_refused) (y0 : Int32) (y1 : Int32) (y2 : Int32) (y3 : Int32) : ∃ (r : Int32) (dc_refused : Nat → Int32) (dc_chances : Nat → Int64) (dc_fraction_above : Int64) (dc_fraction_below : Int64) (dm_above : Int64) (dm_below : Int64) (dm_refused : Nat → Int32) (dm_made : Nat → Int64), f_X10_twofold y0 y1 y2 y3 c_refused c_chances c_fraction_above c_fraction_below = some (r, dc_refused, dc_chances, dc_fraction_above, dc_fraction_below) ∧ f_X11_twofold y0 y1 y2 y3 m_above m_below m_refused m_made = some (r, dm_above, dm_below, dm_refused, dm_made) ∧ FrcR dc_fraction_above dc_fraction_below dm_above dm_below ∧ RefR dc_refused dm_refused := by
  obtain ⟨rfl, rfl⟩ := hF
  unfold f_X10_twofold f_X11_twofold f_X10_twofold_L39 f_X10_twofold_L40 f_X11_twofold_L49 f_X10_isChance
  rw [cw, cw, cw, cw, mw y0 0 20 (lo' := 0) (hi' := 20) rfl rfl, mw y1 0 8 (lo' := 0) (hi' := 8) rfl rfl, mw y2 0 16 (lo' := 0) (hi' := 16) rfl rfl, mw y3 0 16 (lo' := 0) (hi' := 16) rfl rfl]
  cases c1 : inR y0 0 20 with
  | false =>
    simp only [mb0_s, mb1_s, mb2_s, mb3_s, mb4_s, mb5_s, mb6_s, mb7_s, mb8_s, mb9_s, mb10_s, mb11_s, mb12_s, mb13_s, mb14_s, mb15_s, mb16_s, mb17_s, mb18_s, mb19_s, mb20_s, mb21_s, mb22_s, mb23_s, mb24_s, ifI_t, ifI_f, isB_bI, bad10, no10, full10, bad11, badAs11, no11, full11, mb0_s, mb1_s, mb2_s, mb3_s, mb4_s, mb5_s, mb6_s, mb7_s, mb8_s, mb9_s, mb10_s, mb11_s, mb12_s, mb13_s, mb14_s, mb15_s, mb16_s, mb17_s, mb18_s, mb19_s, mb20_s, mb21_s, mb22_s, mb23_s, mb24_s, mg_tt, ib_0_2, ib_0_3, ib_0_4, ib_0_44, ib_0_117, ib_1_2, ib_1_3, ib_1_4, ib_1_117, ib_2_3, ib_2_4, ib_2_117, ib_3_4, ib_3_117, ib_4_117, ib_5_117, ib_44_117, tn_0, tn_1, tn_2, tn_3, tn_4, tn_5, tn_8, tn_10, tn_44, tn_72, cp_0, cp_1, cp_2, cp_3, cp_4]
    rw [if_pos trivial]
    exact ⟨_, _, _, _, _, _, _, _, _, rfl, rfl, ⟨rfl, rfl⟩, hE.bump 0⟩
  | true =>
  cases c2 : inR y1 0 8 with
  | false =>
    simp only [mb0_s, mb1_s, mb2_s, mb3_s, mb4_s, mb5_s, mb6_s, mb7_s, mb8_s, mb9_s, mb10_s, mb11_s, mb12_s, mb13_s, mb14_s, mb15_s, mb16_s, mb17_s, mb18_s, mb19_s, mb20_s, mb21_s, mb22_s, mb23_s, mb24_s, ifI_t, ifI_f, isB_bI, bad10, no10, full10, bad11, badAs11, no11, full11, mb0_s, mb1_s, mb2_s, mb3_s, mb4_s, mb5_s, mb6_s, mb7_s, mb8_s, mb9_s, mb10_s, mb11_s, mb12_s, mb13_s, mb14_s, mb15_s, mb16_s, mb17_s, mb18_s, mb19_s, mb20_s, mb21_s, mb22_s, mb23_s, mb24_s, mg_tt, ib_0_2, ib_0_3, ib_0_4, ib_0_44, ib_0_117, ib_1_2, ib_1_3, ib_1_4, ib_1_117, ib_2_3, ib_2_4, ib_2_117, ib_3_4, ib_3_117, ib_4_117, ib_5_117, ib_44_117, tn_0, tn_1, tn_2, tn_3, tn_4, tn_5, tn_8, tn_10, tn_44, tn_72, cp_0, cp_1, cp_2, cp_3, cp_4]
    rw [if_pos trivial]
    exact ⟨_, _, _, _, _, _, _, _, _, rfl, rfl, ⟨rfl, rfl⟩, hE.bump 0⟩
  | true =>
  cases c3 : inR y2 0 16 with
  | false =>
    simp only [mb0_s, mb1_s, mb2_s, mb3_s, mb4_s, mb5_s, mb6_s, mb7_s, mb8_s, mb9_s, mb10_s, mb11_s, mb12_s, mb13_s, mb14_s, mb15_s, mb16_s, mb17_s, mb18_s, mb19_s, mb20_s, mb21_s, mb22_s, mb23_s, mb24_s, ifI_t, ifI_f, isB_bI, bad10, no10, full10, bad11, badAs11, no11, full11, mb0_s, mb1_s, mb2_s, mb3_s, mb4_s, mb5_s, mb6_s, mb7_s, mb8_s, mb9_s, mb10_s, mb11_s, mb12_s, mb13_s, mb14_s, mb15_s, mb16_s, mb17_s, mb18_s, mb19_s, mb20_s, mb21_s, mb22_s, mb23_s, mb24_s, mg_tt, ib_0_2, ib_0_3, ib_0_4, ib_0_44, ib_0_117, ib_1_2, ib_1_3, ib_1_4, ib_1_117, ib_2_3, ib_2_4, ib_2_117, ib_3_4, ib_3_117, ib_4_117, ib_5_117, ib_44_117, tn_0, tn_1, tn_2, tn_3, tn_4, tn_5, tn_8, tn_10, tn_44, tn_72, cp_0, cp_1, cp_2, cp_3, cp_4]
    rw [if_pos trivial]
    exact ⟨_, _, _, _, _, _, _, _, _, rfl, rfl, ⟨rfl, rfl⟩, hE.bump 0⟩
  | true =>
  cases c4 : inR y3 0 16 with
  | false =>
    simp only [mb0_s, mb1_s, mb2_s, mb3_s, mb4_s, mb5_s, mb6_s, mb7_s, mb8_s, mb9_s, mb10_s, mb11_s, mb12_s, mb13_s, mb14_s, mb15_s, mb16_s, mb17_s, mb18_s, mb19_s, mb20_s, mb21_s, mb22_s, mb23_s, mb24_s, ifI_t, ifI_f, isB_bI, bad10, no10, full10, bad11, badAs11, no11, full11, mb0_s, mb1_s, mb2_s, mb3_s, mb4_s, mb5_s, mb6_s, mb7_s, mb8_s, mb9_s, mb10_s, mb11_s, mb12_s, mb13_s, mb14_s, mb15_s, mb16_s, mb17_s, mb18_s, mb19_s, mb20_s, mb21_s, mb22_s, mb23_s, mb24_s, mg_tt, ib_0_2, ib_0_3, ib_0_4, ib_0_44, ib_0_117, ib_1_2, ib_1_3, ib_1_4, ib_1_117, ib_2_3, ib_2_4, ib_2_117, ib_3_4, ib_3_117, ib_4_117, ib_5_117, ib_44_117, tn_0, tn_1, tn_2, tn_3, tn_4, tn_5, tn_8, tn_10, tn_44, tn_72, cp_0, cp_1, cp_2, cp_3, cp_4]
    rw [if_pos trivial]
    exact ⟨_, _, _, _, _, _, _, _, _, rfl, rfl, ⟨rfl, rfl⟩, hE.bump 0⟩
  | true =>
  obtain ⟨d, -, d2, rfl⟩ := inR_nI 0 20 rfl rfl c1
  obtain ⟨k, -, k2, rfl⟩ := inR_nI 0 8 rfl rfl c2
  obtain ⟨p, -, p2, rfl⟩ := inR_nI 0 16 rfl rfl c3
  obtain ⟨q, -, q2, rfl⟩ := inR_nI 0 16 rfl rfl c4
  obtain ⟨v1, a1, a2⟩ := two10 p2 q2 d2 k2 c_chances
  obtain ⟨md, e1, e2⟩ := tab_l p2 q2 d2 k2 m_above m_below m_refused (k + 1) 100000 0 false m_made (by omega) (by omega) (fun l o h _ => by omega)
  have ep : (21 : Int32) * nI k + nI d = nI (21 * k + d) := by
    rw [nI_z, nI_z, nI_z, zl_21, zI_mul, zI_add]; congr 1
  obtain ⟨w1, w2⟩ := all_m ⟨k, by omega⟩
  have w3 : f_X6_allCases (nI k) = some (zL ((16 ^ k : Nat) : Int)) := w1
  have w4 : f_X11_power 16 (nI k) = some (zL ((16 ^ k : Nat) : Int)) := w2
  have hT := zT_b p2 q2 k d
  have h8 := p8 k2
  have hpos : 0 < 16 ^ k := Nat.pow_pos (by omega)
  simp only [mb0_s, mb1_s, mb2_s, mb3_s, mb4_s, mb5_s, mb6_s, mb7_s, mb8_s, mb9_s, mb10_s, mb11_s, mb12_s, mb13_s, mb14_s, mb15_s, mb16_s, mb17_s, mb18_s, mb19_s, mb20_s, mb21_s, mb22_s, mb23_s, mb24_s, ifI_t, ifI_f, isB_bI, bad10, no10, full10, bad11, badAs11, no11, full11, mb0_s, mb1_s, mb2_s, mb3_s, mb4_s, mb5_s, mb6_s, mb7_s, mb8_s, mb9_s, mb10_s, mb11_s, mb12_s, mb13_s, mb14_s, mb15_s, mb16_s, mb17_s, mb18_s, mb19_s, mb20_s, mb21_s, mb22_s, mb23_s, mb24_s, mg_tt, ib_0_2, ib_0_3, ib_0_4, ib_0_44, ib_0_117, ib_1_2, ib_1_3, ib_1_4, ib_1_117, ib_2_3, ib_2_4, ib_2_117, ib_3_4, ib_3_117, ib_4_117, ib_5_117, ib_44_117, tn_0, tn_1, tn_2, tn_3, tn_4, tn_5, tn_8, tn_10, tn_44, tn_72, cp_0, cp_1, cp_2, cp_3, cp_4]
  rw [if_neg (show ¬ ((1 : Int32) = 0) from by decide), a1, mb2_s, inB_nI (show d < 21 by omega) (by omega), mg_tt, w3, mb1_s, clN (show d < 2 ^ 31 by omega), a2, hold_e (by omega) (by omega) hpos, mb2_s]
  rw [show f_X11_twofold_L60 100000 (nI d) (nI k) (nI p) (nI q) 0 0 m_above m_below m_refused m_made = _ from e1, ep, inB_nI (show 21 * k + d < 189 by omega) (by omega), mg_tt, w4, mb1_s, clN (show 21 * k + d < 2 ^ 31 by omega), e2 k d (by omega) (by omega), tells_e (by omega) (by omega) hpos, mb2_s, if_pos (show 1 ≤ k + 1 by omega)]
  by_cases hkd : 1 ≤ k ∧ 1 ≤ d
  · rw [if_pos hkd, if_neg (show ¬ nI d ≤ 0 from nI_nle (by omega) (by omega)), if_neg (show ¬ nI k ≤ 0 from nI_nle (by omega) (by omega))]
    cases zD p q (k - 1) d with
    | false =>
      rw [if_pos bI_f, if_pos bI_f]
      exact ⟨_, _, _, _, _, _, _, _, _, rfl, rfl, ⟨rfl, rfl⟩, hE⟩
    | true =>
      rw [if_neg (show ¬ bI true = 0 from by decide), if_neg (show ¬ bI true = 0 from by decide)]
      exact ⟨_, _, _, _, _, _, _, _, _, rfl, rfl, ⟨rfl, rfl⟩, hE⟩
  · rw [if_neg hkd, if_pos bI_f, if_pos bI_f]
    exact ⟨_, _, _, _, _, _, _, _, _, rfl, rfl, ⟨rfl, rfl⟩, hE⟩
