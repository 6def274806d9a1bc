/-! numbers by Int -/
def zI (a : Int) : Int32 := Int32.ofInt a
def zL (a : Int) : Int64 := Int64.ofInt a
theorem zI_add (a b : Int) : zI a + zI b = zI (a + b) := (Int32.ofInt_add a b).symm
theorem zI_sub (a b : Int) : zI a - zI b = zI (a - b) := (Int32.ofInt_sub a b).symm
theorem zI_mul (a b : Int) : zI a * zI b = zI (a * b) := (Int32.ofInt_mul a b).symm
theorem zI_neg (a : Int) : -zI a = zI (-a) := (Int32.ofInt_neg a).symm
theorem zL_add (a b : Int) : zL a + zL b = zL (a + b) := (Int64.ofInt_add a b).symm
theorem zL_sub (a b : Int) : zL a - zL b = zL (a - b) := (Int64.ofInt_sub a b).symm
theorem zL_mul (a b : Int) : zL a * zL b = zL (a * b) := (Int64.ofInt_mul a b).symm
theorem zL_neg (a : Int) : -zL a = zL (-a) := (Int64.ofInt_neg a).symm
theorem zI_i {a : Int} (h1 : -2147483648 ≤ a) (h2 : a ≤ 2147483647) : (zI a).toInt = a := Int32.toInt_ofInt_of_le (by omega) (by omega)
theorem zL_i {a : Int} (h1 : -9223372036854775808 ≤ a) (h2 : a ≤ 9223372036854775807) : (zL a).toInt = a := Int64.toInt_ofInt_of_le (by omega) (by omega)
theorem zI_lt {a b : Int} (h1 : -2147483648 ≤ a) (h2 : a ≤ 2147483647) (h3 : -2147483648 ≤ b) (h4 : b ≤ 2147483647) : (zI a < zI b) ↔ a < b := by rw [Int32.lt_iff_toInt_lt, zI_i h1 h2, zI_i h3 h4]
theorem zI_le {a b : Int} (h1 : -2147483648 ≤ a) (h2 : a ≤ 2147483647) (h3 : -2147483648 ≤ b) (h4 : b ≤ 2147483647) : (zI a ≤ zI b) ↔ a ≤ b := by rw [Int32.le_iff_toInt_le, zI_i h1 h2, zI_i h3 h4]
theorem zI_eq {a b : Int} (h1 : -2147483648 ≤ a) (h2 : a ≤ 2147483647) (h3 : -2147483648 ≤ b) (h4 : b ≤ 2147483647) : (zI a = zI b) ↔ a = b := by rw [← Int32.toInt_inj, zI_i h1 h2, zI_i h3 h4]
theorem zL_lt {a b : Int} (h1 : -9223372036854775808 ≤ a) (h2 : a ≤ 9223372036854775807) (h3 : -9223372036854775808 ≤ b) (h4 : b ≤ 9223372036854775807) : (zL a < zL b) ↔ a < b := by rw [Int64.lt_iff_toInt_lt, zL_i h1 h2, zL_i h3 h4]
theorem zL_le {a b : Int} (h1 : -9223372036854775808 ≤ a) (h2 : a ≤ 9223372036854775807) (h3 : -9223372036854775808 ≤ b) (h4 : b ≤ 9223372036854775807) : (zL a ≤ zL b) ↔ a ≤ b := by rw [Int64.le_iff_toInt_le, zL_i h1 h2, zL_i h3 h4]
theorem zL_eq {a b : Int} (h1 : -9223372036854775808 ≤ a) (h2 : a ≤ 9223372036854775807) (h3 : -9223372036854775808 ≤ b) (h4 : b ≤ 9223372036854775807) : (zL a = zL b) ↔ a = b := by rw [← Int64.toInt_inj, zL_i h1 h2, zL_i h3 h4]
theorem zI_td {a b : Int} (h1 : -2147483648 ≤ a) (h2 : a ≤ 2147483647) (h3 : -2147483648 ≤ b) (h4 : b ≤ 2147483647) : zI a / zI b = zI (a.tdiv b) := (Int32.ofInt_tdiv h1 h2 h3 h4).symm
theorem zL_td {a b : Int} (h1 : -9223372036854775808 ≤ a) (h2 : a ≤ 9223372036854775807) (h3 : -9223372036854775808 ≤ b) (h4 : b ≤ 9223372036854775807) : zL a / zL b = zL (a.tdiv b) := (Int64.ofInt_tdiv h1 h2 h3 h4).symm
theorem zI_div {a b : Int} (h1 : 0 ≤ a) (h2 : a ≤ 2147483647) (h3 : 0 ≤ b) (h4 : b ≤ 2147483647) : zI a / zI b = zI (a / b) := by
  rw [zI_td (by omega) h2 (by omega) h4, Int.tdiv_eq_ediv_of_nonneg h1]
theorem zL_div {a b : Int} (h1 : 0 ≤ a) (h2 : a ≤ 9223372036854775807) (h3 : 0 ≤ b) (h4 : b ≤ 9223372036854775807) : zL a / zL b = zL (a / b) := by
  rw [zL_td (by omega) h2 (by omega) h4, Int.tdiv_eq_ediv_of_nonneg h1]
theorem zI_rm {a b : Int} (h1 : 0 ≤ a) (h2 : a ≤ 2147483647) (h3 : 0 ≤ b) (h4 : b ≤ 2147483647) : irm (zI a) (zI b) = zI (a % b) := by
  unfold irm
  rw [zI_div h1 h2 h3 h4, zI_mul, zI_sub, Int.emod_def, Int.mul_comm]
theorem zL_rm {a b : Int} (h1 : 0 ≤ a) (h2 : a ≤ 9223372036854775807) (h3 : 0 ≤ b) (h4 : b ≤ 9223372036854775807) : lrm (zL a) (zL b) = zL (a % b) := by
  unfold lrm
  rw [zL_div h1 h2 h3 h4, zL_mul, zL_sub, Int.emod_def, Int.mul_comm]
theorem zI_cl {a : Int} (h1 : -2147483648 ≤ a) (h2 : a ≤ 2147483647) : (zI a).toNatClampNeg = a.toNat := Int32.toNatClampNeg_ofInt_of_le (by omega) (by omega)
theorem zI_in {a : Int} {n : Nat} (h1 : 0 ≤ a) (h2 : a < n) (h3 : a ≤ 2147483647) : inB (zI a) n = true := by
  unfold inB
  rw [zI_i (by omega) (by omega)]
  simp [h1, h2]
theorem zI_l {a : Int} (h1 : -2147483648 ≤ a) (h2 : a ≤ 2147483647) : (zI a).toInt64 = zL a := Int32.toInt64_ofInt h1 h2
theorem zL_n (a : Int) : (zL a).toInt32 = zI a := Int64.toInt32_ofInt
theorem nI_z (k : Nat) : nI k = zI k := Int32.ofInt_eq_ofNat.symm
theorem zI_of (x : Int32) : x = zI x.toInt := (Int32.ofInt_toInt x).symm
theorem zL_of (x : Int64) : x = zL x.toInt := (Int64.ofInt_toInt x).symm
theorem zI_ii {a : Int} : zI (zI a).toInt = zI a := (zI_of _).symm
theorem inR_z {y lo hi : Int32} (a b : Int) (ha : lo.toInt = a) (hb : hi.toInt = b) (h : inR y lo hi = true) : ∃ k : Int, a ≤ k ∧ k ≤ b ∧ y = zI k := by
  obtain ⟨h1, h2⟩ := (inR_iff y lo hi).mp h
  exact ⟨y.toInt, by omega, by omega, zI_of y⟩
theorem zmx (a b : Int32) : imx a b = if a < b then b else a := rfl
theorem zl_72 : (72 : Int32) = zI 72 := by decide +kernel
theorem zl_234 : (234 : Int32) = zI 234 := by decide +kernel
theorem zl_0 : (0 : Int32) = zI 0 := by decide +kernel
theorem zl_1 : (1 : Int32) = zI 1 := by decide +kernel
theorem zl_2 : (2 : Int32) = zI 2 := by decide +kernel
theorem zl_3 : (3 : Int32) = zI 3 := by decide +kernel
theorem zl_4 : (4 : Int32) = zI 4 := by decide +kernel
theorem zl_5 : (5 : Int32) = zI 5 := by decide +kernel
theorem zl_6 : (6 : Int32) = zI 6 := by decide +kernel
theorem zl_7 : (7 : Int32) = zI 7 := by decide +kernel
theorem zl_8 : (8 : Int32) = zI 8 := by decide +kernel
theorem zl_9 : (9 : Int32) = zI 9 := by decide +kernel
theorem zl_10 : (10 : Int32) = zI 10 := by decide +kernel
theorem zl_11 : (11 : Int32) = zI 11 := by decide +kernel
theorem zl_12 : (12 : Int32) = zI 12 := by decide +kernel
theorem zl_13 : (13 : Int32) = zI 13 := by decide +kernel
theorem zl_14 : (14 : Int32) = zI 14 := by decide +kernel
theorem zl_15 : (15 : Int32) = zI 15 := by decide +kernel
theorem zl_16 : (16 : Int32) = zI 16 := by decide +kernel
theorem zl_17 : (17 : Int32) = zI 17 := by decide +kernel
theorem zl_18 : (18 : Int32) = zI 18 := by decide +kernel
theorem zl_19 : (19 : Int32) = zI 19 := by decide +kernel
theorem zl_20 : (20 : Int32) = zI 20 := by decide +kernel
theorem zl_21 : (21 : Int32) = zI 21 := by decide +kernel
theorem zl_22 : (22 : Int32) = zI 22 := by decide +kernel
theorem zl_23 : (23 : Int32) = zI 23 := by decide +kernel
theorem zl_24 : (24 : Int32) = zI 24 := by decide +kernel
theorem zl_25 : (25 : Int32) = zI 25 := by decide +kernel
theorem zl_26 : (26 : Int32) = zI 26 := by decide +kernel
theorem zl_27 : (27 : Int32) = zI 27 := by decide +kernel
theorem zl_28 : (28 : Int32) = zI 28 := by decide +kernel
theorem zl_29 : (29 : Int32) = zI 29 := by decide +kernel
theorem zl_30 : (30 : Int32) = zI 30 := by decide +kernel
theorem zl_31 : (31 : Int32) = zI 31 := by decide +kernel
theorem zl_32 : (32 : Int32) = zI 32 := by decide +kernel
theorem zl_33 : (33 : Int32) = zI 33 := by decide +kernel
theorem zl_34 : (34 : Int32) = zI 34 := by decide +kernel
theorem zl_35 : (35 : Int32) = zI 35 := by decide +kernel
theorem zl_36 : (36 : Int32) = zI 36 := by decide +kernel
theorem zl_37 : (37 : Int32) = zI 37 := by decide +kernel
theorem zl_38 : (38 : Int32) = zI 38 := by decide +kernel
theorem zl_39 : (39 : Int32) = zI 39 := by decide +kernel
theorem zl_40 : (40 : Int32) = zI 40 := by decide +kernel
theorem zl_41 : (41 : Int32) = zI 41 := by decide +kernel
theorem zl_42 : (42 : Int32) = zI 42 := by decide +kernel
theorem zl_43 : (43 : Int32) = zI 43 := by decide +kernel
theorem zl_44 : (44 : Int32) = zI 44 := by decide +kernel
theorem zl_45 : (45 : Int32) = zI 45 := by decide +kernel
theorem zl_46 : (46 : Int32) = zI 46 := by decide +kernel
theorem zl_47 : (47 : Int32) = zI 47 := by decide +kernel
theorem zl_48 : (48 : Int32) = zI 48 := by decide +kernel
theorem zl_49 : (49 : Int32) = zI 49 := by decide +kernel
theorem zl_50 : (50 : Int32) = zI 50 := by decide +kernel
theorem zl_51 : (51 : Int32) = zI 51 := by decide +kernel
theorem zl_52 : (52 : Int32) = zI 52 := by decide +kernel
theorem zl_53 : (53 : Int32) = zI 53 := by decide +kernel
theorem zl_54 : (54 : Int32) = zI 54 := by decide +kernel
theorem zl_55 : (55 : Int32) = zI 55 := by decide +kernel
theorem zl_56 : (56 : Int32) = zI 56 := by decide +kernel
theorem zl_57 : (57 : Int32) = zI 57 := by decide +kernel
theorem zl_58 : (58 : Int32) = zI 58 := by decide +kernel
theorem zl_59 : (59 : Int32) = zI 59 := by decide +kernel
theorem zl_60 : (60 : Int32) = zI 60 := by decide +kernel
theorem zl_97 : (97 : Int32) = zI 97 := by decide +kernel
theorem zl_100 : (100 : Int32) = zI 100 := by decide +kernel
theorem zl_117 : (117 : Int32) = zI 117 := by decide +kernel
theorem zl_120 : (120 : Int32) = zI 120 := by decide +kernel
theorem zl_122 : (122 : Int32) = zI 122 := by decide +kernel
theorem zl_210 : (210 : Int32) = zI 210 := by decide +kernel
theorem zl_255 : (255 : Int32) = zI 255 := by decide +kernel
theorem zl_1000 : (1000 : Int32) = zI 1000 := by decide +kernel
theorem zl_1890 : (1890 : Int32) = zI 1890 := by decide +kernel
theorem zl_999999 : (999999 : Int32) = zI 999999 := by decide +kernel
theorem zm_0 : (0 : Int64) = zL 0 := by decide +kernel
theorem zm_1 : (1 : Int64) = zL 1 := by decide +kernel
theorem zm_2 : (2 : Int64) = zL 2 := by decide +kernel
theorem zm_3 : (3 : Int64) = zL 3 := by decide +kernel
theorem zm_4 : (4 : Int64) = zL 4 := by decide +kernel
theorem zm_5 : (5 : Int64) = zL 5 := by decide +kernel
theorem zm_6 : (6 : Int64) = zL 6 := by decide +kernel
theorem zm_7 : (7 : Int64) = zL 7 := by decide +kernel
theorem zm_8 : (8 : Int64) = zL 8 := by decide +kernel
theorem zm_9 : (9 : Int64) = zL 9 := by decide +kernel
theorem zm_10 : (10 : Int64) = zL 10 := by decide +kernel
theorem zm_11 : (11 : Int64) = zL 11 := by decide +kernel
theorem zm_12 : (12 : Int64) = zL 12 := by decide +kernel
theorem zm_13 : (13 : Int64) = zL 13 := by decide +kernel
theorem zm_14 : (14 : Int64) = zL 14 := by decide +kernel
theorem zm_15 : (15 : Int64) = zL 15 := by decide +kernel
theorem zm_16 : (16 : Int64) = zL 16 := by decide +kernel
theorem zm_17 : (17 : Int64) = zL 17 := by decide +kernel
theorem zm_18 : (18 : Int64) = zL 18 := by decide +kernel
theorem zm_19 : (19 : Int64) = zL 19 := by decide +kernel
theorem zm_20 : (20 : Int64) = zL 20 := by decide +kernel
theorem zm_30 : (30 : Int64) = zL 30 := by decide +kernel
theorem zm_31 : (31 : Int64) = zL 31 := by decide +kernel
theorem zm_40 : (40 : Int64) = zL 40 := by decide +kernel
theorem zm_48 : (48 : Int64) = zL 48 := by decide +kernel
theorem zm_57 : (57 : Int64) = zL 57 := by decide +kernel
theorem zm_60 : (60 : Int64) = zL 60 := by decide +kernel
theorem zm_97 : (97 : Int64) = zL 97 := by decide +kernel
theorem zm_100 : (100 : Int64) = zL 100 := by decide +kernel
theorem zm_122 : (122 : Int64) = zL 122 := by decide +kernel
theorem zm_255 : (255 : Int64) = zL 255 := by decide +kernel
theorem zm_256 : (256 : Int64) = zL 256 := by decide +kernel
theorem zm_823 : (823 : Int64) = zL 823 := by decide +kernel
theorem zm_12345 : (12345 : Int64) = zL 12345 := by decide +kernel
theorem zm_65536 : (65536 : Int64) = zL 65536 := by decide +kernel
theorem zm_999999 : (999999 : Int64) = zL 999999 := by decide +kernel
theorem zm_7824756 : (7824756 : Int64) = zL 7824756 := by decide +kernel
theorem zm_1103515245 : (1103515245 : Int64) = zL 1103515245 := by decide +kernel
theorem zm_2147483648 : (2147483648 : Int64) = zL 2147483648 := by decide +kernel
theorem zm_495874698853 : (495874698853 : Int64) = zL 495874698853 := by decide +kernel
/-! what a change elsewhere leaves -/
theorem StnR.fr {k : Nat → Int32} {m w : Int32} {s s' : Nat → Int32} (h : StnR k m w s) (hs : ∀ j : Nat, j < 14 → s' j = s j) : StnR k m w s' := by
  obtain ⟨nm, nw, h1, h2, h3, h4, h5, h6, h7⟩ := h
  refine ⟨nm, nw, h1, h2, h3, h4, ?_, ?_, fun j hj => ?_⟩
  · rw [hs 0 (by omega)]; exact h5
  · rw [hs 1 (by omega)]; exact h6
  · rw [hs (6 + j) (by omega)]; exact h7 j hj
theorem StnR.fr' {k : Nat → Int32} {m w : Int32} {s s' : Nat → Int32} (h : StnR k m w s) (hs : ∀ j : Nat, j < 14 → (j < 2 ∨ 6 ≤ j) → s' j = s j) : StnR k m w s' := by
  obtain ⟨nm, nw, h1, h2, h3, h4, h5, h6, h7⟩ := h
  refine ⟨nm, nw, h1, h2, h3, h4, ?_, ?_, fun j hj => ?_⟩
  · rw [hs 0 (by omega) (by omega)]; exact h5
  · rw [hs 1 (by omega) (by omega)]; exact h6
  · rw [hs (6 + j) (by omega) (by omega)]; exact h7 j hj
theorem mEnt_fr {u : Nat} {s s' : Nat → Int32} (hu : u ≤ 10) (hs : ∀ j : Nat, 2 ≤ j → j < 44 → (j < 6 ∨ 14 ≤ j) → s' j = s j) {j f : Nat} (hj : j ≤ u) (hf : f < 3) : mEnt u s' j f = mEnt u s j f := by
  unfold mEnt
  split
  · exact hs _ (by omega) (by omega) (by omega)
  · exact hs _ (by omega) (by omega) (by omega)
theorem GamR.fr {t g : Nat → Int32} {p u : Int32} {s s' : Nat → Int32} (h : GamR t g p u s) (hs : ∀ j : Nat, 2 ≤ j → j < 44 → (j < 6 ∨ 14 ≤ j) → s' j = s j) : GamR t g p u s' := by
  obtain ⟨n, q, h1, h2, h3, h4, h5, h6, h7, h8, h9⟩ := h
  refine ⟨n, q, h1, h2, h3, h4, ?_, ?_, ?_, ?_, fun j hj => ?_⟩
  · rw [hs 5 (by omega) (by omega) (by omega)]; exact h5
  · rw [hs 4 (by omega) (by omega) (by omega)]; exact h6
  · rw [hs 2 (by omega) (by omega) (by omega)]; exact h7
  · rw [hs 3 (by omega) (by omega) (by omega)]; exact h8
  · obtain ⟨r, a1, a2, a3, a4, a5⟩ := h9 j hj
    refine ⟨r, a1, ?_, ?_, ?_, ?_⟩
    · rw [mEnt_fr h1 hs (by omega) (by omega)]; exact a2
    · rw [mEnt_fr h1 hs (by omega) (by omega)]; exact a3
    · rw [mEnt_fr h1 hs (by omega) (by omega), mEnt_fr h1 hs (by omega) (by omega)]; exact a4
    · rw [mEnt_fr h1 hs (by omega) (by omega), mEnt_fr h1 hs (by omega) (by omega)]; exact a5
theorem BokR.fr {c : Nat → Int32} {m : Int32} {s s' : Nat → Int32} (h : BokR c m s) (hs : ∀ j : Nat, 44 ≤ j → j < 117 → s' j = s j) : BokR c m s' := by
  obtain ⟨n, h1, h2, h3, h4⟩ := h
  refine ⟨n, h1, h2, ?_, fun r hr => ?_⟩
  · rw [hs 44 (by omega) (by omega)]; exact h3
  · obtain ⟨a1, a2⟩ := h4 r hr
    refine ⟨fun c hc => ?_, a2⟩
    rw [hs _ (by omega) (by omega)]; exact a1 c hc
