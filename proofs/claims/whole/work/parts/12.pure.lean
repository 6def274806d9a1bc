theorem mb0_s {β : Type} (k : Option β) : mb0 (some ()) k = k := rfl
theorem mb1_s {α1 β : Type} (a1 : α1) (k : α1 → Option β) : mb1 (some (a1)) k = k a1 := rfl
theorem mb2_s {α1 α2 β : Type} (a1 : α1) (a2 : α2) (k : α1 → α2 → Option β) : mb2 (some (a1, a2)) k = k a1 a2 := rfl
theorem mb3_s {α1 α2 α3 β : Type} (a1 : α1) (a2 : α2) (a3 : α3) (k : α1 → α2 → α3 → Option β) : mb3 (some (a1, a2, a3)) k = k a1 a2 a3 := rfl
theorem mb4_s {α1 α2 α3 α4 β : Type} (a1 : α1) (a2 : α2) (a3 : α3) (a4 : α4) (k : α1 → α2 → α3 → α4 → Option β) : mb4 (some (a1, a2, a3, a4)) k = k a1 a2 a3 a4 := rfl
theorem mb5_s {α1 α2 α3 α4 α5 β : Type} (a1 : α1) (a2 : α2) (a3 : α3) (a4 : α4) (a5 : α5) (k : α1 → α2 → α3 → α4 → α5 → Option β) : mb5 (some (a1, a2, a3, a4, a5)) k = k a1 a2 a3 a4 a5 := rfl
theorem mb6_s {α1 α2 α3 α4 α5 α6 β : Type} (a1 : α1) (a2 : α2) (a3 : α3) (a4 : α4) (a5 : α5) (a6 : α6) (k : α1 → α2 → α3 → α4 → α5 → α6 → Option β) : mb6 (some (a1, a2, a3, a4, a5, a6)) k = k a1 a2 a3 a4 a5 a6 := rfl
theorem mb7_s {α1 α2 α3 α4 α5 α6 α7 β : Type} (a1 : α1) (a2 : α2) (a3 : α3) (a4 : α4) (a5 : α5) (a6 : α6) (a7 : α7) (k : α1 → α2 → α3 → α4 → α5 → α6 → α7 → Option β) : mb7 (some (a1, a2, a3, a4, a5, a6, a7)) k = k a1 a2 a3 a4 a5 a6 a7 := rfl
theorem mb8_s {α1 α2 α3 α4 α5 α6 α7 α8 β : Type} (a1 : α1) (a2 : α2) (a3 : α3) (a4 : α4) (a5 : α5) (a6 : α6) (a7 : α7) (a8 : α8) (k : α1 → α2 → α3 → α4 → α5 → α6 → α7 → α8 → Option β) : mb8 (some (a1, a2, a3, a4, a5, a6, a7, a8)) k = k a1 a2 a3 a4 a5 a6 a7 a8 := rfl
theorem mb9_s {α1 α2 α3 α4 α5 α6 α7 α8 α9 β : Type} (a1 : α1) (a2 : α2) (a3 : α3) (a4 : α4) (a5 : α5) (a6 : α6) (a7 : α7) (a8 : α8) (a9 : α9) (k : α1 → α2 → α3 → α4 → α5 → α6 → α7 → α8 → α9 → Option β) : mb9 (some (a1, a2, a3, a4, a5, a6, a7, a8, a9)) k = k a1 a2 a3 a4 a5 a6 a7 a8 a9 := rfl
theorem mb10_s {α1 α2 α3 α4 α5 α6 α7 α8 α9 α10 β : Type} (a1 : α1) (a2 : α2) (a3 : α3) (a4 : α4) (a5 : α5) (a6 : α6) (a7 : α7) (a8 : α8) (a9 : α9) (a10 : α10) (k : α1 → α2 → α3 → α4 → α5 → α6 → α7 → α8 → α9 → α10 → Option β) : mb10 (some (a1, a2, a3, a4, a5, a6, a7, a8, a9, a10)) k = k a1 a2 a3 a4 a5 a6 a7 a8 a9 a10 := rfl
theorem mb11_s {α1 α2 α3 α4 α5 α6 α7 α8 α9 α10 α11 β : Type} (a1 : α1) (a2 : α2) (a3 : α3) (a4 : α4) (a5 : α5) (a6 : α6) (a7 : α7) (a8 : α8) (a9 : α9) (a10 : α10) (a11 : α11) (k : α1 → α2 → α3 → α4 → α5 → α6 → α7 → α8 → α9 → α10 → α11 → Option β) : mb11 (some (a1, a2, a3, a4, a5, a6, a7, a8, a9, a10, a11)) k = k a1 a2 a3 a4 a5 a6 a7 a8 a9 a10 a11 := rfl
theorem mb12_s {α1 α2 α3 α4 α5 α6 α7 α8 α9 α10 α11 α12 β : Type} (a1 : α1) (a2 : α2) (a3 : α3) (a4 : α4) (a5 : α5) (a6 : α6) (a7 : α7) (a8 : α8) (a9 : α9) (a10 : α10) (a11 : α11) (a12 : α12) (k : α1 → α2 → α3 → α4 → α5 → α6 → α7 → α8 → α9 → α10 → α11 → α12 → Option β) : mb12 (some (a1, a2, a3, a4, a5, a6, a7, a8, a9, a10, a11, a12)) k = k a1 a2 a3 a4 a5 a6 a7 a8 a9 a10 a11 a12 := rfl
theorem mb13_s {α1 α2 α3 α4 α5 α6 α7 α8 α9 α10 α11 α12 α13 β : Type} (a1 : α1) (a2 : α2) (a3 : α3) (a4 : α4) (a5 : α5) (a6 : α6) (a7 : α7) (a8 : α8) (a9 : α9) (a10 : α10) (a11 : α11) (a12 : α12) (a13 : α13) (k : α1 → α2 → α3 → α4 → α5 → α6 → α7 → α8 → α9 → α10 → α11 → α12 → α13 → Option β) : mb13 (some (a1, a2, a3, a4, a5, a6, a7, a8, a9, a10, a11, a12, a13)) k = k a1 a2 a3 a4 a5 a6 a7 a8 a9 a10 a11 a12 a13 := rfl
theorem mb14_s {α1 α2 α3 α4 α5 α6 α7 α8 α9 α10 α11 α12 α13 α14 β : Type} (a1 : α1) (a2 : α2) (a3 : α3) (a4 : α4) (a5 : α5) (a6 : α6) (a7 : α7) (a8 : α8) (a9 : α9) (a10 : α10) (a11 : α11) (a12 : α12) (a13 : α13) (a14 : α14) (k : α1 → α2 → α3 → α4 → α5 → α6 → α7 → α8 → α9 → α10 → α11 → α12 → α13 → α14 → Option β) : mb14 (some (a1, a2, a3, a4, a5, a6, a7, a8, a9, a10, a11, a12, a13, a14)) k = k a1 a2 a3 a4 a5 a6 a7 a8 a9 a10 a11 a12 a13 a14 := rfl
theorem mb15_s {α1 α2 α3 α4 α5 α6 α7 α8 α9 α10 α11 α12 α13 α14 α15 β : Type} (a1 : α1) (a2 : α2) (a3 : α3) (a4 : α4) (a5 : α5) (a6 : α6) (a7 : α7) (a8 : α8) (a9 : α9) (a10 : α10) (a11 : α11) (a12 : α12) (a13 : α13) (a14 : α14) (a15 : α15) (k : α1 → α2 → α3 → α4 → α5 → α6 → α7 → α8 → α9 → α10 → α11 → α12 → α13 → α14 → α15 → Option β) : mb15 (some (a1, a2, a3, a4, a5, a6, a7, a8, a9, a10, a11, a12, a13, a14, a15)) k = k a1 a2 a3 a4 a5 a6 a7 a8 a9 a10 a11 a12 a13 a14 a15 := rfl
theorem mb16_s {α1 α2 α3 α4 α5 α6 α7 α8 α9 α10 α11 α12 α13 α14 α15 α16 β : Type} (a1 : α1) (a2 : α2) (a3 : α3) (a4 : α4) (a5 : α5) (a6 : α6) (a7 : α7) (a8 : α8) (a9 : α9) (a10 : α10) (a11 : α11) (a12 : α12) (a13 : α13) (a14 : α14) (a15 : α15) (a16 : α16) (k : α1 → α2 → α3 → α4 → α5 → α6 → α7 → α8 → α9 → α10 → α11 → α12 → α13 → α14 → α15 → α16 → Option β) : mb16 (some (a1, a2, a3, a4, a5, a6, a7, a8, a9, a10, a11, a12, a13, a14, a15, a16)) k = k a1 a2 a3 a4 a5 a6 a7 a8 a9 a10 a11 a12 a13 a14 a15 a16 := rfl
theorem mb17_s {α1 α2 α3 α4 α5 α6 α7 α8 α9 α10 α11 α12 α13 α14 α15 α16 α17 β : Type} (a1 : α1) (a2 : α2) (a3 : α3) (a4 : α4) (a5 : α5) (a6 : α6) (a7 : α7) (a8 : α8) (a9 : α9) (a10 : α10) (a11 : α11) (a12 : α12) (a13 : α13) (a14 : α14) (a15 : α15) (a16 : α16) (a17 : α17) (k : α1 → α2 → α3 → α4 → α5 → α6 → α7 → α8 → α9 → α10 → α11 → α12 → α13 → α14 → α15 → α16 → α17 → Option β) : mb17 (some (a1, a2, a3, a4, a5, a6, a7, a8, a9, a10, a11, a12, a13, a14, a15, a16, a17)) k = k a1 a2 a3 a4 a5 a6 a7 a8 a9 a10 a11 a12 a13 a14 a15 a16 a17 := rfl
theorem mb18_s {α1 α2 α3 α4 α5 α6 α7 α8 α9 α10 α11 α12 α13 α14 α15 α16 α17 α18 β : Type} (a1 : α1) (a2 : α2) (a3 : α3) (a4 : α4) (a5 : α5) (a6 : α6) (a7 : α7) (a8 : α8) (a9 : α9) (a10 : α10) (a11 : α11) (a12 : α12) (a13 : α13) (a14 : α14) (a15 : α15) (a16 : α16) (a17 : α17) (a18 : α18) (k : α1 → α2 → α3 → α4 → α5 → α6 → α7 → α8 → α9 → α10 → α11 → α12 → α13 → α14 → α15 → α16 → α17 → α18 → Option β) : mb18 (some (a1, a2, a3, a4, a5, a6, a7, a8, a9, a10, a11, a12, a13, a14, a15, a16, a17, a18)) k = k a1 a2 a3 a4 a5 a6 a7 a8 a9 a10 a11 a12 a13 a14 a15 a16 a17 a18 := rfl
theorem mb19_s {α1 α2 α3 α4 α5 α6 α7 α8 α9 α10 α11 α12 α13 α14 α15 α16 α17 α18 α19 β : Type} (a1 : α1) (a2 : α2) (a3 : α3) (a4 : α4) (a5 : α5) (a6 : α6) (a7 : α7) (a8 : α8) (a9 : α9) (a10 : α10) (a11 : α11) (a12 : α12) (a13 : α13) (a14 : α14) (a15 : α15) (a16 : α16) (a17 : α17) (a18 : α18) (a19 : α19) (k : α1 → α2 → α3 → α4 → α5 → α6 → α7 → α8 → α9 → α10 → α11 → α12 → α13 → α14 → α15 → α16 → α17 → α18 → α19 → Option β) : mb19 (some (a1, a2, a3, a4, a5, a6, a7, a8, a9, a10, a11, a12, a13, a14, a15, a16, a17, a18, a19)) k = k a1 a2 a3 a4 a5 a6 a7 a8 a9 a10 a11 a12 a13 a14 a15 a16 a17 a18 a19 := rfl
theorem mb20_s {α1 α2 α3 α4 α5 α6 α7 α8 α9 α10 α11 α12 α13 α14 α15 α16 α17 α18 α19 α20 β : Type} (a1 : α1) (a2 : α2) (a3 : α3) (a4 : α4) (a5 : α5) (a6 : α6) (a7 : α7) (a8 : α8) (a9 : α9) (a10 : α10) (a11 : α11) (a12 : α12) (a13 : α13) (a14 : α14) (a15 : α15) (a16 : α16) (a17 : α17) (a18 : α18) (a19 : α19) (a20 : α20) (k : α1 → α2 → α3 → α4 → α5 → α6 → α7 → α8 → α9 → α10 → α11 → α12 → α13 → α14 → α15 → α16 → α17 → α18 → α19 → α20 → Option β) : mb20 (some (a1, a2, a3, a4, a5, a6, a7, a8, a9, a10, a11, a12, a13, a14, a15, a16, a17, a18, a19, a20)) k = k a1 a2 a3 a4 a5 a6 a7 a8 a9 a10 a11 a12 a13 a14 a15 a16 a17 a18 a19 a20 := rfl
theorem mb21_s {α1 α2 α3 α4 α5 α6 α7 α8 α9 α10 α11 α12 α13 α14 α15 α16 α17 α18 α19 α20 α21 β : Type} (a1 : α1) (a2 : α2) (a3 : α3) (a4 : α4) (a5 : α5) (a6 : α6) (a7 : α7) (a8 : α8) (a9 : α9) (a10 : α10) (a11 : α11) (a12 : α12) (a13 : α13) (a14 : α14) (a15 : α15) (a16 : α16) (a17 : α17) (a18 : α18) (a19 : α19) (a20 : α20) (a21 : α21) (k : α1 → α2 → α3 → α4 → α5 → α6 → α7 → α8 → α9 → α10 → α11 → α12 → α13 → α14 → α15 → α16 → α17 → α18 → α19 → α20 → α21 → Option β) : mb21 (some (a1, a2, a3, a4, a5, a6, a7, a8, a9, a10, a11, a12, a13, a14, a15, a16, a17, a18, a19, a20, a21)) k = k a1 a2 a3 a4 a5 a6 a7 a8 a9 a10 a11 a12 a13 a14 a15 a16 a17 a18 a19 a20 a21 := rfl
theorem mb22_s {α1 α2 α3 α4 α5 α6 α7 α8 α9 α10 α11 α12 α13 α14 α15 α16 α17 α18 α19 α20 α21 α22 β : Type} (a1 : α1) (a2 : α2) (a3 : α3) (a4 : α4) (a5 : α5) (a6 : α6) (a7 : α7) (a8 : α8) (a9 : α9) (a10 : α10) (a11 : α11) (a12 : α12) (a13 : α13) (a14 : α14) (a15 : α15) (a16 : α16) (a17 : α17) (a18 : α18) (a19 : α19) (a20 : α20) (a21 : α21) (a22 : α22) (k : α1 → α2 → α3 → α4 → α5 → α6 → α7 → α8 → α9 → α10 → α11 → α12 → α13 → α14 → α15 → α16 → α17 → α18 → α19 → α20 → α21 → α22 → Option β) : mb22 (some (a1, a2, a3, a4, a5, a6, a7, a8, a9, a10, a11, a12, a13, a14, a15, a16, a17, a18, a19, a20, a21, a22)) k = k a1 a2 a3 a4 a5 a6 a7 a8 a9 a10 a11 a12 a13 a14 a15 a16 a17 a18 a19 a20 a21 a22 := rfl
theorem mb23_s {α1 α2 α3 α4 α5 α6 α7 α8 α9 α10 α11 α12 α13 α14 α15 α16 α17 α18 α19 α20 α21 α22 α23 β : Type} (a1 : α1) (a2 : α2) (a3 : α3) (a4 : α4) (a5 : α5) (a6 : α6) (a7 : α7) (a8 : α8) (a9 : α9) (a10 : α10) (a11 : α11) (a12 : α12) (a13 : α13) (a14 : α14) (a15 : α15) (a16 : α16) (a17 : α17) (a18 : α18) (a19 : α19) (a20 : α20) (a21 : α21) (a22 : α22) (a23 : α23) (k : α1 → α2 → α3 → α4 → α5 → α6 → α7 → α8 → α9 → α10 → α11 → α12 → α13 → α14 → α15 → α16 → α17 → α18 → α19 → α20 → α21 → α22 → α23 → Option β) : mb23 (some (a1, a2, a3, a4, a5, a6, a7, a8, a9, a10, a11, a12, a13, a14, a15, a16, a17, a18, a19, a20, a21, a22, a23)) k = k a1 a2 a3 a4 a5 a6 a7 a8 a9 a10 a11 a12 a13 a14 a15 a16 a17 a18 a19 a20 a21 a22 a23 := rfl
theorem mb24_s {α1 α2 α3 α4 α5 α6 α7 α8 α9 α10 α11 α12 α13 α14 α15 α16 α17 α18 α19 α20 α21 α22 α23 α24 β : Type} (a1 : α1) (a2 : α2) (a3 : α3) (a4 : α4) (a5 : α5) (a6 : α6) (a7 : α7) (a8 : α8) (a9 : α9) (a10 : α10) (a11 : α11) (a12 : α12) (a13 : α13) (a14 : α14) (a15 : α15) (a16 : α16) (a17 : α17) (a18 : α18) (a19 : α19) (a20 : α20) (a21 : α21) (a22 : α22) (a23 : α23) (a24 : α24) (k : α1 → α2 → α3 → α4 → α5 → α6 → α7 → α8 → α9 → α10 → α11 → α12 → α13 → α14 → α15 → α16 → α17 → α18 → α19 → α20 → α21 → α22 → α23 → α24 → Option β) : mb24 (some (a1, a2, a3, a4, a5, a6, a7, a8, a9, a10, a11, a12, a13, a14, a15, a16, a17, a18, a19, a20, a21, a22, a23, a24)) k = k a1 a2 a3 a4 a5 a6 a7 a8 a9 a10 a11 a12 a13 a14 a15 a16 a17 a18 a19 a20 a21 a22 a23 a24 := rfl
theorem mg_tt {α : Type} (x : Option α) : mg true x = x := rfl
theorem ib_0_2 : inB (0 : Int32) 2 = true := by decide
theorem ib_0_3 : inB (0 : Int32) 3 = true := by decide
theorem ib_0_4 : inB (0 : Int32) 4 = true := by decide
theorem ib_0_44 : inB (0 : Int32) 44 = true := by decide
theorem ib_0_117 : inB (0 : Int32) 117 = true := by decide
theorem ib_1_2 : inB (1 : Int32) 2 = true := by decide
theorem ib_1_3 : inB (1 : Int32) 3 = true := by decide
theorem ib_1_4 : inB (1 : Int32) 4 = true := by decide
theorem ib_1_117 : inB (1 : Int32) 117 = true := by decide
theorem ib_2_3 : inB (2 : Int32) 3 = true := by decide
theorem ib_2_4 : inB (2 : Int32) 4 = true := by decide
theorem ib_2_117 : inB (2 : Int32) 117 = true := by decide
theorem ib_3_4 : inB (3 : Int32) 4 = true := by decide
theorem ib_3_117 : inB (3 : Int32) 117 = true := by decide
theorem ib_4_117 : inB (4 : Int32) 117 = true := by decide
theorem ib_5_117 : inB (5 : Int32) 117 = true := by decide
theorem ib_44_117 : inB (44 : Int32) 117 = true := by decide
theorem tn_0 : Int32.toNatClampNeg (0 : Int32) = 0 := by decide
theorem tn_1 : Int32.toNatClampNeg (1 : Int32) = 1 := by decide
theorem tn_2 : Int32.toNatClampNeg (2 : Int32) = 2 := by decide
theorem tn_3 : Int32.toNatClampNeg (3 : Int32) = 3 := by decide
theorem tn_4 : Int32.toNatClampNeg (4 : Int32) = 4 := by decide
theorem tn_5 : Int32.toNatClampNeg (5 : Int32) = 5 := by decide
theorem tn_8 : Int32.toNatClampNeg (8 : Int32) = 8 := by decide
theorem tn_10 : Int32.toNatClampNeg (10 : Int32) = 10 := by decide
theorem tn_44 : Int32.toNatClampNeg (44 : Int32) = 44 := by decide
theorem tn_72 : Int32.toNatClampNeg (72 : Int32) = 72 := by decide
theorem on_2 : Int32.ofNat 2 = (2 : Int32) := rfl
theorem on_8 : Int32.ofNat 8 = (8 : Int32) := rfl
theorem on_10 : Int32.ofNat 10 = (10 : Int32) := rfl
theorem on_72 : Int32.ofNat 72 = (72 : Int32) := rfl
theorem on_120 : Int32.ofNat 120 = (120 : Int32) := rfl
theorem cp_0 : cpB (0 : Int32) (0 : Int32) (Int32.ofNat 10) 10 10 = true := by decide
theorem cp_1 : cpB (0 : Int32) (0 : Int32) (Int32.ofNat 2) 2 2 = true := by decide
theorem cp_2 : cpB (0 : Int32) (0 : Int32) (Int32.ofNat 72) 72 72 = true := by decide
theorem cp_3 : cpB (0 : Int32) (0 : Int32) (Int32.ofNat 8) 8 8 = true := by decide
theorem cp_4 : cpB (1 : Int32) (0 : Int32) ((Int32.ofNat 10) - (1 : Int32)) 10 10 = true := by decide
/-! helpers about numbers and refusals -/
def bI (b : Bool) : Int32 := match b with | true => 1 | false => 0
theorem bI_f : bI false = 0 := rfl
theorem bI_t : bI true = 1 := rfl
theorem ifI_f {α : Type} (x y : α) : (if bI false = 0 then x else y) = x := rfl
theorem ifI_t {α : Type} (x y : α) : (if bI true = 0 then x else y) = y := rfl
theorem isB_bI (b : Bool) : isB (bI b) = true := by cases b <;> rfl
def inR (a lo hi : Int32) : Bool := decide (lo ≤ a) && decide (a ≤ hi)
theorem cw (a lo hi : Int32) : f_X10_within a lo hi = some (bI (inR a lo hi)) := by
  unfold f_X10_within inR
  by_cases h1 : a < lo
  · have : ¬ lo ≤ a := fun h => absurd h1 (Int32.not_lt.mpr h)
    simp [h1, this, bI]
  · have h1' := Int32.not_lt.mp h1
    by_cases h2 : hi < a
    · have : ¬ a ≤ hi := fun h => absurd h2 (Int32.not_lt.mpr h)
      simp [h1, h2, this, bI]
    · have h2' := Int32.not_lt.mp h2
      simp [h1, h2, h1', h2', bI]
theorem i64_lt (a b : Int32) : a.toInt64 < b.toInt64 ↔ a < b := by
  rw [Int64.lt_iff_toInt_lt, Int32.lt_iff_toInt_lt, Int32.toInt_toInt64, Int32.toInt_toInt64]
theorem mw (a lo hi : Int32) {lo' hi' : Int64} (h1 : lo' = lo.toInt64) (h2 : hi' = hi.toInt64) : f_X11_in a.toInt64 lo' hi' = some (bI (inR a lo hi)) := by
  subst h1; subst h2
  unfold f_X11_in inR
  simp only [i64_lt]
  by_cases h1 : a < lo
  · have : ¬ lo ≤ a := fun h => absurd h1 (Int32.not_lt.mpr h)
    simp [h1, this, bI]
  · have h1' := Int32.not_lt.mp h1
    by_cases h2 : hi < a
    · have : ¬ a ≤ hi := fun h => absurd h2 (Int32.not_lt.mpr h)
      simp [h1, h2, this, bI]
    · have h2' := Int32.not_lt.mp h2
      simp [h1, h2, h1', h2', bI]
theorem inR_iff (a lo hi : Int32) : inR a lo hi = true ↔ lo.toInt ≤ a.toInt ∧ a.toInt ≤ hi.toInt := by
  unfold inR
  rw [Bool.and_eq_true, decide_eq_true_eq, decide_eq_true_eq, Int32.le_iff_toInt_le, Int32.le_iff_toInt_le]
theorem nI_of_toInt {a : Int32} {k : Nat} (h : a.toInt = k) : a = nI k := by
  have hk : k < 2 ^ 31 := by
    have h2 := Int32.toInt_lt a
    have : (k : Int) < 2 ^ 31 := by rw [← h]; exact h2
    omega
  exact Int32.toInt_inj.mp (by rw [h, nI_toInt hk])
/-- a number between two natural ones is one -/
theorem inR_nI {a lo hi : Int32} (l n : Nat) (hl : lo.toInt = l) (hn : hi.toInt = n) (h : inR a lo hi = true) : ∃ k : Nat, l ≤ k ∧ k ≤ n ∧ a = nI k := by
  obtain ⟨h1, h2⟩ := (inR_iff a lo hi).mp h
  rw [hl] at h1
  rw [hn] at h2
  refine ⟨a.toInt.toNat, by omega, by omega, nI_of_toInt ?_⟩
  omega
theorem inR_of {k lo hi : Nat} (h1 : lo ≤ k) (h2 : k ≤ hi) (hh : hi < 2 ^ 31) : inR (nI k) (nI lo) (nI hi) = true := by
  rw [inR_iff, nI_toInt (by omega), nI_toInt (by omega), nI_toInt (by omega)]
  omega
theorem inB_nI {k n : Nat} (h : k < n) (hn : n < 2 ^ 31) : inB (nI k) n = true := by
  unfold inB
  rw [nI_toInt (by omega)]
  simp
  omega
theorem up_s (f : Nat → Int32) (k : Nat) (x : Int32) : upd f k x k = x := pk_us
theorem up_n {f : Nat → Int32} {k j : Nat} {x : Int32} (h : j ≠ k) : upd f k x j = f j := pk_un h
theorem RefR.bump {r r' : Nat → Int32} (h : RefR r r') (k : Nat) : RefR (upd r k (r k + 1)) (upd r' k (r' k + 1)) := by
  intro j hj
  by_cases hjk : j = k
  · subst hjk
    rw [up_s, up_s, h j hj]
  · rw [up_n hjk, up_n hjk, h j hj]
theorem bad10 (x : Int32) (r : Nat → Int32) : f_X10_bad x r = some (x, upd r 0 (r 0 + 1)) := rfl
theorem no10 (r : Nat → Int32) : f_X10_no r = some (-3, upd r 1 (r 1 + 1)) := rfl
theorem full10 (r : Nat → Int32) : f_X10_full r = some (-4, upd r 2 (r 2 + 1)) := rfl
theorem bad11 (r : Nat → Int32) : f_X11_bad r = some (-2, upd r 0 (r 0 + 1)) := rfl
theorem badAs11 (x : Int32) (r : Nat → Int32) : f_X11_badAs x r = some (x, upd r 0 (r 0 + 1)) := rfl
theorem no11 (r : Nat → Int32) : f_X11_no r = some (-3, upd r 1 (r 1 + 1)) := rfl
theorem full11 (r : Nat → Int32) : f_X11_full r = some (-4, upd r 2 (r 2 + 1)) := rfl
theorem clN {k : Nat} (h : k < 2 ^ 31) : (nI k).toNatClampNeg = k := nI_clamp h
