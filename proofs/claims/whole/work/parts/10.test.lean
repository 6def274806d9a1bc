/-! KerbBall$Stones.has -/
abbrev wd_X8_has (G : mG) (a_t a_t_kinds : Nat) (v_t_many : Int32) (v_t_wetness : Int32) : va_W := [(a_t, .inr (6, [.ref a_t_kinds, .int v_t_many, .int v_t_wetness]))]
def f_X8_has (x1 : Int32) (v_t_many : Int32) : Option ((Int32)) :=
  if x1 < 0 then (some ((0 : Int32))) else (if v_t_many ≤ x1 then (some ((0 : Int32))) else (some ((1 : Int32))))
theorem pk_X8_has : mPkV yX8_has cX8_has 2 ((some .boolean)) 1 := ⟨⟨mw_395, mw_44, ⟨by decide +kernel, by decide +kernel⟩, by decide +kernel, by decide⟩, mw_393, mw_394⟩
set_option maxHeartbeats 4000000 in
set_option maxRecDepth 100000 in
theorem k_X8_has (l : Launch) (G : mG) (a_t a_t_kinds : Nat) (v_t_many : Int32) (v_t_wetness : Int32) (x1 : Int32) (r : Int32) (hf : f_X8_has x1 v_t_many = some (r)) : mMet l yX8_has cX8_has 2 ((some .boolean)) 0 G [.ref a_t, .int x1] (wd_X8_has G a_t a_t_kinds v_t_many v_t_wetness) (wd_X8_has G a_t a_t_kinds v_t_many v_t_wetness) (some (.int r)) := by
  unfold f_X8_has at hf
  refine mMet.of (by decide +kernel) (Nat.le_of_ble_eq_true rfl) ?_
  intro p e s m below meth c ls hc hW hl
  generalize hAe : mIn (wd_X8_has G a_t a_t_kinds v_t_many v_t_wetness) = A at hc hW ⊢
  generalize hHe : s.heap = H at hW ⊢
  generalize hLe : ([] : List Loc) = locs at hW ⊢
  generalize hVe : ([.ref a_t, .int x1] : List Value).toArray = args at hc ⊢
  have hl : lv_has ls 2 [(0, .ref a_t), (1, .int x1)] := hl
  refine lv_iload_n hc.1 hc.2.1 dX8_has_0 rfl (lv_at hl 1 rfl) ?_
  refine m_if_lt (tgt := 16) hc hf dX8_has_1 (by decide) (fun _ hf => ?_) (fun _ hf => ?_)
  · refine lv_iconst (v := (0 : Int32)) hc.1 hc.2.1 dX8_has_16 (by decide) ?_
    cases hf
    exact m_zret hc hW rfl dX8_has_17
  · refine lv_iload_n hc.1 hc.2.1 dX8_has_4 rfl (lv_at hl 1 rfl) ?_
    refine lv_aload_n hc.1 hc.2.1 dX8_has_5 rfl (lv_at hl 0 rfl) ?_
    refine m_get hc inmX8 hW 0 rfl rfl 1 (Nat.le_of_ble_eq_true rfl) mw_83 rfl rfl dX8_has_6 ?_
    refine m_icmp_ge (tgt := 16) hc hf dX8_has_9 (by decide) (fun _ hf => ?_) (fun _ hf => ?_)
    · refine lv_iconst (v := (0 : Int32)) hc.1 hc.2.1 dX8_has_16 (by decide) ?_
      cases hf
      exact m_zret hc hW rfl dX8_has_17
    · refine lv_iconst (v := (1 : Int32)) hc.1 hc.2.1 dX8_has_12 (by decide) ?_
      refine lv_goto (tgt := 17) hc.1 hc.2.1 dX8_has_13 (by decide) ?_
      cases hf
      exact m_zret hc hW rfl dX8_has_17
/-! KerbBall$Stones.kindOf -/
abbrev wd_X8_kindOf (G : mG) (a_t a_t_kinds : Nat) (v_t_many : Int32) (v_t_wetness : Int32) (v_t_kinds : Nat → Int32) : va_W := [(a_t, .inr (6, [.ref a_t_kinds, .int v_t_many, .int v_t_wetness])), (a_t_kinds, .inl (G.2.1.1, 8, .inl v_t_kinds))]
def f_X8_kindOf (x1 : Int32) (v_t_many : Int32) (v_t_kinds : Nat → Int32) : Option ((Int32)) :=
  mb1 (f_X8_has x1 v_t_many) (fun r1 => if r1 = 0 then (some ((-1 : Int32))) else (if (Int32.ofNat 8) ≤ x1 then (some ((-1 : Int32))) else (mg (inB x1 8) (some ((v_t_kinds (Int32.toNatClampNeg x1)))))))
theorem pk_X8_kindOf : mPkV yX8_kindOf cX8_kindOf 2 ((some .int)) 1 := ⟨⟨mw_405, mw_44, ⟨by decide +kernel, by decide +kernel⟩, by decide +kernel, by decide⟩, mw_403, mw_404⟩
set_option maxHeartbeats 4000000 in
set_option maxRecDepth 100000 in
theorem k_X8_kindOf (l : Launch) (G : mG) (a_t a_t_kinds : Nat) (v_t_many : Int32) (v_t_wetness : Int32) (v_t_kinds : Nat → Int32) (x1 : Int32) (r : Int32) (hf : f_X8_kindOf x1 v_t_many v_t_kinds = some (r)) : mMet l yX8_kindOf cX8_kindOf 2 ((some .int)) 1 G [.ref a_t, .int x1] (wd_X8_kindOf G a_t a_t_kinds v_t_many v_t_wetness v_t_kinds) (wd_X8_kindOf G a_t a_t_kinds v_t_many v_t_wetness v_t_kinds) (some (.int r)) := by
  unfold f_X8_kindOf at hf
  refine mMet.of (by decide +kernel) (Nat.le_of_ble_eq_true rfl) ?_
  intro p e s m below meth c ls hc hW hl
  generalize hAe : mIn (wd_X8_kindOf G a_t a_t_kinds v_t_many v_t_wetness v_t_kinds) = A at hc hW ⊢
  generalize hHe : s.heap = H at hW ⊢
  generalize hLe : ([] : List Loc) = locs at hW ⊢
  generalize hVe : ([.ref a_t, .int x1] : List Value).toArray = args at hc ⊢
  have hl : lv_has ls 2 [(0, .ref a_t), (1, .int x1)] := hl
  refine lv_aload_n hc.1 hc.2.1 dX8_kindOf_0 rfl (lv_at hl 0 rfl) ?_
  refine lv_iload_n hc.1 hc.2.1 dX8_kindOf_1 rfl (lv_at hl 1 rfl) ?_
  obtain ⟨r1, hq2, hf⟩ := mb1_some hf
  refine m_callVi0 (As := [.int x1]) (rest := []) hc hW hl.1 (k_X8_has l G a_t a_t_kinds v_t_many v_t_wetness x1 r1 hq2) pk_X8_has mw_406 [0] rfl (by decide) rfl rfl rfl rfl rfl (Nat.le_of_ble_eq_true rfl) (Nat.le_of_ble_eq_true rfl) dX8_kindOf_2 (fun H locs hW => ?_)
  refine m_if_eq (tgt := 26) hc hf dX8_kindOf_5 (by decide) (fun _ hf => ?_) (fun _ hf => ?_)
  · refine lv_iconst (v := (-1 : Int32)) hc.1 hc.2.1 dX8_kindOf_26 (by decide) ?_
    cases hf
    exact m_iret hc hW dX8_kindOf_27
  · refine lv_iload_n hc.1 hc.2.1 dX8_kindOf_8 rfl (lv_at hl 1 rfl) ?_
    refine lv_aload_n hc.1 hc.2.1 dX8_kindOf_9 rfl (lv_at hl 0 rfl) ?_
    refine m_get hc inmX8 hW 0 rfl rfl 0 (Nat.le_of_ble_eq_true rfl) mw_81 rfl rfl dX8_kindOf_10 ?_
    refine m_alen (v := (Int32.ofNat 8)) hc hW 1 0 rfl rfl rfl dX8_kindOf_13 ?_
    refine m_icmp_ge (tgt := 26) hc hf dX8_kindOf_14 (by decide) (fun _ hf => ?_) (fun _ hf => ?_)
    · refine lv_iconst (v := (-1 : Int32)) hc.1 hc.2.1 dX8_kindOf_26 (by decide) ?_
      cases hf
      exact m_iret hc hW dX8_kindOf_27
    · refine lv_aload_n hc.1 hc.2.1 dX8_kindOf_17 rfl (lv_at hl 0 rfl) ?_
      refine m_get hc inmX8 hW 0 rfl rfl 0 (Nat.le_of_ble_eq_true rfl) mw_81 rfl rfl dX8_kindOf_18 ?_
      refine lv_iload_n hc.1 hc.2.1 dX8_kindOf_21 rfl (lv_at hl 1 rfl) ?_
      refine m_iald hc hW 1 rfl hf dX8_kindOf_22 (fun hf => ?_)
      refine lv_goto (tgt := 27) hc.1 hc.2.1 dX8_kindOf_23 (by decide) ?_
      cases hf
      exact m_iret hc hW dX8_kindOf_27
/-! KerbBall.within -/
abbrev wd_X10_within (G : mG) : va_W := []
def f_X10_within (x0 : Int32) (x1 : Int32) (x2 : Int32) : Option ((Int32)) :=
  if x0 < x1 then (some ((0 : Int32))) else (if x2 < x0 then (some ((0 : Int32))) else (some ((1 : Int32))))
theorem pk_X10_within : mPkS yX10_within cX10_within 3 ((some .boolean)) 3 := ⟨⟨mw_252, mw_42, ⟨by decide +kernel, by decide +kernel⟩, by decide +kernel, by decide⟩, mw_251⟩
set_option maxHeartbeats 4000000 in
set_option maxRecDepth 100000 in
theorem k_X10_within (l : Launch) (G : mG) (x0 : Int32) (x1 : Int32) (x2 : Int32) (r : Int32) (hf : f_X10_within x0 x1 x2 = some (r)) : mMet l yX10_within cX10_within 3 ((some .boolean)) 0 G [.int x0, .int x1, .int x2] (wd_X10_within G ) (wd_X10_within G ) (some (.int r)) := by
  unfold f_X10_within at hf
  refine mMet.of (by decide +kernel) (Nat.le_of_ble_eq_true rfl) ?_
  intro p e s m below meth c ls hc hW hl
  generalize hAe : mIn (wd_X10_within G ) = A at hc hW ⊢
  generalize hHe : s.heap = H at hW ⊢
  generalize hLe : ([] : List Loc) = locs at hW ⊢
  generalize hVe : ([.int x0, .int x1, .int x2] : List Value).toArray = args at hc ⊢
  have hl : lv_has ls 3 [(0, .int x0), (1, .int x1), (2, .int x2)] := hl
  refine lv_iload_n hc.1 hc.2.1 dX10_within_0 rfl (lv_at hl 0 rfl) ?_
  refine lv_iload_n hc.1 hc.2.1 dX10_within_1 rfl (lv_at hl 1 rfl) ?_
  refine m_icmp_lt (tgt := 14) hc hf dX10_within_2 (by decide) (fun _ hf => ?_) (fun _ hf => ?_)
  · refine lv_iconst (v := (0 : Int32)) hc.1 hc.2.1 dX10_within_14 (by decide) ?_
    cases hf
    exact m_zret hc hW rfl dX10_within_15
  · refine lv_iload_n hc.1 hc.2.1 dX10_within_5 rfl (lv_at hl 0 rfl) ?_
    refine lv_iload_n hc.1 hc.2.1 dX10_within_6 rfl (lv_at hl 2 rfl) ?_
    refine m_icmp_gt (tgt := 14) hc hf dX10_within_7 (by decide) (fun _ hf => ?_) (fun _ hf => ?_)
    · refine lv_iconst (v := (0 : Int32)) hc.1 hc.2.1 dX10_within_14 (by decide) ?_
      cases hf
      exact m_zret hc hW rfl dX10_within_15
    · refine lv_iconst (v := (1 : Int32)) hc.1 hc.2.1 dX10_within_10 (by decide) ?_
      refine lv_goto (tgt := 15) hc.1 hc.2.1 dX10_within_11 (by decide) ?_
      cases hf
      exact m_zret hc hW rfl dX10_within_15
/-! KerbBall$BestThrows.placeOf -/
abbrev wd_X0_placeOf (G : mG) : va_W := []
def f_X0_placeOf (x0 : Int32) (x1 : Int32) : Option ((Int32)) :=
  mb1 (f_X10_within x0 (0 : Int32) (5 : Int32)) (fun r1 => if r1 = 0 then (some ((-1 : Int32))) else (mb1 (f_X10_within x1 (0 : Int32) (3 : Int32)) (fun r3 => if r3 = 0 then (some ((-1 : Int32))) else (some (((x0 * (4 : Int32)) + x1))))))
theorem pk_X0_placeOf : mPkS yX0_placeOf cX0_placeOf 2 ((some .int)) 2 := ⟨⟨mw_500, mw_50, ⟨by decide +kernel, by decide +kernel⟩, by decide +kernel, by decide⟩, mw_499⟩
set_option maxHeartbeats 4000000 in
set_option maxRecDepth 100000 in
theorem k_X0_placeOf (l : Launch) (G : mG) (x0 : Int32) (x1 : Int32) (r : Int32) (hf : f_X0_placeOf x0 x1 = some (r)) : mMet l yX0_placeOf cX0_placeOf 2 ((some .int)) 1 G [.int x0, .int x1] (wd_X0_placeOf G ) (wd_X0_placeOf G ) (some (.int r)) := by
  unfold f_X0_placeOf at hf
  refine mMet.of (by decide +kernel) (Nat.le_of_ble_eq_true rfl) ?_
  intro p e s m below meth c ls hc hW hl
  generalize hAe : mIn (wd_X0_placeOf G ) = A at hc hW ⊢
  generalize hHe : s.heap = H at hW ⊢
  generalize hLe : ([] : List Loc) = locs at hW ⊢
  generalize hVe : ([.int x0, .int x1] : List Value).toArray = args at hc ⊢
  have hl : lv_has ls 2 [(0, .int x0), (1, .int x1)] := hl
  refine lv_iload_n hc.1 hc.2.1 dX0_placeOf_0 rfl (lv_at hl 0 rfl) ?_
  refine lv_iconst (v := (0 : Int32)) hc.1 hc.2.1 dX0_placeOf_1 (by decide) ?_
  refine lv_iconst (v := (5 : Int32)) hc.1 hc.2.1 dX0_placeOf_2 (by decide) ?_
  obtain ⟨r1, hq2, hf⟩ := mb1_some hf
  refine m_callSNi0 (As := [.int x0, .int (0 : Int32), .int (5 : Int32)]) (rest := []) hc hW hl.1 (k_X10_within l G x0 (0 : Int32) (5 : Int32) r1 hq2) pk_X10_within hc.2.2.2.2.2.2.2.1.2.1.2.2 [] rfl (by decide) rfl rfl (Nat.le_of_ble_eq_true rfl) (Nat.le_of_ble_eq_true rfl) dX0_placeOf_3 (fun H locs hW => ?_)
  refine m_if_eq (tgt := 26) hc hf dX0_placeOf_6 (by decide) (fun _ hf => ?_) (fun _ hf => ?_)
  · refine lv_iconst (v := (-1 : Int32)) hc.1 hc.2.1 dX0_placeOf_26 (by decide) ?_
    cases hf
    exact m_iret hc hW dX0_placeOf_27
  · refine lv_iload_n hc.1 hc.2.1 dX0_placeOf_9 rfl (lv_at hl 1 rfl) ?_
    refine lv_iconst (v := (0 : Int32)) hc.1 hc.2.1 dX0_placeOf_10 (by decide) ?_
    refine lv_iconst (v := (3 : Int32)) hc.1 hc.2.1 dX0_placeOf_11 (by decide) ?_
    obtain ⟨r3, hq4, hf⟩ := mb1_some hf
    refine m_callSNi0 (As := [.int x1, .int (0 : Int32), .int (3 : Int32)]) (rest := []) hc hW hl.1 (k_X10_within l G x1 (0 : Int32) (3 : Int32) r3 hq4) pk_X10_within hc.2.2.2.2.2.2.2.1.2.1.2.2 [] rfl (by decide) rfl rfl (Nat.le_of_ble_eq_true rfl) (Nat.le_of_ble_eq_true rfl) dX0_placeOf_12 (fun H locs hW => ?_)
    refine m_if_eq (tgt := 26) hc hf dX0_placeOf_15 (by decide) (fun _ hf => ?_) (fun _ hf => ?_)
    · refine lv_iconst (v := (-1 : Int32)) hc.1 hc.2.1 dX0_placeOf_26 (by decide) ?_
      cases hf
      exact m_iret hc hW dX0_placeOf_27
    · refine lv_iload_n hc.1 hc.2.1 dX0_placeOf_18 rfl (lv_at hl 0 rfl) ?_
      refine lv_iconst (v := (4 : Int32)) hc.1 hc.2.1 dX0_placeOf_19 (by decide) ?_
      refine lv_imul hc.1 hc.2.1 dX0_placeOf_20 ?_
      refine lv_iload_n hc.1 hc.2.1 dX0_placeOf_21 rfl (lv_at hl 1 rfl) ?_
      refine lv_iadd hc.1 hc.2.1 dX0_placeOf_22 ?_
      refine lv_goto (tgt := 27) hc.1 hc.2.1 dX0_placeOf_23 (by decide) ?_
      cases hf
      exact m_iret hc hW dX0_placeOf_27
/-! KerbBall$BestThrows.code -/
abbrev wd_X0_code (G : mG) : va_W := []
def f_X0_code (x0 : Int32) (x1 : Int32) (x2 : Int32) (x3 : Int32) : Option ((Int32)) :=
  some (((((((x0 * (10 : Int32)) + x1) * (10 : Int32)) + x2) * (21 : Int32)) + x3))
theorem pk_X0_code : mPkS yX0_code cX0_code 4 ((some .int)) 4 := ⟨⟨mw_507, mw_50, ⟨by decide +kernel, by decide +kernel⟩, by decide +kernel, by decide⟩, mw_506⟩
set_option maxHeartbeats 4000000 in
set_option maxRecDepth 100000 in
theorem k_X0_code (l : Launch) (G : mG) (x0 : Int32) (x1 : Int32) (x2 : Int32) (x3 : Int32) (r : Int32) (hf : f_X0_code x0 x1 x2 x3 = some (r)) : mMet l yX0_code cX0_code 4 ((some .int)) 0 G [.int x0, .int x1, .int x2, .int x3] (wd_X0_code G ) (wd_X0_code G ) (some (.int r)) := by
  unfold f_X0_code at hf
  refine mMet.of (by decide +kernel) (Nat.le_of_ble_eq_true rfl) ?_
  intro p e s m below meth c ls hc hW hl
  generalize hAe : mIn (wd_X0_code G ) = A at hc hW ⊢
  generalize hHe : s.heap = H at hW ⊢
  generalize hLe : ([] : List Loc) = locs at hW ⊢
  generalize hVe : ([.int x0, .int x1, .int x2, .int x3] : List Value).toArray = args at hc ⊢
  have hl : lv_has ls 4 [(0, .int x0), (1, .int x1), (2, .int x2), (3, .int x3)] := hl
  refine lv_iload_n hc.1 hc.2.1 dX0_code_0 rfl (lv_at hl 0 rfl) ?_
  refine lv_bipush (v := (10 : Int32)) hc.1 hc.2.1 dX0_code_1 (by decide) ?_
  refine lv_imul hc.1 hc.2.1 dX0_code_3 ?_
  refine lv_iload_n hc.1 hc.2.1 dX0_code_4 rfl (lv_at hl 1 rfl) ?_
  refine lv_iadd hc.1 hc.2.1 dX0_code_5 ?_
  refine lv_bipush (v := (10 : Int32)) hc.1 hc.2.1 dX0_code_6 (by decide) ?_
  refine lv_imul hc.1 hc.2.1 dX0_code_8 ?_
  refine lv_iload_n hc.1 hc.2.1 dX0_code_9 rfl (lv_at hl 2 rfl) ?_
  refine lv_iadd hc.1 hc.2.1 dX0_code_10 ?_
  refine lv_bipush (v := (21 : Int32)) hc.1 hc.2.1 dX0_code_11 (by decide) ?_
  refine lv_imul hc.1 hc.2.1 dX0_code_13 ?_
  refine lv_iload_n hc.1 hc.2.1 dX0_code_14 rfl (lv_at hl 3 rfl) ?_
  refine lv_iadd hc.1 hc.2.1 dX0_code_15 ?_
  cases hf
  exact m_iret hc hW dX0_code_16
/-! java/util/Arrays.fill -/
abbrev wd_J7_fill_53178 (G : mG) (n_p1 : Nat) (a_p1 : Nat) (v_p1 : Nat → Int32) : va_W := [(a_p1, .inl (G.2.1.1, n_p1, .inl v_p1))]
def f_J7_fill_53178_L5 (n_p1 : Nat) : Nat → (Int32) → (Int32) → (Int32) → (Nat → Int32) → Option ((Nat → Int32))
  | 0, _, _, _, _ => none
  | n + 1, x1, x2, x3, v_p1 =>
    if x3 ≤ x2 then (some (v_p1)) else (mg (inB x2 n_p1) ((f_J7_fill_53178_L5 n_p1 n x1 (x2 + (1 : Int32)) x3 (upd v_p1 (Int32.toNatClampNeg x2) x1))))
def f_J7_fill_53178 (x1 : Int32) (n_p1 : Nat) (v_p1 : Nat → Int32) : Option ((Nat → Int32)) :=
  (f_J7_fill_53178_L5 n_p1 100000 x1 (0 : Int32) (Int32.ofNat n_p1) v_p1)
set_option maxHeartbeats 4000000 in
set_option maxRecDepth 100000 in
theorem L_J7_fill_53178_5 {p : Program} {l : Launch} {e : Env} {s : State} {m : MethodId} {args : Array Value} {below : List Frame} {meth : Method} {c : Code} {G : mG} {A : Nat → Prop} {n_p1 : Nat} {a_p1 : Nat} {o_p1 : Nat → Int32} (hc : mCx p s m args meth c cJ7_fill_53178 4 RJ7 (none) G A)  : ∀ (n : Nat) {x1 : Int32} {x2 : Int32} {x3 : Int32} {v_p1 : Nat → Int32} {H : Heap} {locs : List Loc} {ls : Array Slot}, mW G A s (wd_J7_fill_53178 G n_p1 a_p1 v_p1) H locs → lv_has ls 4 [(0, .ref a_p1), (1, .int x1), (2, .int x2), (3, .int x3)] → f_J7_fill_53178_L5 n_p1 n x1 x2 x3 v_p1 = some (o_p1) → W p l e (mRm 0) s m args below meth c H locs 0 0 (MQ below (mQc G A (wd_J7_fill_53178 G n_p1 a_p1 o_p1) (none)) args s 0 0 A) (F0 m 5 ls []) := by
  intro n
  induction n with
  | zero => intro x1 x2 x3 v_p1 H locs ls hW hl hf; cases hf
  | succ n hk5 =>
    intro x1 x2 x3 v_p1 H locs ls hW hl hf
    rw [f_J7_fill_53178_L5] at hf
    refine lv_iload_n hc.1 hc.2.1 dJ7_fill_53178_5 rfl (lv_at hl 2 rfl) ?_
    refine lv_iload_n hc.1 hc.2.1 dJ7_fill_53178_6 rfl (lv_at hl 3 rfl) ?_
    refine m_icmp_ge (tgt := 20) hc hf dJ7_fill_53178_7 (by decide) (fun _ hf => ?_) (fun _ hf => ?_)
    · cases hf
      exact m_vret hc hW dJ7_fill_53178_20
    · refine lv_aload_n hc.1 hc.2.1 dJ7_fill_53178_10 rfl (lv_at hl 0 rfl) ?_
      refine lv_iload_n hc.1 hc.2.1 dJ7_fill_53178_11 rfl (lv_at hl 2 rfl) ?_
      refine lv_iload_n hc.1 hc.2.1 dJ7_fill_53178_12 rfl (lv_at hl 1 rfl) ?_
      refine m_iast (ws2 := (wd_J7_fill_53178 G n_p1 a_p1 (upd v_p1 (Int32.toNatClampNeg x2) x1))) hc hW 0 rfl hf rfl dJ7_fill_53178_13 (fun H locs hW hf => ?_)
      refine lv_iinc (v := (x2 + (1 : Int32))) (lv' := [(2, .int (x2 + (1 : Int32))), (0, .ref a_p1), (1, .int x1), (3, .int x3)]) hc.1 hc.2.1 dJ7_fill_53178_14 hl (k := 2) rfl rfl (Nat.le_of_ble_eq_true rfl) rfl (fun ls hl => ?_)
      refine lv_goto (tgt := 5) hc.1 hc.2.1 dJ7_fill_53178_17 (by decide) ?_
      exact hk5 hW (lv_sub hl [1, 2, 0, 3] rfl) hf
theorem pk_J7_fill_53178 : mPkS yJ7_fill_53178 cJ7_fill_53178 4 (none) 2 := ⟨⟨mw_461, mw_59, ⟨by decide +kernel, by decide +kernel⟩, by decide +kernel, by decide⟩, mw_460⟩
set_option maxHeartbeats 4000000 in
set_option maxRecDepth 100000 in
theorem k_J7_fill_53178 (l : Launch) (G : mG) (n_p1 : Nat) (a_p1 : Nat) (v_p1 : Nat → Int32) (x1 : Int32) (o_p1 : Nat → Int32) (hf : f_J7_fill_53178 x1 n_p1 v_p1 = some (o_p1)) : mMet l yJ7_fill_53178 cJ7_fill_53178 4 (none) 0 G [.ref a_p1, .int x1] (wd_J7_fill_53178 G n_p1 a_p1 v_p1) (wd_J7_fill_53178 G n_p1 a_p1 o_p1) (none) := by
  unfold f_J7_fill_53178 at hf
  refine mMet.of (by decide +kernel) (Nat.le_of_ble_eq_true rfl) ?_
  intro p e s m below meth c ls hc hW hl
  generalize hAe : mIn (wd_J7_fill_53178 G n_p1 a_p1 v_p1) = A at hc hW ⊢
  generalize hHe : s.heap = H at hW ⊢
  generalize hLe : ([] : List Loc) = locs at hW ⊢
  generalize hVe : ([.ref a_p1, .int x1] : List Value).toArray = args at hc ⊢
  have hl : lv_has ls 4 [(0, .ref a_p1), (1, .int x1)] := hl
  refine lv_iconst (v := (0 : Int32)) hc.1 hc.2.1 dJ7_fill_53178_0 (by decide) ?_
  refine lv_istore_n (lv' := [(2, .int (0 : Int32)), (0, .ref a_p1), (1, .int x1)]) hc.1 hc.2.1 dJ7_fill_53178_1 rfl hl (Nat.le_of_ble_eq_true rfl) rfl (fun ls hl => ?_)
  refine lv_aload_n hc.1 hc.2.1 dJ7_fill_53178_2 rfl (lv_at hl 1 rfl) ?_
  refine m_alen (v := (Int32.ofNat n_p1)) hc hW 0 0 rfl rfl rfl dJ7_fill_53178_3 ?_
  refine lv_istore_n (lv' := [(3, .int (Int32.ofNat n_p1)), (2, .int (0 : Int32)), (0, .ref a_p1), (1, .int x1)]) hc.1 hc.2.1 dJ7_fill_53178_4 rfl hl (Nat.le_of_ble_eq_true rfl) rfl (fun ls hl => ?_)
  exact L_J7_fill_53178_5 hc 100000 hW (lv_sub hl [2, 3, 1, 0] rfl) hf
/-! KerbBall$Kerb.lowestEdge -/
abbrev wd_X5_lowestEdge (G : mG) : va_W := []
def f_X5_lowestEdge (x0 : Int32) : Option ((Int32)) :=
  if x0 = (2 : Int32) then (some ((10 : Int32))) else if x0 = (3 : Int32) then (some ((13 : Int32))) else if x0 = (4 : Int32) then (some ((17 : Int32))) else if x0 = (5 : Int32) then (some ((10 : Int32))) else (some ((14 : Int32)))
theorem pk_X5_lowestEdge : mPkS yX5_lowestEdge cX5_lowestEdge 1 ((some .int)) 1 := ⟨⟨mw_412, mw_57, ⟨by decide +kernel, by decide +kernel⟩, by decide +kernel, by decide⟩, mw_411⟩
set_option maxHeartbeats 4000000 in
set_option maxRecDepth 100000 in
theorem k_X5_lowestEdge (l : Launch) (G : mG) (x0 : Int32) (r : Int32) (hf : f_X5_lowestEdge x0 = some (r)) : mMet l yX5_lowestEdge cX5_lowestEdge 1 ((some .int)) 0 G [.int x0] (wd_X5_lowestEdge G ) (wd_X5_lowestEdge G ) (some (.int r)) := by
  unfold f_X5_lowestEdge at hf
  refine mMet.of (by decide +kernel) (Nat.le_of_ble_eq_true rfl) ?_
  intro p e s m below meth c ls hc hW hl
  generalize hAe : mIn (wd_X5_lowestEdge G ) = A at hc hW ⊢
  generalize hHe : s.heap = H at hW ⊢
  generalize hLe : ([] : List Loc) = locs at hW ⊢
  generalize hVe : ([.int x0] : List Value).toArray = args at hc ⊢
  have hl : lv_has ls 1 [(0, .int x0)] := hl
  refine lv_iload_n hc.1 hc.2.1 dX5_lowestEdge_0 rfl (lv_at hl 0 rfl) ?_
  refine m_ite hf (fun hs1 hf => ?_) (fun nhs1 hf => ?_)
  · refine lv_tableIn (off := 31) (tgt := 32) hc.1 hc.2.1 dX5_lowestEdge_1 (by rw [hs1]; decide) (by rw [hs1]; decide) (by rw [hs1]; rfl) (by decide) ?_
    refine lv_bipush (v := (10 : Int32)) hc.1 hc.2.1 dX5_lowestEdge_32 (by decide) ?_
    cases hf
    exact m_iret hc hW dX5_lowestEdge_34
  · skip
    refine m_ite hf (fun hs2 hf => ?_) (fun nhs2 hf => ?_)
    · refine lv_tableIn (off := 34) (tgt := 35) hc.1 hc.2.1 dX5_lowestEdge_1 (by rw [hs2]; decide) (by rw [hs2]; decide) (by rw [hs2]; rfl) (by decide) ?_
      refine lv_bipush (v := (13 : Int32)) hc.1 hc.2.1 dX5_lowestEdge_35 (by decide) ?_
      cases hf
      exact m_iret hc hW dX5_lowestEdge_37
    · skip
      refine m_ite hf (fun hs3 hf => ?_) (fun nhs3 hf => ?_)
      · refine lv_tableIn (off := 37) (tgt := 38) hc.1 hc.2.1 dX5_lowestEdge_1 (by rw [hs3]; decide) (by rw [hs3]; decide) (by rw [hs3]; rfl) (by decide) ?_
        refine lv_bipush (v := (17 : Int32)) hc.1 hc.2.1 dX5_lowestEdge_38 (by decide) ?_
        cases hf
        exact m_iret hc hW dX5_lowestEdge_40
      · skip
        refine m_ite hf (fun hs4 hf => ?_) (fun nhs4 hf => ?_)
        · refine lv_tableIn (off := 31) (tgt := 32) hc.1 hc.2.1 dX5_lowestEdge_1 (by rw [hs4]; decide) (by rw [hs4]; decide) (by rw [hs4]; rfl) (by decide) ?_
          refine lv_bipush (v := (10 : Int32)) hc.1 hc.2.1 dX5_lowestEdge_32 (by decide) ?_
          cases hf
          exact m_iret hc hW dX5_lowestEdge_34
        · skip
          refine lv_tableOut (tgt := 41) hc.1 hc.2.1 dX5_lowestEdge_1 (by have z0 := lv_neT nhs1 (a := 2) rfl; have z1 := lv_neT nhs2 (a := 3) rfl; have z2 := lv_neT nhs3 (a := 4) rfl; have z3 := lv_neT nhs4 (a := 5) rfl; omega) (by decide) ?_
          refine lv_bipush (v := (14 : Int32)) hc.1 hc.2.1 dX5_lowestEdge_41 (by decide) ?_
          cases hf
          exact m_iret hc hW dX5_lowestEdge_43
/-! KerbBall$Kerb.highestEdge -/
abbrev wd_X5_highestEdge (G : mG) : va_W := []
def f_X5_highestEdge (x0 : Int32) : Option ((Int32)) :=
  if x0 = (1 : Int32) then (some ((15 : Int32))) else if x0 = (2 : Int32) then (some ((11 : Int32))) else if x0 = (3 : Int32) then (some ((15 : Int32))) else if x0 = (4 : Int32) then (some ((19 : Int32))) else if x0 = (5 : Int32) then (some ((11 : Int32))) else (some ((16 : Int32)))
theorem pk_X5_highestEdge : mPkS yX5_highestEdge cX5_highestEdge 1 ((some .int)) 1 := ⟨⟨mw_415, mw_57, ⟨by decide +kernel, by decide +kernel⟩, by decide +kernel, by decide⟩, mw_414⟩
set_option maxHeartbeats 4000000 in
set_option maxRecDepth 100000 in
theorem k_X5_highestEdge (l : Launch) (G : mG) (x0 : Int32) (r : Int32) (hf : f_X5_highestEdge x0 = some (r)) : mMet l yX5_highestEdge cX5_highestEdge 1 ((some .int)) 0 G [.int x0] (wd_X5_highestEdge G ) (wd_X5_highestEdge G ) (some (.int r)) := by
  unfold f_X5_highestEdge at hf
  refine mMet.of (by decide +kernel) (Nat.le_of_ble_eq_true rfl) ?_
  intro p e s m below meth c ls hc hW hl
  generalize hAe : mIn (wd_X5_highestEdge G ) = A at hc hW ⊢
  generalize hHe : s.heap = H at hW ⊢
  generalize hLe : ([] : List Loc) = locs at hW ⊢
  generalize hVe : ([.int x0] : List Value).toArray = args at hc ⊢
  have hl : lv_has ls 1 [(0, .int x0)] := hl
  refine lv_iload_n hc.1 hc.2.1 dX5_highestEdge_0 rfl (lv_at hl 0 rfl) ?_
  refine m_ite hf (fun hs1 hf => ?_) (fun nhs1 hf => ?_)
  · refine lv_tableIn (off := 35) (tgt := 36) hc.1 hc.2.1 dX5_highestEdge_1 (by rw [hs1]; decide) (by rw [hs1]; decide) (by rw [hs1]; rfl) (by decide) ?_
    refine lv_bipush (v := (15 : Int32)) hc.1 hc.2.1 dX5_highestEdge_36 (by decide) ?_
    cases hf
    exact m_iret hc hW dX5_highestEdge_38
  · skip
    refine m_ite hf (fun hs2 hf => ?_) (fun nhs2 hf => ?_)
    · refine lv_tableIn (off := 38) (tgt := 39) hc.1 hc.2.1 dX5_highestEdge_1 (by rw [hs2]; decide) (by rw [hs2]; decide) (by rw [hs2]; rfl) (by decide) ?_
      refine lv_bipush (v := (11 : Int32)) hc.1 hc.2.1 dX5_highestEdge_39 (by decide) ?_
      cases hf
      exact m_iret hc hW dX5_highestEdge_41
    · skip
      refine m_ite hf (fun hs3 hf => ?_) (fun nhs3 hf => ?_)
      · refine lv_tableIn (off := 35) (tgt := 36) hc.1 hc.2.1 dX5_highestEdge_1 (by rw [hs3]; decide) (by rw [hs3]; decide) (by rw [hs3]; rfl) (by decide) ?_
        refine lv_bipush (v := (15 : Int32)) hc.1 hc.2.1 dX5_highestEdge_36 (by decide) ?_
        cases hf
        exact m_iret hc hW dX5_highestEdge_38
      · skip
        refine m_ite hf (fun hs4 hf => ?_) (fun nhs4 hf => ?_)
        · refine lv_tableIn (off := 41) (tgt := 42) hc.1 hc.2.1 dX5_highestEdge_1 (by rw [hs4]; decide) (by rw [hs4]; decide) (by rw [hs4]; rfl) (by decide) ?_
          refine lv_bipush (v := (19 : Int32)) hc.1 hc.2.1 dX5_highestEdge_42 (by decide) ?_
          cases hf
          exact m_iret hc hW dX5_highestEdge_44
        · skip
          refine m_ite hf (fun hs5 hf => ?_) (fun nhs5 hf => ?_)
          · refine lv_tableIn (off := 38) (tgt := 39) hc.1 hc.2.1 dX5_highestEdge_1 (by rw [hs5]; decide) (by rw [hs5]; decide) (by rw [hs5]; rfl) (by decide) ?_
            refine lv_bipush (v := (11 : Int32)) hc.1 hc.2.1 dX5_highestEdge_39 (by decide) ?_
            cases hf
            exact m_iret hc hW dX5_highestEdge_41
          · skip
            refine lv_tableOut (tgt := 45) hc.1 hc.2.1 dX5_highestEdge_1 (by have z0 := lv_neT nhs1 (a := 1) rfl; have z1 := lv_neT nhs2 (a := 2) rfl; have z2 := lv_neT nhs3 (a := 3) rfl; have z3 := lv_neT nhs4 (a := 4) rfl; have z4 := lv_neT nhs5 (a := 5) rfl; omega) (by decide) ?_
            refine lv_bipush (v := (16 : Int32)) hc.1 hc.2.1 dX5_highestEdge_45 (by decide) ?_
            cases hf
            exact m_iret hc hW dX5_highestEdge_47
/-! KerbBall$Kerb.wayOf -/
abbrev wd_X5_wayOf (G : mG) : va_W := []
def f_X5_wayOf (x0 : Int32) (x1 : Int32) (x2 : Int32) (x3 : Int32) : Option ((Int32)) :=
  if (2 : Int32) ≤ (x2 - x1) then (mb1 (f_X5_lowestEdge x0) (fun r1 => if r1 ≤ ((((2 : Int32) * x3) + x2) - x1) then (mb1 (f_X5_highestEdge x0) (fun r3 => if r3 < ((((2 : Int32) * x3) + x2) - x1) then (some ((3 : Int32))) else (some ((2 : Int32))))) else (some ((1 : Int32))))) else (some ((0 : Int32)))
theorem pk_X5_wayOf : mPkS yX5_wayOf cX5_wayOf 5 ((some .int)) 4 := ⟨⟨mw_409, mw_57, ⟨by decide +kernel, by decide +kernel⟩, by decide +kernel, by decide⟩, mw_408⟩
set_option maxHeartbeats 4000000 in
set_option maxRecDepth 100000 in
theorem k_X5_wayOf (l : Launch) (G : mG) (x0 : Int32) (x1 : Int32) (x2 : Int32) (x3 : Int32) (r : Int32) (hf : f_X5_wayOf x0 x1 x2 x3 = some (r)) : mMet l yX5_wayOf cX5_wayOf 5 ((some .int)) 1 G [.int x0, .int x1, .int x2, .int x3] (wd_X5_wayOf G ) (wd_X5_wayOf G ) (some (.int r)) := by
  unfold f_X5_wayOf at hf
  refine mMet.of (by decide +kernel) (Nat.le_of_ble_eq_true rfl) ?_
  intro p e s m below meth c ls hc hW hl
  generalize hAe : mIn (wd_X5_wayOf G ) = A at hc hW ⊢
  generalize hHe : s.heap = H at hW ⊢
  generalize hLe : ([] : List Loc) = locs at hW ⊢
  generalize hVe : ([.int x0, .int x1, .int x2, .int x3] : List Value).toArray = args at hc ⊢
  have hl : lv_has ls 5 [(0, .int x0), (1, .int x1), (2, .int x2), (3, .int x3)] := hl
  refine lv_iload_n hc.1 hc.2.1 dX5_wayOf_0 rfl (lv_at hl 2 rfl) ?_
  refine lv_iload_n hc.1 hc.2.1 dX5_wayOf_1 rfl (lv_at hl 1 rfl) ?_
  refine lv_isub hc.1 hc.2.1 dX5_wayOf_2 ?_
  refine lv_iconst (v := (2 : Int32)) hc.1 hc.2.1 dX5_wayOf_3 (by decide) ?_
  refine m_icmp_ge (tgt := 9) hc hf dX5_wayOf_4 (by decide) (fun _ hf => ?_) (fun _ hf => ?_)
  · refine lv_iconst (v := (2 : Int32)) hc.1 hc.2.1 dX5_wayOf_9 (by decide) ?_
    refine lv_iload_n hc.1 hc.2.1 dX5_wayOf_10 rfl (lv_at hl 3 rfl) ?_
    refine lv_imul hc.1 hc.2.1 dX5_wayOf_11 ?_
    refine lv_iload_n hc.1 hc.2.1 dX5_wayOf_12 rfl (lv_at hl 2 rfl) ?_
    refine lv_iadd hc.1 hc.2.1 dX5_wayOf_13 ?_
    refine lv_iload_n hc.1 hc.2.1 dX5_wayOf_14 rfl (lv_at hl 1 rfl) ?_
    refine lv_isub hc.1 hc.2.1 dX5_wayOf_15 ?_
    refine lv_istore (lv' := [(4, .int ((((2 : Int32) * x3) + x2) - x1)), (0, .int x0), (1, .int x1), (2, .int x2), (3, .int x3)]) hc.1 hc.2.1 dX5_wayOf_16 hl (Nat.le_of_ble_eq_true rfl) rfl (fun ls hl => ?_)
    refine lv_iload hc.1 hc.2.1 dX5_wayOf_18 (lv_at hl 0 rfl) ?_
    refine lv_iload_n hc.1 hc.2.1 dX5_wayOf_20 rfl (lv_at hl 1 rfl) ?_
    obtain ⟨r1, hq2, hf⟩ := mb1_some hf
    refine m_callSi0 (As := [.int x0]) (rest := [.int ((((2 : Int32) * x3) + x2) - x1)]) hc hW hl.1 (k_X5_lowestEdge l G x0 r1 hq2) pk_X5_lowestEdge mw_410 [] rfl (by decide) rfl rfl (Nat.le_of_ble_eq_true rfl) (Nat.le_of_ble_eq_true rfl) dX5_wayOf_21 (fun H locs hW => ?_)
    refine m_icmp_ge (tgt := 29) hc hf dX5_wayOf_24 (by decide) (fun _ hf => ?_) (fun _ hf => ?_)
    · refine lv_iload hc.1 hc.2.1 dX5_wayOf_29 (lv_at hl 0 rfl) ?_
      refine lv_iload_n hc.1 hc.2.1 dX5_wayOf_31 rfl (lv_at hl 1 rfl) ?_
      obtain ⟨r3, hq4, hf⟩ := mb1_some hf
      refine m_callSi0 (As := [.int x0]) (rest := [.int ((((2 : Int32) * x3) + x2) - x1)]) hc hW hl.1 (k_X5_highestEdge l G x0 r3 hq4) pk_X5_highestEdge mw_413 [] rfl (by decide) rfl rfl (Nat.le_of_ble_eq_true rfl) (Nat.le_of_ble_eq_true rfl) dX5_wayOf_32 (fun H locs hW => ?_)
      refine m_icmp_gt (tgt := 42) hc hf dX5_wayOf_35 (by decide) (fun _ hf => ?_) (fun _ hf => ?_)
      · refine lv_iconst (v := (3 : Int32)) hc.1 hc.2.1 dX5_wayOf_42 (by decide) ?_
        cases hf
        exact m_iret hc hW dX5_wayOf_43
      · refine lv_iconst (v := (2 : Int32)) hc.1 hc.2.1 dX5_wayOf_38 (by decide) ?_
        refine lv_goto (tgt := 43) hc.1 hc.2.1 dX5_wayOf_39 (by decide) ?_
        cases hf
        exact m_iret hc hW dX5_wayOf_43
    · refine lv_iconst (v := (1 : Int32)) hc.1 hc.2.1 dX5_wayOf_27 (by decide) ?_
      cases hf
      exact m_iret hc hW dX5_wayOf_28
  · refine lv_iconst (v := (0 : Int32)) hc.1 hc.2.1 dX5_wayOf_7 (by decide) ?_
    cases hf
    exact m_iret hc hW dX5_wayOf_8
/-! KerbBall$Kerb.yardsOfEdge -/
abbrev wd_X5_yardsOfEdge (G : mG) : va_W := []
def f_X5_yardsOfEdge_L32 (x1 : Int32) (x2 : Int32) : Option ((Int32)) :=
  some ((imx (0 : Int32) ((x1 + x2) - (2 : Int32))))
def f_X5_yardsOfEdge (x0 : Int32) (x1 : Int32) (x2 : Int32) : Option ((Int32)) :=
  if x0 = (1 : Int32) then ((f_X5_yardsOfEdge_L32 x1 x2)) else if x0 = (2 : Int32) then ((f_X5_yardsOfEdge_L32 x1 x2)) else if x0 = (3 : Int32) then (some ((imx (0 : Int32) (((x1 + x2) - (2 : Int32)) / (2 : Int32))))) else if x0 = (4 : Int32) then (some (((x1 + x2) + (1 : Int32)))) else (some ((x1 + x2)))
set_option maxHeartbeats 4000000 in
set_option maxRecDepth 100000 in
theorem L_X5_yardsOfEdge_32 {p : Program} {l : Launch} {e : Env} {s : State} {m : MethodId} {args : Array Value} {below : List Frame} {meth : Method} {c : Code} {G : mG} {A : Nat → Prop} {r : Int32} {x1 : Int32} {x2 : Int32} {H : Heap} {locs : List Loc} {ls : Array Slot} (hc : mCx p s m args meth c cX5_yardsOfEdge 3 RX5 ((some .int)) G A)  (hW : mW G A s (wd_X5_yardsOfEdge G ) H locs) (hl : lv_has ls 3 [(1, .int x1), (2, .int x2)]) (hf : f_X5_yardsOfEdge_L32 x1 x2 = some (r)) : W p l e (mRm 1) s m args below meth c H locs 0 0 (MQ below (mQc G A (wd_X5_yardsOfEdge G ) (some (.int r))) args s 0 0 A) (F0 m 32 ls []) := by
  unfold f_X5_yardsOfEdge_L32 at hf
  refine lv_iconst (v := (0 : Int32)) hc.1 hc.2.1 dX5_yardsOfEdge_32 (by decide) ?_
  refine lv_iload_n hc.1 hc.2.1 dX5_yardsOfEdge_33 rfl (lv_at hl 0 rfl) ?_
  refine lv_iload_n hc.1 hc.2.1 dX5_yardsOfEdge_34 rfl (lv_at hl 1 rfl) ?_
  refine lv_iadd hc.1 hc.2.1 dX5_yardsOfEdge_35 ?_
  refine lv_iconst (v := (2 : Int32)) hc.1 hc.2.1 dX5_yardsOfEdge_36 (by decide) ?_
  refine lv_isub hc.1 hc.2.1 dX5_yardsOfEdge_37 ?_
  refine m_max hc hl.1 mw_426 mw_427 mw_58 mw_428 (Nat.le_of_ble_eq_true rfl) (Nat.le_of_ble_eq_true rfl) dX5_yardsOfEdge_38 ?_
  cases hf
  exact m_iret hc hW dX5_yardsOfEdge_41
theorem pk_X5_yardsOfEdge : mPkS yX5_yardsOfEdge cX5_yardsOfEdge 3 ((some .int)) 3 := ⟨⟨mw_425, mw_57, ⟨by decide +kernel, by decide +kernel⟩, by decide +kernel, by decide⟩, mw_424⟩
set_option maxHeartbeats 4000000 in
set_option maxRecDepth 100000 in
theorem k_X5_yardsOfEdge (l : Launch) (G : mG) (x0 : Int32) (x1 : Int32) (x2 : Int32) (r : Int32) (hf : f_X5_yardsOfEdge x0 x1 x2 = some (r)) : mMet l yX5_yardsOfEdge cX5_yardsOfEdge 3 ((some .int)) 1 G [.int x0, .int x1, .int x2] (wd_X5_yardsOfEdge G ) (wd_X5_yardsOfEdge G ) (some (.int r)) := by
  unfold f_X5_yardsOfEdge at hf
  refine mMet.of (by decide +kernel) (Nat.le_of_ble_eq_true rfl) ?_
  intro p e s m below meth c ls hc hW hl
  generalize hAe : mIn (wd_X5_yardsOfEdge G ) = A at hc hW ⊢
  generalize hHe : s.heap = H at hW ⊢
  generalize hLe : ([] : List Loc) = locs at hW ⊢
  generalize hVe : ([.int x0, .int x1, .int x2] : List Value).toArray = args at hc ⊢
  have hl : lv_has ls 3 [(0, .int x0), (1, .int x1), (2, .int x2)] := hl
  refine lv_iload_n hc.1 hc.2.1 dX5_yardsOfEdge_0 rfl (lv_at hl 0 rfl) ?_
  refine m_ite hf (fun hs1 hf => ?_) (fun nhs1 hf => ?_)
  · refine lv_tableIn (off := 31) (tgt := 32) hc.1 hc.2.1 dX5_yardsOfEdge_1 (by rw [hs1]; decide) (by rw [hs1]; decide) (by rw [hs1]; rfl) (by decide) ?_
    exact L_X5_yardsOfEdge_32 hc hW (lv_sub hl [1, 2] rfl) hf
  · skip
    refine m_ite hf (fun hs2 hf => ?_) (fun nhs2 hf => ?_)
    · refine lv_tableIn (off := 31) (tgt := 32) hc.1 hc.2.1 dX5_yardsOfEdge_1 (by rw [hs2]; decide) (by rw [hs2]; decide) (by rw [hs2]; rfl) (by decide) ?_
      exact L_X5_yardsOfEdge_32 hc hW (lv_sub hl [1, 2] rfl) hf
    · skip
      refine m_ite hf (fun hs3 hf => ?_) (fun nhs3 hf => ?_)
      · refine lv_tableIn (off := 41) (tgt := 42) hc.1 hc.2.1 dX5_yardsOfEdge_1 (by rw [hs3]; decide) (by rw [hs3]; decide) (by rw [hs3]; rfl) (by decide) ?_
        refine lv_iconst (v := (0 : Int32)) hc.1 hc.2.1 dX5_yardsOfEdge_42 (by decide) ?_
        refine lv_iload_n hc.1 hc.2.1 dX5_yardsOfEdge_43 rfl (lv_at hl 1 rfl) ?_
        refine lv_iload_n hc.1 hc.2.1 dX5_yardsOfEdge_44 rfl (lv_at hl 2 rfl) ?_
        refine lv_iadd hc.1 hc.2.1 dX5_yardsOfEdge_45 ?_
        refine lv_iconst (v := (2 : Int32)) hc.1 hc.2.1 dX5_yardsOfEdge_46 (by decide) ?_
        refine lv_isub hc.1 hc.2.1 dX5_yardsOfEdge_47 ?_
        refine lv_iconst (v := (2 : Int32)) hc.1 hc.2.1 dX5_yardsOfEdge_48 (by decide) ?_
        refine m_idivC hc (by decide) dX5_yardsOfEdge_49 ?_
        refine m_max hc hl.1 mw_426 mw_427 mw_58 mw_428 (Nat.le_of_ble_eq_true rfl) (Nat.le_of_ble_eq_true rfl) dX5_yardsOfEdge_50 ?_
        cases hf
        exact m_iret hc hW dX5_yardsOfEdge_53
      · skip
        refine m_ite hf (fun hs4 hf => ?_) (fun nhs4 hf => ?_)
        · refine lv_tableIn (off := 53) (tgt := 54) hc.1 hc.2.1 dX5_yardsOfEdge_1 (by rw [hs4]; decide) (by rw [hs4]; decide) (by rw [hs4]; rfl) (by decide) ?_
          refine lv_iload_n hc.1 hc.2.1 dX5_yardsOfEdge_54 rfl (lv_at hl 1 rfl) ?_
          refine lv_iload_n hc.1 hc.2.1 dX5_yardsOfEdge_55 rfl (lv_at hl 2 rfl) ?_
          refine lv_iadd hc.1 hc.2.1 dX5_yardsOfEdge_56 ?_
          refine lv_iconst (v := (1 : Int32)) hc.1 hc.2.1 dX5_yardsOfEdge_57 (by decide) ?_
          refine lv_iadd hc.1 hc.2.1 dX5_yardsOfEdge_58 ?_
          cases hf
          exact m_iret hc hW dX5_yardsOfEdge_59
        · skip
          refine lv_tableOut (tgt := 60) hc.1 hc.2.1 dX5_yardsOfEdge_1 (by have z0 := lv_neT nhs1 (a := 1) rfl; have z1 := lv_neT nhs2 (a := 2) rfl; have z2 := lv_neT nhs3 (a := 3) rfl; have z3 := lv_neT nhs4 (a := 4) rfl; omega) (by decide) ?_
          refine lv_iload_n hc.1 hc.2.1 dX5_yardsOfEdge_60 rfl (lv_at hl 1 rfl) ?_
          refine lv_iload_n hc.1 hc.2.1 dX5_yardsOfEdge_61 rfl (lv_at hl 2 rfl) ?_
          refine lv_iadd hc.1 hc.2.1 dX5_yardsOfEdge_62 ?_
          cases hf
          exact m_iret hc hW dX5_yardsOfEdge_63
/-! KerbBall$Kerb.yardsOf -/
abbrev wd_X5_yardsOf (G : mG) : va_W := []
def f_X5_yardsOf (x0 : Int32) (x1 : Int32) (x2 : Int32) (x3 : Int32) : Option ((Int32)) :=
  if x0 = (1 : Int32) then (some ((x2 / (2 : Int32)))) else if x0 = (2 : Int32) then (mb1 (f_X5_yardsOfEdge x1 x2 x3) (fun r3 => some (r3))) else (some ((0 : Int32)))
theorem pk_X5_yardsOf : mPkS yX5_yardsOf cX5_yardsOf 4 ((some .int)) 4 := ⟨⟨mw_422, mw_57, ⟨by decide +kernel, by decide +kernel⟩, by decide +kernel, by decide⟩, mw_421⟩
set_option maxHeartbeats 4000000 in
set_option maxRecDepth 100000 in
theorem k_X5_yardsOf (l : Launch) (G : mG) (x0 : Int32) (x1 : Int32) (x2 : Int32) (x3 : Int32) (r : Int32) (hf : f_X5_yardsOf x0 x1 x2 x3 = some (r)) : mMet l yX5_yardsOf cX5_yardsOf 4 ((some .int)) 2 G [.int x0, .int x1, .int x2, .int x3] (wd_X5_yardsOf G ) (wd_X5_yardsOf G ) (some (.int r)) := by
  unfold f_X5_yardsOf at hf
  refine mMet.of (by decide +kernel) (Nat.le_of_ble_eq_true rfl) ?_
  intro p e s m below meth c ls hc hW hl
  generalize hAe : mIn (wd_X5_yardsOf G ) = A at hc hW ⊢
  generalize hHe : s.heap = H at hW ⊢
  generalize hLe : ([] : List Loc) = locs at hW ⊢
  generalize hVe : ([.int x0, .int x1, .int x2, .int x3] : List Value).toArray = args at hc ⊢
  have hl : lv_has ls 4 [(0, .int x0), (1, .int x1), (2, .int x2), (3, .int x3)] := hl
  refine lv_iload_n hc.1 hc.2.1 dX5_yardsOf_0 rfl (lv_at hl 0 rfl) ?_
  refine m_ite hf (fun hs1 hf => ?_) (fun nhs1 hf => ?_)
  · refine lv_lookup (off := 27) (tgt := 28) hc.1 hc.2.1 dX5_yardsOf_1 rfl (by rw [hs1]; rfl) (by decide) ?_
    refine lv_iload_n hc.1 hc.2.1 dX5_yardsOf_28 rfl (lv_at hl 2 rfl) ?_
    refine lv_iconst (v := (2 : Int32)) hc.1 hc.2.1 dX5_yardsOf_29 (by decide) ?_
    refine m_idivC hc (by decide) dX5_yardsOf_30 ?_
    cases hf
    exact m_iret hc hW dX5_yardsOf_31
  · skip
    refine m_ite hf (fun hs2 hf => ?_) (fun nhs2 hf => ?_)
    · refine lv_lookup (off := 31) (tgt := 32) hc.1 hc.2.1 dX5_yardsOf_1 rfl (by rw [hs2]; rfl) (by decide) ?_
      refine lv_iload_n hc.1 hc.2.1 dX5_yardsOf_32 rfl (lv_at hl 1 rfl) ?_
      refine lv_iload_n hc.1 hc.2.1 dX5_yardsOf_33 rfl (lv_at hl 2 rfl) ?_
      refine lv_iload_n hc.1 hc.2.1 dX5_yardsOf_34 rfl (lv_at hl 3 rfl) ?_
      obtain ⟨r3, hq4, hf⟩ := mb1_some hf
      refine m_callSi0 (As := [.int x1, .int x2, .int x3]) (rest := []) hc hW hl.1 (k_X5_yardsOfEdge l G x1 x2 x3 r3 hq4) pk_X5_yardsOfEdge mw_423 [] rfl (by decide) rfl rfl (Nat.le_of_ble_eq_true rfl) (Nat.le_of_ble_eq_true rfl) dX5_yardsOf_35 (fun H locs hW => ?_)
      cases hf
      exact m_iret hc hW dX5_yardsOf_38
    · skip
      refine lv_lookup (off := 38) (tgt := 39) hc.1 hc.2.1 dX5_yardsOf_1 rfl ((lv_osw nhs1 rfl).trans ((lv_osw nhs2 rfl).trans rfl)) (by decide) ?_
      refine lv_iconst (v := (0 : Int32)) hc.1 hc.2.1 dX5_yardsOf_39 (by decide) ?_
      cases hf
      exact m_iret hc hW dX5_yardsOf_40
/-! KerbBall$Spread.add -/
abbrev wd_X7_add (G : mG) (a_t a_t_ways a_t_anyBack a_t_edgeBack : Nat) (v_t_anyBack : Nat → Int32) (v_t_edgeBack : Nat → Int32) (v_t_ways : Nat → Int32) : va_W := [(a_t, .inr (5, [.ref a_t_ways, .ref a_t_anyBack, .ref a_t_edgeBack])), (a_t_anyBack, .inl (G.2.1.1, 31, .inl v_t_anyBack)), (a_t_edgeBack, .inl (G.2.1.1, 31, .inl v_t_edgeBack)), (a_t_ways, .inl (G.2.1.1, 4, .inl v_t_ways))]
def f_X7_add_L19 (x1 : Int32) (x2 : Int32) (x3 : Int32) (v_t_anyBack : Nat → Int32) (v_t_edgeBack : Nat → Int32) (v_t_ways : Nat → Int32) : Option ((Nat → Int32) × (Nat → Int32) × (Nat → Int32)) :=
  mb1 (f_X10_within x2 (0 : Int32) (30 : Int32)) (fun r3 => if r3 = 0 then (some (v_t_anyBack, v_t_edgeBack, v_t_ways)) else (mg (inB x2 31) (mg (inB x2 31) (mg (inB x2 31) (if x1 = (2 : Int32) then (mg (inB x2 31) (some ((upd v_t_anyBack (Int32.toNatClampNeg x2) ((v_t_anyBack (Int32.toNatClampNeg x2)) + x3)), (upd v_t_edgeBack (Int32.toNatClampNeg x2) ((v_t_edgeBack (Int32.toNatClampNeg x2)) + x3)), v_t_ways))) else (mg (inB x2 31) (some ((upd v_t_anyBack (Int32.toNatClampNeg x2) ((v_t_anyBack (Int32.toNatClampNeg x2)) + x3)), (upd v_t_edgeBack (Int32.toNatClampNeg x2) ((v_t_edgeBack (Int32.toNatClampNeg x2)) + (0 : Int32))), v_t_ways))))))))
def f_X7_add (x1 : Int32) (x2 : Int32) (x3 : Int32) (v_t_anyBack : Nat → Int32) (v_t_edgeBack : Nat → Int32) (v_t_ways : Nat → Int32) : Option ((Nat → Int32) × (Nat → Int32) × (Nat → Int32)) :=
  mb1 (f_X10_within x1 (0 : Int32) (3 : Int32)) (fun r1 => if r1 = 0 then ((f_X7_add_L19 x1 x2 x3 v_t_anyBack v_t_edgeBack v_t_ways)) else (mg (inB x1 4) (mg (inB x1 4) ((f_X7_add_L19 x1 x2 x3 v_t_anyBack v_t_edgeBack (upd v_t_ways (Int32.toNatClampNeg x1) ((v_t_ways (Int32.toNatClampNeg x1)) + x3)))))))
set_option maxHeartbeats 4000000 in
set_option maxRecDepth 100000 in
theorem L_X7_add_19 {p : Program} {l : Launch} {e : Env} {s : State} {m : MethodId} {args : Array Value} {below : List Frame} {meth : Method} {c : Code} {G : mG} {A : Nat → Prop} {a_t a_t_ways a_t_anyBack a_t_edgeBack : Nat} {o_t_anyBack : Nat → Int32} {o_t_edgeBack : Nat → Int32} {o_t_ways : Nat → Int32} {x1 : Int32} {x2 : Int32} {x3 : Int32} {v_t_anyBack : Nat → Int32} {v_t_edgeBack : Nat → Int32} {v_t_ways : Nat → Int32} {H : Heap} {locs : List Loc} {ls : Array Slot} (hc : mCx p s m args meth c cX7_add 4 RX7 (none) G A)  (hW : mW G A s (wd_X7_add G a_t a_t_ways a_t_anyBack a_t_edgeBack v_t_anyBack v_t_edgeBack v_t_ways) H locs) (hl : lv_has ls 4 [(0, .ref a_t), (1, .int x1), (2, .int x2), (3, .int x3)]) (hf : f_X7_add_L19 x1 x2 x3 v_t_anyBack v_t_edgeBack v_t_ways = some (o_t_anyBack, o_t_edgeBack, o_t_ways)) : W p l e (mRm 1) s m args below meth c H locs 0 0 (MQ below (mQc G A (wd_X7_add G a_t a_t_ways a_t_anyBack a_t_edgeBack o_t_anyBack o_t_edgeBack o_t_ways) (none)) args s 0 0 A) (F0 m 19 ls []) := by
  unfold f_X7_add_L19 at hf
  refine lv_iload_n hc.1 hc.2.1 dX7_add_19 rfl (lv_at hl 2 rfl) ?_
  refine lv_iconst (v := (0 : Int32)) hc.1 hc.2.1 dX7_add_20 (by decide) ?_
  refine lv_bipush (v := (30 : Int32)) hc.1 hc.2.1 dX7_add_21 (by decide) ?_
  obtain ⟨r3, hq4, hf⟩ := mb1_some hf
  refine m_callSNi0 (As := [.int x2, .int (0 : Int32), .int (30 : Int32)]) (rest := []) hc hW hl.1 (k_X10_within l G x2 (0 : Int32) (30 : Int32) r3 hq4) pk_X10_within hc.2.2.2.2.2.2.2.1.2.1.2.1 [] rfl (by decide) rfl rfl (Nat.le_of_ble_eq_true rfl) (Nat.le_of_ble_eq_true rfl) dX7_add_23 (fun H locs hW => ?_)
  refine m_if_eq (tgt := 58) hc hf dX7_add_26 (by decide) (fun _ hf => ?_) (fun _ hf => ?_)
  · cases hf
    exact m_vret hc hW dX7_add_58
  · refine lv_aload_n hc.1 hc.2.1 dX7_add_29 rfl (lv_at hl 0 rfl) ?_
    refine m_get hc inmX7 hW 0 rfl rfl 1 (Nat.le_of_ble_eq_true rfl) mw_198 rfl rfl dX7_add_30 ?_
    refine lv_iload_n hc.1 hc.2.1 dX7_add_33 rfl (lv_at hl 2 rfl) ?_
    refine lv_dup2_11 hc.1 hc.2.1 dX7_add_34 rfl rfl ?_
    refine m_iald hc hW 1 rfl hf dX7_add_35 (fun hf => ?_)
    refine lv_iload_n hc.1 hc.2.1 dX7_add_36 rfl (lv_at hl 3 rfl) ?_
    refine lv_iadd hc.1 hc.2.1 dX7_add_37 ?_
    refine m_iast (ws2 := (wd_X7_add G a_t a_t_ways a_t_anyBack a_t_edgeBack (upd v_t_anyBack (Int32.toNatClampNeg x2) ((v_t_anyBack (Int32.toNatClampNeg x2)) + x3)) v_t_edgeBack v_t_ways)) hc hW 1 rfl hf rfl dX7_add_38 (fun H locs hW hf => ?_)
    refine lv_aload_n hc.1 hc.2.1 dX7_add_39 rfl (lv_at hl 0 rfl) ?_
    refine m_get hc inmX7 hW 0 rfl rfl 2 (Nat.le_of_ble_eq_true rfl) mw_199 rfl rfl dX7_add_40 ?_
    refine lv_iload_n hc.1 hc.2.1 dX7_add_43 rfl (lv_at hl 2 rfl) ?_
    refine lv_dup2_11 hc.1 hc.2.1 dX7_add_44 rfl rfl ?_
    refine m_iald hc hW 2 rfl hf dX7_add_45 (fun hf => ?_)
    refine lv_iload_n hc.1 hc.2.1 dX7_add_46 rfl (lv_at hl 1 rfl) ?_
    refine lv_iconst (v := (2 : Int32)) hc.1 hc.2.1 dX7_add_47 (by decide) ?_
    refine m_icmp_ne (tgt := 55) hc hf dX7_add_48 (by decide) (fun _ hf => ?_) (fun _ hf => ?_)
    · refine lv_iconst (v := (0 : Int32)) hc.1 hc.2.1 dX7_add_55 (by decide) ?_
      refine lv_iadd hc.1 hc.2.1 dX7_add_56 ?_
      refine m_iast (ws2 := (wd_X7_add G a_t a_t_ways a_t_anyBack a_t_edgeBack (upd v_t_anyBack (Int32.toNatClampNeg x2) ((v_t_anyBack (Int32.toNatClampNeg x2)) + x3)) (upd v_t_edgeBack (Int32.toNatClampNeg x2) ((v_t_edgeBack (Int32.toNatClampNeg x2)) + (0 : Int32))) v_t_ways)) hc hW 2 rfl hf rfl dX7_add_57 (fun H locs hW hf => ?_)
      cases hf
      exact m_vret hc hW dX7_add_58
    · refine lv_iload_n hc.1 hc.2.1 dX7_add_51 rfl (lv_at hl 3 rfl) ?_
      refine lv_goto (tgt := 56) hc.1 hc.2.1 dX7_add_52 (by decide) ?_
      refine lv_iadd hc.1 hc.2.1 dX7_add_56 ?_
      refine m_iast (ws2 := (wd_X7_add G a_t a_t_ways a_t_anyBack a_t_edgeBack (upd v_t_anyBack (Int32.toNatClampNeg x2) ((v_t_anyBack (Int32.toNatClampNeg x2)) + x3)) (upd v_t_edgeBack (Int32.toNatClampNeg x2) ((v_t_edgeBack (Int32.toNatClampNeg x2)) + x3)) v_t_ways)) hc hW 2 rfl hf rfl dX7_add_57 (fun H locs hW hf => ?_)
      cases hf
      exact m_vret hc hW dX7_add_58
theorem pk_X7_add : mPkV yX7_add cX7_add 4 (none) 3 := ⟨⟨mw_470, mw_49, ⟨by decide +kernel, by decide +kernel⟩, by decide +kernel, by decide⟩, mw_469, mw_11⟩
set_option maxHeartbeats 4000000 in
set_option maxRecDepth 100000 in
theorem k_X7_add (l : Launch) (G : mG) (a_t a_t_ways a_t_anyBack a_t_edgeBack : Nat) (v_t_anyBack : Nat → Int32) (v_t_edgeBack : Nat → Int32) (v_t_ways : Nat → Int32) (x1 : Int32) (x2 : Int32) (x3 : Int32) (o_t_anyBack : Nat → Int32) (o_t_edgeBack : Nat → Int32) (o_t_ways : Nat → Int32) (hf : f_X7_add x1 x2 x3 v_t_anyBack v_t_edgeBack v_t_ways = some (o_t_anyBack, o_t_edgeBack, o_t_ways)) : mMet l yX7_add cX7_add 4 (none) 1 G [.ref a_t, .int x1, .int x2, .int x3] (wd_X7_add G a_t a_t_ways a_t_anyBack a_t_edgeBack v_t_anyBack v_t_edgeBack v_t_ways) (wd_X7_add G a_t a_t_ways a_t_anyBack a_t_edgeBack o_t_anyBack o_t_edgeBack o_t_ways) (none) := by
  unfold f_X7_add at hf
  refine mMet.of (by decide +kernel) (Nat.le_of_ble_eq_true rfl) ?_
  intro p e s m below meth c ls hc hW hl
  generalize hAe : mIn (wd_X7_add G a_t a_t_ways a_t_anyBack a_t_edgeBack v_t_anyBack v_t_edgeBack v_t_ways) = A at hc hW ⊢
  generalize hHe : s.heap = H at hW ⊢
  generalize hLe : ([] : List Loc) = locs at hW ⊢
  generalize hVe : ([.ref a_t, .int x1, .int x2, .int x3] : List Value).toArray = args at hc ⊢
  have hl : lv_has ls 4 [(0, .ref a_t), (1, .int x1), (2, .int x2), (3, .int x3)] := hl
  refine lv_iload_n hc.1 hc.2.1 dX7_add_0 rfl (lv_at hl 1 rfl) ?_
  refine lv_iconst (v := (0 : Int32)) hc.1 hc.2.1 dX7_add_1 (by decide) ?_
  refine lv_iconst (v := (3 : Int32)) hc.1 hc.2.1 dX7_add_2 (by decide) ?_
  obtain ⟨r1, hq2, hf⟩ := mb1_some hf
  refine m_callSNi0 (As := [.int x1, .int (0 : Int32), .int (3 : Int32)]) (rest := []) hc hW hl.1 (k_X10_within l G x1 (0 : Int32) (3 : Int32) r1 hq2) pk_X10_within hc.2.2.2.2.2.2.2.1.2.1.2.1 [] rfl (by decide) rfl rfl (Nat.le_of_ble_eq_true rfl) (Nat.le_of_ble_eq_true rfl) dX7_add_3 (fun H locs hW => ?_)
  refine m_if_eq (tgt := 19) hc hf dX7_add_6 (by decide) (fun _ hf => ?_) (fun _ hf => ?_)
  · exact L_X7_add_19 hc hW (lv_sub hl [0, 1, 2, 3] rfl) hf
  · refine lv_aload_n hc.1 hc.2.1 dX7_add_9 rfl (lv_at hl 0 rfl) ?_
    refine m_get hc inmX7 hW 0 rfl rfl 0 (Nat.le_of_ble_eq_true rfl) mw_197 rfl rfl dX7_add_10 ?_
    refine lv_iload_n hc.1 hc.2.1 dX7_add_13 rfl (lv_at hl 1 rfl) ?_
    refine lv_dup2_11 hc.1 hc.2.1 dX7_add_14 rfl rfl ?_
    refine m_iald hc hW 3 rfl hf dX7_add_15 (fun hf => ?_)
    refine lv_iload_n hc.1 hc.2.1 dX7_add_16 rfl (lv_at hl 3 rfl) ?_
    refine lv_iadd hc.1 hc.2.1 dX7_add_17 ?_
    refine m_iast (ws2 := (wd_X7_add G a_t a_t_ways a_t_anyBack a_t_edgeBack v_t_anyBack v_t_edgeBack (upd v_t_ways (Int32.toNatClampNeg x1) ((v_t_ways (Int32.toNatClampNeg x1)) + x3)))) hc hW 3 rfl hf rfl dX7_add_18 (fun H locs hW hf => ?_)
    exact L_X7_add_19 hc hW (lv_sub hl [0, 1, 2, 3] rfl) hf
/-! KerbBall$Spread.gather -/
abbrev wd_X7_gather (G : mG) (a_t a_t_ways a_t_anyBack a_t_edgeBack : Nat) (v_t_ways : Nat → Int32) (v_t_anyBack : Nat → Int32) (v_t_edgeBack : Nat → Int32) : va_W := [(a_t, .inr (5, [.ref a_t_ways, .ref a_t_anyBack, .ref a_t_edgeBack])), (a_t_ways, .inl (G.2.1.1, 4, .inl v_t_ways)), (a_t_anyBack, .inl (G.2.1.1, 31, .inl v_t_anyBack)), (a_t_edgeBack, .inl (G.2.1.1, 31, .inl v_t_edgeBack))]
def f_X7_gather_L36 (kh27 : (Int32) → (Int32) → (Int32) → (Int32) → (Int32) → (Nat → Int32) → (Nat → Int32) → (Nat → Int32) → Option ((Nat → Int32) × (Nat → Int32) × (Nat → Int32))) : Nat → (Int32) → (Int32) → (Int32) → (Int32) → (Int32) → (Int32) → (Nat → Int32) → (Nat → Int32) → (Nat → Int32) → Option ((Nat → Int32) × (Nat → Int32) × (Nat → Int32))
  | 0, _, _, _, _, _, _, _, _, _ => none
  | n + 1, x1, x2, x3, x4, x5, x6, v_t_ways, v_t_anyBack, v_t_edgeBack =>
    if (1 : Int32) < x6 then ((kh27 x1 x2 x3 x4 (x5 + (1 : Int32)) v_t_ways v_t_anyBack v_t_edgeBack)) else (mb1 (f_X5_wayOf x1 x2 (x3 + x5) (x4 + x6)) (fun r7 => mb1 (f_X5_yardsOf r7 x1 (x3 + x5) (x4 + x6)) (fun r9 => mb3 (f_X7_add r7 r9 (((2 : Int32) - (iab x5)) * ((2 : Int32) - (iab x6))) v_t_anyBack v_t_edgeBack v_t_ways) (fun o11 o12 o13 => (f_X7_gather_L36 kh27 n x1 x2 x3 x4 x5 (x6 + (1 : Int32)) o13 o11 o12)))))
def f_X7_gather_L27 : Nat → (Int32) → (Int32) → (Int32) → (Int32) → (Int32) → (Nat → Int32) → (Nat → Int32) → (Nat → Int32) → Option ((Nat → Int32) × (Nat → Int32) × (Nat → Int32))
  | 0, _, _, _, _, _, _, _, _ => none
  | n + 1, x1, x2, x3, x4, x5, v_t_ways, v_t_anyBack, v_t_edgeBack =>
    if (1 : Int32) < x5 then (some (v_t_ways, v_t_anyBack, v_t_edgeBack)) else ((f_X7_gather_L36 (fun z0 z1 z2 z3 z4 z5 z6 z7 => f_X7_gather_L27 n z0 z1 z2 z3 z4 z5 z6 z7) 100000 x1 x2 x3 x4 x5 (-1 : Int32) v_t_ways v_t_anyBack v_t_edgeBack))
def f_X7_gather (x1 : Int32) (x2 : Int32) (x3 : Int32) (x4 : Int32) (v_t_ways : Nat → Int32) (v_t_anyBack : Nat → Int32) (v_t_edgeBack : Nat → Int32) : Option ((Nat → Int32) × (Nat → Int32) × (Nat → Int32)) :=
  mb1 (f_J7_fill_53178 (0 : Int32) 4 v_t_ways) (fun o1 => mb1 (f_J7_fill_53178 (0 : Int32) 31 v_t_anyBack) (fun o3 => mb1 (f_J7_fill_53178 (0 : Int32) 31 v_t_edgeBack) (fun o5 => (f_X7_gather_L27 100000 x1 x2 x3 x4 (-1 : Int32) o1 o3 o5))))
set_option maxHeartbeats 4000000 in
set_option maxRecDepth 100000 in
theorem L_X7_gather_36 {p : Program} {l : Launch} {e : Env} {s : State} {m : MethodId} {args : Array Value} {below : List Frame} {meth : Method} {c : Code} {G : mG} {A : Nat → Prop} {a_t a_t_ways a_t_anyBack a_t_edgeBack : Nat} {o_t_ways : Nat → Int32} {o_t_anyBack : Nat → Int32} {o_t_edgeBack : Nat → Int32} {kh27 : (Int32) → (Int32) → (Int32) → (Int32) → (Int32) → (Nat → Int32) → (Nat → Int32) → (Nat → Int32) → Option ((Nat → Int32) × (Nat → Int32) × (Nat → Int32))} (hc : mCx p s m args meth c cX7_gather 9 RX7 (none) G A) (hk27 : ∀ {x1 : Int32} {x2 : Int32} {x3 : Int32} {x4 : Int32} {x5 : Int32} {v_t_ways : Nat → Int32} {v_t_anyBack : Nat → Int32} {v_t_edgeBack : Nat → Int32} {H : Heap} {locs : List Loc} {ls : Array Slot}, mW G A s (wd_X7_gather G a_t a_t_ways a_t_anyBack a_t_edgeBack v_t_ways v_t_anyBack v_t_edgeBack) H locs → lv_has ls 9 [(0, .ref a_t), (1, .int x1), (2, .int x2), (3, .int x3), (4, .int x4), (5, .int x5)] → kh27 x1 x2 x3 x4 x5 v_t_ways v_t_anyBack v_t_edgeBack = some (o_t_ways, o_t_anyBack, o_t_edgeBack) → W p l e (mRm 3) s m args below meth c H locs 0 0 (MQ below (mQc G A (wd_X7_gather G a_t a_t_ways a_t_anyBack a_t_edgeBack o_t_ways o_t_anyBack o_t_edgeBack) (none)) args s 0 0 A) (F0 m 27 ls [])) : ∀ (n : Nat) {x1 : Int32} {x2 : Int32} {x3 : Int32} {x4 : Int32} {x5 : Int32} {x6 : Int32} {v_t_ways : Nat → Int32} {v_t_anyBack : Nat → Int32} {v_t_edgeBack : Nat → Int32} {H : Heap} {locs : List Loc} {ls : Array Slot}, mW G A s (wd_X7_gather G a_t a_t_ways a_t_anyBack a_t_edgeBack v_t_ways v_t_anyBack v_t_edgeBack) H locs → lv_has ls 9 [(0, .ref a_t), (1, .int x1), (2, .int x2), (3, .int x3), (4, .int x4), (5, .int x5), (6, .int x6)] → f_X7_gather_L36 kh27 n x1 x2 x3 x4 x5 x6 v_t_ways v_t_anyBack v_t_edgeBack = some (o_t_ways, o_t_anyBack, o_t_edgeBack) → W p l e (mRm 3) s m args below meth c H locs 0 0 (MQ below (mQc G A (wd_X7_gather G a_t a_t_ways a_t_anyBack a_t_edgeBack o_t_ways o_t_anyBack o_t_edgeBack) (none)) args s 0 0 A) (F0 m 36 ls []) := by
  intro n
  induction n with
  | zero => intro x1 x2 x3 x4 x5 x6 v_t_ways v_t_anyBack v_t_edgeBack H locs ls hW hl hf; cases hf
  | succ n hk36 =>
    intro x1 x2 x3 x4 x5 x6 v_t_ways v_t_anyBack v_t_edgeBack H locs ls hW hl hf
    rw [f_X7_gather_L36] at hf
    refine lv_iload hc.1 hc.2.1 dX7_gather_36 (lv_at hl 6 rfl) ?_
    refine lv_iconst (v := (1 : Int32)) hc.1 hc.2.1 dX7_gather_38 (by decide) ?_
    refine m_icmp_gt (tgt := 104) hc hf dX7_gather_39 (by decide) (fun _ hf => ?_) (fun _ hf => ?_)
    · refine lv_iinc (v := (x5 + (1 : Int32))) (lv' := [(5, .int (x5 + (1 : Int32))), (0, .ref a_t), (1, .int x1), (2, .int x2), (3, .int x3), (4, .int x4), (6, .int x6)]) hc.1 hc.2.1 dX7_gather_104 hl (k := 5) rfl rfl (Nat.le_of_ble_eq_true rfl) rfl (fun ls hl => ?_)
      refine lv_goto (tgt := 27) hc.1 hc.2.1 dX7_gather_107 (by decide) ?_
      exact hk27 hW (lv_sub hl [1, 2, 3, 4, 5, 0] rfl) hf
    · refine lv_iconst (v := (2 : Int32)) hc.1 hc.2.1 dX7_gather_42 (by decide) ?_
      refine lv_iload hc.1 hc.2.1 dX7_gather_43 (lv_at hl 5 rfl) ?_
      refine m_abs hc hl.1 mw_462 mw_463 mw_58 mw_464 (Nat.le_of_ble_eq_true rfl) (Nat.le_of_ble_eq_true rfl) dX7_gather_45 ?_
      refine lv_isub hc.1 hc.2.1 dX7_gather_48 ?_
      refine lv_iconst (v := (2 : Int32)) hc.1 hc.2.1 dX7_gather_49 (by decide) ?_
      refine lv_iload hc.1 hc.2.1 dX7_gather_50 (lv_at hl 6 rfl) ?_
      refine m_abs hc hl.1 mw_462 mw_463 mw_58 mw_464 (Nat.le_of_ble_eq_true rfl) (Nat.le_of_ble_eq_true rfl) dX7_gather_52 ?_
      refine lv_isub hc.1 hc.2.1 dX7_gather_55 ?_
      refine lv_imul hc.1 hc.2.1 dX7_gather_56 ?_
      refine lv_istore (lv' := [(7, .int (((2 : Int32) - (iab x5)) * ((2 : Int32) - (iab x6)))), (0, .ref a_t), (1, .int x1), (2, .int x2), (3, .int x3), (4, .int x4), (5, .int x5), (6, .int x6)]) hc.1 hc.2.1 dX7_gather_57 hl (Nat.le_of_ble_eq_true rfl) rfl (fun ls hl => ?_)
      refine lv_iload_n hc.1 hc.2.1 dX7_gather_59 rfl (lv_at hl 2 rfl) ?_
      refine lv_iload_n hc.1 hc.2.1 dX7_gather_60 rfl (lv_at hl 3 rfl) ?_
      refine lv_iload_n hc.1 hc.2.1 dX7_gather_61 rfl (lv_at hl 4 rfl) ?_
      refine lv_iload hc.1 hc.2.1 dX7_gather_62 (lv_at hl 6 rfl) ?_
      refine lv_iadd hc.1 hc.2.1 dX7_gather_64 ?_
      refine lv_iload hc.1 hc.2.1 dX7_gather_65 (lv_at hl 5 rfl) ?_
      refine lv_iload hc.1 hc.2.1 dX7_gather_67 (lv_at hl 7 rfl) ?_
      refine lv_iadd hc.1 hc.2.1 dX7_gather_69 ?_
      obtain ⟨r7, hq8, hf⟩ := mb1_some hf
      refine m_callSi0 (As := [.int x1, .int x2, .int (x3 + x5), .int (x4 + x6)]) (rest := []) hc hW hl.1 (k_X5_wayOf l G x1 x2 (x3 + x5) (x4 + x6) r7 hq8) pk_X5_wayOf mw_465 [] rfl (by decide) rfl rfl (Nat.le_of_ble_eq_true rfl) (Nat.le_of_ble_eq_true rfl) dX7_gather_70 (fun H locs hW => ?_)
      refine lv_istore (lv' := [(8, .int r7), (7, .int (((2 : Int32) - (iab x5)) * ((2 : Int32) - (iab x6)))), (0, .ref a_t), (1, .int x1), (2, .int x2), (3, .int x3), (4, .int x4), (5, .int x5), (6, .int x6)]) hc.1 hc.2.1 dX7_gather_73 hl (Nat.le_of_ble_eq_true rfl) rfl (fun ls hl => ?_)
      refine lv_aload_n hc.1 hc.2.1 dX7_gather_75 rfl (lv_at hl 2 rfl) ?_
      refine lv_iload hc.1 hc.2.1 dX7_gather_76 (lv_at hl 0 rfl) ?_
      refine lv_iload hc.1 hc.2.1 dX7_gather_78 (lv_at hl 0 rfl) ?_
      refine lv_iload_n hc.1 hc.2.1 dX7_gather_80 rfl (lv_at hl 3 rfl) ?_
      refine lv_iload_n hc.1 hc.2.1 dX7_gather_81 rfl (lv_at hl 5 rfl) ?_
      refine lv_iload hc.1 hc.2.1 dX7_gather_82 (lv_at hl 7 rfl) ?_
      refine lv_iadd hc.1 hc.2.1 dX7_gather_84 ?_
      refine lv_iload hc.1 hc.2.1 dX7_gather_85 (lv_at hl 6 rfl) ?_
      refine lv_iload hc.1 hc.2.1 dX7_gather_87 (lv_at hl 8 rfl) ?_
      refine lv_iadd hc.1 hc.2.1 dX7_gather_89 ?_
      obtain ⟨r9, hq10, hf⟩ := mb1_some hf
      refine m_callSi0 (As := [.int r7, .int x1, .int (x3 + x5), .int (x4 + x6)]) (rest := [.int r7, .ref a_t]) hc hW hl.1 (k_X5_yardsOf l G r7 x1 (x3 + x5) (x4 + x6) r9 hq10) pk_X5_yardsOf mw_466 [] rfl (by decide) rfl rfl (Nat.le_of_ble_eq_true rfl) (Nat.le_of_ble_eq_true rfl) dX7_gather_90 (fun H locs hW => ?_)
      refine lv_iload hc.1 hc.2.1 dX7_gather_93 (lv_at hl 1 rfl) ?_
      obtain ⟨o11, o12, o13, hq14, hf⟩ := mb3_some hf
      refine m_callVv (ws2 := (wd_X7_gather G a_t a_t_ways a_t_anyBack a_t_edgeBack o13 o11 o12)) (As := [.int r7, .int r9, .int (((2 : Int32) - (iab x5)) * ((2 : Int32) - (iab x6)))]) (rest := []) hc hW hl.1 (k_X7_add l G a_t a_t_ways a_t_anyBack a_t_edgeBack v_t_anyBack v_t_edgeBack v_t_ways r7 r9 (((2 : Int32) - (iab x5)) * ((2 : Int32) - (iab x6))) o11 o12 o13 hq14) pk_X7_add mw_467 [0, 2, 3, 1] rfl (by decide) rfl rfl rfl rfl rfl rfl rfl (Nat.le_of_ble_eq_true rfl) (Nat.le_of_ble_eq_true rfl) dX7_gather_95 (fun H locs hW => ?_)
      refine lv_iinc (v := (x6 + (1 : Int32))) (lv' := [(6, .int (x6 + (1 : Int32))), (8, .int r7), (7, .int (((2 : Int32) - (iab x5)) * ((2 : Int32) - (iab x6)))), (0, .ref a_t), (1, .int x1), (2, .int x2), (3, .int x3), (4, .int x4), (5, .int x5)]) hc.1 hc.2.1 dX7_gather_98 hl (k := 8) rfl rfl (Nat.le_of_ble_eq_true rfl) rfl (fun ls hl => ?_)
      refine lv_goto (tgt := 36) hc.1 hc.2.1 dX7_gather_101 (by decide) ?_
      exact hk36 hW (lv_sub hl [3, 4, 5, 6, 7, 8, 0] rfl) hf
set_option maxHeartbeats 4000000 in
set_option maxRecDepth 100000 in
theorem L_X7_gather_27 {p : Program} {l : Launch} {e : Env} {s : State} {m : MethodId} {args : Array Value} {below : List Frame} {meth : Method} {c : Code} {G : mG} {A : Nat → Prop} {a_t a_t_ways a_t_anyBack a_t_edgeBack : Nat} {o_t_ways : Nat → Int32} {o_t_anyBack : Nat → Int32} {o_t_edgeBack : Nat → Int32} (hc : mCx p s m args meth c cX7_gather 9 RX7 (none) G A)  : ∀ (n : Nat) {x1 : Int32} {x2 : Int32} {x3 : Int32} {x4 : Int32} {x5 : Int32} {v_t_ways : Nat → Int32} {v_t_anyBack : Nat → Int32} {v_t_edgeBack : Nat → Int32} {H : Heap} {locs : List Loc} {ls : Array Slot}, mW G A s (wd_X7_gather G a_t a_t_ways a_t_anyBack a_t_edgeBack v_t_ways v_t_anyBack v_t_edgeBack) H locs → lv_has ls 9 [(0, .ref a_t), (1, .int x1), (2, .int x2), (3, .int x3), (4, .int x4), (5, .int x5)] → f_X7_gather_L27 n x1 x2 x3 x4 x5 v_t_ways v_t_anyBack v_t_edgeBack = some (o_t_ways, o_t_anyBack, o_t_edgeBack) → W p l e (mRm 3) s m args below meth c H locs 0 0 (MQ below (mQc G A (wd_X7_gather G a_t a_t_ways a_t_anyBack a_t_edgeBack o_t_ways o_t_anyBack o_t_edgeBack) (none)) args s 0 0 A) (F0 m 27 ls []) := by
  intro n
  induction n with
  | zero => intro x1 x2 x3 x4 x5 v_t_ways v_t_anyBack v_t_edgeBack H locs ls hW hl hf; cases hf
  | succ n hk27 =>
    intro x1 x2 x3 x4 x5 v_t_ways v_t_anyBack v_t_edgeBack H locs ls hW hl hf
    rw [f_X7_gather_L27] at hf
    refine lv_iload hc.1 hc.2.1 dX7_gather_27 (lv_at hl 5 rfl) ?_
    refine lv_iconst (v := (1 : Int32)) hc.1 hc.2.1 dX7_gather_29 (by decide) ?_
    refine m_icmp_gt (tgt := 110) hc hf dX7_gather_30 (by decide) (fun _ hf => ?_) (fun _ hf => ?_)
    · cases hf
      exact m_vret hc hW dX7_gather_110
    · refine lv_iconst (v := (-1 : Int32)) hc.1 hc.2.1 dX7_gather_33 (by decide) ?_
      refine lv_istore (lv' := [(6, .int (-1 : Int32)), (0, .ref a_t), (1, .int x1), (2, .int x2), (3, .int x3), (4, .int x4), (5, .int x5)]) hc.1 hc.2.1 dX7_gather_34 hl (Nat.le_of_ble_eq_true rfl) rfl (fun ls hl => ?_)
      exact L_X7_gather_36 hc hk27 100000 hW (lv_sub hl [1, 2, 3, 4, 5, 6, 0] rfl) hf
theorem pk_X7_gather : mPkV yX7_gather cX7_gather 9 (none) 4 := ⟨⟨mw_458, mw_49, ⟨by decide +kernel, by decide +kernel⟩, by decide +kernel, by decide⟩, mw_456, mw_457⟩
set_option maxHeartbeats 4000000 in
set_option maxRecDepth 100000 in
theorem k_X7_gather (l : Launch) (G : mG) (a_t a_t_ways a_t_anyBack a_t_edgeBack : Nat) (v_t_ways : Nat → Int32) (v_t_anyBack : Nat → Int32) (v_t_edgeBack : Nat → Int32) (x1 : Int32) (x2 : Int32) (x3 : Int32) (x4 : Int32) (o_t_ways : Nat → Int32) (o_t_anyBack : Nat → Int32) (o_t_edgeBack : Nat → Int32) (hf : f_X7_gather x1 x2 x3 x4 v_t_ways v_t_anyBack v_t_edgeBack = some (o_t_ways, o_t_anyBack, o_t_edgeBack)) : mMet l yX7_gather cX7_gather 9 (none) 3 G [.ref a_t, .int x1, .int x2, .int x3, .int x4] (wd_X7_gather G a_t a_t_ways a_t_anyBack a_t_edgeBack v_t_ways v_t_anyBack v_t_edgeBack) (wd_X7_gather G a_t a_t_ways a_t_anyBack a_t_edgeBack o_t_ways o_t_anyBack o_t_edgeBack) (none) := by
  unfold f_X7_gather at hf
  refine mMet.of (by decide +kernel) (Nat.le_of_ble_eq_true rfl) ?_
  intro p e s m below meth c ls hc hW hl
  generalize hAe : mIn (wd_X7_gather G a_t a_t_ways a_t_anyBack a_t_edgeBack v_t_ways v_t_anyBack v_t_edgeBack) = A at hc hW ⊢
  generalize hHe : s.heap = H at hW ⊢
  generalize hLe : ([] : List Loc) = locs at hW ⊢
  generalize hVe : ([.ref a_t, .int x1, .int x2, .int x3, .int x4] : List Value).toArray = args at hc ⊢
  have hl : lv_has ls 9 [(0, .ref a_t), (1, .int x1), (2, .int x2), (3, .int x3), (4, .int x4)] := hl
  refine lv_aload_n hc.1 hc.2.1 dX7_gather_0 rfl (lv_at hl 0 rfl) ?_
  refine m_get hc inmX7 hW 0 rfl rfl 0 (Nat.le_of_ble_eq_true rfl) mw_197 rfl rfl dX7_gather_1 ?_
  refine lv_iconst (v := (0 : Int32)) hc.1 hc.2.1 dX7_gather_4 (by decide) ?_
  obtain ⟨o1, hq2, hf⟩ := mb1_some hf
  refine m_callSv (ws2 := (wd_X7_gather G a_t a_t_ways a_t_anyBack a_t_edgeBack o1 v_t_anyBack v_t_edgeBack)) (As := [.ref a_t_ways, .int (0 : Int32)]) (rest := []) hc hW hl.1 (k_J7_fill_53178 l G 4 a_t_ways v_t_ways (0 : Int32) o1 hq2) pk_J7_fill_53178 mw_459 [1] rfl (by decide) rfl rfl rfl rfl (Nat.le_of_ble_eq_true rfl) (Nat.le_of_ble_eq_true rfl) dX7_gather_5 (fun H locs hW => ?_)
  refine lv_aload_n hc.1 hc.2.1 dX7_gather_8 rfl (lv_at hl 0 rfl) ?_
  refine m_get hc inmX7 hW 0 rfl rfl 1 (Nat.le_of_ble_eq_true rfl) mw_198 rfl rfl dX7_gather_9 ?_
  refine lv_iconst (v := (0 : Int32)) hc.1 hc.2.1 dX7_gather_12 (by decide) ?_
  obtain ⟨o3, hq4, hf⟩ := mb1_some hf
  refine m_callSv (ws2 := (wd_X7_gather G a_t a_t_ways a_t_anyBack a_t_edgeBack o1 o3 v_t_edgeBack)) (As := [.ref a_t_anyBack, .int (0 : Int32)]) (rest := []) hc hW hl.1 (k_J7_fill_53178 l G 31 a_t_anyBack v_t_anyBack (0 : Int32) o3 hq4) pk_J7_fill_53178 mw_459 [2] rfl (by decide) rfl rfl rfl rfl (Nat.le_of_ble_eq_true rfl) (Nat.le_of_ble_eq_true rfl) dX7_gather_13 (fun H locs hW => ?_)
  refine lv_aload_n hc.1 hc.2.1 dX7_gather_16 rfl (lv_at hl 0 rfl) ?_
  refine m_get hc inmX7 hW 0 rfl rfl 2 (Nat.le_of_ble_eq_true rfl) mw_199 rfl rfl dX7_gather_17 ?_
  refine lv_iconst (v := (0 : Int32)) hc.1 hc.2.1 dX7_gather_20 (by decide) ?_
  obtain ⟨o5, hq6, hf⟩ := mb1_some hf
  refine m_callSv (ws2 := (wd_X7_gather G a_t a_t_ways a_t_anyBack a_t_edgeBack o1 o3 o5)) (As := [.ref a_t_edgeBack, .int (0 : Int32)]) (rest := []) hc hW hl.1 (k_J7_fill_53178 l G 31 a_t_edgeBack v_t_edgeBack (0 : Int32) o5 hq6) pk_J7_fill_53178 mw_459 [3] rfl (by decide) rfl rfl rfl rfl (Nat.le_of_ble_eq_true rfl) (Nat.le_of_ble_eq_true rfl) dX7_gather_21 (fun H locs hW => ?_)
  refine lv_iconst (v := (-1 : Int32)) hc.1 hc.2.1 dX7_gather_24 (by decide) ?_
  refine lv_istore (lv' := [(5, .int (-1 : Int32)), (0, .ref a_t), (1, .int x1), (2, .int x2), (3, .int x3), (4, .int x4)]) hc.1 hc.2.1 dX7_gather_25 hl (Nat.le_of_ble_eq_true rfl) rfl (fun ls hl => ?_)
  exact L_X7_gather_27 hc 100000 hW (lv_sub hl [1, 2, 3, 4, 5, 0] rfl) hf
/-! KerbBall$Book.cell -/
abbrev wd_X1_cell (G : mG) (a_t a_t_cells : Nat) (v_t_many : Int32) (v_t_cells : Nat → Int32) : va_W := [(a_t, .inr (1, [.ref a_t_cells, .int v_t_many])), (a_t_cells, .inl (G.2.1.1, 72, .inl v_t_cells))]
def f_X1_cell (x1 : Int32) (x2 : Int32) (v_t_cells : Nat → Int32) : Option ((Int32)) :=
  if ((x1 * (6 : Int32)) + x2) < 0 then (some ((0 : Int32))) else (if (Int32.ofNat 72) ≤ ((x1 * (6 : Int32)) + x2) then (some ((0 : Int32))) else (mg (inB ((x1 * (6 : Int32)) + x2) 72) (some ((v_t_cells (Int32.toNatClampNeg ((x1 * (6 : Int32)) + x2)))))))
theorem pk_X1_cell : mPkV yX1_cell cX1_cell 4 ((some .int)) 2 := ⟨⟨mw_672, mw_46, ⟨by decide +kernel, by decide +kernel⟩, by decide +kernel, by decide⟩, mw_670, mw_671⟩
set_option maxHeartbeats 4000000 in
set_option maxRecDepth 100000 in
theorem k_X1_cell (l : Launch) (G : mG) (a_t a_t_cells : Nat) (v_t_many : Int32) (v_t_cells : Nat → Int32) (x1 : Int32) (x2 : Int32) (r : Int32) (hf : f_X1_cell x1 x2 v_t_cells = some (r)) : mMet l yX1_cell cX1_cell 4 ((some .int)) 0 G [.ref a_t, .int x1, .int x2] (wd_X1_cell G a_t a_t_cells v_t_many v_t_cells) (wd_X1_cell G a_t a_t_cells v_t_many v_t_cells) (some (.int r)) := by
  unfold f_X1_cell at hf
  refine mMet.of (by decide +kernel) (Nat.le_of_ble_eq_true rfl) ?_
  intro p e s m below meth c ls hc hW hl
  generalize hAe : mIn (wd_X1_cell G a_t a_t_cells v_t_many v_t_cells) = A at hc hW ⊢
  generalize hHe : s.heap = H at hW ⊢
  generalize hLe : ([] : List Loc) = locs at hW ⊢
  generalize hVe : ([.ref a_t, .int x1, .int x2] : List Value).toArray = args at hc ⊢
  have hl : lv_has ls 4 [(0, .ref a_t), (1, .int x1), (2, .int x2)] := hl
  refine lv_iload_n hc.1 hc.2.1 dX1_cell_0 rfl (lv_at hl 1 rfl) ?_
  refine lv_bipush (v := (6 : Int32)) hc.1 hc.2.1 dX1_cell_1 (by decide) ?_
  refine lv_imul hc.1 hc.2.1 dX1_cell_3 ?_
  refine lv_iload_n hc.1 hc.2.1 dX1_cell_4 rfl (lv_at hl 2 rfl) ?_
  refine lv_iadd hc.1 hc.2.1 dX1_cell_5 ?_
  refine lv_istore_n (lv' := [(3, .int ((x1 * (6 : Int32)) + x2)), (0, .ref a_t), (1, .int x1), (2, .int x2)]) hc.1 hc.2.1 dX1_cell_6 rfl hl (Nat.le_of_ble_eq_true rfl) rfl (fun ls hl => ?_)
  refine lv_iload_n hc.1 hc.2.1 dX1_cell_7 rfl (lv_at hl 0 rfl) ?_
  refine m_if_lt (tgt := 29) hc hf dX1_cell_8 (by decide) (fun _ hf => ?_) (fun _ hf => ?_)
  · refine lv_iconst (v := (0 : Int32)) hc.1 hc.2.1 dX1_cell_29 (by decide) ?_
    cases hf
    exact m_iret hc hW dX1_cell_30
  · refine lv_iload_n hc.1 hc.2.1 dX1_cell_11 rfl (lv_at hl 0 rfl) ?_
    refine lv_aload_n hc.1 hc.2.1 dX1_cell_12 rfl (lv_at hl 1 rfl) ?_
    refine m_get hc inmX1 hW 0 rfl rfl 0 (Nat.le_of_ble_eq_true rfl) mw_126 rfl rfl dX1_cell_13 ?_
    refine m_alen (v := (Int32.ofNat 72)) hc hW 1 0 rfl rfl rfl dX1_cell_16 ?_
    refine m_icmp_ge (tgt := 29) hc hf dX1_cell_17 (by decide) (fun _ hf => ?_) (fun _ hf => ?_)
    · refine lv_iconst (v := (0 : Int32)) hc.1 hc.2.1 dX1_cell_29 (by decide) ?_
      cases hf
      exact m_iret hc hW dX1_cell_30
    · refine lv_aload_n hc.1 hc.2.1 dX1_cell_20 rfl (lv_at hl 1 rfl) ?_
      refine m_get hc inmX1 hW 0 rfl rfl 0 (Nat.le_of_ble_eq_true rfl) mw_126 rfl rfl dX1_cell_21 ?_
      refine lv_iload_n hc.1 hc.2.1 dX1_cell_24 rfl (lv_at hl 0 rfl) ?_
      refine m_iald hc hW 1 rfl hf dX1_cell_25 (fun hf => ?_)
      refine lv_goto (tgt := 30) hc.1 hc.2.1 dX1_cell_26 (by decide) ?_
      cases hf
      exact m_iret hc hW dX1_cell_30
/-! KerbBall$Book.add -/
abbrev wd_X1_add (G : mG) (a_t a_t_cells : Nat) (v_t_many : Int32) (v_t_cells : Nat → Int32) : va_W := [(a_t, .inr (1, [.ref a_t_cells, .int v_t_many])), (a_t_cells, .inl (G.2.1.1, 72, .inl v_t_cells))]
def f_X1_add (x1 : Int32) (x2 : Int32) (x3 : Int32) (x4 : Int32) (x5 : Int32) (x6 : Int32) (v_t_many : Int32) (v_t_cells : Nat → Int32) : Option ((Int32) × (Nat → Int32)) :=
  if ((v_t_many * (6 : Int32)) + (6 : Int32)) ≤ (Int32.ofNat 72) then (mg (inB ((v_t_many * (6 : Int32)) + (0 : Int32)) 72) (mg (inB ((v_t_many * (6 : Int32)) + (1 : Int32)) 72) (mg (inB ((v_t_many * (6 : Int32)) + (2 : Int32)) 72) (mg (inB ((v_t_many * (6 : Int32)) + (3 : Int32)) 72) (mg (inB ((v_t_many * (6 : Int32)) + (4 : Int32)) 72) (mg (inB ((v_t_many * (6 : Int32)) + (5 : Int32)) 72) (some ((v_t_many + (1 : Int32)), (upd (upd (upd (upd (upd (upd v_t_cells (Int32.toNatClampNeg ((v_t_many * (6 : Int32)) + (0 : Int32))) x1) (Int32.toNatClampNeg ((v_t_many * (6 : Int32)) + (1 : Int32))) x2) (Int32.toNatClampNeg ((v_t_many * (6 : Int32)) + (2 : Int32))) x3) (Int32.toNatClampNeg ((v_t_many * (6 : Int32)) + (3 : Int32))) x4) (Int32.toNatClampNeg ((v_t_many * (6 : Int32)) + (4 : Int32))) x5) (Int32.toNatClampNeg ((v_t_many * (6 : Int32)) + (5 : Int32))) x6))))))))) else (some (v_t_many, v_t_cells))
theorem pk_X1_add : mPkV yX1_add cX1_add 8 (none) 6 := ⟨⟨mw_652, mw_46, ⟨by decide +kernel, by decide +kernel⟩, by decide +kernel, by decide⟩, mw_650, mw_651⟩
set_option maxHeartbeats 4000000 in
set_option maxRecDepth 100000 in
theorem k_X1_add (l : Launch) (G : mG) (a_t a_t_cells : Nat) (v_t_many : Int32) (v_t_cells : Nat → Int32) (x1 : Int32) (x2 : Int32) (x3 : Int32) (x4 : Int32) (x5 : Int32) (x6 : Int32) (o_t_many : Int32) (o_t_cells : Nat → Int32) (hf : f_X1_add x1 x2 x3 x4 x5 x6 v_t_many v_t_cells = some (o_t_many, o_t_cells)) : mMet l yX1_add cX1_add 8 (none) 0 G [.ref a_t, .int x1, .int x2, .int x3, .int x4, .int x5, .int x6] (wd_X1_add G a_t a_t_cells v_t_many v_t_cells) (wd_X1_add G a_t a_t_cells o_t_many o_t_cells) (none) := by
  unfold f_X1_add at hf
  refine mMet.of (by decide +kernel) (Nat.le_of_ble_eq_true rfl) ?_
  intro p e s m below meth c ls hc hW hl
  generalize hAe : mIn (wd_X1_add G a_t a_t_cells v_t_many v_t_cells) = A at hc hW ⊢
  generalize hHe : s.heap = H at hW ⊢
  generalize hLe : ([] : List Loc) = locs at hW ⊢
  generalize hVe : ([.ref a_t, .int x1, .int x2, .int x3, .int x4, .int x5, .int x6] : List Value).toArray = args at hc ⊢
  have hl : lv_has ls 8 [(0, .ref a_t), (1, .int x1), (2, .int x2), (3, .int x3), (4, .int x4), (5, .int x5), (6, .int x6)] := hl
  refine lv_aload_n hc.1 hc.2.1 dX1_add_0 rfl (lv_at hl 0 rfl) ?_
  refine m_get hc inmX1 hW 0 rfl rfl 1 (Nat.le_of_ble_eq_true rfl) mw_127 rfl rfl dX1_add_1 ?_
  refine lv_bipush (v := (6 : Int32)) hc.1 hc.2.1 dX1_add_4 (by decide) ?_
  refine lv_imul hc.1 hc.2.1 dX1_add_6 ?_
  refine lv_istore (lv' := [(7, .int (v_t_many * (6 : Int32))), (0, .ref a_t), (1, .int x1), (2, .int x2), (3, .int x3), (4, .int x4), (5, .int x5), (6, .int x6)]) hc.1 hc.2.1 dX1_add_7 hl (Nat.le_of_ble_eq_true rfl) rfl (fun ls hl => ?_)
  refine lv_iload hc.1 hc.2.1 dX1_add_9 (lv_at hl 0 rfl) ?_
  refine lv_bipush (v := (6 : Int32)) hc.1 hc.2.1 dX1_add_11 (by decide) ?_
  refine lv_iadd hc.1 hc.2.1 dX1_add_13 ?_
  refine lv_aload_n hc.1 hc.2.1 dX1_add_14 rfl (lv_at hl 1 rfl) ?_
  refine m_get hc inmX1 hW 0 rfl rfl 0 (Nat.le_of_ble_eq_true rfl) mw_126 rfl rfl dX1_add_15 ?_
  refine m_alen (v := (Int32.ofNat 72)) hc hW 1 0 rfl rfl rfl dX1_add_18 ?_
  refine m_icmp_le (tgt := 23) hc hf dX1_add_19 (by decide) (fun _ hf => ?_) (fun _ hf => ?_)
  · refine lv_aload_n hc.1 hc.2.1 dX1_add_23 rfl (lv_at hl 1 rfl) ?_
    refine m_get hc inmX1 hW 0 rfl rfl 0 (Nat.le_of_ble_eq_true rfl) mw_126 rfl rfl dX1_add_24 ?_
    refine lv_iload hc.1 hc.2.1 dX1_add_27 (lv_at hl 0 rfl) ?_
    refine lv_iconst (v := (0 : Int32)) hc.1 hc.2.1 dX1_add_29 (by decide) ?_
    refine lv_iadd hc.1 hc.2.1 dX1_add_30 ?_
    refine lv_iload_n hc.1 hc.2.1 dX1_add_31 rfl (lv_at hl 2 rfl) ?_
    refine m_iast (ws2 := (wd_X1_add G a_t a_t_cells v_t_many (upd v_t_cells (Int32.toNatClampNeg ((v_t_many * (6 : Int32)) + (0 : Int32))) x1))) hc hW 1 rfl hf rfl dX1_add_32 (fun H locs hW hf => ?_)
    refine lv_aload_n hc.1 hc.2.1 dX1_add_33 rfl (lv_at hl 1 rfl) ?_
    refine m_get hc inmX1 hW 0 rfl rfl 0 (Nat.le_of_ble_eq_true rfl) mw_126 rfl rfl dX1_add_34 ?_
    refine lv_iload hc.1 hc.2.1 dX1_add_37 (lv_at hl 0 rfl) ?_
    refine lv_iconst (v := (1 : Int32)) hc.1 hc.2.1 dX1_add_39 (by decide) ?_
    refine lv_iadd hc.1 hc.2.1 dX1_add_40 ?_
    refine lv_iload_n hc.1 hc.2.1 dX1_add_41 rfl (lv_at hl 3 rfl) ?_
    refine m_iast (ws2 := (wd_X1_add G a_t a_t_cells v_t_many (upd (upd v_t_cells (Int32.toNatClampNeg ((v_t_many * (6 : Int32)) + (0 : Int32))) x1) (Int32.toNatClampNeg ((v_t_many * (6 : Int32)) + (1 : Int32))) x2))) hc hW 1 rfl hf rfl dX1_add_42 (fun H locs hW hf => ?_)
    refine lv_aload_n hc.1 hc.2.1 dX1_add_43 rfl (lv_at hl 1 rfl) ?_
    refine m_get hc inmX1 hW 0 rfl rfl 0 (Nat.le_of_ble_eq_true rfl) mw_126 rfl rfl dX1_add_44 ?_
    refine lv_iload hc.1 hc.2.1 dX1_add_47 (lv_at hl 0 rfl) ?_
    refine lv_iconst (v := (2 : Int32)) hc.1 hc.2.1 dX1_add_49 (by decide) ?_
    refine lv_iadd hc.1 hc.2.1 dX1_add_50 ?_
    refine lv_iload_n hc.1 hc.2.1 dX1_add_51 rfl (lv_at hl 4 rfl) ?_
    refine m_iast (ws2 := (wd_X1_add G a_t a_t_cells v_t_many (upd (upd (upd v_t_cells (Int32.toNatClampNeg ((v_t_many * (6 : Int32)) + (0 : Int32))) x1) (Int32.toNatClampNeg ((v_t_many * (6 : Int32)) + (1 : Int32))) x2) (Int32.toNatClampNeg ((v_t_many * (6 : Int32)) + (2 : Int32))) x3))) hc hW 1 rfl hf rfl dX1_add_52 (fun H locs hW hf => ?_)
    refine lv_aload_n hc.1 hc.2.1 dX1_add_53 rfl (lv_at hl 1 rfl) ?_
    refine m_get hc inmX1 hW 0 rfl rfl 0 (Nat.le_of_ble_eq_true rfl) mw_126 rfl rfl dX1_add_54 ?_
    refine lv_iload hc.1 hc.2.1 dX1_add_57 (lv_at hl 0 rfl) ?_
    refine lv_iconst (v := (3 : Int32)) hc.1 hc.2.1 dX1_add_59 (by decide) ?_
    refine lv_iadd hc.1 hc.2.1 dX1_add_60 ?_
    refine lv_iload hc.1 hc.2.1 dX1_add_61 (lv_at hl 5 rfl) ?_
    refine m_iast (ws2 := (wd_X1_add G a_t a_t_cells v_t_many (upd (upd (upd (upd v_t_cells (Int32.toNatClampNeg ((v_t_many * (6 : Int32)) + (0 : Int32))) x1) (Int32.toNatClampNeg ((v_t_many * (6 : Int32)) + (1 : Int32))) x2) (Int32.toNatClampNeg ((v_t_many * (6 : Int32)) + (2 : Int32))) x3) (Int32.toNatClampNeg ((v_t_many * (6 : Int32)) + (3 : Int32))) x4))) hc hW 1 rfl hf rfl dX1_add_63 (fun H locs hW hf => ?_)
    refine lv_aload_n hc.1 hc.2.1 dX1_add_64 rfl (lv_at hl 1 rfl) ?_
    refine m_get hc inmX1 hW 0 rfl rfl 0 (Nat.le_of_ble_eq_true rfl) mw_126 rfl rfl dX1_add_65 ?_
    refine lv_iload hc.1 hc.2.1 dX1_add_68 (lv_at hl 0 rfl) ?_
    refine lv_iconst (v := (4 : Int32)) hc.1 hc.2.1 dX1_add_70 (by decide) ?_
    refine lv_iadd hc.1 hc.2.1 dX1_add_71 ?_
    refine lv_iload hc.1 hc.2.1 dX1_add_72 (lv_at hl 6 rfl) ?_
    refine m_iast (ws2 := (wd_X1_add G a_t a_t_cells v_t_many (upd (upd (upd (upd (upd v_t_cells (Int32.toNatClampNeg ((v_t_many * (6 : Int32)) + (0 : Int32))) x1) (Int32.toNatClampNeg ((v_t_many * (6 : Int32)) + (1 : Int32))) x2) (Int32.toNatClampNeg ((v_t_many * (6 : Int32)) + (2 : Int32))) x3) (Int32.toNatClampNeg ((v_t_many * (6 : Int32)) + (3 : Int32))) x4) (Int32.toNatClampNeg ((v_t_many * (6 : Int32)) + (4 : Int32))) x5))) hc hW 1 rfl hf rfl dX1_add_74 (fun H locs hW hf => ?_)
    refine lv_aload_n hc.1 hc.2.1 dX1_add_75 rfl (lv_at hl 1 rfl) ?_
    refine m_get hc inmX1 hW 0 rfl rfl 0 (Nat.le_of_ble_eq_true rfl) mw_126 rfl rfl dX1_add_76 ?_
    refine lv_iload hc.1 hc.2.1 dX1_add_79 (lv_at hl 0 rfl) ?_
    refine lv_iconst (v := (5 : Int32)) hc.1 hc.2.1 dX1_add_81 (by decide) ?_
    refine lv_iadd hc.1 hc.2.1 dX1_add_82 ?_
    refine lv_iload hc.1 hc.2.1 dX1_add_83 (lv_at hl 7 rfl) ?_
    refine m_iast (ws2 := (wd_X1_add G a_t a_t_cells v_t_many (upd (upd (upd (upd (upd (upd v_t_cells (Int32.toNatClampNeg ((v_t_many * (6 : Int32)) + (0 : Int32))) x1) (Int32.toNatClampNeg ((v_t_many * (6 : Int32)) + (1 : Int32))) x2) (Int32.toNatClampNeg ((v_t_many * (6 : Int32)) + (2 : Int32))) x3) (Int32.toNatClampNeg ((v_t_many * (6 : Int32)) + (3 : Int32))) x4) (Int32.toNatClampNeg ((v_t_many * (6 : Int32)) + (4 : Int32))) x5) (Int32.toNatClampNeg ((v_t_many * (6 : Int32)) + (5 : Int32))) x6))) hc hW 1 rfl hf rfl dX1_add_85 (fun H locs hW hf => ?_)
    refine lv_aload_n hc.1 hc.2.1 dX1_add_86 rfl (lv_at hl 1 rfl) ?_
    refine lv_dup hc.1 hc.2.1 dX1_add_87 rfl ?_
    refine m_get hc inmX1 hW 0 rfl rfl 1 (Nat.le_of_ble_eq_true rfl) mw_127 rfl rfl dX1_add_88 ?_
    refine lv_iconst (v := (1 : Int32)) hc.1 hc.2.1 dX1_add_91 (by decide) ?_
    refine lv_iadd hc.1 hc.2.1 dX1_add_92 ?_
    refine m_put (ws2 := (wd_X1_add G a_t a_t_cells (v_t_many + (1 : Int32)) (upd (upd (upd (upd (upd (upd v_t_cells (Int32.toNatClampNeg ((v_t_many * (6 : Int32)) + (0 : Int32))) x1) (Int32.toNatClampNeg ((v_t_many * (6 : Int32)) + (1 : Int32))) x2) (Int32.toNatClampNeg ((v_t_many * (6 : Int32)) + (2 : Int32))) x3) (Int32.toNatClampNeg ((v_t_many * (6 : Int32)) + (3 : Int32))) x4) (Int32.toNatClampNeg ((v_t_many * (6 : Int32)) + (4 : Int32))) x5) (Int32.toNatClampNeg ((v_t_many * (6 : Int32)) + (5 : Int32))) x6))) hc inmX1 tyX1 tyX1_ok nmX1 hW 0 rfl rfl 1 (Nat.le_of_ble_eq_true rfl) mw_127 rfl rfl rfl rfl rfl (Nat.le_of_ble_eq_true rfl) rfl dX1_add_93 (fun H locs hW => ?_)
    cases hf
    exact m_vret hc hW dX1_add_96
  · cases hf
    exact m_vret hc hW dX1_add_22
/-! KerbBall$Book.told -/
abbrev wd_X1_told (G : mG) (a_t a_t_cells : Nat) (v_t_many : Int32) (v_t_cells : Nat → Int32) : va_W := [(a_t, .inr (1, [.ref a_t_cells, .int v_t_many])), (a_t_cells, .inl (G.2.1.1, 72, .inl v_t_cells))]
def f_X1_told_L5 (v_t_cells : Nat → Int32) : Nat → (Int32) → (Int32) → (Int32) → Option ((Int32))
  | 0, _, _, _ => none
  | n + 1, x2, x3, x4 =>
    if x2 ≤ x4 then (some (x3)) else (mb1 (f_X1_cell x4 (5 : Int32) v_t_cells) (fun r1 => (f_X1_told_L5 v_t_cells n x2 (x3 + r1) (x4 + (1 : Int32)))))
def f_X1_told (x1 : Int32) (x2 : Int32) (v_t_cells : Nat → Int32) : Option ((Int32)) :=
  (f_X1_told_L5 v_t_cells 100000 x2 (0 : Int32) x1)
set_option maxHeartbeats 4000000 in
set_option maxRecDepth 100000 in
theorem L_X1_told_5 {p : Program} {l : Launch} {e : Env} {s : State} {m : MethodId} {args : Array Value} {below : List Frame} {meth : Method} {c : Code} {G : mG} {A : Nat → Prop} {a_t a_t_cells : Nat} {v_t_many : Int32} {v_t_cells : Nat → Int32} {r : Int32} (hc : mCx p s m args meth c cX1_told 5 RX1 ((some .int)) G A)  : ∀ (n : Nat) {x2 : Int32} {x3 : Int32} {x4 : Int32} {H : Heap} {locs : List Loc} {ls : Array Slot}, mW G A s (wd_X1_told G a_t a_t_cells v_t_many v_t_cells) H locs → lv_has ls 5 [(0, .ref a_t), (2, .int x2), (3, .int x3), (4, .int x4)] → f_X1_told_L5 v_t_cells n x2 x3 x4 = some (r) → W p l e (mRm 1) s m args below meth c H locs 0 0 (MQ below (mQc G A (wd_X1_told G a_t a_t_cells v_t_many v_t_cells) (some (.int r))) args s 0 0 A) (F0 m 5 ls []) := by
  intro n
  induction n with
  | zero => intro x2 x3 x4 H locs ls hW hl hf; cases hf
  | succ n hk5 =>
    intro x2 x3 x4 H locs ls hW hl hf
    rw [f_X1_told_L5] at hf
    refine lv_iload hc.1 hc.2.1 dX1_told_5 (lv_at hl 3 rfl) ?_
    refine lv_iload_n hc.1 hc.2.1 dX1_told_7 rfl (lv_at hl 1 rfl) ?_
    refine m_icmp_ge (tgt := 27) hc hf dX1_told_8 (by decide) (fun _ hf => ?_) (fun _ hf => ?_)
    · refine lv_iload_n hc.1 hc.2.1 dX1_told_27 rfl (lv_at hl 2 rfl) ?_
      cases hf
      exact m_iret hc hW dX1_told_28
    · refine lv_iload_n hc.1 hc.2.1 dX1_told_11 rfl (lv_at hl 2 rfl) ?_
      refine lv_aload_n hc.1 hc.2.1 dX1_told_12 rfl (lv_at hl 0 rfl) ?_
      refine lv_iload hc.1 hc.2.1 dX1_told_13 (lv_at hl 3 rfl) ?_
      refine lv_iconst (v := (5 : Int32)) hc.1 hc.2.1 dX1_told_15 (by decide) ?_
      obtain ⟨r1, hq2, hf⟩ := mb1_some hf
      refine m_callVi0 (As := [.int x4, .int (5 : Int32)]) (rest := [.int x3]) hc hW hl.1 (k_X1_cell l G a_t a_t_cells v_t_many v_t_cells x4 (5 : Int32) r1 hq2) pk_X1_cell mw_677 [0, 1] rfl (by decide) rfl rfl rfl rfl rfl (Nat.le_of_ble_eq_true rfl) (Nat.le_of_ble_eq_true rfl) dX1_told_16 (fun H locs hW => ?_)
      refine lv_iadd hc.1 hc.2.1 dX1_told_19 ?_
      refine lv_istore_n (lv' := [(3, .int (x3 + r1)), (0, .ref a_t), (2, .int x2), (4, .int x4)]) hc.1 hc.2.1 dX1_told_20 rfl hl (Nat.le_of_ble_eq_true rfl) rfl (fun ls hl => ?_)
      refine lv_iinc (v := (x4 + (1 : Int32))) (lv' := [(4, .int (x4 + (1 : Int32))), (3, .int (x3 + r1)), (0, .ref a_t), (2, .int x2)]) hc.1 hc.2.1 dX1_told_21 hl (k := 3) rfl rfl (Nat.le_of_ble_eq_true rfl) rfl (fun ls hl => ?_)
      refine lv_goto (tgt := 5) hc.1 hc.2.1 dX1_told_24 (by decide) ?_
      exact hk5 hW (lv_sub hl [2, 3, 1, 0] rfl) hf
theorem pk_X1_told : mPkV yX1_told cX1_told 5 ((some .int)) 2 := ⟨⟨mw_676, mw_46, ⟨by decide +kernel, by decide +kernel⟩, by decide +kernel, by decide⟩, mw_674, mw_675⟩
set_option maxHeartbeats 4000000 in
set_option maxRecDepth 100000 in
theorem k_X1_told (l : Launch) (G : mG) (a_t a_t_cells : Nat) (v_t_many : Int32) (v_t_cells : Nat → Int32) (x1 : Int32) (x2 : Int32) (r : Int32) (hf : f_X1_told x1 x2 v_t_cells = some (r)) : mMet l yX1_told cX1_told 5 ((some .int)) 1 G [.ref a_t, .int x1, .int x2] (wd_X1_told G a_t a_t_cells v_t_many v_t_cells) (wd_X1_told G a_t a_t_cells v_t_many v_t_cells) (some (.int r)) := by
  unfold f_X1_told at hf
  refine mMet.of (by decide +kernel) (Nat.le_of_ble_eq_true rfl) ?_
  intro p e s m below meth c ls hc hW hl
  generalize hAe : mIn (wd_X1_told G a_t a_t_cells v_t_many v_t_cells) = A at hc hW ⊢
  generalize hHe : s.heap = H at hW ⊢
  generalize hLe : ([] : List Loc) = locs at hW ⊢
  generalize hVe : ([.ref a_t, .int x1, .int x2] : List Value).toArray = args at hc ⊢
  have hl : lv_has ls 5 [(0, .ref a_t), (1, .int x1), (2, .int x2)] := hl
  refine lv_iconst (v := (0 : Int32)) hc.1 hc.2.1 dX1_told_0 (by decide) ?_
  refine lv_istore_n (lv' := [(3, .int (0 : Int32)), (0, .ref a_t), (1, .int x1), (2, .int x2)]) hc.1 hc.2.1 dX1_told_1 rfl hl (Nat.le_of_ble_eq_true rfl) rfl (fun ls hl => ?_)
  refine lv_iload_n hc.1 hc.2.1 dX1_told_2 rfl (lv_at hl 2 rfl) ?_
  refine lv_istore (lv' := [(4, .int x1), (3, .int (0 : Int32)), (0, .ref a_t), (1, .int x1), (2, .int x2)]) hc.1 hc.2.1 dX1_told_3 hl (Nat.le_of_ble_eq_true rfl) rfl (fun ls hl => ?_)
  exact L_X1_told_5 hc 100000 hW (lv_sub hl [2, 4, 1, 0] rfl) hf
/-! KerbBall$Book.bestRow -/
abbrev wd_X1_bestRow (G : mG) (a_t a_t_cells : Nat) (v_t_many : Int32) (v_t_cells : Nat → Int32) : va_W := [(a_t, .inr (1, [.ref a_t_cells, .int v_t_many])), (a_t_cells, .inl (G.2.1.1, 72, .inl v_t_cells))]
def f_X1_bestRow_L42 (v_t_many : Int32) (v_t_cells : Nat → Int32) (kh7 : (Int32) → (Int32) → (Int32) → (Int32) → Option ((Int32))) (x1 : Int32) (x2 : Int32) (x3 : Int32) (x4 : Int32) : Option ((Int32)) :=
  (kh7 x1 x2 x3 (x4 + (1 : Int32)))
def f_X1_bestRow_L7 (v_t_many : Int32) (v_t_cells : Nat → Int32) : Nat → (Int32) → (Int32) → (Int32) → (Int32) → Option ((Int32))
  | 0, _, _, _, _ => none
  | n + 1, x1, x2, x3, x4 =>
    if v_t_many < (x4 + x1) then (some (x2)) else (mb1 (f_X1_told x4 (x4 + x1) v_t_cells) (fun r1 => if r1 ≤ x3 then ((f_X1_bestRow_L42 v_t_many v_t_cells (fun z0 z1 z2 z3 => f_X1_bestRow_L7 v_t_many v_t_cells n z0 z1 z2 z3) x1 x2 x3 x4)) else ((f_X1_bestRow_L42 v_t_many v_t_cells (fun z0 z1 z2 z3 => f_X1_bestRow_L7 v_t_many v_t_cells n z0 z1 z2 z3) x1 x4 r1 x4))))
def f_X1_bestRow (x1 : Int32) (v_t_many : Int32) (v_t_cells : Nat → Int32) : Option ((Int32)) :=
  (f_X1_bestRow_L7 v_t_many v_t_cells 100000 x1 (-1 : Int32) (-1 : Int32) (0 : Int32))
set_option maxHeartbeats 4000000 in
set_option maxRecDepth 100000 in
theorem L_X1_bestRow_42 {p : Program} {l : Launch} {e : Env} {s : State} {m : MethodId} {args : Array Value} {below : List Frame} {meth : Method} {c : Code} {G : mG} {A : Nat → Prop} {a_t a_t_cells : Nat} {v_t_many : Int32} {v_t_cells : Nat → Int32} {r : Int32} {kh7 : (Int32) → (Int32) → (Int32) → (Int32) → Option ((Int32))} {x1 : Int32} {x2 : Int32} {x3 : Int32} {x4 : Int32} {H : Heap} {locs : List Loc} {ls : Array Slot} (hc : mCx p s m args meth c cX1_bestRow 6 RX1 ((some .int)) G A) (hk7 : ∀ {x1 : Int32} {x2 : Int32} {x3 : Int32} {x4 : Int32} {H : Heap} {locs : List Loc} {ls : Array Slot}, mW G A s (wd_X1_bestRow G a_t a_t_cells v_t_many v_t_cells) H locs → lv_has ls 6 [(0, .ref a_t), (1, .int x1), (2, .int x2), (3, .int x3), (4, .int x4)] → kh7 x1 x2 x3 x4 = some (r) → W p l e (mRm 2) s m args below meth c H locs 0 0 (MQ below (mQc G A (wd_X1_bestRow G a_t a_t_cells v_t_many v_t_cells) (some (.int r))) args s 0 0 A) (F0 m 7 ls [])) (hW : mW G A s (wd_X1_bestRow G a_t a_t_cells v_t_many v_t_cells) H locs) (hl : lv_has ls 6 [(0, .ref a_t), (1, .int x1), (2, .int x2), (3, .int x3), (4, .int x4)]) (hf : f_X1_bestRow_L42 v_t_many v_t_cells kh7 x1 x2 x3 x4 = some (r)) : W p l e (mRm 2) s m args below meth c H locs 0 0 (MQ below (mQc G A (wd_X1_bestRow G a_t a_t_cells v_t_many v_t_cells) (some (.int r))) args s 0 0 A) (F0 m 42 ls []) := by
  unfold f_X1_bestRow_L42 at hf
  refine lv_iinc (v := (x4 + (1 : Int32))) (lv' := [(4, .int (x4 + (1 : Int32))), (0, .ref a_t), (1, .int x1), (2, .int x2), (3, .int x3)]) hc.1 hc.2.1 dX1_bestRow_42 hl (k := 4) rfl rfl (Nat.le_of_ble_eq_true rfl) rfl (fun ls hl => ?_)
  refine lv_goto (tgt := 7) hc.1 hc.2.1 dX1_bestRow_45 (by decide) ?_
  exact hk7 hW (lv_sub hl [1, 2, 3, 4, 0] rfl) hf
set_option maxHeartbeats 4000000 in
set_option maxRecDepth 100000 in
theorem L_X1_bestRow_7 {p : Program} {l : Launch} {e : Env} {s : State} {m : MethodId} {args : Array Value} {below : List Frame} {meth : Method} {c : Code} {G : mG} {A : Nat → Prop} {a_t a_t_cells : Nat} {v_t_many : Int32} {v_t_cells : Nat → Int32} {r : Int32} (hc : mCx p s m args meth c cX1_bestRow 6 RX1 ((some .int)) G A)  : ∀ (n : Nat) {x1 : Int32} {x2 : Int32} {x3 : Int32} {x4 : Int32} {H : Heap} {locs : List Loc} {ls : Array Slot}, mW G A s (wd_X1_bestRow G a_t a_t_cells v_t_many v_t_cells) H locs → lv_has ls 6 [(0, .ref a_t), (1, .int x1), (2, .int x2), (3, .int x3), (4, .int x4)] → f_X1_bestRow_L7 v_t_many v_t_cells n x1 x2 x3 x4 = some (r) → W p l e (mRm 2) s m args below meth c H locs 0 0 (MQ below (mQc G A (wd_X1_bestRow G a_t a_t_cells v_t_many v_t_cells) (some (.int r))) args s 0 0 A) (F0 m 7 ls []) := by
  intro n
  induction n with
  | zero => intro x1 x2 x3 x4 H locs ls hW hl hf; cases hf
  | succ n hk7 =>
    intro x1 x2 x3 x4 H locs ls hW hl hf
    rw [f_X1_bestRow_L7] at hf
    refine lv_iload hc.1 hc.2.1 dX1_bestRow_7 (lv_at hl 4 rfl) ?_
    refine lv_iload_n hc.1 hc.2.1 dX1_bestRow_9 rfl (lv_at hl 1 rfl) ?_
    refine lv_iadd hc.1 hc.2.1 dX1_bestRow_10 ?_
    refine lv_aload_n hc.1 hc.2.1 dX1_bestRow_11 rfl (lv_at hl 0 rfl) ?_
    refine m_get hc inmX1 hW 0 rfl rfl 1 (Nat.le_of_ble_eq_true rfl) mw_127 rfl rfl dX1_bestRow_12 ?_
    refine m_icmp_gt (tgt := 48) hc hf dX1_bestRow_15 (by decide) (fun _ hf => ?_) (fun _ hf => ?_)
    · refine lv_iload_n hc.1 hc.2.1 dX1_bestRow_48 rfl (lv_at hl 2 rfl) ?_
      cases hf
      exact m_iret hc hW dX1_bestRow_49
    · refine lv_aload_n hc.1 hc.2.1 dX1_bestRow_18 rfl (lv_at hl 0 rfl) ?_
      refine lv_iload hc.1 hc.2.1 dX1_bestRow_19 (lv_at hl 4 rfl) ?_
      refine lv_iload hc.1 hc.2.1 dX1_bestRow_21 (lv_at hl 4 rfl) ?_
      refine lv_iload_n hc.1 hc.2.1 dX1_bestRow_23 rfl (lv_at hl 1 rfl) ?_
      refine lv_iadd hc.1 hc.2.1 dX1_bestRow_24 ?_
      obtain ⟨r1, hq2, hf⟩ := mb1_some hf
      refine m_callVi0 (As := [.int x4, .int (x4 + x1)]) (rest := []) hc hW hl.1 (k_X1_told l G a_t a_t_cells v_t_many v_t_cells x4 (x4 + x1) r1 hq2) pk_X1_told mw_686 [0, 1] rfl (by decide) rfl rfl rfl rfl rfl (Nat.le_of_ble_eq_true rfl) (Nat.le_of_ble_eq_true rfl) dX1_bestRow_25 (fun H locs hW => ?_)
      refine lv_istore (lv' := [(5, .int r1), (0, .ref a_t), (1, .int x1), (2, .int x2), (3, .int x3), (4, .int x4)]) hc.1 hc.2.1 dX1_bestRow_28 hl (Nat.le_of_ble_eq_true rfl) rfl (fun ls hl => ?_)
      refine lv_iload hc.1 hc.2.1 dX1_bestRow_30 (lv_at hl 0 rfl) ?_
      refine lv_iload_n hc.1 hc.2.1 dX1_bestRow_32 rfl (lv_at hl 4 rfl) ?_
      refine m_icmp_le (tgt := 42) hc hf dX1_bestRow_33 (by decide) (fun _ hf => ?_) (fun _ hf => ?_)
      · exact L_X1_bestRow_42 hc hk7 hW (lv_sub hl [1, 2, 3, 4, 5] rfl) hf
      · refine lv_iload hc.1 hc.2.1 dX1_bestRow_36 (lv_at hl 0 rfl) ?_
        refine lv_istore_n (lv' := [(3, .int r1), (5, .int r1), (0, .ref a_t), (1, .int x1), (2, .int x2), (4, .int x4)]) hc.1 hc.2.1 dX1_bestRow_38 rfl hl (Nat.le_of_ble_eq_true rfl) rfl (fun ls hl => ?_)
        refine lv_iload hc.1 hc.2.1 dX1_bestRow_39 (lv_at hl 5 rfl) ?_
        refine lv_istore_n (lv' := [(2, .int x4), (3, .int r1), (5, .int r1), (0, .ref a_t), (1, .int x1), (4, .int x4)]) hc.1 hc.2.1 dX1_bestRow_41 rfl hl (Nat.le_of_ble_eq_true rfl) rfl (fun ls hl => ?_)
        exact L_X1_bestRow_42 hc hk7 hW (lv_sub hl [3, 4, 0, 1, 5] rfl) hf
theorem pk_X1_bestRow : mPkV yX1_bestRow cX1_bestRow 6 ((some .int)) 1 := ⟨⟨mw_685, mw_46, ⟨by decide +kernel, by decide +kernel⟩, by decide +kernel, by decide⟩, mw_683, mw_684⟩
set_option maxHeartbeats 4000000 in
set_option maxRecDepth 100000 in
theorem k_X1_bestRow (l : Launch) (G : mG) (a_t a_t_cells : Nat) (v_t_many : Int32) (v_t_cells : Nat → Int32) (x1 : Int32) (r : Int32) (hf : f_X1_bestRow x1 v_t_many v_t_cells = some (r)) : mMet l yX1_bestRow cX1_bestRow 6 ((some .int)) 2 G [.ref a_t, .int x1] (wd_X1_bestRow G a_t a_t_cells v_t_many v_t_cells) (wd_X1_bestRow G a_t a_t_cells v_t_many v_t_cells) (some (.int r)) := by
  unfold f_X1_bestRow at hf
  refine mMet.of (by decide +kernel) (Nat.le_of_ble_eq_true rfl) ?_
  intro p e s m below meth c ls hc hW hl
  generalize hAe : mIn (wd_X1_bestRow G a_t a_t_cells v_t_many v_t_cells) = A at hc hW ⊢
  generalize hHe : s.heap = H at hW ⊢
  generalize hLe : ([] : List Loc) = locs at hW ⊢
  generalize hVe : ([.ref a_t, .int x1] : List Value).toArray = args at hc ⊢
  have hl : lv_has ls 6 [(0, .ref a_t), (1, .int x1)] := hl
  refine lv_iconst (v := (-1 : Int32)) hc.1 hc.2.1 dX1_bestRow_0 (by decide) ?_
  refine lv_istore_n (lv' := [(2, .int (-1 : Int32)), (0, .ref a_t), (1, .int x1)]) hc.1 hc.2.1 dX1_bestRow_1 rfl hl (Nat.le_of_ble_eq_true rfl) rfl (fun ls hl => ?_)
  refine lv_iconst (v := (-1 : Int32)) hc.1 hc.2.1 dX1_bestRow_2 (by decide) ?_
  refine lv_istore_n (lv' := [(3, .int (-1 : Int32)), (2, .int (-1 : Int32)), (0, .ref a_t), (1, .int x1)]) hc.1 hc.2.1 dX1_bestRow_3 rfl hl (Nat.le_of_ble_eq_true rfl) rfl (fun ls hl => ?_)
  refine lv_iconst (v := (0 : Int32)) hc.1 hc.2.1 dX1_bestRow_4 (by decide) ?_
  refine lv_istore (lv' := [(4, .int (0 : Int32)), (3, .int (-1 : Int32)), (2, .int (-1 : Int32)), (0, .ref a_t), (1, .int x1)]) hc.1 hc.2.1 dX1_bestRow_5 hl (Nat.le_of_ble_eq_true rfl) rfl (fun ls hl => ?_)
  exact L_X1_bestRow_7 hc 100000 hW (lv_sub hl [3, 4, 2, 1, 0] rfl) hf
