section MV
variable {p : Program} {l : Launch} {e : Env} {R : Room} {s : State} {m : MethodId} {args : Array Value} {below : List Frame} {meth : Method} {c : Code} {H : Heap} {locs : List Loc} {Q : State → Prop}
variable {cc : ByteArray} {nL : Nat} {own : String} {ret : Option FieldType} {G : mG} {A : Nat → Prop} {pc : Nat} {ls : Array Slot} {rest st : List Value} {ws wc : va_W} {α : Type} {o : α}
theorem m_aald' {a n : Nat} {f : Nat → Option Nat} {i : Int32} {v : Value} (hc : mCx p s m args meth c cc nL own ret G A) (hW : mW G A s ws H locs) (q0 : Nat) (ha : ws[q0]? = some (a, .inl (G.2.1.2.2.2, n, .inr (.inr (.inr (.inr f)))))) (hin : vp_in i n) (hv : va_rf (f i.toNatClampNeg) = v) (hdg : decode cc pc = .ok (.aaload, 1)) (kk : W p l e R s m args below meth c H locs 0 0 Q (F0 m (pc + 1) ls (v :: rest))) : W p l e R s m args below meth c H locs 0 0 Q (F0 m pc ls (.int i :: .ref a :: rest)) := by
  subst hv
  exact va_aldq hc.1 hc.2.1 hc.2.2.2.2.2.2.2.1.1 hW.1 q0 3 ha rfl hin hdg kk
theorem m_callVr {y : MethodName} {cc' : ByteArray} {nL' : Nat} {ret' : Option FieldType} {k kR idx n b : Nat} {As : List Value} {r : Option Value} (hc : mCx p s m args meth c cc nL own ret G A) (hW : mW G A s ws H locs) (hls : ls.size = nL) (hM : mMet l y cc' nL' ret' k G (.ref b :: As) [] [] r) (pk : mPkV y cc' nL' ret' n) (hl : Cond.methodLink own idx y ∈ mL)
    (hrv : ∃ cell : Cell, H[b]? = some cell ∧ cell.vm.isStatics = false ∧ s.vm.findClass y.cls = some cell.cls) (hst : st = As.reverse ++ .ref b :: rest) (hAs : As.length = n) (hroom : (rest.map fun v => v.category).sum ≤ 8) (hk : k < kR) (hdg : decode cc pc = .ok (.invokevirtual idx, 3))
    (kk : ∀ (H1 : Heap) (locs1 : List Loc), mW G A s ws H1 locs1 → W p l e (mRm kR) s m args below meth c H1 locs1 0 0 Q (F0 m (pc + 3) ls (r.toList ++ rest))) : W p l e (mRm kR) s m args below meth c H locs 0 0 Q (F0 m pc ls st) := by
  have hts := hc.2.2.2.2.1
  exact m_after (is := []) (va_runV (As := As) (rest := rest) (Ts := mL) (C := y.cls) ⟨hc.1, hc.2.1, hc.2.2.1, hc.2.2.2.1, hts⟩ hM ⟨m_cw hc pk.1 hl hk, hts _ pk.2.1, hts _ pk.2.2⟩ ⟨mPc_blind G _ [], hrv, m_pre (is := []) hc hW rfl rfl⟩ rfl hAs hls hst (lv_room hroom) hdg ⟨Nat.le_refl 0, Nat.le_refl 0⟩) hW rfl rfl rfl kk
end MV
def mCh (i k : Nat) : Int32 := (mByt.getD i []).getD k 0 &&& 255
theorem pk_J0_coder_7d493 : mPkV yJ0_coder_7d493 cJ0_coder_7d493 1 ((some .byte)) 0 := ⟨⟨mw_314, mw_52, ⟨by decide +kernel, by decide +kernel⟩, by decide +kernel, by decide⟩, mw_312, mw_313⟩
theorem pk_J0_isLatin1_aae02 : mPkV yJ0_isLatin1_aae02 cJ0_isLatin1_aae02 1 ((some .boolean)) 0 := ⟨⟨mw_324, mw_52, ⟨by decide +kernel, by decide +kernel⟩, by decide +kernel, by decide⟩, mw_322, mw_323⟩
theorem pk_J0_length_8abf5 : mPkV yJ0_length_8abf5 cJ0_length_8abf5 1 ((some .int)) 0 := ⟨⟨mw_310, mw_52, ⟨by decide +kernel, by decide +kernel⟩, by decide +kernel, by decide⟩, mw_308, mw_309⟩
theorem pk_J3_checkIndex_8e157 : mPkS yJ3_checkIndex_8e157 cJ3_checkIndex_8e157 3 ((some .int)) 3 := ⟨⟨mw_335, mw_54, ⟨by decide +kernel, by decide +kernel⟩, by decide +kernel, by decide⟩, mw_334⟩
theorem pk_J0_checkIndex_df160 : mPkS yJ0_checkIndex_df160 cJ0_checkIndex_df160 2 (none) 2 := ⟨⟨mw_330, mw_52, ⟨by decide +kernel, by decide +kernel⟩, by decide +kernel, by decide⟩, mw_329⟩
theorem pk_J1_charAt_3b067 : mPkS yJ1_charAt_3b067 cJ1_charAt_3b067 2 ((some .char)) 2 := ⟨⟨mw_327, mw_53, ⟨by decide +kernel, by decide +kernel⟩, by decide +kernel, by decide⟩, mw_326⟩
theorem pk_J0_charAt_5068e : mPkV yJ0_charAt_5068e cJ0_charAt_5068e 2 ((some .char)) 1 := ⟨⟨mw_320, mw_52, ⟨by decide +kernel, by decide +kernel⟩, by decide +kernel, by decide⟩, mw_318, mw_319⟩
set_option maxHeartbeats 4000000 in
set_option maxRecDepth 100000 in
theorem k_J0_coder_7d493 (l : Launch) (G : mG) (i : Nat) (hi : i < 2) : mMet l yJ0_coder_7d493 cJ0_coder_7d493 1 ((some .byte)) 0 G [.ref (G.2.2.1 i)] [] [] (some (.int 0)) := by
  refine mMet.of (by decide +kernel) (Nat.le_of_ble_eq_true rfl) ?_
  intro p e s m below meth c ls hc hW hl
  generalize hAe : mIn [] = A at hc hW ⊢
  generalize hHe : s.heap = H at hW ⊢
  generalize hLe : ([] : List Loc) = locs at hW ⊢
  generalize hVe : ([.ref (G.2.2.1 i)] : List Value).toArray = args at hc ⊢
  have hl : lv_has ls 1 [(0, .ref (G.2.2.1 i))] := hl
  have hS := hW.2.2
  have hX := hc.2.2.2.2.2.2.2.2
  refine va_gets hc.1 hc.2.1 hX.2.1 hS hc.2.2.2.1 (hc.2.2.2.2.1 _ mw_315) (fun x h => h) dJ0_coder_7d493_0 ?_
  refine lv_if_eq (tgt := 13) hc.1 hc.2.1 dJ0_coder_7d493_3 (by decide) (fun h => absurd h (by decide)) (fun _ => ?_)
  refine lv_aload_n hc.1 hc.2.1 dJ0_coder_7d493_6 rfl (lv_at hl 0 rfl) ?_
  refine vk_getf hc.1 hc.2.1 (hX.1.1 i hi).2.1 hS hc.2.2.2.1 (hc.2.2.2.2.1 _ mw_1124) (fun x h => h) dJ0_coder_7d493_7 ?_
  refine lv_goto (tgt := 14) hc.1 hc.2.1 dJ0_coder_7d493_10 (by decide) ?_
  exact m_zret hc hW rfl dJ0_coder_7d493_14
set_option maxHeartbeats 4000000 in
set_option maxRecDepth 100000 in
theorem k_J0_isLatin1_aae02 (l : Launch) (G : mG) (i : Nat) (hi : i < 2) : mMet l yJ0_isLatin1_aae02 cJ0_isLatin1_aae02 1 ((some .boolean)) 0 G [.ref (G.2.2.1 i)] [] [] (some (.int 1)) := by
  refine mMet.of (by decide +kernel) (Nat.le_of_ble_eq_true rfl) ?_
  intro p e s m below meth c ls hc hW hl
  generalize hAe : mIn [] = A at hc hW ⊢
  generalize hHe : s.heap = H at hW ⊢
  generalize hLe : ([] : List Loc) = locs at hW ⊢
  generalize hVe : ([.ref (G.2.2.1 i)] : List Value).toArray = args at hc ⊢
  have hl : lv_has ls 1 [(0, .ref (G.2.2.1 i))] := hl
  have hS := hW.2.2
  have hX := hc.2.2.2.2.2.2.2.2
  refine va_gets hc.1 hc.2.1 hX.2.1 hS hc.2.2.2.1 (hc.2.2.2.2.1 _ mw_315) (fun x h => h) dJ0_isLatin1_aae02_0 ?_
  refine lv_if_eq (tgt := 17) hc.1 hc.2.1 dJ0_isLatin1_aae02_3 (by decide) (fun h => absurd h (by decide)) (fun _ => ?_)
  refine lv_aload_n hc.1 hc.2.1 dJ0_isLatin1_aae02_6 rfl (lv_at hl 0 rfl) ?_
  refine vk_getf hc.1 hc.2.1 (hX.1.1 i hi).2.1 hS hc.2.2.2.1 (hc.2.2.2.2.1 _ mw_1124) (fun x h => h) dJ0_isLatin1_aae02_7 ?_
  refine lv_if_ne (tgt := 17) hc.1 hc.2.1 dJ0_isLatin1_aae02_10 (by decide) (fun h => absurd rfl h) (fun _ => ?_)
  refine lv_iconst (v := (1 : Int32)) hc.1 hc.2.1 dJ0_isLatin1_aae02_13 (by decide) ?_
  refine lv_goto (tgt := 18) hc.1 hc.2.1 dJ0_isLatin1_aae02_14 (by decide) ?_
  exact m_zret hc hW rfl dJ0_isLatin1_aae02_18
set_option maxHeartbeats 4000000 in
set_option maxRecDepth 100000 in
theorem k_J0_length_8abf5 (l : Launch) (G : mG) (i : Nat) (hi : i < 2) : mMet l yJ0_length_8abf5 cJ0_length_8abf5 1 ((some .int)) 1 G [.ref (G.2.2.1 i)] [] [] (some (.int (nI (mLen.getD i 0)))) := by
  refine mMet.of (by decide +kernel) (Nat.le_of_ble_eq_true rfl) ?_
  intro p e s m below meth c ls hc hW hl
  generalize hAe : mIn [] = A at hc hW ⊢
  generalize hHe : s.heap = H at hW ⊢
  generalize hLe : ([] : List Loc) = locs at hW ⊢
  generalize hVe : ([.ref (G.2.2.1 i)] : List Value).toArray = args at hc ⊢
  have hl : lv_has ls 1 [(0, .ref (G.2.2.1 i))] := hl
  have hS := hW.2.2
  have hX := hc.2.2.2.2.2.2.2.2
  refine lv_aload_n hc.1 hc.2.1 dJ0_length_8abf5_0 rfl (lv_at hl 0 rfl) ?_
  refine vk_getf hc.1 hc.2.1 (hX.1.1 i hi).2.2.1 hS hc.2.2.2.1 (hc.2.2.2.2.1 _ mw_1123) (fun x h => h) dJ0_length_8abf5_1 ?_
  refine va_tlen hc.1 hc.2.1 (hX.1.1 i hi).2.2.2 hS rfl dJ0_length_8abf5_4 ?_
  refine lv_aload_n hc.1 hc.2.1 dJ0_length_8abf5_5 rfl (lv_at hl 0 rfl) ?_
  refine m_callVr (r := some (.int 0)) (As := []) (rest := [.int (Int32.ofNat (mLen.getD i 0))]) hc hW hl.1 (k_J0_coder_7d493 l G i hi) pk_J0_coder_7d493 mw_311 (vk_recv (locs := locs) hX.1 hi hS) rfl rfl (Nat.le_of_ble_eq_true rfl) (by decide) dJ0_length_8abf5_6 (fun H locs hW => ?_)
  refine lv_ishr hc.1 hc.2.1 dJ0_length_8abf5_9 ?_
  rw [sb_shr0]
  exact m_iret hc hW dJ0_length_8abf5_10
set_option maxHeartbeats 4000000 in
set_option maxRecDepth 100000 in
theorem k_J3_checkIndex_8e157 (l : Launch) (G : mG) (k n : Int32) (f : Value) (hf : f = .null ∨ ∃ t : Nat, f = .ref t) (h0 : ¬ k < 0) (h1 : k < n) : mMet l yJ3_checkIndex_8e157 cJ3_checkIndex_8e157 3 (some .int) 0 G [.int k, .int n, f] [] [] (some (.int k)) := by
  refine mMet.of (by decide +kernel) (by rcases hf with rfl | ⟨t, rfl⟩ <;> exact Nat.le_of_ble_eq_true rfl) ?_
  intro p e s m below meth c ls hc hW hl
  generalize hAe : mIn [] = A at hc hW ⊢
  generalize hHe : s.heap = H at hW ⊢
  generalize hLe : ([] : List Loc) = locs at hW ⊢
  generalize hVe : ([.int k, .int n, f] : List Value).toArray = args at hc ⊢
  have hl : lv_has ls 3 [(0, .int k), (1, .int n), (2, f)] := hl
  refine lv_iload_n hc.1 hc.2.1 dJ3_checkIndex_8e157_0 rfl (lv_at hl 0 rfl) ?_
  refine lv_if_lt (tgt := 9) hc.1 hc.2.1 dJ3_checkIndex_8e157_1 (by decide) (fun h => absurd h h0) (fun _ => ?_)
  refine lv_iload_n hc.1 hc.2.1 dJ3_checkIndex_8e157_4 rfl (lv_at hl 0 rfl) ?_
  refine lv_iload_n hc.1 hc.2.1 dJ3_checkIndex_8e157_5 rfl (lv_at hl 1 rfl) ?_
  refine lv_icmp_lt (tgt := 16) hc.1 hc.2.1 dJ3_checkIndex_8e157_6 (by decide) (fun _ => ?_) (fun h => absurd h1 h)
  refine lv_iload_n hc.1 hc.2.1 dJ3_checkIndex_8e157_16 rfl (lv_at hl 0 rfl) ?_
  exact m_iret hc hW dJ3_checkIndex_8e157_17
set_option maxHeartbeats 4000000 in
set_option maxRecDepth 100000 in
theorem k_J0_checkIndex_df160 (l : Launch) (G : mG) (k n : Int32) (h0 : ¬ k < 0) (h1 : k < n) : mMet l yJ0_checkIndex_df160 cJ0_checkIndex_df160 2 (none) 1 G [.int k, .int n] [] [] (none) := by
  refine mMet.of (by decide +kernel) (Nat.le_of_ble_eq_true rfl) ?_
  intro p e s m below meth c ls hc hW hl
  generalize hAe : mIn [] = A at hc hW ⊢
  generalize hHe : s.heap = H at hW ⊢
  generalize hLe : ([] : List Loc) = locs at hW ⊢
  generalize hVe : ([.int k, .int n] : List Value).toArray = args at hc ⊢
  have hl : lv_has ls 2 [(0, .int k), (1, .int n)] := hl
  have hS := hW.2.2
  have hX := hc.2.2.2.2.2.2.2.2
  refine lv_iload_n hc.1 hc.2.1 dJ0_checkIndex_df160_0 rfl (lv_at hl 0 rfl) ?_
  refine lv_iload_n hc.1 hc.2.1 dJ0_checkIndex_df160_1 rfl (lv_at hl 1 rfl) ?_
  have go : ∀ f : Value, (f = .null ∨ ∃ t : Nat, f = .ref t) → va_Z "jdk/internal/util/Preconditions" "SIOOBE_FORMATTER" "Ljava/util/function/BiFunction;" f A s s.heap → W p l e (mRm 1) s m args below meth c H locs 0 0 (MQ below (mQc G A [] none) args s 0 0 A) (F0 m 2 ls [.int n, .int k]) := by
    intro f hf hZ
    refine va_gets hc.1 hc.2.1 hZ hS hc.2.2.2.1 (hc.2.2.2.2.1 _ mw_331) (fun x h => h) dJ0_checkIndex_df160_2 ?_
    refine m_callSi0 (As := [.int k, .int n, f]) (rest := []) hc hW hl.1 (k_J3_checkIndex_8e157 l G k n f hf h0 h1) pk_J3_checkIndex_8e157 mw_333 [] rfl (by decide) rfl rfl (by decide) (by decide) dJ0_checkIndex_df160_5 (fun H locs hW => ?_)
    refine lv_pop hc.1 hc.2.1 dJ0_checkIndex_df160_8 rfl ?_
    exact m_vret hc hW dJ0_checkIndex_df160_9
  rcases hX.2.2 with h | ⟨t, h⟩
  · exact go _ (Or.inl rfl) h
  · exact go _ (Or.inr ⟨t, rfl⟩) h
set_option maxHeartbeats 4000000 in
set_option maxRecDepth 100000 in
theorem k_J1_charAt_3b067 (l : Launch) (G : mG) (i : Nat) (k : Int32) (hi : i < 2) (hk : vp_in k (mLen.getD i 0)) : mMet l yJ1_charAt_3b067 cJ1_charAt_3b067 2 ((some .char)) 2 G [.ref (G.2.2.2 i), .int k] [] [] (some (.int (mCh i k.toNatClampNeg))) := by
  refine mMet.of (by decide +kernel) (Nat.le_of_ble_eq_true rfl) ?_
  intro p e s m below meth c ls hc hW hl
  generalize hAe : mIn [] = A at hc hW ⊢
  generalize hHe : s.heap = H at hW ⊢
  generalize hLe : ([] : List Loc) = locs at hW ⊢
  generalize hVe : ([.ref (G.2.2.2 i), .int k] : List Value).toArray = args at hc ⊢
  have hl : lv_has ls 2 [(0, .ref (G.2.2.2 i)), (1, .int k)] := hl
  have hS := hW.2.2
  have hX := hc.2.2.2.2.2.2.2.2
  have hk2 := vp_in_iff.mp hk
  have hn : mLen.getD i 0 < 2 ^ 31 := by
    have hi2 : i < 2 := hi
    have : ∀ j, j < 2 → mLen.getD j 0 < 2 ^ 31 := by decide
    exact this i hi2
  have k0 : ¬ k < 0 := fun h => by
    have h3 := Int32.lt_iff_toInt_lt.mp h
    simp at h3
    omega
  have k1 : k < Int32.ofNat (mLen.getD i 0) := Int32.lt_iff_toInt_lt.mpr (by rw [show Int32.ofNat (mLen.getD i 0) = nI (mLen.getD i 0) from rfl, nI_toInt hn]; exact hk2.2)
  refine lv_iload_n hc.1 hc.2.1 dJ1_charAt_3b067_0 rfl (lv_at hl 1 rfl) ?_
  refine lv_aload_n hc.1 hc.2.1 dJ1_charAt_3b067_1 rfl (lv_at hl 0 rfl) ?_
  refine va_tlen hc.1 hc.2.1 (hX.1.1 i hi).2.2.2 hS rfl dJ1_charAt_3b067_2 ?_
  refine m_callSv0 (As := [.int k, .int (Int32.ofNat (mLen.getD i 0))]) (rest := []) hc hW hl.1 (k_J0_checkIndex_df160 l G k _ k0 k1) pk_J0_checkIndex_df160 mw_328 [] rfl (by decide) rfl rfl (by decide) (by decide) dJ1_charAt_3b067_3 (fun H locs hW => ?_)
  have hS := hW.2.2
  refine lv_aload_n hc.1 hc.2.1 dJ1_charAt_3b067_6 rfl (lv_at hl 0 rfl) ?_
  refine lv_iload_n hc.1 hc.2.1 dJ1_charAt_3b067_7 rfl (lv_at hl 1 rfl) ?_
  refine va_tb hc.1 hc.2.1 (hX.1.1 i hi).2.2.2 hS hk rfl dJ1_charAt_3b067_8 ?_
  refine lv_sipush (v := (255 : Int32)) hc.1 hc.2.1 dJ1_charAt_3b067_9 (by decide) ?_
  refine lv_iand hc.1 hc.2.1 dJ1_charAt_3b067_12 ?_
  refine lv_i2c hc.1 hc.2.1 dJ1_charAt_3b067_13 (sc_c2 _) ?_
  exact m_zret hc hW (sc_nar _) dJ1_charAt_3b067_14
set_option maxHeartbeats 4000000 in
set_option maxRecDepth 100000 in
theorem k_J0_charAt_5068e (l : Launch) (G : mG) (i : Nat) (k : Int32) (hi : i < 2) (hk : vp_in k (mLen.getD i 0)) : mMet l yJ0_charAt_5068e cJ0_charAt_5068e 2 ((some .char)) 3 G [.ref (G.2.2.1 i), .int k] [] [] (some (.int (mCh i k.toNatClampNeg))) := by
  refine mMet.of (by decide +kernel) (Nat.le_of_ble_eq_true rfl) ?_
  intro p e s m below meth c ls hc hW hl
  generalize hAe : mIn [] = A at hc hW ⊢
  generalize hHe : s.heap = H at hW ⊢
  generalize hLe : ([] : List Loc) = locs at hW ⊢
  generalize hVe : ([.ref (G.2.2.1 i), .int k] : List Value).toArray = args at hc ⊢
  have hl : lv_has ls 2 [(0, .ref (G.2.2.1 i)), (1, .int k)] := hl
  have hS := hW.2.2
  have hX := hc.2.2.2.2.2.2.2.2
  refine lv_aload_n hc.1 hc.2.1 dJ0_charAt_5068e_0 rfl (lv_at hl 0 rfl) ?_
  refine m_callVr (r := some (.int 1)) (As := []) (rest := []) hc hW hl.1 (k_J0_isLatin1_aae02 l G i hi) pk_J0_isLatin1_aae02 mw_321 (vk_recv (locs := locs) hX.1 hi hS) rfl rfl (by decide) (by decide) dJ0_charAt_5068e_1 (fun H locs hW => ?_)
  have hS := hW.2.2
  refine lv_if_eq (tgt := 16) hc.1 hc.2.1 dJ0_charAt_5068e_4 (by decide) (fun h => absurd h (by decide)) (fun _ => ?_)
  refine lv_aload_n hc.1 hc.2.1 dJ0_charAt_5068e_7 rfl (lv_at hl 0 rfl) ?_
  refine vk_getf hc.1 hc.2.1 (hX.1.1 i hi).2.2.1 hS hc.2.2.2.1 (hc.2.2.2.2.1 _ mw_1123) (fun x h => h) dJ0_charAt_5068e_8 ?_
  refine lv_iload_n hc.1 hc.2.1 dJ0_charAt_5068e_11 rfl (lv_at hl 1 rfl) ?_
  refine m_callSi0 (As := [.ref (G.2.2.2 i), .int k]) (rest := []) hc hW hl.1 (k_J1_charAt_3b067 l G i k hi hk) pk_J1_charAt_3b067 mw_325 [] rfl (by decide) rfl rfl (by decide) (by decide) dJ0_charAt_5068e_12 (fun H locs hW => ?_)
  exact m_zret hc hW (sc_nar _) dJ0_charAt_5068e_15
section MSt
variable {p : Program} {l : Launch} {e : Env} {s : State} {m : MethodId} {args : Array Value} {below : List Frame} {meth : Method} {c : Code} {H : Heap} {locs : List Loc} {Q : State → Prop}
variable {cc : ByteArray} {nL : Nat} {own : String} {ret : Option FieldType} {G : mG} {A : Nat → Prop} {pc : Nat} {ls : Array Slot} {rest : List Value} {ws : va_W} {α : Type} {o : α}
theorem m_slen {i idx kR : Nat} {X : Option α} (hc : mCx p s m args meth c cc nL own ret G A) (hW : mW G A s ws H locs) (hls : ls.size = nL) (hl : Cond.methodLink own idx yJ0_length_8abf5 ∈ mL) (hf : mg (decide (i < 2)) X = some o) (hroom : (rest.map fun v => v.category).sum ≤ 8) (hk : 1 < kR) (hdg : decode cc pc = .ok (.invokevirtual idx, 3))
    (kk : ∀ (H1 : Heap) (locs1 : List Loc), mW G A s ws H1 locs1 → X = some o → W p l e (mRm kR) s m args below meth c H1 locs1 0 0 Q (F0 m (pc + 3) ls (.int (nI (mLen.getD i 0)) :: rest))) : W p l e (mRm kR) s m args below meth c H locs 0 0 Q (F0 m pc ls (.ref (G.2.2.1 i) :: rest)) := by
  obtain ⟨hb, hX⟩ := mg_some hf
  have hi := of_decide_eq_true hb
  exact m_callVr (r := some (.int (nI (mLen.getD i 0)))) (As := []) (rest := rest) hc hW hls (k_J0_length_8abf5 l G i hi) pk_J0_length_8abf5 hl (vk_recv (locs := locs) hc.2.2.2.2.2.2.2.2.1 hi hW.2.2) rfl rfl hroom hk hdg (fun H1 L1 h => kk H1 L1 h hX)
theorem m_sch {i idx kR : Nat} {k : Int32} {X : Option α} (hc : mCx p s m args meth c cc nL own ret G A) (hW : mW G A s ws H locs) (hls : ls.size = nL) (hl : Cond.methodLink own idx yJ0_charAt_5068e ∈ mL) (hf : mg (decide (i < 2) && inB k (mLen.getD i 0)) X = some o) (hroom : (rest.map fun v => v.category).sum ≤ 8) (hk : 3 < kR) (hdg : decode cc pc = .ok (.invokevirtual idx, 3))
    (kk : ∀ (H1 : Heap) (locs1 : List Loc), mW G A s ws H1 locs1 → X = some o → W p l e (mRm kR) s m args below meth c H1 locs1 0 0 Q (F0 m (pc + 3) ls (.int (mCh i k.toNatClampNeg) :: rest))) : W p l e (mRm kR) s m args below meth c H locs 0 0 Q (F0 m pc ls (.int k :: .ref (G.2.2.1 i) :: rest)) := by
  obtain ⟨hb, hX⟩ := mg_some hf
  rw [Bool.and_eq_true] at hb
  have hi := of_decide_eq_true hb.1
  exact m_callVr (r := some (.int (mCh i k.toNatClampNeg))) (As := [.int k]) (rest := rest) hc hW hls (k_J0_charAt_5068e l G i k hi (inB_in hb.2)) pk_J0_charAt_5068e hl (vk_recv (locs := locs) hc.2.2.2.2.2.2.2.2.1 hi hW.2.2) rfl rfl hroom hk hdg (fun H1 L1 h => kk H1 L1 h hX)
end MSt
