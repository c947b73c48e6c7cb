set_option maxHeartbeats 4000000 in
set_option maxRecDepth 100000 in
theorem c_X2_mix (l : Launch) (E : gE) (a : Nat → Nat) (S : St) (mk rk rv : Nat → Int32) (F : va_W) (d24 x24 : Int64) : gMl l E yX2_mix wsX2_mix ({ frames := 0, cells := 0, slots := 0, locals := 0 }) (xW E a S mk rk rv ++ F) [.long d24, .long x24] (d24 * 31 + x24) (xW E a S mk rk rv ++ F) 0 0 := by
  refine gMl.of (cc := cX2_mix) (maxL := 4) (by decide) rfl (Nat.le_of_ble_eq_true rfl) ?_
  intro p e s m args below meth c A C ls hl hO
  have hl : lv_has ls 4 [(0, .long d24), (2, .long x24)] := hl
  refine lv_lload_n C.1 C.2.1 dX2_mix_0 rfl (lv_at hl 0 rfl) ?_
  refine lv_ldc2 (v := 31) C.1 C.2.1 C.2.2.2.1 (C.2.2.2.2.1 (.constantLong RX2 211 (31)) (by decide +kernel)) dX2_mix_1 ?_
  refine lv_lmul C.1 C.2.1 dX2_mix_4 ?_
  refine lv_lload_n C.1 C.2.1 dX2_mix_5 rfl (lv_at hl 1 rfl) ?_
  refine lv_ladd C.1 C.2.1 dX2_mix_6 ?_
  exact gRl C hO rfl dX2_mix_7 (Nat.le_of_ble_eq_true rfl) (Nat.le_of_ble_eq_true rfl)

set_option maxHeartbeats 4000000 in
set_option maxRecDepth 100000 in
theorem c_X2_mixKeys (l : Launch) (E : gE) (a : Nat → Nat) (S : St) (mk rk rv : Nat → Int32) (F : va_W) (d24 : Int64) (hn : s_n S ≤ 48) : gMl l E yX2_mixKeys wsX2_mixKeys ({ frames := 2, cells := 0, slots := 0, locals := 46 }) (xW E a S mk rk rv ++ F) [.ref (a 0), .long d24] (dKeys S d24 10) (xW E a S mk rk rv ++ F) 0 0 := by
  refine gMl.of (cc := cX2_mixKeys) (maxL := 6) (by decide) rfl (Nat.le_of_ble_eq_true rfl) ?_
  intro p e s m args below meth c A C ls hl hO
  have hl : lv_has ls 6 [(0, .ref (a 0)), (1, .long d24)] := hl
  have iX2 : ∀ w ∈ u_ws RX2 TX2 9, w ∈ wsX2_mixKeys := by decide +kernel
  have w10 : Cond.fieldLink RX2 10 "ParrotLog" "log" "LParrotLog$Log;" ∈ wsX2_mixKeys := by decide +kernel
  refine lv_lload_n C.1 C.2.1 dX2_mixKeys_0 rfl (lv_at hl 1 rfl) ?_
  refine lv_lstore_n (lv' := [(3, .long d24), (0, .ref (a 0)), (1, .long d24)]) C.1 C.2.1 dX2_mixKeys_1 rfl hl (by decide) rfl (fun ls hl => ?_)
  refine lv_iconst (v := 0) C.1 C.2.1 dX2_mixKeys_2 (by decide) ?_
  refine lv_istore (lv' := [(5, .int 0), (3, .long d24), (0, .ref (a 0)), (1, .long d24)]) C.1 C.2.1 dX2_mixKeys_3 hl (by decide) rfl (fun ls hl => ?_)
  have lp24 : ∀ (f : Nat) (c9 : Nat), (11 ≤ c9 + f) → (c9 ≤ 10) → ∀ (H : Heap) (locs : List Loc), gO E A s (xW E a S mk rk rv ++ F) H locs → ∀ ls : Array Slot, lv_has ls 6 [(0, .ref (a 0)), (3, .long (dKeys S d24 c9)), (5, .int (nI c9))] → W p l e ({ frames := 2, cells := 0, slots := 0, locals := 46 } : Room) s m args below meth c H locs 0 0 (MQ below (gQl E A (dKeys S d24 10) (xW E a S mk rk rv ++ F)) args s 0 0 A) (F0 m 5 ls []) := by
    intro f
    induction f with
    | zero =>
      intro c9 hf hcc9
      exact absurd hf (by omega)
    | succ f ih_lp24 =>
      intro c9 hf hcc9 H locs hO ls hl
      refine lv_iload C.1 C.2.1 dX2_mixKeys_5 (lv_at hl 2 rfl) ?_
      refine lv_bipush (v := nI 10) C.1 C.2.1 dX2_mixKeys_7 (by decide) ?_
      refine gGeN (x := c9) (y := 10) (tgt := 63) C.1 C.2.1 (by omega) (by omega) dX2_mixKeys_9 (by decide) (fun c_1 => ?_) (fun c_1 => ?_)
      · refine lv_lload_n C.1 C.2.1 dX2_mixKeys_63 rfl (lv_at hl 1 rfl) ?_
        exact gRl C hO (by rw [show c9 = 10 by omega]) dX2_mixKeys_64 (Nat.le_of_ble_eq_true rfl) (Nat.le_of_ble_eq_true rfl)
      · refine lv_lload_n C.1 C.2.1 dX2_mixKeys_12 rfl (lv_at hl 1 rfl) ?_
        refine lv_aload_n C.1 C.2.1 dX2_mixKeys_13 rfl (lv_at hl 0 rfl) ?_
        refine gGet (v := .ref (a 1)) (ref := RX2) (Cn := RX2) (T := TX2) (N := 9) C iX2 hO 0 rfl rfl 0 (by decide) w10 (fun _ h9 => h9) rfl dX2_mixKeys_14 ?_
        refine lv_iload C.1 C.2.1 dX2_mixKeys_17 (lv_at hl 2 rfl) ?_
        refine gCallN_i (As := [.int (nI c9)]) (rest := [.long (dKeys S d24 c9)]) C hO (c_X0_latestOffset l E a S mk rk rv F (nI c9) (by omega)) ⟨va_cnB (host := RX2) 1 C.2.2.2.2.1 gX2_mixKeys_X0_latestOffset_n149 rfl rfl rfl (C.2.2.2.2.2.2.2.1.2.1 (.methodLinkNest RX2 149 yX0_latestOffset RX2) (by decide +kernel)) (C.2.2.2.2.1 (.initialized RX0) (by decide +kernel)) (by decide +kernel) ⟨(Nat.le_of_ble_eq_true rfl), (Nat.le_of_ble_eq_true rfl)⟩, C.2.2.2.2.1 (.instanceMethod yX0_latestOffset) (by decide +kernel), C.2.2.2.2.1 (.selects RX0 yX0_latestOffset yX0_latestOffset) (by decide +kernel)⟩ (va_recv C.2.2.2.2.2.2.2.1.1 hO.1 (ci := 0) (q0 := 1) rfl rfl) rfl hl.1 rfl (Nat.le_of_ble_eq_true rfl) dX2_mixKeys_19 ⟨(Nat.le_of_ble_eq_true rfl), (Nat.le_of_ble_eq_true rfl)⟩ (fun H locs hO => ?_)
        refine lv_i2l C.1 C.2.1 dX2_mixKeys_22 rfl ?_
        refine gCallS_l (As := [.long (dKeys S d24 c9), .long (Int32.toInt64 (s_lo S (nI c9)))]) (rest := []) C hO (c_X2_mix l E a S mk rk rv F (dKeys S d24 c9) (Int32.toInt64 (s_lo S (nI c9)))) (cwS 2 C.2.2.2.2.1 gX2_mixKeys_X2_mix rfl rfl rfl (by decide +kernel) ⟨(Nat.le_of_ble_eq_true rfl), (Nat.le_of_ble_eq_true rfl)⟩) rfl hl.1 rfl (Nat.le_of_ble_eq_true rfl) dX2_mixKeys_23 ⟨(Nat.le_of_ble_eq_true rfl), (Nat.le_of_ble_eq_true rfl)⟩ (fun H locs hO => ?_)
        refine lv_lstore_n (lv' := [(3, .long (mx (dKeys S d24 c9) (s_lo S (nI c9)))), (0, .ref (a 0)), (5, .int (nI c9))]) C.1 C.2.1 dX2_mixKeys_26 rfl hl (by decide) rfl (fun ls hl => ?_)
        refine lv_lload_n C.1 C.2.1 dX2_mixKeys_27 rfl (lv_at hl 0 rfl) ?_
        refine lv_aload_n C.1 C.2.1 dX2_mixKeys_28 rfl (lv_at hl 1 rfl) ?_
        refine gGet (v := .ref (a 1)) (ref := RX2) (Cn := RX2) (T := TX2) (N := 9) C iX2 hO 0 rfl rfl 0 (by decide) w10 (fun _ h9 => h9) rfl dX2_mixKeys_29 ?_
        refine lv_iload C.1 C.2.1 dX2_mixKeys_32 (lv_at hl 2 rfl) ?_
        refine gCallN_i (As := [.int (nI c9)]) (rest := [.long (mx (dKeys S d24 c9) (s_lo S (nI c9)))]) C hO (c_X0_latestValue l E a S mk rk rv F (nI c9) (by omega)) ⟨va_cnB (host := RX2) 1 C.2.2.2.2.1 gX2_mixKeys_X0_latestValue_n152 rfl rfl rfl (C.2.2.2.2.2.2.2.1.2.1 (.methodLinkNest RX2 152 yX0_latestValue RX2) (by decide +kernel)) (C.2.2.2.2.1 (.initialized RX0) (by decide +kernel)) (by decide +kernel) ⟨(Nat.le_of_ble_eq_true rfl), (Nat.le_of_ble_eq_true rfl)⟩, C.2.2.2.2.1 (.instanceMethod yX0_latestValue) (by decide +kernel), C.2.2.2.2.1 (.selects RX0 yX0_latestValue yX0_latestValue) (by decide +kernel)⟩ (va_recv C.2.2.2.2.2.2.2.1.1 hO.1 (ci := 0) (q0 := 1) rfl rfl) rfl hl.1 rfl (Nat.le_of_ble_eq_true rfl) dX2_mixKeys_34 ⟨(Nat.le_of_ble_eq_true rfl), (Nat.le_of_ble_eq_true rfl)⟩ (fun H locs hO => ?_)
        refine lv_i2l C.1 C.2.1 dX2_mixKeys_37 rfl ?_
        refine gCallS_l (As := [.long (mx (dKeys S d24 c9) (s_lo S (nI c9))), .long (Int32.toInt64 (s_wv S (nI c9)))]) (rest := []) C hO (c_X2_mix l E a S mk rk rv F (mx (dKeys S d24 c9) (s_lo S (nI c9))) (Int32.toInt64 (s_wv S (nI c9)))) (cwS 2 C.2.2.2.2.1 gX2_mixKeys_X2_mix rfl rfl rfl (by decide +kernel) ⟨(Nat.le_of_ble_eq_true rfl), (Nat.le_of_ble_eq_true rfl)⟩) rfl hl.1 rfl (Nat.le_of_ble_eq_true rfl) dX2_mixKeys_38 ⟨(Nat.le_of_ble_eq_true rfl), (Nat.le_of_ble_eq_true rfl)⟩ (fun H locs hO => ?_)
        refine lv_lstore_n (lv' := [(3, .long (mx (mx (dKeys S d24 c9) (s_lo S (nI c9))) (s_wv S (nI c9)))), (0, .ref (a 0)), (5, .int (nI c9))]) C.1 C.2.1 dX2_mixKeys_41 rfl hl (by decide) rfl (fun ls hl => ?_)
        refine lv_lload_n C.1 C.2.1 dX2_mixKeys_42 rfl (lv_at hl 0 rfl) ?_
        refine lv_aload_n C.1 C.2.1 dX2_mixKeys_43 rfl (lv_at hl 1 rfl) ?_
        refine gGet (v := .ref (a 1)) (ref := RX2) (Cn := RX2) (T := TX2) (N := 9) C iX2 hO 0 rfl rfl 0 (by decide) w10 (fun _ h9 => h9) rfl dX2_mixKeys_44 ?_
        refine lv_iload C.1 C.2.1 dX2_mixKeys_47 (lv_at hl 2 rfl) ?_
        refine gCallN_i (As := [.int (nI c9)]) (rest := [.long (mx (mx (dKeys S d24 c9) (s_lo S (nI c9))) (s_wv S (nI c9)))]) C hO (c_X0_countKey l E a S mk rk rv F (nI c9) (by omega)) ⟨va_cnB (host := RX2) 1 C.2.2.2.2.1 gX2_mixKeys_X0_countKey_n155 rfl rfl rfl (C.2.2.2.2.2.2.2.1.2.1 (.methodLinkNest RX2 155 yX0_countKey RX2) (by decide +kernel)) (C.2.2.2.2.1 (.initialized RX0) (by decide +kernel)) (by decide +kernel) ⟨(Nat.le_of_ble_eq_true rfl), (Nat.le_of_ble_eq_true rfl)⟩, C.2.2.2.2.1 (.instanceMethod yX0_countKey) (by decide +kernel), C.2.2.2.2.1 (.selects RX0 yX0_countKey yX0_countKey) (by decide +kernel)⟩ (va_recv C.2.2.2.2.2.2.2.1.1 hO.1 (ci := 0) (q0 := 1) rfl rfl) rfl hl.1 rfl (Nat.le_of_ble_eq_true rfl) dX2_mixKeys_49 ⟨(Nat.le_of_ble_eq_true rfl), (Nat.le_of_ble_eq_true rfl)⟩ (fun H locs hO => ?_)
        refine lv_i2l C.1 C.2.1 dX2_mixKeys_52 rfl ?_
        refine gCallS_l (As := [.long (mx (mx (dKeys S d24 c9) (s_lo S (nI c9))) (s_wv S (nI c9))), .long (Int32.toInt64 (nI (cnt (s_key S) (nI c9) (s_n S))))]) (rest := []) C hO (c_X2_mix l E a S mk rk rv F (mx (mx (dKeys S d24 c9) (s_lo S (nI c9))) (s_wv S (nI c9))) (Int32.toInt64 (nI (cnt (s_key S) (nI c9) (s_n S))))) (cwS 2 C.2.2.2.2.1 gX2_mixKeys_X2_mix rfl rfl rfl (by decide +kernel) ⟨(Nat.le_of_ble_eq_true rfl), (Nat.le_of_ble_eq_true rfl)⟩) rfl hl.1 rfl (Nat.le_of_ble_eq_true rfl) dX2_mixKeys_53 ⟨(Nat.le_of_ble_eq_true rfl), (Nat.le_of_ble_eq_true rfl)⟩ (fun H locs hO => ?_)
        refine lv_lstore_n (lv' := [(3, .long (mx (mx (mx (dKeys S d24 c9) (s_lo S (nI c9))) (s_wv S (nI c9))) (nI (cnt (s_key S) (nI c9) (s_n S))))), (0, .ref (a 0)), (5, .int (nI c9))]) C.1 C.2.1 dX2_mixKeys_56 rfl hl (by decide) rfl (fun ls hl => ?_)
        refine gInc (j := c9) (k := 2) (lv' := [(5, .int (nI (c9 + 1))), (3, .long (mx (mx (mx (dKeys S d24 c9) (s_lo S (nI c9))) (s_wv S (nI c9))) (nI (cnt (s_key S) (nI c9) (s_n S))))), (0, .ref (a 0))]) C.1 C.2.1 dX2_mixKeys_57 hl rfl (by decide) rfl (fun ls hl => ?_)
        refine lv_goto (tgt := 5) C.1 C.2.1 dX2_mixKeys_60 (by decide) ?_
        refine W.widen (k := 0) (n := 0) (by omega) (by omega) ?_
        exact ih_lp24 (c9 + 1) (by omega) (by omega) _ _ hO _ (lv_sub hl [2, 1, 0] rfl)
  exact lp24 11 0 (by omega) (by omega) _ _ hO _ (lv_sub hl [2, 1, 0] rfl)

set_option maxHeartbeats 4000000 in
set_option maxRecDepth 100000 in
theorem c_X2_mixStorms (l : Launch) (E : gE) (a : Nat → Nat) (S : St) (mk rk rv : Nat → Int32) (F : va_W) (d24 : Int64) (hn : s_n S ≤ 48) (hsc : s_sc S ≤ 8) : gMl l E yX2_mixStorms wsX2_mixStorms ({ frames := 2, cells := 0, slots := 0, locals := 45 }) (xW E a S mk rk rv ++ F) [.ref (a 0), .long d24] (dStorms S d24 (s_sc S)) (xW E a S mk rk rv ++ F) 0 0 := by
  refine gMl.of (cc := cX2_mixStorms) (maxL := 6) (by decide) rfl (Nat.le_of_ble_eq_true rfl) ?_
  intro p e s m args below meth c A C ls hl hO
  have hl : lv_has ls 6 [(0, .ref (a 0)), (1, .long d24)] := hl
  have iX2 : ∀ w ∈ u_ws RX2 TX2 9, w ∈ wsX2_mixStorms := by decide +kernel
  have w59 : Cond.fieldLink RX2 59 "ParrotLog" "stormCount" "I" ∈ wsX2_mixStorms := by decide +kernel
  have w16 : Cond.fieldLink RX2 16 "ParrotLog" "saidInStorm" "[I" ∈ wsX2_mixStorms := by decide +kernel
  have w10 : Cond.fieldLink RX2 10 "ParrotLog" "log" "LParrotLog$Log;" ∈ wsX2_mixStorms := by decide +kernel
  refine lv_lload_n C.1 C.2.1 dX2_mixStorms_0 rfl (lv_at hl 1 rfl) ?_
  refine lv_lstore_n (lv' := [(3, .long d24), (0, .ref (a 0)), (1, .long d24)]) C.1 C.2.1 dX2_mixStorms_1 rfl hl (by decide) rfl (fun ls hl => ?_)
  refine lv_iconst (v := 0) C.1 C.2.1 dX2_mixStorms_2 (by decide) ?_
  refine lv_istore (lv' := [(5, .int 0), (3, .long d24), (0, .ref (a 0)), (1, .long d24)]) C.1 C.2.1 dX2_mixStorms_3 hl (by decide) rfl (fun ls hl => ?_)
  have lp24 : ∀ (f : Nat) (c9 : Nat), (s_sc S + 1 ≤ c9 + f) → (c9 ≤ s_sc S) → ∀ (H : Heap) (locs : List Loc), gO E A s (xW E a S mk rk rv ++ F) H locs → ∀ ls : Array Slot, lv_has ls 6 [(0, .ref (a 0)), (3, .long (dStorms S d24 c9)), (5, .int (nI c9))] → W p l e ({ frames := 2, cells := 0, slots := 0, locals := 45 } : Room) s m args below meth c H locs 0 0 (MQ below (gQl E A (dStorms S d24 (s_sc S)) (xW E a S mk rk rv ++ F)) args s 0 0 A) (F0 m 5 ls []) := by
    intro f
    induction f with
    | zero =>
      intro c9 hf hcc9
      exact absurd hf (by omega)
    | succ f ih_lp24 =>
      intro c9 hf hcc9 H locs hO ls hl
      refine lv_iload C.1 C.2.1 dX2_mixStorms_5 (lv_at hl 2 rfl) ?_
      refine lv_aload_n C.1 C.2.1 dX2_mixStorms_7 rfl (lv_at hl 0 rfl) ?_
      refine gGet (v := .int (nI (s_sc S))) (ref := RX2) (Cn := RX2) (T := TX2) (N := 9) C iX2 hO 0 rfl rfl 6 (by decide) w59 (fun _ h9 => h9) rfl dX2_mixStorms_8 ?_
      refine gGeN (x := c9) (y := (s_sc S)) (tgt := 48) C.1 C.2.1 (by omega) (by omega) dX2_mixStorms_11 (by decide) (fun c_1 => ?_) (fun c_1 => ?_)
      · refine lv_lload_n C.1 C.2.1 dX2_mixStorms_48 rfl (lv_at hl 1 rfl) ?_
        exact gRl C hO (by rw [show c9 = s_sc S by omega]) dX2_mixStorms_49 (Nat.le_of_ble_eq_true rfl) (Nat.le_of_ble_eq_true rfl)
      · refine lv_lload_n C.1 C.2.1 dX2_mixStorms_14 rfl (lv_at hl 1 rfl) ?_
        refine lv_aload_n C.1 C.2.1 dX2_mixStorms_15 rfl (lv_at hl 0 rfl) ?_
        refine gGet (v := .ref (a 7)) (ref := RX2) (Cn := RX2) (T := TX2) (N := 9) C iX2 hO 0 rfl rfl 1 (by decide) w16 (fun _ h9 => h9) rfl dX2_mixStorms_16 ?_
        refine lv_iload C.1 C.2.1 dX2_mixStorms_19 (lv_at hl 2 rfl) ?_
        refine gIald (v := (s_said S) c9) (j := c9) C hO 7 rfl (by omega) (by decide) rfl dX2_mixStorms_21 ?_
        refine lv_i2l C.1 C.2.1 dX2_mixStorms_22 rfl ?_
        refine gCallS_l (As := [.long (dStorms S d24 c9), .long (Int32.toInt64 ((s_said S) c9))]) (rest := []) C hO (c_X2_mix l E a S mk rk rv F (dStorms S d24 c9) (Int32.toInt64 ((s_said S) c9))) (cwS 2 C.2.2.2.2.1 gX2_mixStorms_X2_mix rfl rfl rfl (by decide +kernel) ⟨(Nat.le_of_ble_eq_true rfl), (Nat.le_of_ble_eq_true rfl)⟩) rfl hl.1 rfl (Nat.le_of_ble_eq_true rfl) dX2_mixStorms_23 ⟨(Nat.le_of_ble_eq_true rfl), (Nat.le_of_ble_eq_true rfl)⟩ (fun H locs hO => ?_)
        refine lv_lstore_n (lv' := [(3, .long (mx (dStorms S d24 c9) ((s_said S) c9))), (0, .ref (a 0)), (5, .int (nI c9))]) C.1 C.2.1 dX2_mixStorms_26 rfl hl (by decide) rfl (fun ls hl => ?_)
        refine lv_lload_n C.1 C.2.1 dX2_mixStorms_27 rfl (lv_at hl 0 rfl) ?_
        refine lv_aload_n C.1 C.2.1 dX2_mixStorms_28 rfl (lv_at hl 1 rfl) ?_
        refine gGet (v := .ref (a 1)) (ref := RX2) (Cn := RX2) (T := TX2) (N := 9) C iX2 hO 0 rfl rfl 0 (by decide) w10 (fun _ h9 => h9) rfl dX2_mixStorms_29 ?_
        refine lv_iload C.1 C.2.1 dX2_mixStorms_32 (lv_at hl 2 rfl) ?_
        refine gCallN_i (As := [.int (nI c9)]) (rest := [.long (mx (dStorms S d24 c9) ((s_said S) c9))]) C hO (c_X0_countStorm l E a S mk rk rv F (nI c9) (by omega)) ⟨va_cnB (host := RX2) 1 C.2.2.2.2.1 gX2_mixStorms_X0_countStorm_n158 rfl rfl rfl (C.2.2.2.2.2.2.2.1.2.1 (.methodLinkNest RX2 158 yX0_countStorm RX2) (by decide +kernel)) (C.2.2.2.2.1 (.initialized RX0) (by decide +kernel)) (by decide +kernel) ⟨(Nat.le_of_ble_eq_true rfl), (Nat.le_of_ble_eq_true rfl)⟩, C.2.2.2.2.1 (.instanceMethod yX0_countStorm) (by decide +kernel), C.2.2.2.2.1 (.selects RX0 yX0_countStorm yX0_countStorm) (by decide +kernel)⟩ (va_recv C.2.2.2.2.2.2.2.1.1 hO.1 (ci := 0) (q0 := 1) rfl rfl) rfl hl.1 rfl (Nat.le_of_ble_eq_true rfl) dX2_mixStorms_34 ⟨(Nat.le_of_ble_eq_true rfl), (Nat.le_of_ble_eq_true rfl)⟩ (fun H locs hO => ?_)
        refine lv_i2l C.1 C.2.1 dX2_mixStorms_37 rfl ?_
        refine gCallS_l (As := [.long (mx (dStorms S d24 c9) ((s_said S) c9)), .long (Int32.toInt64 (nI (cnt (s_sto S) (nI c9) (s_n S))))]) (rest := []) C hO (c_X2_mix l E a S mk rk rv F (mx (dStorms S d24 c9) ((s_said S) c9)) (Int32.toInt64 (nI (cnt (s_sto S) (nI c9) (s_n S))))) (cwS 2 C.2.2.2.2.1 gX2_mixStorms_X2_mix rfl rfl rfl (by decide +kernel) ⟨(Nat.le_of_ble_eq_true rfl), (Nat.le_of_ble_eq_true rfl)⟩) rfl hl.1 rfl (Nat.le_of_ble_eq_true rfl) dX2_mixStorms_38 ⟨(Nat.le_of_ble_eq_true rfl), (Nat.le_of_ble_eq_true rfl)⟩ (fun H locs hO => ?_)
        refine lv_lstore_n (lv' := [(3, .long (mx (mx (dStorms S d24 c9) ((s_said S) c9)) (nI (cnt (s_sto S) (nI c9) (s_n S))))), (0, .ref (a 0)), (5, .int (nI c9))]) C.1 C.2.1 dX2_mixStorms_41 rfl hl (by decide) rfl (fun ls hl => ?_)
        refine gInc (j := c9) (k := 2) (lv' := [(5, .int (nI (c9 + 1))), (3, .long (mx (mx (dStorms S d24 c9) ((s_said S) c9)) (nI (cnt (s_sto S) (nI c9) (s_n S))))), (0, .ref (a 0))]) C.1 C.2.1 dX2_mixStorms_42 hl rfl (by decide) rfl (fun ls hl => ?_)
        refine lv_goto (tgt := 5) C.1 C.2.1 dX2_mixStorms_45 (by decide) ?_
        refine W.widen (k := 0) (n := 0) (by omega) (by omega) ?_
        exact ih_lp24 (c9 + 1) (by omega) (by omega) _ _ hO _ (lv_sub hl [2, 1, 0] rfl)
  exact lp24 (s_sc S + 1) 0 (by omega) (Nat.zero_le _) _ _ hO _ (lv_sub hl [2, 1, 0] rfl)

set_option maxHeartbeats 4000000 in
set_option maxRecDepth 100000 in
theorem c_X2_mixShips (l : Launch) (E : gE) (a : Nat → Nat) (S : St) (mk rk rv : Nat → Int32) (F : va_W) (d24 : Int64) (hI : s_inv S) : gMl l E yX2_mixShips wsX2_mixShips ({ frames := 3, cells := 0, slots := 0, locals := 74 }) (xW E a S mk rk rv ++ F) [.ref (a 0), .long d24] (dShips S d24 (s_sh S)) (xW E a S (mkU (s_cm S) mk (s_n S)) rk rv ++ F) 0 0 := by
  refine gMl.of (cc := cX2_mixShips) (maxL := 7) (by decide) rfl (Nat.le_of_ble_eq_true rfl) ?_
  intro p e s m args below meth c A C ls hl hO
  have hl : lv_has ls 7 [(0, .ref (a 0)), (1, .long d24)] := hl
  have iX1 : ∀ w ∈ u_ws RX1 TX1 5, w ∈ wsX2_mixShips := by decide +kernel
  have iX2 : ∀ w ∈ u_ws RX2 TX2 9, w ∈ wsX2_mixShips := by decide +kernel
  have w90 : Cond.fieldLink RX2 90 "ParrotLog" "shipCount" "I" ∈ wsX2_mixShips := by decide +kernel
  have w22 : Cond.fieldLink RX2 22 "ParrotLog" "fleet" "[LParrotLog$Ship;" ∈ wsX2_mixShips := by decide +kernel
  have w10 : Cond.fieldLink RX2 10 "ParrotLog" "log" "LParrotLog$Log;" ∈ wsX2_mixShips := by decide +kernel
  obtain ⟨hn, hsh, hsc, hOn, hOb, hok9, hpc9, hp0⟩ := hI
  refine lv_lload_n C.1 C.2.1 dX2_mixShips_0 rfl (lv_at hl 1 rfl) ?_
  refine lv_lstore_n (lv' := [(3, .long d24), (0, .ref (a 0)), (1, .long d24)]) C.1 C.2.1 dX2_mixShips_1 rfl hl (by decide) rfl (fun ls hl => ?_)
  refine lv_aload_n C.1 C.2.1 dX2_mixShips_2 rfl (lv_at hl 1 rfl) ?_
  refine gCall_v (As := []) (rest := []) C hO (c_X2_markCompacted l E a S mk rk rv F (by omega) (by omega)) (cwV 0 C.2.2.2.2.1 gX2_mixShips_X2_markCompacted rfl rfl rfl (by decide +kernel) ⟨(Nat.le_of_ble_eq_true rfl), (Nat.le_of_ble_eq_true rfl)⟩) (va_recv C.2.2.2.2.2.2.2.1.1 hO.1 (ci := 2) (q0 := 0) rfl rfl) rfl hl.1 rfl (Nat.le_of_ble_eq_true rfl) dX2_mixShips_3 ⟨(Nat.le_of_ble_eq_true rfl), (Nat.le_of_ble_eq_true rfl)⟩ (fun H locs hO => ?_)
  have hO : gO E A s (xW E a S (mkU (s_cm S) mk (s_n S)) rk rv ++ F) H locs := hO
  refine lv_iconst (v := 0) C.1 C.2.1 dX2_mixShips_6 (by decide) ?_
  refine lv_istore (lv' := [(5, .int 0), (3, .long d24), (0, .ref (a 0)), (1, .long d24)]) C.1 C.2.1 dX2_mixShips_7 hl (by decide) rfl (fun ls hl => ?_)
  have lp24 : ∀ (f : Nat) (c9 : Nat), (s_sh S + 1 ≤ c9 + f) → (c9 ≤ s_sh S) → ∀ (H : Heap) (locs : List Loc), gO E A s (xW E a S (mkU (s_cm S) mk (s_n S)) rk rv ++ F) H locs → ∀ ls : Array Slot, lv_has ls 7 [(0, .ref (a 0)), (3, .long (dShips S d24 c9)), (5, .int (nI c9))] → W p l e ({ frames := 3, cells := 0, slots := 0, locals := 74 } : Room) s m args below meth c H locs 0 0 (MQ below (gQl E A (dShips S d24 (s_sh S)) (xW E a S (mkU (s_cm S) mk (s_n S)) rk rv ++ F)) args s 0 0 A) (F0 m 9 ls []) := by
    intro f
    induction f with
    | zero =>
      intro c9 hf hcc9
      exact absurd hf (by omega)
    | succ f ih_lp24 =>
      intro c9 hf hcc9 H locs hO ls hl
      refine lv_iload C.1 C.2.1 dX2_mixShips_9 (lv_at hl 2 rfl) ?_
      refine lv_aload_n C.1 C.2.1 dX2_mixShips_11 rfl (lv_at hl 0 rfl) ?_
      refine gGet (v := .int (nI (s_sh S))) (ref := RX2) (Cn := RX2) (T := TX2) (N := 9) C iX2 hO 0 rfl rfl 8 (by decide) w90 (fun _ h9 => h9) rfl dX2_mixShips_12 ?_
      refine gGeN (x := c9) (y := (s_sh S)) (tgt := 121) C.1 C.2.1 (by omega) (by omega) dX2_mixShips_15 (by decide) (fun c_1 => ?_) (fun c_1 => ?_)
      · refine lv_lload_n C.1 C.2.1 dX2_mixShips_121 rfl (lv_at hl 1 rfl) ?_
        exact gRl C hO (by rw [show c9 = s_sh S by omega]) dX2_mixShips_122 (Nat.le_of_ble_eq_true rfl) (Nat.le_of_ble_eq_true rfl)
      · refine lv_aload_n C.1 C.2.1 dX2_mixShips_18 rfl (lv_at hl 0 rfl) ?_
        refine gGet (v := .ref (a 8)) (ref := RX2) (Cn := RX2) (T := TX2) (N := 9) C iX2 hO 0 rfl rfl 2 (by decide) w22 (fun _ h9 => h9) rfl dX2_mixShips_19 ?_
        refine lv_iload C.1 C.2.1 dX2_mixShips_22 (lv_at hl 2 rfl) ?_
        refine gAald (v := a (11 + c9)) (j := c9) C hO 8 rfl (by omega) (by decide) (xFl_at (by omega)) dX2_mixShips_24 ?_
        refine lv_astore (lv' := [(6, .ref (a (11 + c9))), (0, .ref (a 0)), (3, .long (dShips S d24 c9)), (5, .int (nI c9))]) C.1 C.2.1 dX2_mixShips_25 hl (by decide) rfl (fun ls hl => ?_)
        refine lv_lload_n C.1 C.2.1 dX2_mixShips_27 rfl (lv_at hl 2 rfl) ?_
        refine lv_aload C.1 C.2.1 dX2_mixShips_28 (lv_at hl 0 rfl) ?_
        refine gGetN (v := .int ((s_at S) c9)) (ref := RX1) (Cn := RX1) (T := TX1) (N := 5) (host := RX2) C iX1 hO (11 + c9) (xw_ship (by omega)) rfl 2 (by decide) (by decide +kernel) (fun _ h9 => h9) rfl dX2_mixShips_30 ?_
        refine lv_i2l C.1 C.2.1 dX2_mixShips_33 rfl ?_
        refine gCallS_l (As := [.long (dShips S d24 c9), .long (Int32.toInt64 ((s_at S) c9))]) (rest := []) C hO (c_X2_mix l E a S (mkU (s_cm S) mk (s_n S)) rk rv F (dShips S d24 c9) (Int32.toInt64 ((s_at S) c9))) (cwS 2 C.2.2.2.2.1 gX2_mixShips_X2_mix rfl rfl rfl (by decide +kernel) ⟨(Nat.le_of_ble_eq_true rfl), (Nat.le_of_ble_eq_true rfl)⟩) rfl hl.1 rfl (Nat.le_of_ble_eq_true rfl) dX2_mixShips_34 ⟨(Nat.le_of_ble_eq_true rfl), (Nat.le_of_ble_eq_true rfl)⟩ (fun H locs hO => ?_)
        refine lv_lstore_n (lv' := [(3, .long (mx (dShips S d24 c9) ((s_at S) c9))), (6, .ref (a (11 + c9))), (0, .ref (a 0)), (5, .int (nI c9))]) C.1 C.2.1 dX2_mixShips_37 rfl hl (by decide) rfl (fun ls hl => ?_)
        refine lv_lload_n C.1 C.2.1 dX2_mixShips_38 rfl (lv_at hl 0 rfl) ?_
        refine lv_aload_n C.1 C.2.1 dX2_mixShips_39 rfl (lv_at hl 2 rfl) ?_
        refine lv_aload C.1 C.2.1 dX2_mixShips_40 (lv_at hl 1 rfl) ?_
        refine gCall_i (As := [.ref (a (11 + c9))]) (rest := [.long (mx (dShips S d24 c9) ((s_at S) c9))]) C hO (c_X2_lag l E a S (mkU (s_cm S) mk (s_n S)) rk rv F c9 (by omega) (by omega)) (cwV 1 C.2.2.2.2.1 gX2_mixShips_X2_lag rfl rfl rfl (by decide +kernel) ⟨(Nat.le_of_ble_eq_true rfl), (Nat.le_of_ble_eq_true rfl)⟩) (va_recv C.2.2.2.2.2.2.2.1.1 hO.1 (ci := 2) (q0 := 0) rfl rfl) rfl hl.1 rfl (Nat.le_of_ble_eq_true rfl) dX2_mixShips_42 ⟨(Nat.le_of_ble_eq_true rfl), (Nat.le_of_ble_eq_true rfl)⟩ (fun H locs hO => ?_)
        refine lv_i2l C.1 C.2.1 dX2_mixShips_45 rfl ?_
        refine gCallS_l (As := [.long (mx (dShips S d24 c9) ((s_at S) c9)), .long (Int32.toInt64 (nI (s_lag S c9)))]) (rest := []) C hO (c_X2_mix l E a S (mkU (s_cm S) mk (s_n S)) rk rv F (mx (dShips S d24 c9) ((s_at S) c9)) (Int32.toInt64 (nI (s_lag S c9)))) (cwS 2 C.2.2.2.2.1 gX2_mixShips_X2_mix rfl rfl rfl (by decide +kernel) ⟨(Nat.le_of_ble_eq_true rfl), (Nat.le_of_ble_eq_true rfl)⟩) rfl hl.1 rfl (Nat.le_of_ble_eq_true rfl) dX2_mixShips_46 ⟨(Nat.le_of_ble_eq_true rfl), (Nat.le_of_ble_eq_true rfl)⟩ (fun H locs hO => ?_)
        refine lv_lstore_n (lv' := [(3, .long (mx (mx (dShips S d24 c9) ((s_at S) c9)) (nI (s_lag S c9)))), (6, .ref (a (11 + c9))), (0, .ref (a 0)), (5, .int (nI c9))]) C.1 C.2.1 dX2_mixShips_49 rfl hl (by decide) rfl (fun ls hl => ?_)
        refine lv_lload_n C.1 C.2.1 dX2_mixShips_50 rfl (lv_at hl 0 rfl) ?_
        refine lv_aload C.1 C.2.1 dX2_mixShips_51 (lv_at hl 1 rfl) ?_
        refine gGetN (v := .int ((s_hd S) c9)) (ref := RX1) (Cn := RX1) (T := TX1) (N := 5) (host := RX2) C iX1 hO (11 + c9) (xw_ship (by omega)) rfl 3 (by decide) (by decide +kernel) (fun _ h9 => h9) rfl dX2_mixShips_53 ?_
        refine lv_i2l C.1 C.2.1 dX2_mixShips_56 rfl ?_
        refine gCallS_l (As := [.long (mx (mx (dShips S d24 c9) ((s_at S) c9)) (nI (s_lag S c9))), .long (Int32.toInt64 ((s_hd S) c9))]) (rest := []) C hO (c_X2_mix l E a S (mkU (s_cm S) mk (s_n S)) rk rv F (mx (mx (dShips S d24 c9) ((s_at S) c9)) (nI (s_lag S c9))) (Int32.toInt64 ((s_hd S) c9))) (cwS 2 C.2.2.2.2.1 gX2_mixShips_X2_mix rfl rfl rfl (by decide +kernel) ⟨(Nat.le_of_ble_eq_true rfl), (Nat.le_of_ble_eq_true rfl)⟩) rfl hl.1 rfl (Nat.le_of_ble_eq_true rfl) dX2_mixShips_57 ⟨(Nat.le_of_ble_eq_true rfl), (Nat.le_of_ble_eq_true rfl)⟩ (fun H locs hO => ?_)
        refine lv_lstore_n (lv' := [(3, .long (mx (mx (mx (dShips S d24 c9) ((s_at S) c9)) (nI (s_lag S c9))) ((s_hd S) c9))), (6, .ref (a (11 + c9))), (0, .ref (a 0)), (5, .int (nI c9))]) C.1 C.2.1 dX2_mixShips_60 rfl hl (by decide) rfl (fun ls hl => ?_)
        refine lv_lload_n C.1 C.2.1 dX2_mixShips_61 rfl (lv_at hl 0 rfl) ?_
        refine lv_aload C.1 C.2.1 dX2_mixShips_62 (lv_at hl 1 rfl) ?_
        refine gGetN (v := .int ((s_ms S) c9)) (ref := RX1) (Cn := RX1) (T := TX1) (N := 5) (host := RX2) C iX1 hO (11 + c9) (xw_ship (by omega)) rfl 4 (by decide) (by decide +kernel) (fun _ h9 => h9) rfl dX2_mixShips_64 ?_
        refine lv_i2l C.1 C.2.1 dX2_mixShips_67 rfl ?_
        refine gCallS_l (As := [.long (mx (mx (mx (dShips S d24 c9) ((s_at S) c9)) (nI (s_lag S c9))) ((s_hd S) c9)), .long (Int32.toInt64 ((s_ms S) c9))]) (rest := []) C hO (c_X2_mix l E a S (mkU (s_cm S) mk (s_n S)) rk rv F (mx (mx (mx (dShips S d24 c9) ((s_at S) c9)) (nI (s_lag S c9))) ((s_hd S) c9)) (Int32.toInt64 ((s_ms S) c9))) (cwS 2 C.2.2.2.2.1 gX2_mixShips_X2_mix rfl rfl rfl (by decide +kernel) ⟨(Nat.le_of_ble_eq_true rfl), (Nat.le_of_ble_eq_true rfl)⟩) rfl hl.1 rfl (Nat.le_of_ble_eq_true rfl) dX2_mixShips_68 ⟨(Nat.le_of_ble_eq_true rfl), (Nat.le_of_ble_eq_true rfl)⟩ (fun H locs hO => ?_)
        refine lv_lstore_n (lv' := [(3, .long (mx (mx (mx (mx (dShips S d24 c9) ((s_at S) c9)) (nI (s_lag S c9))) ((s_hd S) c9)) ((s_ms S) c9))), (6, .ref (a (11 + c9))), (0, .ref (a 0)), (5, .int (nI c9))]) C.1 C.2.1 dX2_mixShips_71 rfl hl (by decide) rfl (fun ls hl => ?_)
        refine lv_lload_n C.1 C.2.1 dX2_mixShips_72 rfl (lv_at hl 0 rfl) ?_
        refine lv_aload_n C.1 C.2.1 dX2_mixShips_73 rfl (lv_at hl 2 rfl) ?_
        refine lv_aload C.1 C.2.1 dX2_mixShips_74 (lv_at hl 1 rfl) ?_
        refine lv_iconst (v := 0) C.1 C.2.1 dX2_mixShips_76 (by decide) ?_
        refine gCall_i (As := [.ref (a (11 + c9)), .int 0]) (rest := [.long (mx (mx (mx (mx (dShips S d24 c9) ((s_at S) c9)) (nI (s_lag S c9))) ((s_hd S) c9)) ((s_ms S) c9))]) C hO (c_X2_errorsAfter l E a S (mkU (s_cm S) mk (s_n S)) rk rv F c9 0 (by omega) (by omega) (by omega)) (cwV 2 C.2.2.2.2.1 gX2_mixShips_X2_errorsAfter rfl rfl rfl (by decide +kernel) ⟨(Nat.le_of_ble_eq_true rfl), (Nat.le_of_ble_eq_true rfl)⟩) (va_recv C.2.2.2.2.2.2.2.1.1 hO.1 (ci := 2) (q0 := 0) rfl rfl) rfl hl.1 rfl (Nat.le_of_ble_eq_true rfl) dX2_mixShips_77 ⟨(Nat.le_of_ble_eq_true rfl), (Nat.le_of_ble_eq_true rfl)⟩ (fun H locs hO => ?_)
        refine lv_i2l C.1 C.2.1 dX2_mixShips_80 rfl ?_
        refine gCallS_l (As := [.long (mx (mx (mx (mx (dShips S d24 c9) ((s_at S) c9)) (nI (s_lag S c9))) ((s_hd S) c9)) ((s_ms S) c9)), .long (Int32.toInt64 (nI (s_ea S c9 0)))]) (rest := []) C hO (c_X2_mix l E a S (mkU (s_cm S) mk (s_n S)) rk rv F (mx (mx (mx (mx (dShips S d24 c9) ((s_at S) c9)) (nI (s_lag S c9))) ((s_hd S) c9)) ((s_ms S) c9)) (Int32.toInt64 (nI (s_ea S c9 0)))) (cwS 2 C.2.2.2.2.1 gX2_mixShips_X2_mix rfl rfl rfl (by decide +kernel) ⟨(Nat.le_of_ble_eq_true rfl), (Nat.le_of_ble_eq_true rfl)⟩) rfl hl.1 rfl (Nat.le_of_ble_eq_true rfl) dX2_mixShips_81 ⟨(Nat.le_of_ble_eq_true rfl), (Nat.le_of_ble_eq_true rfl)⟩ (fun H locs hO => ?_)
        refine lv_lstore_n (lv' := [(3, .long (mx (mx (mx (mx (mx (dShips S d24 c9) ((s_at S) c9)) (nI (s_lag S c9))) ((s_hd S) c9)) ((s_ms S) c9)) (nI (s_ea S c9 0)))), (6, .ref (a (11 + c9))), (0, .ref (a 0)), (5, .int (nI c9))]) C.1 C.2.1 dX2_mixShips_84 rfl hl (by decide) rfl (fun ls hl => ?_)
        refine lv_lload_n C.1 C.2.1 dX2_mixShips_85 rfl (lv_at hl 0 rfl) ?_
        refine lv_aload_n C.1 C.2.1 dX2_mixShips_86 rfl (lv_at hl 2 rfl) ?_
        refine lv_aload C.1 C.2.1 dX2_mixShips_87 (lv_at hl 1 rfl) ?_
        refine gCall_i (As := [.ref (a (11 + c9))]) (rest := [.long (mx (mx (mx (mx (mx (dShips S d24 c9) ((s_at S) c9)) (nI (s_lag S c9))) ((s_hd S) c9)) ((s_ms S) c9)) (nI (s_ea S c9 0)))]) C hO (c_X2_hoursToGo l E a S (mkU (s_cm S) mk (s_n S)) rk rv F c9 (by omega) (by omega) (hpc9 _ (by omega))) (cwV 1 C.2.2.2.2.1 gX2_mixShips_X2_hoursToGo rfl rfl rfl (by decide +kernel) ⟨(Nat.le_of_ble_eq_true rfl), (Nat.le_of_ble_eq_true rfl)⟩) (va_recv C.2.2.2.2.2.2.2.1.1 hO.1 (ci := 2) (q0 := 0) rfl rfl) rfl hl.1 rfl (Nat.le_of_ble_eq_true rfl) dX2_mixShips_89 ⟨(Nat.le_of_ble_eq_true rfl), (Nat.le_of_ble_eq_true rfl)⟩ (fun H locs hO => ?_)
        refine lv_i2l C.1 C.2.1 dX2_mixShips_92 rfl ?_
        refine gCallS_l (As := [.long (mx (mx (mx (mx (mx (dShips S d24 c9) ((s_at S) c9)) (nI (s_lag S c9))) ((s_hd S) c9)) ((s_ms S) c9)) (nI (s_ea S c9 0))), .long (Int32.toInt64 (s_un S c9))]) (rest := []) C hO (c_X2_mix l E a S (mkU (s_cm S) mk (s_n S)) rk rv F (mx (mx (mx (mx (mx (dShips S d24 c9) ((s_at S) c9)) (nI (s_lag S c9))) ((s_hd S) c9)) ((s_ms S) c9)) (nI (s_ea S c9 0))) (Int32.toInt64 (s_un S c9))) (cwS 2 C.2.2.2.2.1 gX2_mixShips_X2_mix rfl rfl rfl (by decide +kernel) ⟨(Nat.le_of_ble_eq_true rfl), (Nat.le_of_ble_eq_true rfl)⟩) rfl hl.1 rfl (Nat.le_of_ble_eq_true rfl) dX2_mixShips_93 ⟨(Nat.le_of_ble_eq_true rfl), (Nat.le_of_ble_eq_true rfl)⟩ (fun H locs hO => ?_)
        refine lv_lstore_n (lv' := [(3, .long (mx (mx (mx (mx (mx (mx (dShips S d24 c9) ((s_at S) c9)) (nI (s_lag S c9))) ((s_hd S) c9)) ((s_ms S) c9)) (nI (s_ea S c9 0))) (s_un S c9))), (6, .ref (a (11 + c9))), (0, .ref (a 0)), (5, .int (nI c9))]) C.1 C.2.1 dX2_mixShips_96 rfl hl (by decide) rfl (fun ls hl => ?_)
        refine lv_lload_n C.1 C.2.1 dX2_mixShips_97 rfl (lv_at hl 0 rfl) ?_
        refine lv_aload_n C.1 C.2.1 dX2_mixShips_98 rfl (lv_at hl 2 rfl) ?_
        refine gGet (v := .ref (a 1)) (ref := RX2) (Cn := RX2) (T := TX2) (N := 9) C iX2 hO 0 rfl rfl 0 (by decide) w10 (fun _ h9 => h9) rfl dX2_mixShips_99 ?_
        refine lv_aload C.1 C.2.1 dX2_mixShips_102 (lv_at hl 1 rfl) ?_
        refine gGetN (v := .int ((s_at S) c9)) (ref := RX1) (Cn := RX1) (T := TX1) (N := 5) (host := RX2) C iX1 hO (11 + c9) (xw_ship (by omega)) rfl 2 (by decide) (by decide +kernel) (fun _ h9 => h9) rfl dX2_mixShips_104 ?_
        refine gCallN_i (As := [.int ((s_at S) c9)]) (rest := [.long (mx (mx (mx (mx (mx (mx (dShips S d24 c9) ((s_at S) c9)) (nI (s_lag S c9))) ((s_hd S) c9)) ((s_ms S) c9)) (nI (s_ea S c9 0))) (s_un S c9))]) C hO (c_X0_countMarkedFrom l E a S (mkU (s_cm S) mk (s_n S)) rk rv F ((s_at S) c9) (by omega)) ⟨va_cnB (host := RX2) 1 C.2.2.2.2.1 gX2_mixShips_X0_countMarkedFrom_n183 rfl rfl rfl (C.2.2.2.2.2.2.2.1.2.1 (.methodLinkNest RX2 183 yX0_countMarkedFrom RX2) (by decide +kernel)) (C.2.2.2.2.1 (.initialized RX0) (by decide +kernel)) (by decide +kernel) ⟨(Nat.le_of_ble_eq_true rfl), (Nat.le_of_ble_eq_true rfl)⟩, C.2.2.2.2.1 (.instanceMethod yX0_countMarkedFrom) (by decide +kernel), C.2.2.2.2.1 (.selects RX0 yX0_countMarkedFrom yX0_countMarkedFrom) (by decide +kernel)⟩ (va_recv C.2.2.2.2.2.2.2.1.1 hO.1 (ci := 0) (q0 := 1) rfl rfl) rfl hl.1 rfl (Nat.le_of_ble_eq_true rfl) dX2_mixShips_107 ⟨(Nat.le_of_ble_eq_true rfl), (Nat.le_of_ble_eq_true rfl)⟩ (fun H locs hO => ?_)
        refine lv_eqi (y := nI (s_wm S c9)) (by rw [cm_mkU]; rfl) ?_
        refine lv_i2l C.1 C.2.1 dX2_mixShips_110 rfl ?_
        refine gCallS_l (As := [.long (mx (mx (mx (mx (mx (mx (dShips S d24 c9) ((s_at S) c9)) (nI (s_lag S c9))) ((s_hd S) c9)) ((s_ms S) c9)) (nI (s_ea S c9 0))) (s_un S c9)), .long (Int32.toInt64 (nI (s_wm S c9)))]) (rest := []) C hO (c_X2_mix l E a S (mkU (s_cm S) mk (s_n S)) rk rv F (mx (mx (mx (mx (mx (mx (dShips S d24 c9) ((s_at S) c9)) (nI (s_lag S c9))) ((s_hd S) c9)) ((s_ms S) c9)) (nI (s_ea S c9 0))) (s_un S c9)) (Int32.toInt64 (nI (s_wm S c9)))) (cwS 2 C.2.2.2.2.1 gX2_mixShips_X2_mix rfl rfl rfl (by decide +kernel) ⟨(Nat.le_of_ble_eq_true rfl), (Nat.le_of_ble_eq_true rfl)⟩) rfl hl.1 rfl (Nat.le_of_ble_eq_true rfl) dX2_mixShips_111 ⟨(Nat.le_of_ble_eq_true rfl), (Nat.le_of_ble_eq_true rfl)⟩ (fun H locs hO => ?_)
        refine lv_lstore_n (lv' := [(3, .long (mx (mx (mx (mx (mx (mx (mx (dShips S d24 c9) ((s_at S) c9)) (nI (s_lag S c9))) ((s_hd S) c9)) ((s_ms S) c9)) (nI (s_ea S c9 0))) (s_un S c9)) (nI (s_wm S c9)))), (6, .ref (a (11 + c9))), (0, .ref (a 0)), (5, .int (nI c9))]) C.1 C.2.1 dX2_mixShips_114 rfl hl (by decide) rfl (fun ls hl => ?_)
        refine gInc (j := c9) (k := 3) (lv' := [(5, .int (nI (c9 + 1))), (3, .long (mx (mx (mx (mx (mx (mx (mx (dShips S d24 c9) ((s_at S) c9)) (nI (s_lag S c9))) ((s_hd S) c9)) ((s_ms S) c9)) (nI (s_ea S c9 0))) (s_un S c9)) (nI (s_wm S c9)))), (6, .ref (a (11 + c9))), (0, .ref (a 0))]) C.1 C.2.1 dX2_mixShips_115 hl rfl (by decide) rfl (fun ls hl => ?_)
        refine lv_goto (tgt := 9) C.1 C.2.1 dX2_mixShips_118 (by decide) ?_
        refine W.widen (k := 0) (n := 0) (by omega) (by omega) ?_
        exact ih_lp24 (c9 + 1) (by omega) (by omega) _ _ hO _ (lv_sub hl [3, 1, 0] rfl)
  refine W.widen (k := 0) (n := 0) (by omega) (by omega) ?_
  exact lp24 (s_sh S + 1) 0 (by omega) (Nat.zero_le _) _ _ hO _ (lv_sub hl [2, 1, 0] rfl)

set_option maxHeartbeats 4000000 in
set_option maxRecDepth 100000 in
theorem c_X2_digest (l : Launch) (E : gE) (a : Nat → Nat) (S : St) (mk rk rv : Nat → Int32) (F : va_W)  (hI : s_inv S) : gMl l E yX2_digest wsX2_digest ({ frames := 4, cells := 0, slots := 0, locals := 100 }) (xW E a S mk rk rv ++ F) [.ref (a 0)] (s_dg S) (xW E a S (mkU (s_cm S) (mkU (s_cm S) mk (s_n S)) (s_n S)) rk rv ++ F) 0 0 := by
  refine gMl.of (cc := cX2_digest) (maxL := 3) (by decide) rfl (Nat.le_of_ble_eq_true rfl) ?_
  intro p e s m args below meth c A C ls hl hO
  have hl : lv_has ls 3 [(0, .ref (a 0))] := hl
  have iX0 : ∀ w ∈ u_ws RX0 TX0 8, w ∈ wsX2_digest := by decide +kernel
  have iX2 : ∀ w ∈ u_ws RX2 TX2 9, w ∈ wsX2_digest := by decide +kernel
  have w115 : Cond.fieldLink RX2 115 "ParrotLog" "hour" "I" ∈ wsX2_digest := by decide +kernel
  have w10 : Cond.fieldLink RX2 10 "ParrotLog" "log" "LParrotLog$Log;" ∈ wsX2_digest := by decide +kernel
  have w59 : Cond.fieldLink RX2 59 "ParrotLog" "stormCount" "I" ∈ wsX2_digest := by decide +kernel
  have w50 : Cond.fieldLink RX2 50 "ParrotLog" "stormOn" "Z" ∈ wsX2_digest := by decide +kernel
  have w90 : Cond.fieldLink RX2 90 "ParrotLog" "shipCount" "I" ∈ wsX2_digest := by decide +kernel
  have hI9 := hI
  obtain ⟨hn, hsh, hsc, hOn, hOb, hok9, hpc9, hp0⟩ := hI9
  refine lv_ldc2 (v := 1787) C.1 C.2.1 C.2.2.2.1 (C.2.2.2.2.1 (.constantLong RX2 186 (1787)) (by decide +kernel)) dX2_digest_0 ?_
  refine lv_aload_n C.1 C.2.1 dX2_digest_3 rfl (lv_at hl 0 rfl) ?_
  refine gGet (v := .int (s_hr S)) (ref := RX2) (Cn := RX2) (T := TX2) (N := 9) C iX2 hO 0 rfl rfl 5 (by decide) w115 (fun _ h9 => h9) rfl dX2_digest_4 ?_
  refine lv_i2l C.1 C.2.1 dX2_digest_7 rfl ?_
  refine gCallS_l (As := [.long 1787, .long (Int32.toInt64 (s_hr S))]) (rest := []) C hO (c_X2_mix l E a S mk rk rv F 1787 (Int32.toInt64 (s_hr S))) (cwS 2 C.2.2.2.2.1 gX2_digest_X2_mix rfl rfl rfl (by decide +kernel) ⟨(Nat.le_of_ble_eq_true rfl), (Nat.le_of_ble_eq_true rfl)⟩) rfl hl.1 rfl (Nat.le_of_ble_eq_true rfl) dX2_digest_8 ⟨(Nat.le_of_ble_eq_true rfl), (Nat.le_of_ble_eq_true rfl)⟩ (fun H locs hO => ?_)
  refine lv_lstore_n (lv' := [(1, .long (mx 1787 (s_hr S))), (0, .ref (a 0))]) C.1 C.2.1 dX2_digest_11 rfl hl (by decide) rfl (fun ls hl => ?_)
  refine lv_lload_n C.1 C.2.1 dX2_digest_12 rfl (lv_at hl 0 rfl) ?_
  refine lv_aload_n C.1 C.2.1 dX2_digest_13 rfl (lv_at hl 1 rfl) ?_
  refine gGet (v := .ref (a 1)) (ref := RX2) (Cn := RX2) (T := TX2) (N := 9) C iX2 hO 0 rfl rfl 0 (by decide) w10 (fun _ h9 => h9) rfl dX2_digest_14 ?_
  refine gGetN (v := .int (nI (s_n S))) (ref := RX0) (Cn := RX0) (T := TX0) (N := 8) (host := RX2) C iX0 hO 1 rfl rfl 5 (by decide) (by decide +kernel) (fun _ h9 => h9) rfl dX2_digest_17 ?_
  refine lv_i2l C.1 C.2.1 dX2_digest_20 rfl ?_
  refine gCallS_l (As := [.long (mx 1787 (s_hr S)), .long (Int32.toInt64 (nI (s_n S)))]) (rest := []) C hO (c_X2_mix l E a S mk rk rv F (mx 1787 (s_hr S)) (Int32.toInt64 (nI (s_n S)))) (cwS 2 C.2.2.2.2.1 gX2_digest_X2_mix rfl rfl rfl (by decide +kernel) ⟨(Nat.le_of_ble_eq_true rfl), (Nat.le_of_ble_eq_true rfl)⟩) rfl hl.1 rfl (Nat.le_of_ble_eq_true rfl) dX2_digest_21 ⟨(Nat.le_of_ble_eq_true rfl), (Nat.le_of_ble_eq_true rfl)⟩ (fun H locs hO => ?_)
  refine lv_lstore_n (lv' := [(1, .long (mx (mx 1787 (s_hr S)) (nI (s_n S)))), (0, .ref (a 0))]) C.1 C.2.1 dX2_digest_24 rfl hl (by decide) rfl (fun ls hl => ?_)
  refine lv_lload_n C.1 C.2.1 dX2_digest_25 rfl (lv_at hl 0 rfl) ?_
  refine lv_aload_n C.1 C.2.1 dX2_digest_26 rfl (lv_at hl 1 rfl) ?_
  refine gGet (v := .ref (a 1)) (ref := RX2) (Cn := RX2) (T := TX2) (N := 9) C iX2 hO 0 rfl rfl 0 (by decide) w10 (fun _ h9 => h9) rfl dX2_digest_27 ?_
  refine gGetN (v := .int (s_nx S)) (ref := RX0) (Cn := RX0) (T := TX0) (N := 8) (host := RX2) C iX0 hO 1 rfl rfl 6 (by decide) (by decide +kernel) (fun _ h9 => h9) rfl dX2_digest_30 ?_
  refine lv_i2l C.1 C.2.1 dX2_digest_33 rfl ?_
  refine gCallS_l (As := [.long (mx (mx 1787 (s_hr S)) (nI (s_n S))), .long (Int32.toInt64 (s_nx S))]) (rest := []) C hO (c_X2_mix l E a S mk rk rv F (mx (mx 1787 (s_hr S)) (nI (s_n S))) (Int32.toInt64 (s_nx S))) (cwS 2 C.2.2.2.2.1 gX2_digest_X2_mix rfl rfl rfl (by decide +kernel) ⟨(Nat.le_of_ble_eq_true rfl), (Nat.le_of_ble_eq_true rfl)⟩) rfl hl.1 rfl (Nat.le_of_ble_eq_true rfl) dX2_digest_34 ⟨(Nat.le_of_ble_eq_true rfl), (Nat.le_of_ble_eq_true rfl)⟩ (fun H locs hO => ?_)
  refine lv_lstore_n (lv' := [(1, .long (mx (mx (mx 1787 (s_hr S)) (nI (s_n S))) (s_nx S))), (0, .ref (a 0))]) C.1 C.2.1 dX2_digest_37 rfl hl (by decide) rfl (fun ls hl => ?_)
  refine lv_lload_n C.1 C.2.1 dX2_digest_38 rfl (lv_at hl 0 rfl) ?_
  refine lv_aload_n C.1 C.2.1 dX2_digest_39 rfl (lv_at hl 1 rfl) ?_
  refine gCall_i (As := []) (rest := [.long (mx (mx (mx 1787 (s_hr S)) (nI (s_n S))) (s_nx S))]) C hO (c_X2_firstOffset l E a S mk rk rv F hI) (cwV 0 C.2.2.2.2.1 gX2_digest_X2_firstOffset rfl rfl rfl (by decide +kernel) ⟨(Nat.le_of_ble_eq_true rfl), (Nat.le_of_ble_eq_true rfl)⟩) (va_recv C.2.2.2.2.2.2.2.1.1 hO.1 (ci := 2) (q0 := 0) rfl rfl) rfl hl.1 rfl (Nat.le_of_ble_eq_true rfl) dX2_digest_40 ⟨(Nat.le_of_ble_eq_true rfl), (Nat.le_of_ble_eq_true rfl)⟩ (fun H locs hO => ?_)
  refine lv_i2l C.1 C.2.1 dX2_digest_43 rfl ?_
  refine gCallS_l (As := [.long (mx (mx (mx 1787 (s_hr S)) (nI (s_n S))) (s_nx S)), .long (Int32.toInt64 (s_first S))]) (rest := []) C hO (c_X2_mix l E a S mk rk rv F (mx (mx (mx 1787 (s_hr S)) (nI (s_n S))) (s_nx S)) (Int32.toInt64 (s_first S))) (cwS 2 C.2.2.2.2.1 gX2_digest_X2_mix rfl rfl rfl (by decide +kernel) ⟨(Nat.le_of_ble_eq_true rfl), (Nat.le_of_ble_eq_true rfl)⟩) rfl hl.1 rfl (Nat.le_of_ble_eq_true rfl) dX2_digest_44 ⟨(Nat.le_of_ble_eq_true rfl), (Nat.le_of_ble_eq_true rfl)⟩ (fun H locs hO => ?_)
  refine lv_lstore_n (lv' := [(1, .long (mx (mx (mx (mx 1787 (s_hr S)) (nI (s_n S))) (s_nx S)) (s_first S))), (0, .ref (a 0))]) C.1 C.2.1 dX2_digest_47 rfl hl (by decide) rfl (fun ls hl => ?_)
  refine lv_lload_n C.1 C.2.1 dX2_digest_48 rfl (lv_at hl 0 rfl) ?_
  refine lv_aload_n C.1 C.2.1 dX2_digest_49 rfl (lv_at hl 1 rfl) ?_
  refine gGet (v := .ref (a 1)) (ref := RX2) (Cn := RX2) (T := TX2) (N := 9) C iX2 hO 0 rfl rfl 0 (by decide) w10 (fun _ h9 => h9) rfl dX2_digest_50 ?_
  refine gGetN (v := .int (s_dr S)) (ref := RX0) (Cn := RX0) (T := TX0) (N := 8) (host := RX2) C iX0 hO 1 rfl rfl 7 (by decide) (by decide +kernel) (fun _ h9 => h9) rfl dX2_digest_53 ?_
  refine lv_i2l C.1 C.2.1 dX2_digest_56 rfl ?_
  refine gCallS_l (As := [.long (mx (mx (mx (mx 1787 (s_hr S)) (nI (s_n S))) (s_nx S)) (s_first S)), .long (Int32.toInt64 (s_dr S))]) (rest := []) C hO (c_X2_mix l E a S mk rk rv F (mx (mx (mx (mx 1787 (s_hr S)) (nI (s_n S))) (s_nx S)) (s_first S)) (Int32.toInt64 (s_dr S))) (cwS 2 C.2.2.2.2.1 gX2_digest_X2_mix rfl rfl rfl (by decide +kernel) ⟨(Nat.le_of_ble_eq_true rfl), (Nat.le_of_ble_eq_true rfl)⟩) rfl hl.1 rfl (Nat.le_of_ble_eq_true rfl) dX2_digest_57 ⟨(Nat.le_of_ble_eq_true rfl), (Nat.le_of_ble_eq_true rfl)⟩ (fun H locs hO => ?_)
  refine lv_lstore_n (lv' := [(1, .long (mx (mx (mx (mx (mx 1787 (s_hr S)) (nI (s_n S))) (s_nx S)) (s_first S)) (s_dr S))), (0, .ref (a 0))]) C.1 C.2.1 dX2_digest_60 rfl hl (by decide) rfl (fun ls hl => ?_)
  refine lv_lload_n C.1 C.2.1 dX2_digest_61 rfl (lv_at hl 0 rfl) ?_
  refine lv_aload_n C.1 C.2.1 dX2_digest_62 rfl (lv_at hl 1 rfl) ?_
  refine gGet (v := .int (nI (s_sc S))) (ref := RX2) (Cn := RX2) (T := TX2) (N := 9) C iX2 hO 0 rfl rfl 6 (by decide) w59 (fun _ h9 => h9) rfl dX2_digest_63 ?_
  refine lv_i2l C.1 C.2.1 dX2_digest_66 rfl ?_
  refine gCallS_l (As := [.long (mx (mx (mx (mx (mx 1787 (s_hr S)) (nI (s_n S))) (s_nx S)) (s_first S)) (s_dr S)), .long (Int32.toInt64 (nI (s_sc S)))]) (rest := []) C hO (c_X2_mix l E a S mk rk rv F (mx (mx (mx (mx (mx 1787 (s_hr S)) (nI (s_n S))) (s_nx S)) (s_first S)) (s_dr S)) (Int32.toInt64 (nI (s_sc S)))) (cwS 2 C.2.2.2.2.1 gX2_digest_X2_mix rfl rfl rfl (by decide +kernel) ⟨(Nat.le_of_ble_eq_true rfl), (Nat.le_of_ble_eq_true rfl)⟩) rfl hl.1 rfl (Nat.le_of_ble_eq_true rfl) dX2_digest_67 ⟨(Nat.le_of_ble_eq_true rfl), (Nat.le_of_ble_eq_true rfl)⟩ (fun H locs hO => ?_)
  refine lv_lstore_n (lv' := [(1, .long (mx (mx (mx (mx (mx (mx 1787 (s_hr S)) (nI (s_n S))) (s_nx S)) (s_first S)) (s_dr S)) (nI (s_sc S)))), (0, .ref (a 0))]) C.1 C.2.1 dX2_digest_70 rfl hl (by decide) rfl (fun ls hl => ?_)
  refine lv_lload_n C.1 C.2.1 dX2_digest_71 rfl (lv_at hl 0 rfl) ?_
  refine lv_aload_n C.1 C.2.1 dX2_digest_72 rfl (lv_at hl 1 rfl) ?_
  refine gGet (v := .int (s_on S)) (ref := RX2) (Cn := RX2) (T := TX2) (N := 9) C iX2 hO 0 rfl rfl 7 (by decide) w50 (fun _ h9 => h9) rfl dX2_digest_73 ?_
  refine lv_if_eq (tgt := 83) C.1 C.2.1 dX2_digest_76 (by decide) (fun c_1 => ?_) (fun c_1 => ?_)
  · have hz9 : s_on S = 0 := c_1
    refine lv_lconst (v := 0) C.1 C.2.1 dX2_digest_83 (by decide) ?_
    refine gCallS_l (As := [.long (mx (mx (mx (mx (mx (mx 1787 (s_hr S)) (nI (s_n S))) (s_nx S)) (s_first S)) (s_dr S)) (nI (s_sc S))), .long 0]) (rest := []) C hO (c_X2_mix l E a S mk rk rv F (mx (mx (mx (mx (mx (mx 1787 (s_hr S)) (nI (s_n S))) (s_nx S)) (s_first S)) (s_dr S)) (nI (s_sc S))) 0) (cwS 2 C.2.2.2.2.1 gX2_digest_X2_mix rfl rfl rfl (by decide +kernel) ⟨(Nat.le_of_ble_eq_true rfl), (Nat.le_of_ble_eq_true rfl)⟩) rfl hl.1 rfl (Nat.le_of_ble_eq_true rfl) dX2_digest_84 ⟨(Nat.le_of_ble_eq_true rfl), (Nat.le_of_ble_eq_true rfl)⟩ (fun H locs hO => ?_)
    refine lv_eql (y := mx (mx (mx (mx (mx (mx (mx 1787 (s_hr S)) (nI (s_n S))) (s_nx S)) (s_first S)) (s_dr S)) (nI (s_sc S))) (if s_on S = 0 then 0 else 1)) (by first | exact mx_on0 hz9 | exact mx_on1 hz9) ?_
    refine lv_lstore_n (lv' := [(1, .long (mx (mx (mx (mx (mx (mx (mx 1787 (s_hr S)) (nI (s_n S))) (s_nx S)) (s_first S)) (s_dr S)) (nI (s_sc S))) (if s_on S = 0 then 0 else 1))), (0, .ref (a 0))]) C.1 C.2.1 dX2_digest_87 rfl hl (by decide) rfl (fun ls hl => ?_)
    refine lv_lload_n C.1 C.2.1 dX2_digest_88 rfl (lv_at hl 0 rfl) ?_
    refine lv_aload_n C.1 C.2.1 dX2_digest_89 rfl (lv_at hl 1 rfl) ?_
    refine gGet (v := .int (nI (s_sh S))) (ref := RX2) (Cn := RX2) (T := TX2) (N := 9) C iX2 hO 0 rfl rfl 8 (by decide) w90 (fun _ h9 => h9) rfl dX2_digest_90 ?_
    refine lv_i2l C.1 C.2.1 dX2_digest_93 rfl ?_
    refine gCallS_l (As := [.long (mx (mx (mx (mx (mx (mx (mx 1787 (s_hr S)) (nI (s_n S))) (s_nx S)) (s_first S)) (s_dr S)) (nI (s_sc S))) (if s_on S = 0 then 0 else 1)), .long (Int32.toInt64 (nI (s_sh S)))]) (rest := []) C hO (c_X2_mix l E a S mk rk rv F (mx (mx (mx (mx (mx (mx (mx 1787 (s_hr S)) (nI (s_n S))) (s_nx S)) (s_first S)) (s_dr S)) (nI (s_sc S))) (if s_on S = 0 then 0 else 1)) (Int32.toInt64 (nI (s_sh S)))) (cwS 2 C.2.2.2.2.1 gX2_digest_X2_mix rfl rfl rfl (by decide +kernel) ⟨(Nat.le_of_ble_eq_true rfl), (Nat.le_of_ble_eq_true rfl)⟩) rfl hl.1 rfl (Nat.le_of_ble_eq_true rfl) dX2_digest_94 ⟨(Nat.le_of_ble_eq_true rfl), (Nat.le_of_ble_eq_true rfl)⟩ (fun H locs hO => ?_)
    refine lv_lstore_n (lv' := [(1, .long (mx (mx (mx (mx (mx (mx (mx (mx 1787 (s_hr S)) (nI (s_n S))) (s_nx S)) (s_first S)) (s_dr S)) (nI (s_sc S))) (if s_on S = 0 then 0 else 1)) (nI (s_sh S)))), (0, .ref (a 0))]) C.1 C.2.1 dX2_digest_97 rfl hl (by decide) rfl (fun ls hl => ?_)
    refine lv_lload_n C.1 C.2.1 dX2_digest_98 rfl (lv_at hl 0 rfl) ?_
    refine lv_aload_n C.1 C.2.1 dX2_digest_99 rfl (lv_at hl 1 rfl) ?_
    refine gCall_i (As := []) (rest := [.long (mx (mx (mx (mx (mx (mx (mx (mx 1787 (s_hr S)) (nI (s_n S))) (s_nx S)) (s_first S)) (s_dr S)) (nI (s_sc S))) (if s_on S = 0 then 0 else 1)) (nI (s_sh S)))]) C hO (c_X2_farthestBehind l E a S mk rk rv F hI) (cwV 0 C.2.2.2.2.1 gX2_digest_X2_farthestBehind rfl rfl rfl (by decide +kernel) ⟨(Nat.le_of_ble_eq_true rfl), (Nat.le_of_ble_eq_true rfl)⟩) (va_recv C.2.2.2.2.2.2.2.1.1 hO.1 (ci := 2) (q0 := 0) rfl rfl) rfl hl.1 rfl (Nat.le_of_ble_eq_true rfl) dX2_digest_100 ⟨(Nat.le_of_ble_eq_true rfl), (Nat.le_of_ble_eq_true rfl)⟩ (fun H locs hO => ?_)
    refine lv_i2l C.1 C.2.1 dX2_digest_103 rfl ?_
    refine gCallS_l (As := [.long (mx (mx (mx (mx (mx (mx (mx (mx 1787 (s_hr S)) (nI (s_n S))) (s_nx S)) (s_first S)) (s_dr S)) (nI (s_sc S))) (if s_on S = 0 then 0 else 1)) (nI (s_sh S))), .long (Int32.toInt64 (oI (s_fb S (s_sh S))))]) (rest := []) C hO (c_X2_mix l E a S mk rk rv F (mx (mx (mx (mx (mx (mx (mx (mx 1787 (s_hr S)) (nI (s_n S))) (s_nx S)) (s_first S)) (s_dr S)) (nI (s_sc S))) (if s_on S = 0 then 0 else 1)) (nI (s_sh S))) (Int32.toInt64 (oI (s_fb S (s_sh S))))) (cwS 2 C.2.2.2.2.1 gX2_digest_X2_mix rfl rfl rfl (by decide +kernel) ⟨(Nat.le_of_ble_eq_true rfl), (Nat.le_of_ble_eq_true rfl)⟩) rfl hl.1 rfl (Nat.le_of_ble_eq_true rfl) dX2_digest_104 ⟨(Nat.le_of_ble_eq_true rfl), (Nat.le_of_ble_eq_true rfl)⟩ (fun H locs hO => ?_)
    refine lv_lstore_n (lv' := [(1, .long (mx (mx (mx (mx (mx (mx (mx (mx (mx 1787 (s_hr S)) (nI (s_n S))) (s_nx S)) (s_first S)) (s_dr S)) (nI (s_sc S))) (if s_on S = 0 then 0 else 1)) (nI (s_sh S))) (oI (s_fb S (s_sh S))))), (0, .ref (a 0))]) C.1 C.2.1 dX2_digest_107 rfl hl (by decide) rfl (fun ls hl => ?_)
    refine lv_lload_n C.1 C.2.1 dX2_digest_108 rfl (lv_at hl 0 rfl) ?_
    refine lv_aload_n C.1 C.2.1 dX2_digest_109 rfl (lv_at hl 1 rfl) ?_
    refine gCall_i (As := []) (rest := [.long (mx (mx (mx (mx (mx (mx (mx (mx (mx 1787 (s_hr S)) (nI (s_n S))) (s_nx S)) (s_first S)) (s_dr S)) (nI (s_sc S))) (if s_on S = 0 then 0 else 1)) (nI (s_sh S))) (oI (s_fb S (s_sh S))))]) C hO (c_X2_wouldCompact l E a S mk rk rv F hI) (cwV 0 C.2.2.2.2.1 gX2_digest_X2_wouldCompact rfl rfl rfl (by decide +kernel) ⟨(Nat.le_of_ble_eq_true rfl), (Nat.le_of_ble_eq_true rfl)⟩) (va_recv C.2.2.2.2.2.2.2.1.1 hO.1 (ci := 2) (q0 := 0) rfl rfl) rfl hl.1 rfl (Nat.le_of_ble_eq_true rfl) dX2_digest_110 ⟨(Nat.le_of_ble_eq_true rfl), (Nat.le_of_ble_eq_true rfl)⟩ (fun H locs hO => ?_)
    have hO : gO E A s (xW E a S (mkU (s_cm S) mk (s_n S)) rk rv ++ F) H locs := hO
    refine lv_i2l C.1 C.2.1 dX2_digest_113 rfl ?_
    refine gCallS_l (As := [.long (mx (mx (mx (mx (mx (mx (mx (mx (mx 1787 (s_hr S)) (nI (s_n S))) (s_nx S)) (s_first S)) (s_dr S)) (nI (s_sc S))) (if s_on S = 0 then 0 else 1)) (nI (s_sh S))) (oI (s_fb S (s_sh S)))), .long (Int32.toInt64 (nI (s_wc S)))]) (rest := []) C hO (c_X2_mix l E a S (mkU (s_cm S) mk (s_n S)) rk rv F (mx (mx (mx (mx (mx (mx (mx (mx (mx 1787 (s_hr S)) (nI (s_n S))) (s_nx S)) (s_first S)) (s_dr S)) (nI (s_sc S))) (if s_on S = 0 then 0 else 1)) (nI (s_sh S))) (oI (s_fb S (s_sh S)))) (Int32.toInt64 (nI (s_wc S)))) (cwS 2 C.2.2.2.2.1 gX2_digest_X2_mix rfl rfl rfl (by decide +kernel) ⟨(Nat.le_of_ble_eq_true rfl), (Nat.le_of_ble_eq_true rfl)⟩) rfl hl.1 rfl (Nat.le_of_ble_eq_true rfl) dX2_digest_114 ⟨(Nat.le_of_ble_eq_true rfl), (Nat.le_of_ble_eq_true rfl)⟩ (fun H locs hO => ?_)
    refine lv_lstore_n (lv' := [(1, .long (mx (mx (mx (mx (mx (mx (mx (mx (mx (mx 1787 (s_hr S)) (nI (s_n S))) (s_nx S)) (s_first S)) (s_dr S)) (nI (s_sc S))) (if s_on S = 0 then 0 else 1)) (nI (s_sh S))) (oI (s_fb S (s_sh S)))) (nI (s_wc S)))), (0, .ref (a 0))]) C.1 C.2.1 dX2_digest_117 rfl hl (by decide) rfl (fun ls hl => ?_)
    refine lv_aload_n C.1 C.2.1 dX2_digest_118 rfl (lv_at hl 1 rfl) ?_
    refine lv_lload_n C.1 C.2.1 dX2_digest_119 rfl (lv_at hl 0 rfl) ?_
    refine gCall_l (As := [.long (mx (mx (mx (mx (mx (mx (mx (mx (mx (mx 1787 (s_hr S)) (nI (s_n S))) (s_nx S)) (s_first S)) (s_dr S)) (nI (s_sc S))) (if s_on S = 0 then 0 else 1)) (nI (s_sh S))) (oI (s_fb S (s_sh S)))) (nI (s_wc S)))]) (rest := []) C hO (c_X2_mixKeys l E a S (mkU (s_cm S) mk (s_n S)) rk rv F (mx (mx (mx (mx (mx (mx (mx (mx (mx (mx 1787 (s_hr S)) (nI (s_n S))) (s_nx S)) (s_first S)) (s_dr S)) (nI (s_sc S))) (if s_on S = 0 then 0 else 1)) (nI (s_sh S))) (oI (s_fb S (s_sh S)))) (nI (s_wc S))) hn) (cwV 1 C.2.2.2.2.1 gX2_digest_X2_mixKeys rfl rfl rfl (by decide +kernel) ⟨(Nat.le_of_ble_eq_true rfl), (Nat.le_of_ble_eq_true rfl)⟩) (va_recv C.2.2.2.2.2.2.2.1.1 hO.1 (ci := 2) (q0 := 0) rfl rfl) rfl hl.1 rfl (Nat.le_of_ble_eq_true rfl) dX2_digest_120 ⟨(Nat.le_of_ble_eq_true rfl), (Nat.le_of_ble_eq_true rfl)⟩ (fun H locs hO => ?_)
    refine lv_lstore_n (lv' := [(1, .long (dKeys S (mx (mx (mx (mx (mx (mx (mx (mx (mx (mx 1787 (s_hr S)) (nI (s_n S))) (s_nx S)) (s_first S)) (s_dr S)) (nI (s_sc S))) (if s_on S = 0 then 0 else 1)) (nI (s_sh S))) (oI (s_fb S (s_sh S)))) (nI (s_wc S))) 10)), (0, .ref (a 0))]) C.1 C.2.1 dX2_digest_123 rfl hl (by decide) rfl (fun ls hl => ?_)
    refine lv_aload_n C.1 C.2.1 dX2_digest_124 rfl (lv_at hl 1 rfl) ?_
    refine lv_lload_n C.1 C.2.1 dX2_digest_125 rfl (lv_at hl 0 rfl) ?_
    refine gCall_l (As := [.long (dKeys S (mx (mx (mx (mx (mx (mx (mx (mx (mx (mx 1787 (s_hr S)) (nI (s_n S))) (s_nx S)) (s_first S)) (s_dr S)) (nI (s_sc S))) (if s_on S = 0 then 0 else 1)) (nI (s_sh S))) (oI (s_fb S (s_sh S)))) (nI (s_wc S))) 10)]) (rest := []) C hO (c_X2_mixStorms l E a S (mkU (s_cm S) mk (s_n S)) rk rv F (dKeys S (mx (mx (mx (mx (mx (mx (mx (mx (mx (mx 1787 (s_hr S)) (nI (s_n S))) (s_nx S)) (s_first S)) (s_dr S)) (nI (s_sc S))) (if s_on S = 0 then 0 else 1)) (nI (s_sh S))) (oI (s_fb S (s_sh S)))) (nI (s_wc S))) 10) hn hsc) (cwV 1 C.2.2.2.2.1 gX2_digest_X2_mixStorms rfl rfl rfl (by decide +kernel) ⟨(Nat.le_of_ble_eq_true rfl), (Nat.le_of_ble_eq_true rfl)⟩) (va_recv C.2.2.2.2.2.2.2.1.1 hO.1 (ci := 2) (q0 := 0) rfl rfl) rfl hl.1 rfl (Nat.le_of_ble_eq_true rfl) dX2_digest_126 ⟨(Nat.le_of_ble_eq_true rfl), (Nat.le_of_ble_eq_true rfl)⟩ (fun H locs hO => ?_)
    refine lv_lstore_n (lv' := [(1, .long (dStorms S (dKeys S (mx (mx (mx (mx (mx (mx (mx (mx (mx (mx 1787 (s_hr S)) (nI (s_n S))) (s_nx S)) (s_first S)) (s_dr S)) (nI (s_sc S))) (if s_on S = 0 then 0 else 1)) (nI (s_sh S))) (oI (s_fb S (s_sh S)))) (nI (s_wc S))) 10) (s_sc S))), (0, .ref (a 0))]) C.1 C.2.1 dX2_digest_129 rfl hl (by decide) rfl (fun ls hl => ?_)
    refine lv_aload_n C.1 C.2.1 dX2_digest_130 rfl (lv_at hl 1 rfl) ?_
    refine lv_lload_n C.1 C.2.1 dX2_digest_131 rfl (lv_at hl 0 rfl) ?_
    refine gCall_l (As := [.long (dStorms S (dKeys S (mx (mx (mx (mx (mx (mx (mx (mx (mx (mx 1787 (s_hr S)) (nI (s_n S))) (s_nx S)) (s_first S)) (s_dr S)) (nI (s_sc S))) (if s_on S = 0 then 0 else 1)) (nI (s_sh S))) (oI (s_fb S (s_sh S)))) (nI (s_wc S))) 10) (s_sc S))]) (rest := []) C hO (c_X2_mixShips l E a S (mkU (s_cm S) mk (s_n S)) rk rv F (dStorms S (dKeys S (mx (mx (mx (mx (mx (mx (mx (mx (mx (mx 1787 (s_hr S)) (nI (s_n S))) (s_nx S)) (s_first S)) (s_dr S)) (nI (s_sc S))) (if s_on S = 0 then 0 else 1)) (nI (s_sh S))) (oI (s_fb S (s_sh S)))) (nI (s_wc S))) 10) (s_sc S)) hI) (cwV 1 C.2.2.2.2.1 gX2_digest_X2_mixShips rfl rfl rfl (by decide +kernel) ⟨(Nat.le_of_ble_eq_true rfl), (Nat.le_of_ble_eq_true rfl)⟩) (va_recv C.2.2.2.2.2.2.2.1.1 hO.1 (ci := 2) (q0 := 0) rfl rfl) rfl hl.1 rfl (Nat.le_of_ble_eq_true rfl) dX2_digest_132 ⟨(Nat.le_of_ble_eq_true rfl), (Nat.le_of_ble_eq_true rfl)⟩ (fun H locs hO => ?_)
    have hO : gO E A s (xW E a S (mkU (s_cm S) (mkU (s_cm S) mk (s_n S)) (s_n S)) rk rv ++ F) H locs := hO
    exact gRl C hO rfl dX2_digest_135 (Nat.le_of_ble_eq_true rfl) (Nat.le_of_ble_eq_true rfl)
  · have hz9 : ¬ s_on S = 0 := c_1
    refine lv_lconst (v := 1) C.1 C.2.1 dX2_digest_79 (by decide) ?_
    refine lv_goto (tgt := 84) C.1 C.2.1 dX2_digest_80 (by decide) ?_
    refine gCallS_l (As := [.long (mx (mx (mx (mx (mx (mx 1787 (s_hr S)) (nI (s_n S))) (s_nx S)) (s_first S)) (s_dr S)) (nI (s_sc S))), .long 1]) (rest := []) C hO (c_X2_mix l E a S mk rk rv F (mx (mx (mx (mx (mx (mx 1787 (s_hr S)) (nI (s_n S))) (s_nx S)) (s_first S)) (s_dr S)) (nI (s_sc S))) 1) (cwS 2 C.2.2.2.2.1 gX2_digest_X2_mix rfl rfl rfl (by decide +kernel) ⟨(Nat.le_of_ble_eq_true rfl), (Nat.le_of_ble_eq_true rfl)⟩) rfl hl.1 rfl (Nat.le_of_ble_eq_true rfl) dX2_digest_84 ⟨(Nat.le_of_ble_eq_true rfl), (Nat.le_of_ble_eq_true rfl)⟩ (fun H locs hO => ?_)
    refine lv_eql (y := mx (mx (mx (mx (mx (mx (mx 1787 (s_hr S)) (nI (s_n S))) (s_nx S)) (s_first S)) (s_dr S)) (nI (s_sc S))) (if s_on S = 0 then 0 else 1)) (by first | exact mx_on0 hz9 | exact mx_on1 hz9) ?_
    refine lv_lstore_n (lv' := [(1, .long (mx (mx (mx (mx (mx (mx (mx 1787 (s_hr S)) (nI (s_n S))) (s_nx S)) (s_first S)) (s_dr S)) (nI (s_sc S))) (if s_on S = 0 then 0 else 1))), (0, .ref (a 0))]) C.1 C.2.1 dX2_digest_87 rfl hl (by decide) rfl (fun ls hl => ?_)
    refine lv_lload_n C.1 C.2.1 dX2_digest_88 rfl (lv_at hl 0 rfl) ?_
    refine lv_aload_n C.1 C.2.1 dX2_digest_89 rfl (lv_at hl 1 rfl) ?_
    refine gGet (v := .int (nI (s_sh S))) (ref := RX2) (Cn := RX2) (T := TX2) (N := 9) C iX2 hO 0 rfl rfl 8 (by decide) w90 (fun _ h9 => h9) rfl dX2_digest_90 ?_
    refine lv_i2l C.1 C.2.1 dX2_digest_93 rfl ?_
    refine gCallS_l (As := [.long (mx (mx (mx (mx (mx (mx (mx 1787 (s_hr S)) (nI (s_n S))) (s_nx S)) (s_first S)) (s_dr S)) (nI (s_sc S))) (if s_on S = 0 then 0 else 1)), .long (Int32.toInt64 (nI (s_sh S)))]) (rest := []) C hO (c_X2_mix l E a S mk rk rv F (mx (mx (mx (mx (mx (mx (mx 1787 (s_hr S)) (nI (s_n S))) (s_nx S)) (s_first S)) (s_dr S)) (nI (s_sc S))) (if s_on S = 0 then 0 else 1)) (Int32.toInt64 (nI (s_sh S)))) (cwS 2 C.2.2.2.2.1 gX2_digest_X2_mix rfl rfl rfl (by decide +kernel) ⟨(Nat.le_of_ble_eq_true rfl), (Nat.le_of_ble_eq_true rfl)⟩) rfl hl.1 rfl (Nat.le_of_ble_eq_true rfl) dX2_digest_94 ⟨(Nat.le_of_ble_eq_true rfl), (Nat.le_of_ble_eq_true rfl)⟩ (fun H locs hO => ?_)
    refine lv_lstore_n (lv' := [(1, .long (mx (mx (mx (mx (mx (mx (mx (mx 1787 (s_hr S)) (nI (s_n S))) (s_nx S)) (s_first S)) (s_dr S)) (nI (s_sc S))) (if s_on S = 0 then 0 else 1)) (nI (s_sh S)))), (0, .ref (a 0))]) C.1 C.2.1 dX2_digest_97 rfl hl (by decide) rfl (fun ls hl => ?_)
    refine lv_lload_n C.1 C.2.1 dX2_digest_98 rfl (lv_at hl 0 rfl) ?_
    refine lv_aload_n C.1 C.2.1 dX2_digest_99 rfl (lv_at hl 1 rfl) ?_
    refine gCall_i (As := []) (rest := [.long (mx (mx (mx (mx (mx (mx (mx (mx 1787 (s_hr S)) (nI (s_n S))) (s_nx S)) (s_first S)) (s_dr S)) (nI (s_sc S))) (if s_on S = 0 then 0 else 1)) (nI (s_sh S)))]) C hO (c_X2_farthestBehind l E a S mk rk rv F hI) (cwV 0 C.2.2.2.2.1 gX2_digest_X2_farthestBehind rfl rfl rfl (by decide +kernel) ⟨(Nat.le_of_ble_eq_true rfl), (Nat.le_of_ble_eq_true rfl)⟩) (va_recv C.2.2.2.2.2.2.2.1.1 hO.1 (ci := 2) (q0 := 0) rfl rfl) rfl hl.1 rfl (Nat.le_of_ble_eq_true rfl) dX2_digest_100 ⟨(Nat.le_of_ble_eq_true rfl), (Nat.le_of_ble_eq_true rfl)⟩ (fun H locs hO => ?_)
    refine lv_i2l C.1 C.2.1 dX2_digest_103 rfl ?_
    refine gCallS_l (As := [.long (mx (mx (mx (mx (mx (mx (mx (mx 1787 (s_hr S)) (nI (s_n S))) (s_nx S)) (s_first S)) (s_dr S)) (nI (s_sc S))) (if s_on S = 0 then 0 else 1)) (nI (s_sh S))), .long (Int32.toInt64 (oI (s_fb S (s_sh S))))]) (rest := []) C hO (c_X2_mix l E a S mk rk rv F (mx (mx (mx (mx (mx (mx (mx (mx 1787 (s_hr S)) (nI (s_n S))) (s_nx S)) (s_first S)) (s_dr S)) (nI (s_sc S))) (if s_on S = 0 then 0 else 1)) (nI (s_sh S))) (Int32.toInt64 (oI (s_fb S (s_sh S))))) (cwS 2 C.2.2.2.2.1 gX2_digest_X2_mix rfl rfl rfl (by decide +kernel) ⟨(Nat.le_of_ble_eq_true rfl), (Nat.le_of_ble_eq_true rfl)⟩) rfl hl.1 rfl (Nat.le_of_ble_eq_true rfl) dX2_digest_104 ⟨(Nat.le_of_ble_eq_true rfl), (Nat.le_of_ble_eq_true rfl)⟩ (fun H locs hO => ?_)
    refine lv_lstore_n (lv' := [(1, .long (mx (mx (mx (mx (mx (mx (mx (mx (mx 1787 (s_hr S)) (nI (s_n S))) (s_nx S)) (s_first S)) (s_dr S)) (nI (s_sc S))) (if s_on S = 0 then 0 else 1)) (nI (s_sh S))) (oI (s_fb S (s_sh S))))), (0, .ref (a 0))]) C.1 C.2.1 dX2_digest_107 rfl hl (by decide) rfl (fun ls hl => ?_)
    refine lv_lload_n C.1 C.2.1 dX2_digest_108 rfl (lv_at hl 0 rfl) ?_
    refine lv_aload_n C.1 C.2.1 dX2_digest_109 rfl (lv_at hl 1 rfl) ?_
    refine gCall_i (As := []) (rest := [.long (mx (mx (mx (mx (mx (mx (mx (mx (mx 1787 (s_hr S)) (nI (s_n S))) (s_nx S)) (s_first S)) (s_dr S)) (nI (s_sc S))) (if s_on S = 0 then 0 else 1)) (nI (s_sh S))) (oI (s_fb S (s_sh S))))]) C hO (c_X2_wouldCompact l E a S mk rk rv F hI) (cwV 0 C.2.2.2.2.1 gX2_digest_X2_wouldCompact rfl rfl rfl (by decide +kernel) ⟨(Nat.le_of_ble_eq_true rfl), (Nat.le_of_ble_eq_true rfl)⟩) (va_recv C.2.2.2.2.2.2.2.1.1 hO.1 (ci := 2) (q0 := 0) rfl rfl) rfl hl.1 rfl (Nat.le_of_ble_eq_true rfl) dX2_digest_110 ⟨(Nat.le_of_ble_eq_true rfl), (Nat.le_of_ble_eq_true rfl)⟩ (fun H locs hO => ?_)
    have hO : gO E A s (xW E a S (mkU (s_cm S) mk (s_n S)) rk rv ++ F) H locs := hO
    refine lv_i2l C.1 C.2.1 dX2_digest_113 rfl ?_
    refine gCallS_l (As := [.long (mx (mx (mx (mx (mx (mx (mx (mx (mx 1787 (s_hr S)) (nI (s_n S))) (s_nx S)) (s_first S)) (s_dr S)) (nI (s_sc S))) (if s_on S = 0 then 0 else 1)) (nI (s_sh S))) (oI (s_fb S (s_sh S)))), .long (Int32.toInt64 (nI (s_wc S)))]) (rest := []) C hO (c_X2_mix l E a S (mkU (s_cm S) mk (s_n S)) rk rv F (mx (mx (mx (mx (mx (mx (mx (mx (mx 1787 (s_hr S)) (nI (s_n S))) (s_nx S)) (s_first S)) (s_dr S)) (nI (s_sc S))) (if s_on S = 0 then 0 else 1)) (nI (s_sh S))) (oI (s_fb S (s_sh S)))) (Int32.toInt64 (nI (s_wc S)))) (cwS 2 C.2.2.2.2.1 gX2_digest_X2_mix rfl rfl rfl (by decide +kernel) ⟨(Nat.le_of_ble_eq_true rfl), (Nat.le_of_ble_eq_true rfl)⟩) rfl hl.1 rfl (Nat.le_of_ble_eq_true rfl) dX2_digest_114 ⟨(Nat.le_of_ble_eq_true rfl), (Nat.le_of_ble_eq_true rfl)⟩ (fun H locs hO => ?_)
    refine lv_lstore_n (lv' := [(1, .long (mx (mx (mx (mx (mx (mx (mx (mx (mx (mx 1787 (s_hr S)) (nI (s_n S))) (s_nx S)) (s_first S)) (s_dr S)) (nI (s_sc S))) (if s_on S = 0 then 0 else 1)) (nI (s_sh S))) (oI (s_fb S (s_sh S)))) (nI (s_wc S)))), (0, .ref (a 0))]) C.1 C.2.1 dX2_digest_117 rfl hl (by decide) rfl (fun ls hl => ?_)
    refine lv_aload_n C.1 C.2.1 dX2_digest_118 rfl (lv_at hl 1 rfl) ?_
    refine lv_lload_n C.1 C.2.1 dX2_digest_119 rfl (lv_at hl 0 rfl) ?_
    refine gCall_l (As := [.long (mx (mx (mx (mx (mx (mx (mx (mx (mx (mx 1787 (s_hr S)) (nI (s_n S))) (s_nx S)) (s_first S)) (s_dr S)) (nI (s_sc S))) (if s_on S = 0 then 0 else 1)) (nI (s_sh S))) (oI (s_fb S (s_sh S)))) (nI (s_wc S)))]) (rest := []) C hO (c_X2_mixKeys l E a S (mkU (s_cm S) mk (s_n S)) rk rv F (mx (mx (mx (mx (mx (mx (mx (mx (mx (mx 1787 (s_hr S)) (nI (s_n S))) (s_nx S)) (s_first S)) (s_dr S)) (nI (s_sc S))) (if s_on S = 0 then 0 else 1)) (nI (s_sh S))) (oI (s_fb S (s_sh S)))) (nI (s_wc S))) hn) (cwV 1 C.2.2.2.2.1 gX2_digest_X2_mixKeys rfl rfl rfl (by decide +kernel) ⟨(Nat.le_of_ble_eq_true rfl), (Nat.le_of_ble_eq_true rfl)⟩) (va_recv C.2.2.2.2.2.2.2.1.1 hO.1 (ci := 2) (q0 := 0) rfl rfl) rfl hl.1 rfl (Nat.le_of_ble_eq_true rfl) dX2_digest_120 ⟨(Nat.le_of_ble_eq_true rfl), (Nat.le_of_ble_eq_true rfl)⟩ (fun H locs hO => ?_)
    refine lv_lstore_n (lv' := [(1, .long (dKeys S (mx (mx (mx (mx (mx (mx (mx (mx (mx (mx 1787 (s_hr S)) (nI (s_n S))) (s_nx S)) (s_first S)) (s_dr S)) (nI (s_sc S))) (if s_on S = 0 then 0 else 1)) (nI (s_sh S))) (oI (s_fb S (s_sh S)))) (nI (s_wc S))) 10)), (0, .ref (a 0))]) C.1 C.2.1 dX2_digest_123 rfl hl (by decide) rfl (fun ls hl => ?_)
    refine lv_aload_n C.1 C.2.1 dX2_digest_124 rfl (lv_at hl 1 rfl) ?_
    refine lv_lload_n C.1 C.2.1 dX2_digest_125 rfl (lv_at hl 0 rfl) ?_
    refine gCall_l (As := [.long (dKeys S (mx (mx (mx (mx (mx (mx (mx (mx (mx (mx 1787 (s_hr S)) (nI (s_n S))) (s_nx S)) (s_first S)) (s_dr S)) (nI (s_sc S))) (if s_on S = 0 then 0 else 1)) (nI (s_sh S))) (oI (s_fb S (s_sh S)))) (nI (s_wc S))) 10)]) (rest := []) C hO (c_X2_mixStorms l E a S (mkU (s_cm S) mk (s_n S)) rk rv F (dKeys S (mx (mx (mx (mx (mx (mx (mx (mx (mx (mx 1787 (s_hr S)) (nI (s_n S))) (s_nx S)) (s_first S)) (s_dr S)) (nI (s_sc S))) (if s_on S = 0 then 0 else 1)) (nI (s_sh S))) (oI (s_fb S (s_sh S)))) (nI (s_wc S))) 10) hn hsc) (cwV 1 C.2.2.2.2.1 gX2_digest_X2_mixStorms rfl rfl rfl (by decide +kernel) ⟨(Nat.le_of_ble_eq_true rfl), (Nat.le_of_ble_eq_true rfl)⟩) (va_recv C.2.2.2.2.2.2.2.1.1 hO.1 (ci := 2) (q0 := 0) rfl rfl) rfl hl.1 rfl (Nat.le_of_ble_eq_true rfl) dX2_digest_126 ⟨(Nat.le_of_ble_eq_true rfl), (Nat.le_of_ble_eq_true rfl)⟩ (fun H locs hO => ?_)
    refine lv_lstore_n (lv' := [(1, .long (dStorms S (dKeys S (mx (mx (mx (mx (mx (mx (mx (mx (mx (mx 1787 (s_hr S)) (nI (s_n S))) (s_nx S)) (s_first S)) (s_dr S)) (nI (s_sc S))) (if s_on S = 0 then 0 else 1)) (nI (s_sh S))) (oI (s_fb S (s_sh S)))) (nI (s_wc S))) 10) (s_sc S))), (0, .ref (a 0))]) C.1 C.2.1 dX2_digest_129 rfl hl (by decide) rfl (fun ls hl => ?_)
    refine lv_aload_n C.1 C.2.1 dX2_digest_130 rfl (lv_at hl 1 rfl) ?_
    refine lv_lload_n C.1 C.2.1 dX2_digest_131 rfl (lv_at hl 0 rfl) ?_
    refine gCall_l (As := [.long (dStorms S (dKeys S (mx (mx (mx (mx (mx (mx (mx (mx (mx (mx 1787 (s_hr S)) (nI (s_n S))) (s_nx S)) (s_first S)) (s_dr S)) (nI (s_sc S))) (if s_on S = 0 then 0 else 1)) (nI (s_sh S))) (oI (s_fb S (s_sh S)))) (nI (s_wc S))) 10) (s_sc S))]) (rest := []) C hO (c_X2_mixShips l E a S (mkU (s_cm S) mk (s_n S)) rk rv F (dStorms S (dKeys S (mx (mx (mx (mx (mx (mx (mx (mx (mx (mx 1787 (s_hr S)) (nI (s_n S))) (s_nx S)) (s_first S)) (s_dr S)) (nI (s_sc S))) (if s_on S = 0 then 0 else 1)) (nI (s_sh S))) (oI (s_fb S (s_sh S)))) (nI (s_wc S))) 10) (s_sc S)) hI) (cwV 1 C.2.2.2.2.1 gX2_digest_X2_mixShips rfl rfl rfl (by decide +kernel) ⟨(Nat.le_of_ble_eq_true rfl), (Nat.le_of_ble_eq_true rfl)⟩) (va_recv C.2.2.2.2.2.2.2.1.1 hO.1 (ci := 2) (q0 := 0) rfl rfl) rfl hl.1 rfl (Nat.le_of_ble_eq_true rfl) dX2_digest_132 ⟨(Nat.le_of_ble_eq_true rfl), (Nat.le_of_ble_eq_true rfl)⟩ (fun H locs hO => ?_)
    have hO : gO E A s (xW E a S (mkU (s_cm S) (mkU (s_cm S) mk (s_n S)) (s_n S)) rk rv ++ F) H locs := hO
    exact gRl C hO rfl dX2_digest_135 (Nat.le_of_ble_eq_true rfl) (Nat.le_of_ble_eq_true rfl)
