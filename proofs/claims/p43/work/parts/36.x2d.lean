set_option maxHeartbeats 4000000 in
set_option maxRecDepth 100000 in
theorem c_X2_hours (l : Launch) (E : gE) (a : Nat → Nat) (S : St) (mk rk rv : Nat → Int32) (F : va_W)  (hI : s_inv S) : gMi l E yX2_hours wsX2_hours ({ frames := 0, cells := 0, slots := 0, locals := 0 }) (xW E a S mk rk rv ++ F) [.ref (a 0)] (s_hr S) (xW E a S mk rk rv ++ F) 0 0 := by
  refine gMi.of (cc := cX2_hours) (maxL := 1) (ty := .int) (by decide) rfl (Nat.le_of_ble_eq_true rfl) ?_
  intro p e s m args below meth c A C ls hl hO
  have hl : lv_has ls 1 [(0, .ref (a 0))] := hl
  have iX2 : ∀ w ∈ u_ws RX2 TX2 9, w ∈ wsX2_hours := by decide +kernel
  have w115 : Cond.fieldLink RX2 115 "ParrotLog" "hour" "I" ∈ wsX2_hours := by decide +kernel
  obtain ⟨hn, hsh, hsc, hOn, hOb, hok9, hpc9, hp0⟩ := hI
  refine lv_aload_n C.1 C.2.1 dX2_hours_0 rfl (lv_at hl 0 rfl) ?_
  refine gGet (v := .int (s_hr S)) (ref := RX2) (Cn := RX2) (T := TX2) (N := 9) C iX2 hO 0 rfl rfl 5 (by decide) w115 (fun _ h9 => h9) rfl dX2_hours_1 ?_
  exact gRi C hO rfl rfl dX2_hours_4 (Nat.le_of_ble_eq_true rfl) (Nat.le_of_ble_eq_true rfl)

set_option maxHeartbeats 4000000 in
set_option maxRecDepth 100000 in
theorem c_X2_phrases (l : Launch) (E : gE) (a : Nat → Nat) (S : St) (mk rk rv : Nat → Int32) (F : va_W)  (hI : s_inv S) : gMi l E yX2_phrases wsX2_phrases ({ frames := 0, cells := 0, slots := 0, locals := 0 }) (xW E a S mk rk rv ++ F) [.ref (a 0)] (nI (s_n S)) (xW E a S mk rk rv ++ F) 0 0 := by
  refine gMi.of (cc := cX2_phrases) (maxL := 1) (ty := .int) (by decide) rfl (Nat.le_of_ble_eq_true rfl) ?_
  intro p e s m args below meth c A C ls hl hO
  have hl : lv_has ls 1 [(0, .ref (a 0))] := hl
  have iX0 : ∀ w ∈ u_ws RX0 TX0 8, w ∈ wsX2_phrases := by decide +kernel
  have iX2 : ∀ w ∈ u_ws RX2 TX2 9, w ∈ wsX2_phrases := by decide +kernel
  have w10 : Cond.fieldLink RX2 10 "ParrotLog" "log" "LParrotLog$Log;" ∈ wsX2_phrases := by decide +kernel
  obtain ⟨hn, hsh, hsc, hOn, hOb, hok9, hpc9, hp0⟩ := hI
  refine lv_aload_n C.1 C.2.1 dX2_phrases_0 rfl (lv_at hl 0 rfl) ?_
  refine gGet (v := .ref (a 1)) (ref := RX2) (Cn := RX2) (T := TX2) (N := 9) C iX2 hO 0 rfl rfl 0 (by decide) w10 (fun _ h9 => h9) rfl dX2_phrases_1 ?_
  refine gGetN (v := .int (nI (s_n S))) (ref := RX0) (Cn := RX0) (T := TX0) (N := 8) (host := RX2) C iX0 hO 1 rfl rfl 5 (by decide) (by decide +kernel) (fun _ h9 => h9) rfl dX2_phrases_4 ?_
  exact gRi C hO rfl rfl dX2_phrases_7 (Nat.le_of_ble_eq_true rfl) (Nat.le_of_ble_eq_true rfl)

set_option maxHeartbeats 4000000 in
set_option maxRecDepth 100000 in
theorem c_X2_nextOffset (l : Launch) (E : gE) (a : Nat → Nat) (S : St) (mk rk rv : Nat → Int32) (F : va_W)  (hI : s_inv S) : gMi l E yX2_nextOffset wsX2_nextOffset ({ frames := 0, cells := 0, slots := 0, locals := 0 }) (xW E a S mk rk rv ++ F) [.ref (a 0)] (s_nx S) (xW E a S mk rk rv ++ F) 0 0 := by
  refine gMi.of (cc := cX2_nextOffset) (maxL := 1) (ty := .int) (by decide) rfl (Nat.le_of_ble_eq_true rfl) ?_
  intro p e s m args below meth c A C ls hl hO
  have hl : lv_has ls 1 [(0, .ref (a 0))] := hl
  have iX0 : ∀ w ∈ u_ws RX0 TX0 8, w ∈ wsX2_nextOffset := by decide +kernel
  have iX2 : ∀ w ∈ u_ws RX2 TX2 9, w ∈ wsX2_nextOffset := by decide +kernel
  have w10 : Cond.fieldLink RX2 10 "ParrotLog" "log" "LParrotLog$Log;" ∈ wsX2_nextOffset := by decide +kernel
  obtain ⟨hn, hsh, hsc, hOn, hOb, hok9, hpc9, hp0⟩ := hI
  refine lv_aload_n C.1 C.2.1 dX2_nextOffset_0 rfl (lv_at hl 0 rfl) ?_
  refine gGet (v := .ref (a 1)) (ref := RX2) (Cn := RX2) (T := TX2) (N := 9) C iX2 hO 0 rfl rfl 0 (by decide) w10 (fun _ h9 => h9) rfl dX2_nextOffset_1 ?_
  refine gGetN (v := .int (s_nx S)) (ref := RX0) (Cn := RX0) (T := TX0) (N := 8) (host := RX2) C iX0 hO 1 rfl rfl 6 (by decide) (by decide +kernel) (fun _ h9 => h9) rfl dX2_nextOffset_4 ?_
  exact gRi C hO rfl rfl dX2_nextOffset_7 (Nat.le_of_ble_eq_true rfl) (Nat.le_of_ble_eq_true rfl)

set_option maxHeartbeats 4000000 in
set_option maxRecDepth 100000 in
theorem c_X2_firstOffset (l : Launch) (E : gE) (a : Nat → Nat) (S : St) (mk rk rv : Nat → Int32) (F : va_W)  (hI : s_inv S) : gMi l E yX2_firstOffset wsX2_firstOffset ({ frames := 0, cells := 0, slots := 0, locals := 0 }) (xW E a S mk rk rv ++ F) [.ref (a 0)] (s_first S) (xW E a S mk rk rv ++ F) 0 0 := by
  refine gMi.of (cc := cX2_firstOffset) (maxL := 1) (ty := .int) (by decide) rfl (Nat.le_of_ble_eq_true rfl) ?_
  intro p e s m args below meth c A C ls hl hO
  have hl : lv_has ls 1 [(0, .ref (a 0))] := hl
  have iX0 : ∀ w ∈ u_ws RX0 TX0 8, w ∈ wsX2_firstOffset := by decide +kernel
  have iX2 : ∀ w ∈ u_ws RX2 TX2 9, w ∈ wsX2_firstOffset := by decide +kernel
  have w10 : Cond.fieldLink RX2 10 "ParrotLog" "log" "LParrotLog$Log;" ∈ wsX2_firstOffset := by decide +kernel
  obtain ⟨hn, hsh, hsc, hOn, hOb, hok9, hpc9, hp0⟩ := hI
  refine lv_aload_n C.1 C.2.1 dX2_firstOffset_0 rfl (lv_at hl 0 rfl) ?_
  refine gGet (v := .ref (a 1)) (ref := RX2) (Cn := RX2) (T := TX2) (N := 9) C iX2 hO 0 rfl rfl 0 (by decide) w10 (fun _ h9 => h9) rfl dX2_firstOffset_1 ?_
  refine gGetN (v := .int (nI (s_n S))) (ref := RX0) (Cn := RX0) (T := TX0) (N := 8) (host := RX2) C iX0 hO 1 rfl rfl 5 (by decide) (by decide +kernel) (fun _ h9 => h9) rfl dX2_firstOffset_4 ?_
  refine lv_if_ne (tgt := 14) C.1 C.2.1 dX2_firstOffset_7 (by decide) (fun c_1 => ?_) (fun c_1 => ?_)
  · have hz : ¬ s_n S = 0 := fun g => c_1 (by rw [g]; rfl)
    refine lv_aload_n C.1 C.2.1 dX2_firstOffset_14 rfl (lv_at hl 0 rfl) ?_
    refine gGet (v := .ref (a 1)) (ref := RX2) (Cn := RX2) (T := TX2) (N := 9) C iX2 hO 0 rfl rfl 0 (by decide) w10 (fun _ h9 => h9) rfl dX2_firstOffset_15 ?_
    refine gGetN (v := .ref (a 2)) (ref := RX0) (Cn := RX0) (T := TX0) (N := 8) (host := RX2) C iX0 hO 1 rfl rfl 0 (by decide) (by decide +kernel) (fun _ h9 => h9) rfl dX2_firstOffset_18 ?_
    refine lv_iconst (v := 0) C.1 C.2.1 dX2_firstOffset_21 (by decide) ?_
    refine gIald (v := (s_off S) 0) (j := 0) C hO 2 rfl (by omega) (by decide) rfl dX2_firstOffset_22 ?_
    exact gRi C hO rfl (by first | exact ((if_pos hz).symm) | exact ((if_neg hz).symm)) dX2_firstOffset_23 (Nat.le_of_ble_eq_true rfl) (Nat.le_of_ble_eq_true rfl)
  · have hz : s_n S = 0 := nI_z (by omega) c_1
    refine lv_iconst (v := (-1)) C.1 C.2.1 dX2_firstOffset_10 (by decide) ?_
    refine lv_goto (tgt := 23) C.1 C.2.1 dX2_firstOffset_11 (by decide) ?_
    exact gRi C hO rfl (by first | exact ((if_pos hz).symm) | exact ((if_neg hz).symm)) dX2_firstOffset_23 (Nat.le_of_ble_eq_true rfl) (Nat.le_of_ble_eq_true rfl)

set_option maxHeartbeats 4000000 in
set_option maxRecDepth 100000 in
theorem c_X2_dropped (l : Launch) (E : gE) (a : Nat → Nat) (S : St) (mk rk rv : Nat → Int32) (F : va_W)  (hI : s_inv S) : gMi l E yX2_dropped wsX2_dropped ({ frames := 0, cells := 0, slots := 0, locals := 0 }) (xW E a S mk rk rv ++ F) [.ref (a 0)] (s_dr S) (xW E a S mk rk rv ++ F) 0 0 := by
  refine gMi.of (cc := cX2_dropped) (maxL := 1) (ty := .int) (by decide) rfl (Nat.le_of_ble_eq_true rfl) ?_
  intro p e s m args below meth c A C ls hl hO
  have hl : lv_has ls 1 [(0, .ref (a 0))] := hl
  have iX0 : ∀ w ∈ u_ws RX0 TX0 8, w ∈ wsX2_dropped := by decide +kernel
  have iX2 : ∀ w ∈ u_ws RX2 TX2 9, w ∈ wsX2_dropped := by decide +kernel
  have w10 : Cond.fieldLink RX2 10 "ParrotLog" "log" "LParrotLog$Log;" ∈ wsX2_dropped := by decide +kernel
  obtain ⟨hn, hsh, hsc, hOn, hOb, hok9, hpc9, hp0⟩ := hI
  refine lv_aload_n C.1 C.2.1 dX2_dropped_0 rfl (lv_at hl 0 rfl) ?_
  refine gGet (v := .ref (a 1)) (ref := RX2) (Cn := RX2) (T := TX2) (N := 9) C iX2 hO 0 rfl rfl 0 (by decide) w10 (fun _ h9 => h9) rfl dX2_dropped_1 ?_
  refine gGetN (v := .int (s_dr S)) (ref := RX0) (Cn := RX0) (T := TX0) (N := 8) (host := RX2) C iX0 hO 1 rfl rfl 7 (by decide) (by decide +kernel) (fun _ h9 => h9) rfl dX2_dropped_4 ?_
  exact gRi C hO rfl rfl dX2_dropped_7 (Nat.le_of_ble_eq_true rfl) (Nat.le_of_ble_eq_true rfl)

set_option maxHeartbeats 4000000 in
set_option maxRecDepth 100000 in
theorem c_X2_isKept (l : Launch) (E : gE) (a : Nat → Nat) (S : St) (mk rk rv : Nat → Int32) (F : va_W) (o : Int32) (hI : s_inv S) : gMi l E yX2_isKept wsX2_isKept ({ frames := 2, cells := 0, slots := 0, locals := 44 }) (xW E a S mk rk rv ++ F) [.ref (a 0), .int o] (if s_po S o = none then 0 else 1) (xW E a S mk rk rv ++ F) 0 0 := by
  refine gMi.of (cc := cX2_isKept) (maxL := 2) (ty := .boolean) (by decide) rfl (Nat.le_of_ble_eq_true rfl) ?_
  intro p e s m args below meth c A C ls hl hO
  have hl : lv_has ls 2 [(0, .ref (a 0)), (1, .int o)] := hl
  have iX2 : ∀ w ∈ u_ws RX2 TX2 9, w ∈ wsX2_isKept := by decide +kernel
  have w10 : Cond.fieldLink RX2 10 "ParrotLog" "log" "LParrotLog$Log;" ∈ wsX2_isKept := by decide +kernel
  obtain ⟨hn, hsh, hsc, hOn, hOb, hok9, hpc9, hp0⟩ := hI
  refine lv_aload_n C.1 C.2.1 dX2_isKept_0 rfl (lv_at hl 0 rfl) ?_
  refine gGet (v := .ref (a 1)) (ref := RX2) (Cn := RX2) (T := TX2) (N := 9) C iX2 hO 0 rfl rfl 0 (by decide) w10 (fun _ h9 => h9) rfl dX2_isKept_1 ?_
  refine lv_iload_n C.1 C.2.1 dX2_isKept_4 rfl (lv_at hl 1 rfl) ?_
  refine gCallN_i (As := [.int o]) (rest := []) C hO (c_X0_positionOf l E a S mk rk rv F o (by omega)) ⟨va_cnB (host := RX2) 1 C.2.2.2.2.1 gX2_isKept_X0_positionOf_n130 rfl rfl rfl (C.2.2.2.2.2.2.2.1.2.1 (.methodLinkNest RX2 130 yX0_positionOf RX2) (by decide +kernel)) (C.2.2.2.2.1 (.initialized RX0) (by decide +kernel)) (by decide +kernel) ⟨(Nat.le_of_ble_eq_true rfl), (Nat.le_of_ble_eq_true rfl)⟩, C.2.2.2.2.1 (.instanceMethod yX0_positionOf) (by decide +kernel), C.2.2.2.2.1 (.selects RX0 yX0_positionOf yX0_positionOf) (by decide +kernel)⟩ (va_recv C.2.2.2.2.2.2.2.1.1 hO.1 (ci := 0) (q0 := 1) rfl rfl) rfl hl.1 rfl (Nat.le_of_ble_eq_true rfl) dX2_isKept_5 ⟨(Nat.le_of_ble_eq_true rfl), (Nat.le_of_ble_eq_true rfl)⟩ (fun H locs hO => ?_)
  refine lv_iconst (v := (-1)) C.1 C.2.1 dX2_isKept_8 (by decide) ?_
  refine lv_icmp_eq (tgt := 16) C.1 C.2.1 dX2_isKept_9 (by decide) (fun c_1 => ?_) (fun c_1 => ?_)
  · have hz : s_po S o = none := (oI_ne (fun i hi => by have := s_po_lt hi; omega)).mp c_1
    refine lv_iconst (v := 0) C.1 C.2.1 dX2_isKept_16 (by decide) ?_
    exact gRi C hO rfl (by first | exact ((if_pos hz).symm) | exact ((if_neg hz).symm)) dX2_isKept_17 (Nat.le_of_ble_eq_true rfl) (Nat.le_of_ble_eq_true rfl)
  · have hz : ¬ s_po S o = none := fun g => c_1 (by rw [g]; rfl)
    refine lv_iconst (v := 1) C.1 C.2.1 dX2_isKept_12 (by decide) ?_
    refine lv_goto (tgt := 17) C.1 C.2.1 dX2_isKept_13 (by decide) ?_
    exact gRi C hO rfl (by first | exact ((if_pos hz).symm) | exact ((if_neg hz).symm)) dX2_isKept_17 (Nat.le_of_ble_eq_true rfl) (Nat.le_of_ble_eq_true rfl)

set_option maxHeartbeats 4000000 in
set_option maxRecDepth 100000 in
theorem c_X2_keyAt (l : Launch) (E : gE) (a : Nat → Nat) (S : St) (mk rk rv : Nat → Int32) (F : va_W) (o : Int32) (hst : l.stackTraces = false) (hI : s_inv S) : gXi l E yX2_keyAt wsX2_keyAt ({ frames := 7, cells := 1, slots := 6, locals := 104 }) (xW E a S mk rk rv ++ F) [.ref (a 0), .int o] (s_po S o ≠ none) (s_ka S (s_key S) o) (xW E a S mk rk rv ++ F) (fun En => En = xIOE ∧ s_po S o = none) 1 6 := by
  refine gXi.of (cc := cX2_keyAt) (maxL := 2) (ty := .int) (by decide) rfl (Nat.le_of_ble_eq_true rfl) ?_
  intro p e s m args below meth c A C ht ls hl hO
  have hl : lv_has ls 2 [(0, .ref (a 0)), (1, .int o)] := hl
  have iX0 : ∀ w ∈ u_ws RX0 TX0 8, w ∈ wsX2_keyAt := by decide +kernel
  have iX2 : ∀ w ∈ u_ws RX2 TX2 9, w ∈ wsX2_keyAt := by decide +kernel
  have w10 : Cond.fieldLink RX2 10 "ParrotLog" "log" "LParrotLog$Log;" ∈ wsX2_keyAt := by decide +kernel
  obtain ⟨hn, hsh, hsc, hOn, hOb, hok9, hpc9, hp0⟩ := hI
  refine lv_aload_n C.1 C.2.1 dX2_keyAt_0 rfl (lv_at hl 0 rfl) ?_
  refine gGet (v := .ref (a 1)) (ref := RX2) (Cn := RX2) (T := TX2) (N := 9) C iX2 hO 0 rfl rfl 0 (by decide) w10 (fun _ h9 => h9) rfl dX2_keyAt_1 ?_
  refine gGetN (v := .ref (a 3)) (ref := RX0) (Cn := RX0) (T := TX0) (N := 8) (host := RX2) C iX0 hO 1 rfl rfl 1 (by decide) (by decide +kernel) (fun _ h9 => h9) rfl dX2_keyAt_4 ?_
  refine lv_aload_n C.1 C.2.1 dX2_keyAt_7 rfl (lv_at hl 0 rfl) ?_
  refine lv_iload_n C.1 C.2.1 dX2_keyAt_8 rfl (lv_at hl 1 rfl) ?_
  refine gXCall_i (As := [.int o]) (rest := [.ref (a 3)]) C hO (c_X2_keptPosition l E a S mk rk rv F o hst (by omega)) (cwV 1 C.2.2.2.2.1 gX2_keyAt_X2_keptPosition rfl rfl rfl (by decide +kernel) ⟨(Nat.le_of_ble_eq_true rfl), (Nat.le_of_ble_eq_true rfl)⟩) (va_recv C.2.2.2.2.2.2.2.1.1 hO.1 (ci := 2) (q0 := 0) rfl rfl) rfl hl.1 rfl (Nat.le_of_ble_eq_true rfl) dX2_keyAt_9 ⟨(Nat.le_of_ble_eq_true rfl), (Nat.le_of_ble_eq_true rfl)⟩ (fun E0 ce q9 H locs hO hcell hcv hcl hbad => ?_) (fun H locs hO hok => ?_)
  · exact gXout C hO ht hcell hcv hcl hbad (Nat.le_of_ble_eq_true rfl) (Nat.le_of_ble_eq_true rfl)
  obtain ⟨i24, hz, hi8⟩ := s_po_ne hok
  refine lv_eqi (y := nI i24) (by rw [hz]; rfl) ?_
  refine gIald (v := (s_key S) i24) (j := i24) C hO 3 rfl (by omega) (by decide) rfl dX2_keyAt_12 ?_
  exact gXRi C hO rfl hok (by unfold s_ka; rw [hz]) dX2_keyAt_13 (Nat.le_of_ble_eq_true rfl) (Nat.le_of_ble_eq_true rfl)

set_option maxHeartbeats 4000000 in
set_option maxRecDepth 100000 in
theorem c_X2_valueAt (l : Launch) (E : gE) (a : Nat → Nat) (S : St) (mk rk rv : Nat → Int32) (F : va_W) (o : Int32) (hst : l.stackTraces = false) (hI : s_inv S) : gXi l E yX2_valueAt wsX2_valueAt ({ frames := 7, cells := 1, slots := 6, locals := 104 }) (xW E a S mk rk rv ++ F) [.ref (a 0), .int o] (s_po S o ≠ none) (s_ka S (s_val S) o) (xW E a S mk rk rv ++ F) (fun En => En = xIOE ∧ s_po S o = none) 1 6 := by
  refine gXi.of (cc := cX2_valueAt) (maxL := 2) (ty := .int) (by decide) rfl (Nat.le_of_ble_eq_true rfl) ?_
  intro p e s m args below meth c A C ht ls hl hO
  have hl : lv_has ls 2 [(0, .ref (a 0)), (1, .int o)] := hl
  have iX0 : ∀ w ∈ u_ws RX0 TX0 8, w ∈ wsX2_valueAt := by decide +kernel
  have iX2 : ∀ w ∈ u_ws RX2 TX2 9, w ∈ wsX2_valueAt := by decide +kernel
  have w10 : Cond.fieldLink RX2 10 "ParrotLog" "log" "LParrotLog$Log;" ∈ wsX2_valueAt := by decide +kernel
  obtain ⟨hn, hsh, hsc, hOn, hOb, hok9, hpc9, hp0⟩ := hI
  refine lv_aload_n C.1 C.2.1 dX2_valueAt_0 rfl (lv_at hl 0 rfl) ?_
  refine gGet (v := .ref (a 1)) (ref := RX2) (Cn := RX2) (T := TX2) (N := 9) C iX2 hO 0 rfl rfl 0 (by decide) w10 (fun _ h9 => h9) rfl dX2_valueAt_1 ?_
  refine gGetN (v := .ref (a 4)) (ref := RX0) (Cn := RX0) (T := TX0) (N := 8) (host := RX2) C iX0 hO 1 rfl rfl 2 (by decide) (by decide +kernel) (fun _ h9 => h9) rfl dX2_valueAt_4 ?_
  refine lv_aload_n C.1 C.2.1 dX2_valueAt_7 rfl (lv_at hl 0 rfl) ?_
  refine lv_iload_n C.1 C.2.1 dX2_valueAt_8 rfl (lv_at hl 1 rfl) ?_
  refine gXCall_i (As := [.int o]) (rest := [.ref (a 4)]) C hO (c_X2_keptPosition l E a S mk rk rv F o hst (by omega)) (cwV 1 C.2.2.2.2.1 gX2_valueAt_X2_keptPosition rfl rfl rfl (by decide +kernel) ⟨(Nat.le_of_ble_eq_true rfl), (Nat.le_of_ble_eq_true rfl)⟩) (va_recv C.2.2.2.2.2.2.2.1.1 hO.1 (ci := 2) (q0 := 0) rfl rfl) rfl hl.1 rfl (Nat.le_of_ble_eq_true rfl) dX2_valueAt_9 ⟨(Nat.le_of_ble_eq_true rfl), (Nat.le_of_ble_eq_true rfl)⟩ (fun E0 ce q9 H locs hO hcell hcv hcl hbad => ?_) (fun H locs hO hok => ?_)
  · exact gXout C hO ht hcell hcv hcl hbad (Nat.le_of_ble_eq_true rfl) (Nat.le_of_ble_eq_true rfl)
  obtain ⟨i24, hz, hi8⟩ := s_po_ne hok
  refine lv_eqi (y := nI i24) (by rw [hz]; rfl) ?_
  refine gIald (v := (s_val S) i24) (j := i24) C hO 4 rfl (by omega) (by decide) rfl dX2_valueAt_12 ?_
  exact gXRi C hO rfl hok (by unfold s_ka; rw [hz]) dX2_valueAt_13 (Nat.le_of_ble_eq_true rfl) (Nat.le_of_ble_eq_true rfl)

set_option maxHeartbeats 4000000 in
set_option maxRecDepth 100000 in
theorem c_X2_stormAt (l : Launch) (E : gE) (a : Nat → Nat) (S : St) (mk rk rv : Nat → Int32) (F : va_W) (o : Int32) (hst : l.stackTraces = false) (hI : s_inv S) : gXi l E yX2_stormAt wsX2_stormAt ({ frames := 7, cells := 1, slots := 6, locals := 104 }) (xW E a S mk rk rv ++ F) [.ref (a 0), .int o] (s_po S o ≠ none) (s_ka S (s_sto S) o) (xW E a S mk rk rv ++ F) (fun En => En = xIOE ∧ s_po S o = none) 1 6 := by
  refine gXi.of (cc := cX2_stormAt) (maxL := 2) (ty := .int) (by decide) rfl (Nat.le_of_ble_eq_true rfl) ?_
  intro p e s m args below meth c A C ht ls hl hO
  have hl : lv_has ls 2 [(0, .ref (a 0)), (1, .int o)] := hl
  have iX0 : ∀ w ∈ u_ws RX0 TX0 8, w ∈ wsX2_stormAt := by decide +kernel
  have iX2 : ∀ w ∈ u_ws RX2 TX2 9, w ∈ wsX2_stormAt := by decide +kernel
  have w10 : Cond.fieldLink RX2 10 "ParrotLog" "log" "LParrotLog$Log;" ∈ wsX2_stormAt := by decide +kernel
  obtain ⟨hn, hsh, hsc, hOn, hOb, hok9, hpc9, hp0⟩ := hI
  refine lv_aload_n C.1 C.2.1 dX2_stormAt_0 rfl (lv_at hl 0 rfl) ?_
  refine gGet (v := .ref (a 1)) (ref := RX2) (Cn := RX2) (T := TX2) (N := 9) C iX2 hO 0 rfl rfl 0 (by decide) w10 (fun _ h9 => h9) rfl dX2_stormAt_1 ?_
  refine gGetN (v := .ref (a 5)) (ref := RX0) (Cn := RX0) (T := TX0) (N := 8) (host := RX2) C iX0 hO 1 rfl rfl 3 (by decide) (by decide +kernel) (fun _ h9 => h9) rfl dX2_stormAt_4 ?_
  refine lv_aload_n C.1 C.2.1 dX2_stormAt_7 rfl (lv_at hl 0 rfl) ?_
  refine lv_iload_n C.1 C.2.1 dX2_stormAt_8 rfl (lv_at hl 1 rfl) ?_
  refine gXCall_i (As := [.int o]) (rest := [.ref (a 5)]) C hO (c_X2_keptPosition l E a S mk rk rv F o hst (by omega)) (cwV 1 C.2.2.2.2.1 gX2_stormAt_X2_keptPosition rfl rfl rfl (by decide +kernel) ⟨(Nat.le_of_ble_eq_true rfl), (Nat.le_of_ble_eq_true rfl)⟩) (va_recv C.2.2.2.2.2.2.2.1.1 hO.1 (ci := 2) (q0 := 0) rfl rfl) rfl hl.1 rfl (Nat.le_of_ble_eq_true rfl) dX2_stormAt_9 ⟨(Nat.le_of_ble_eq_true rfl), (Nat.le_of_ble_eq_true rfl)⟩ (fun E0 ce q9 H locs hO hcell hcv hcl hbad => ?_) (fun H locs hO hok => ?_)
  · exact gXout C hO ht hcell hcv hcl hbad (Nat.le_of_ble_eq_true rfl) (Nat.le_of_ble_eq_true rfl)
  obtain ⟨i24, hz, hi8⟩ := s_po_ne hok
  refine lv_eqi (y := nI i24) (by rw [hz]; rfl) ?_
  refine gIald (v := (s_sto S) i24) (j := i24) C hO 5 rfl (by omega) (by decide) rfl dX2_stormAt_12 ?_
  exact gXRi C hO rfl hok (by unfold s_ka; rw [hz]) dX2_stormAt_13 (Nat.le_of_ble_eq_true rfl) (Nat.le_of_ble_eq_true rfl)

set_option maxHeartbeats 4000000 in
set_option maxRecDepth 100000 in
theorem c_X2_latestOf (l : Launch) (E : gE) (a : Nat → Nat) (S : St) (mk rk rv : Nat → Int32) (F : va_W) (k : Int32) (hst : l.stackTraces = false) (hI : s_inv S) : gXi l E yX2_latestOf wsX2_latestOf ({ frames := 7, cells := 1, slots := 6, locals := 102 }) (xW E a S mk rk rv ++ F) [.ref (a 0), .int k] (okKey k) (s_lo S k) (xW E a S mk rk rv ++ F) (fun En => En = xIOE ∧ ¬ okKey k) 1 6 := by
  refine gXi.of (cc := cX2_latestOf) (maxL := 2) (ty := .int) (by decide) rfl (Nat.le_of_ble_eq_true rfl) ?_
  intro p e s m args below meth c A C ht ls hl hO
  have hl : lv_has ls 2 [(0, .ref (a 0)), (1, .int k)] := hl
  have iX2 : ∀ w ∈ u_ws RX2 TX2 9, w ∈ wsX2_latestOf := by decide +kernel
  have w10 : Cond.fieldLink RX2 10 "ParrotLog" "log" "LParrotLog$Log;" ∈ wsX2_latestOf := by decide +kernel
  obtain ⟨hn, hsh, hsc, hOn, hOb, hok9, hpc9, hp0⟩ := hI
  refine lv_iload_n C.1 C.2.1 dX2_latestOf_0 rfl (lv_at hl 1 rfl) ?_
  refine gXCallS_v (As := [.int k]) (rest := []) C hO (c_X2_checkKey l E a S mk rk rv F k hst) (cwS 1 C.2.2.2.2.1 gX2_latestOf_X2_checkKey rfl rfl rfl (by decide +kernel) ⟨(Nat.le_of_ble_eq_true rfl), (Nat.le_of_ble_eq_true rfl)⟩) rfl hl.1 rfl (Nat.le_of_ble_eq_true rfl) dX2_latestOf_1 ⟨(Nat.le_of_ble_eq_true rfl), (Nat.le_of_ble_eq_true rfl)⟩ (fun E0 ce q9 H locs hO hcell hcv hcl hbad => ?_) (fun H locs hO hok => ?_)
  · exact gXout C hO ht hcell hcv hcl hbad (Nat.le_of_ble_eq_true rfl) (Nat.le_of_ble_eq_true rfl)
  refine lv_aload_n C.1 C.2.1 dX2_latestOf_4 rfl (lv_at hl 0 rfl) ?_
  refine gGet (v := .ref (a 1)) (ref := RX2) (Cn := RX2) (T := TX2) (N := 9) C iX2 hO 0 rfl rfl 0 (by decide) w10 (fun _ h9 => h9) rfl dX2_latestOf_5 ?_
  refine lv_iload_n C.1 C.2.1 dX2_latestOf_8 rfl (lv_at hl 1 rfl) ?_
  refine gCallN_i (As := [.int k]) (rest := []) C hO (c_X0_latestOffset l E a S mk rk rv F k (by omega)) ⟨va_cnB (host := RX2) 1 C.2.2.2.2.1 gX2_latestOf_X0_latestOffset_n149 rfl rfl rfl (C.2.2.2.2.2.2.2.1.2.1 (.methodLinkNest RX2 149 yX0_latestOffset RX2) (by decide +kernel)) (C.2.2.2.2.1 (.initialized RX0) (by decide +kernel)) (by decide +kernel) ⟨(Nat.le_of_ble_eq_true rfl), (Nat.le_of_ble_eq_true rfl)⟩, C.2.2.2.2.1 (.instanceMethod yX0_latestOffset) (by decide +kernel), C.2.2.2.2.1 (.selects RX0 yX0_latestOffset yX0_latestOffset) (by decide +kernel)⟩ (va_recv C.2.2.2.2.2.2.2.1.1 hO.1 (ci := 0) (q0 := 1) rfl rfl) rfl hl.1 rfl (Nat.le_of_ble_eq_true rfl) dX2_latestOf_9 ⟨(Nat.le_of_ble_eq_true rfl), (Nat.le_of_ble_eq_true rfl)⟩ (fun H locs hO => ?_)
  exact gXRi C hO rfl hok rfl dX2_latestOf_12 (Nat.le_of_ble_eq_true rfl) (Nat.le_of_ble_eq_true rfl)

set_option maxHeartbeats 4000000 in
set_option maxRecDepth 100000 in
theorem c_X2_valueOf (l : Launch) (E : gE) (a : Nat → Nat) (S : St) (mk rk rv : Nat → Int32) (F : va_W) (k : Int32) (hst : l.stackTraces = false) (hI : s_inv S) : gXi l E yX2_valueOf wsX2_valueOf ({ frames := 7, cells := 1, slots := 6, locals := 102 }) (xW E a S mk rk rv ++ F) [.ref (a 0), .int k] (okKey k) (s_wv S k) (xW E a S mk rk rv ++ F) (fun En => En = xIOE ∧ ¬ okKey k) 1 6 := by
  refine gXi.of (cc := cX2_valueOf) (maxL := 2) (ty := .int) (by decide) rfl (Nat.le_of_ble_eq_true rfl) ?_
  intro p e s m args below meth c A C ht ls hl hO
  have hl : lv_has ls 2 [(0, .ref (a 0)), (1, .int k)] := hl
  have iX2 : ∀ w ∈ u_ws RX2 TX2 9, w ∈ wsX2_valueOf := by decide +kernel
  have w10 : Cond.fieldLink RX2 10 "ParrotLog" "log" "LParrotLog$Log;" ∈ wsX2_valueOf := by decide +kernel
  obtain ⟨hn, hsh, hsc, hOn, hOb, hok9, hpc9, hp0⟩ := hI
  refine lv_iload_n C.1 C.2.1 dX2_valueOf_0 rfl (lv_at hl 1 rfl) ?_
  refine gXCallS_v (As := [.int k]) (rest := []) C hO (c_X2_checkKey l E a S mk rk rv F k hst) (cwS 1 C.2.2.2.2.1 gX2_valueOf_X2_checkKey rfl rfl rfl (by decide +kernel) ⟨(Nat.le_of_ble_eq_true rfl), (Nat.le_of_ble_eq_true rfl)⟩) rfl hl.1 rfl (Nat.le_of_ble_eq_true rfl) dX2_valueOf_1 ⟨(Nat.le_of_ble_eq_true rfl), (Nat.le_of_ble_eq_true rfl)⟩ (fun E0 ce q9 H locs hO hcell hcv hcl hbad => ?_) (fun H locs hO hok => ?_)
  · exact gXout C hO ht hcell hcv hcl hbad (Nat.le_of_ble_eq_true rfl) (Nat.le_of_ble_eq_true rfl)
  refine lv_aload_n C.1 C.2.1 dX2_valueOf_4 rfl (lv_at hl 0 rfl) ?_
  refine gGet (v := .ref (a 1)) (ref := RX2) (Cn := RX2) (T := TX2) (N := 9) C iX2 hO 0 rfl rfl 0 (by decide) w10 (fun _ h9 => h9) rfl dX2_valueOf_5 ?_
  refine lv_iload_n C.1 C.2.1 dX2_valueOf_8 rfl (lv_at hl 1 rfl) ?_
  refine gCallN_i (As := [.int k]) (rest := []) C hO (c_X0_latestValue l E a S mk rk rv F k (by omega)) ⟨va_cnB (host := RX2) 1 C.2.2.2.2.1 gX2_valueOf_X0_latestValue_n152 rfl rfl rfl (C.2.2.2.2.2.2.2.1.2.1 (.methodLinkNest RX2 152 yX0_latestValue RX2) (by decide +kernel)) (C.2.2.2.2.1 (.initialized RX0) (by decide +kernel)) (by decide +kernel) ⟨(Nat.le_of_ble_eq_true rfl), (Nat.le_of_ble_eq_true rfl)⟩, C.2.2.2.2.1 (.instanceMethod yX0_latestValue) (by decide +kernel), C.2.2.2.2.1 (.selects RX0 yX0_latestValue yX0_latestValue) (by decide +kernel)⟩ (va_recv C.2.2.2.2.2.2.2.1.1 hO.1 (ci := 0) (q0 := 1) rfl rfl) rfl hl.1 rfl (Nat.le_of_ble_eq_true rfl) dX2_valueOf_9 ⟨(Nat.le_of_ble_eq_true rfl), (Nat.le_of_ble_eq_true rfl)⟩ (fun H locs hO => ?_)
  exact gXRi C hO rfl hok rfl dX2_valueOf_12 (Nat.le_of_ble_eq_true rfl) (Nat.le_of_ble_eq_true rfl)

set_option maxHeartbeats 4000000 in
set_option maxRecDepth 100000 in
theorem c_X2_countOf (l : Launch) (E : gE) (a : Nat → Nat) (S : St) (mk rk rv : Nat → Int32) (F : va_W) (k : Int32) (hst : l.stackTraces = false) (hI : s_inv S) : gXi l E yX2_countOf wsX2_countOf ({ frames := 7, cells := 1, slots := 6, locals := 102 }) (xW E a S mk rk rv ++ F) [.ref (a 0), .int k] (okKey k) (nI (cnt (s_key S) k (s_n S))) (xW E a S mk rk rv ++ F) (fun En => En = xIOE ∧ ¬ okKey k) 1 6 := by
  refine gXi.of (cc := cX2_countOf) (maxL := 2) (ty := .int) (by decide) rfl (Nat.le_of_ble_eq_true rfl) ?_
  intro p e s m args below meth c A C ht ls hl hO
  have hl : lv_has ls 2 [(0, .ref (a 0)), (1, .int k)] := hl
  have iX2 : ∀ w ∈ u_ws RX2 TX2 9, w ∈ wsX2_countOf := by decide +kernel
  have w10 : Cond.fieldLink RX2 10 "ParrotLog" "log" "LParrotLog$Log;" ∈ wsX2_countOf := by decide +kernel
  obtain ⟨hn, hsh, hsc, hOn, hOb, hok9, hpc9, hp0⟩ := hI
  refine lv_iload_n C.1 C.2.1 dX2_countOf_0 rfl (lv_at hl 1 rfl) ?_
  refine gXCallS_v (As := [.int k]) (rest := []) C hO (c_X2_checkKey l E a S mk rk rv F k hst) (cwS 1 C.2.2.2.2.1 gX2_countOf_X2_checkKey rfl rfl rfl (by decide +kernel) ⟨(Nat.le_of_ble_eq_true rfl), (Nat.le_of_ble_eq_true rfl)⟩) rfl hl.1 rfl (Nat.le_of_ble_eq_true rfl) dX2_countOf_1 ⟨(Nat.le_of_ble_eq_true rfl), (Nat.le_of_ble_eq_true rfl)⟩ (fun E0 ce q9 H locs hO hcell hcv hcl hbad => ?_) (fun H locs hO hok => ?_)
  · exact gXout C hO ht hcell hcv hcl hbad (Nat.le_of_ble_eq_true rfl) (Nat.le_of_ble_eq_true rfl)
  refine lv_aload_n C.1 C.2.1 dX2_countOf_4 rfl (lv_at hl 0 rfl) ?_
  refine gGet (v := .ref (a 1)) (ref := RX2) (Cn := RX2) (T := TX2) (N := 9) C iX2 hO 0 rfl rfl 0 (by decide) w10 (fun _ h9 => h9) rfl dX2_countOf_5 ?_
  refine lv_iload_n C.1 C.2.1 dX2_countOf_8 rfl (lv_at hl 1 rfl) ?_
  refine gCallN_i (As := [.int k]) (rest := []) C hO (c_X0_countKey l E a S mk rk rv F k (by omega)) ⟨va_cnB (host := RX2) 1 C.2.2.2.2.1 gX2_countOf_X0_countKey_n155 rfl rfl rfl (C.2.2.2.2.2.2.2.1.2.1 (.methodLinkNest RX2 155 yX0_countKey RX2) (by decide +kernel)) (C.2.2.2.2.1 (.initialized RX0) (by decide +kernel)) (by decide +kernel) ⟨(Nat.le_of_ble_eq_true rfl), (Nat.le_of_ble_eq_true rfl)⟩, C.2.2.2.2.1 (.instanceMethod yX0_countKey) (by decide +kernel), C.2.2.2.2.1 (.selects RX0 yX0_countKey yX0_countKey) (by decide +kernel)⟩ (va_recv C.2.2.2.2.2.2.2.1.1 hO.1 (ci := 0) (q0 := 1) rfl rfl) rfl hl.1 rfl (Nat.le_of_ble_eq_true rfl) dX2_countOf_9 ⟨(Nat.le_of_ble_eq_true rfl), (Nat.le_of_ble_eq_true rfl)⟩ (fun H locs hO => ?_)
  exact gXRi C hO rfl hok rfl dX2_countOf_12 (Nat.le_of_ble_eq_true rfl) (Nat.le_of_ble_eq_true rfl)

set_option maxHeartbeats 4000000 in
set_option maxRecDepth 100000 in
theorem c_X2_storms (l : Launch) (E : gE) (a : Nat → Nat) (S : St) (mk rk rv : Nat → Int32) (F : va_W)  (hI : s_inv S) : gMi l E yX2_storms wsX2_storms ({ frames := 0, cells := 0, slots := 0, locals := 0 }) (xW E a S mk rk rv ++ F) [.ref (a 0)] (nI (s_sc S)) (xW E a S mk rk rv ++ F) 0 0 := by
  refine gMi.of (cc := cX2_storms) (maxL := 1) (ty := .int) (by decide) rfl (Nat.le_of_ble_eq_true rfl) ?_
  intro p e s m args below meth c A C ls hl hO
  have hl : lv_has ls 1 [(0, .ref (a 0))] := hl
  have iX2 : ∀ w ∈ u_ws RX2 TX2 9, w ∈ wsX2_storms := by decide +kernel
  have w59 : Cond.fieldLink RX2 59 "ParrotLog" "stormCount" "I" ∈ wsX2_storms := by decide +kernel
  obtain ⟨hn, hsh, hsc, hOn, hOb, hok9, hpc9, hp0⟩ := hI
  refine lv_aload_n C.1 C.2.1 dX2_storms_0 rfl (lv_at hl 0 rfl) ?_
  refine gGet (v := .int (nI (s_sc S))) (ref := RX2) (Cn := RX2) (T := TX2) (N := 9) C iX2 hO 0 rfl rfl 6 (by decide) w59 (fun _ h9 => h9) rfl dX2_storms_1 ?_
  exact gRi C hO rfl rfl dX2_storms_4 (Nat.le_of_ble_eq_true rfl) (Nat.le_of_ble_eq_true rfl)

set_option maxHeartbeats 4000000 in
set_option maxRecDepth 100000 in
theorem c_X2_isStormy (l : Launch) (E : gE) (a : Nat → Nat) (S : St) (mk rk rv : Nat → Int32) (F : va_W)  (hI : s_inv S) : gMi l E yX2_isStormy wsX2_isStormy ({ frames := 0, cells := 0, slots := 0, locals := 0 }) (xW E a S mk rk rv ++ F) [.ref (a 0)] (s_on S) (xW E a S mk rk rv ++ F) 0 0 := by
  refine gMi.of (cc := cX2_isStormy) (maxL := 1) (ty := .boolean) (by decide) rfl (Nat.le_of_ble_eq_true rfl) ?_
  intro p e s m args below meth c A C ls hl hO
  have hl : lv_has ls 1 [(0, .ref (a 0))] := hl
  have iX2 : ∀ w ∈ u_ws RX2 TX2 9, w ∈ wsX2_isStormy := by decide +kernel
  have w50 : Cond.fieldLink RX2 50 "ParrotLog" "stormOn" "Z" ∈ wsX2_isStormy := by decide +kernel
  obtain ⟨hn, hsh, hsc, hOn, hOb, hok9, hpc9, hp0⟩ := hI
  refine lv_aload_n C.1 C.2.1 dX2_isStormy_0 rfl (lv_at hl 0 rfl) ?_
  refine gGet (v := .int (s_on S)) (ref := RX2) (Cn := RX2) (T := TX2) (N := 9) C iX2 hO 0 rfl rfl 7 (by decide) w50 (fun _ h9 => h9) rfl dX2_isStormy_1 ?_
  exact gRi C hO (by rcases hOb with g | g <;> rw [g] <;> rfl) rfl dX2_isStormy_4 (Nat.le_of_ble_eq_true rfl) (Nat.le_of_ble_eq_true rfl)

set_option maxHeartbeats 4000000 in
set_option maxRecDepth 100000 in
theorem c_X2_saidIn (l : Launch) (E : gE) (a : Nat → Nat) (S : St) (mk rk rv : Nat → Int32) (F : va_W) (x : Int32) (hst : l.stackTraces = false) (hI : s_inv S) : gXi l E yX2_saidIn wsX2_saidIn ({ frames := 7, cells := 1, slots := 6, locals := 103 }) (xW E a S mk rk rv ++ F) [.ref (a 0), .int x] (okStorm S x) (s_said S x.toNatClampNeg) (xW E a S mk rk rv ++ F) (fun En => En = xIOE ∧ ¬ okStorm S x) 1 6 := by
  refine gXi.of (cc := cX2_saidIn) (maxL := 2) (ty := .int) (by decide) rfl (Nat.le_of_ble_eq_true rfl) ?_
  intro p e s m args below meth c A C ht ls hl hO
  have hl : lv_has ls 2 [(0, .ref (a 0)), (1, .int x)] := hl
  have iX2 : ∀ w ∈ u_ws RX2 TX2 9, w ∈ wsX2_saidIn := by decide +kernel
  have w16 : Cond.fieldLink RX2 16 "ParrotLog" "saidInStorm" "[I" ∈ wsX2_saidIn := by decide +kernel
  obtain ⟨hn, hsh, hsc, hOn, hOb, hok9, hpc9, hp0⟩ := hI
  refine lv_aload_n C.1 C.2.1 dX2_saidIn_0 rfl (lv_at hl 0 rfl) ?_
  refine lv_iload_n C.1 C.2.1 dX2_saidIn_1 rfl (lv_at hl 1 rfl) ?_
  refine gXCall_v (As := [.int x]) (rest := []) C hO (c_X2_checkStorm l E a S mk rk rv F x hst) (cwV 1 C.2.2.2.2.1 gX2_saidIn_X2_checkStorm rfl rfl rfl (by decide +kernel) ⟨(Nat.le_of_ble_eq_true rfl), (Nat.le_of_ble_eq_true rfl)⟩) (va_recv C.2.2.2.2.2.2.2.1.1 hO.1 (ci := 2) (q0 := 0) rfl rfl) rfl hl.1 rfl (Nat.le_of_ble_eq_true rfl) dX2_saidIn_2 ⟨(Nat.le_of_ble_eq_true rfl), (Nat.le_of_ble_eq_true rfl)⟩ (fun E0 ce q9 H locs hO hcell hcv hcl hbad => ?_) (fun H locs hO hok => ?_)
  · exact gXout C hO ht hcell hcv hcl hbad (Nat.le_of_ble_eq_true rfl) (Nat.le_of_ble_eq_true rfl)
  refine lv_aload_n C.1 C.2.1 dX2_saidIn_5 rfl (lv_at hl 0 rfl) ?_
  refine gGet (v := .ref (a 7)) (ref := RX2) (Cn := RX2) (T := TX2) (N := 9) C iX2 hO 0 rfl rfl 1 (by decide) w16 (fun _ h9 => h9) rfl dX2_saidIn_6 ?_
  refine lv_iload_n C.1 C.2.1 dX2_saidIn_9 rfl (lv_at hl 1 rfl) ?_
  have hj9 := okNat (by omega) hok.1 hok.2
  refine lv_eqi (y := nI x.toNatClampNeg) hj9.2 ?_
  refine gIald (v := (s_said S) x.toNatClampNeg) (j := x.toNatClampNeg) C hO 7 rfl (by omega) (by decide) rfl dX2_saidIn_10 ?_
  exact gXRi C hO rfl hok rfl dX2_saidIn_11 (Nat.le_of_ble_eq_true rfl) (Nat.le_of_ble_eq_true rfl)

set_option maxHeartbeats 4000000 in
set_option maxRecDepth 100000 in
theorem c_X2_keptOf (l : Launch) (E : gE) (a : Nat → Nat) (S : St) (mk rk rv : Nat → Int32) (F : va_W) (x : Int32) (hst : l.stackTraces = false) (hI : s_inv S) : gXi l E yX2_keptOf wsX2_keptOf ({ frames := 7, cells := 1, slots := 6, locals := 103 }) (xW E a S mk rk rv ++ F) [.ref (a 0), .int x] (okStorm S x) (nI (cnt (s_sto S) x (s_n S))) (xW E a S mk rk rv ++ F) (fun En => En = xIOE ∧ ¬ okStorm S x) 1 6 := by
  refine gXi.of (cc := cX2_keptOf) (maxL := 2) (ty := .int) (by decide) rfl (Nat.le_of_ble_eq_true rfl) ?_
  intro p e s m args below meth c A C ht ls hl hO
  have hl : lv_has ls 2 [(0, .ref (a 0)), (1, .int x)] := hl
  have iX2 : ∀ w ∈ u_ws RX2 TX2 9, w ∈ wsX2_keptOf := by decide +kernel
  have w10 : Cond.fieldLink RX2 10 "ParrotLog" "log" "LParrotLog$Log;" ∈ wsX2_keptOf := by decide +kernel
  obtain ⟨hn, hsh, hsc, hOn, hOb, hok9, hpc9, hp0⟩ := hI
  refine lv_aload_n C.1 C.2.1 dX2_keptOf_0 rfl (lv_at hl 0 rfl) ?_
  refine lv_iload_n C.1 C.2.1 dX2_keptOf_1 rfl (lv_at hl 1 rfl) ?_
  refine gXCall_v (As := [.int x]) (rest := []) C hO (c_X2_checkStorm l E a S mk rk rv F x hst) (cwV 1 C.2.2.2.2.1 gX2_keptOf_X2_checkStorm rfl rfl rfl (by decide +kernel) ⟨(Nat.le_of_ble_eq_true rfl), (Nat.le_of_ble_eq_true rfl)⟩) (va_recv C.2.2.2.2.2.2.2.1.1 hO.1 (ci := 2) (q0 := 0) rfl rfl) rfl hl.1 rfl (Nat.le_of_ble_eq_true rfl) dX2_keptOf_2 ⟨(Nat.le_of_ble_eq_true rfl), (Nat.le_of_ble_eq_true rfl)⟩ (fun E0 ce q9 H locs hO hcell hcv hcl hbad => ?_) (fun H locs hO hok => ?_)
  · exact gXout C hO ht hcell hcv hcl hbad (Nat.le_of_ble_eq_true rfl) (Nat.le_of_ble_eq_true rfl)
  refine lv_aload_n C.1 C.2.1 dX2_keptOf_5 rfl (lv_at hl 0 rfl) ?_
  refine gGet (v := .ref (a 1)) (ref := RX2) (Cn := RX2) (T := TX2) (N := 9) C iX2 hO 0 rfl rfl 0 (by decide) w10 (fun _ h9 => h9) rfl dX2_keptOf_6 ?_
  refine lv_iload_n C.1 C.2.1 dX2_keptOf_9 rfl (lv_at hl 1 rfl) ?_
  refine gCallN_i (As := [.int x]) (rest := []) C hO (c_X0_countStorm l E a S mk rk rv F x (by omega)) ⟨va_cnB (host := RX2) 1 C.2.2.2.2.1 gX2_keptOf_X0_countStorm_n158 rfl rfl rfl (C.2.2.2.2.2.2.2.1.2.1 (.methodLinkNest RX2 158 yX0_countStorm RX2) (by decide +kernel)) (C.2.2.2.2.1 (.initialized RX0) (by decide +kernel)) (by decide +kernel) ⟨(Nat.le_of_ble_eq_true rfl), (Nat.le_of_ble_eq_true rfl)⟩, C.2.2.2.2.1 (.instanceMethod yX0_countStorm) (by decide +kernel), C.2.2.2.2.1 (.selects RX0 yX0_countStorm yX0_countStorm) (by decide +kernel)⟩ (va_recv C.2.2.2.2.2.2.2.1.1 hO.1 (ci := 0) (q0 := 1) rfl rfl) rfl hl.1 rfl (Nat.le_of_ble_eq_true rfl) dX2_keptOf_10 ⟨(Nat.le_of_ble_eq_true rfl), (Nat.le_of_ble_eq_true rfl)⟩ (fun H locs hO => ?_)
  exact gXRi C hO rfl hok rfl dX2_keptOf_13 (Nat.le_of_ble_eq_true rfl) (Nat.le_of_ble_eq_true rfl)

set_option maxHeartbeats 4000000 in
set_option maxRecDepth 100000 in
theorem c_X2_ships (l : Launch) (E : gE) (a : Nat → Nat) (S : St) (mk rk rv : Nat → Int32) (F : va_W)  (hI : s_inv S) : gMi l E yX2_ships wsX2_ships ({ frames := 0, cells := 0, slots := 0, locals := 0 }) (xW E a S mk rk rv ++ F) [.ref (a 0)] (nI (s_sh S)) (xW E a S mk rk rv ++ F) 0 0 := by
  refine gMi.of (cc := cX2_ships) (maxL := 1) (ty := .int) (by decide) rfl (Nat.le_of_ble_eq_true rfl) ?_
  intro p e s m args below meth c A C ls hl hO
  have hl : lv_has ls 1 [(0, .ref (a 0))] := hl
  have iX2 : ∀ w ∈ u_ws RX2 TX2 9, w ∈ wsX2_ships := by decide +kernel
  have w90 : Cond.fieldLink RX2 90 "ParrotLog" "shipCount" "I" ∈ wsX2_ships := by decide +kernel
  obtain ⟨hn, hsh, hsc, hOn, hOb, hok9, hpc9, hp0⟩ := hI
  refine lv_aload_n C.1 C.2.1 dX2_ships_0 rfl (lv_at hl 0 rfl) ?_
  refine gGet (v := .int (nI (s_sh S))) (ref := RX2) (Cn := RX2) (T := TX2) (N := 9) C iX2 hO 0 rfl rfl 8 (by decide) w90 (fun _ h9 => h9) rfl dX2_ships_1 ?_
  exact gRi C hO rfl rfl dX2_ships_4 (Nat.le_of_ble_eq_true rfl) (Nat.le_of_ble_eq_true rfl)

set_option maxHeartbeats 4000000 in
set_option maxRecDepth 100000 in
theorem c_X2_offsetOf (l : Launch) (E : gE) (a : Nat → Nat) (S : St) (mk rk rv : Nat → Int32) (F : va_W) (x : Int32) (hst : l.stackTraces = false) (hI : s_inv S) : gXi l E yX2_offsetOf wsX2_offsetOf ({ frames := 7, cells := 1, slots := 6, locals := 103 }) (xW E a S mk rk rv ++ F) [.ref (a 0), .int x] (okShip S x) (s_at S x.toNatClampNeg) (xW E a S mk rk rv ++ F) (fun En => En = xIOE ∧ ¬ okShip S x) 1 6 := by
  refine gXi.of (cc := cX2_offsetOf) (maxL := 2) (ty := .int) (by decide) rfl (Nat.le_of_ble_eq_true rfl) ?_
  intro p e s m args below meth c A C ht ls hl hO
  have hl : lv_has ls 2 [(0, .ref (a 0)), (1, .int x)] := hl
  have iX1 : ∀ w ∈ u_ws RX1 TX1 5, w ∈ wsX2_offsetOf := by decide +kernel
  obtain ⟨hn, hsh, hsc, hOn, hOb, hok9, hpc9, hp0⟩ := hI
  refine lv_aload_n C.1 C.2.1 dX2_offsetOf_0 rfl (lv_at hl 0 rfl) ?_
  refine lv_iload_n C.1 C.2.1 dX2_offsetOf_1 rfl (lv_at hl 1 rfl) ?_
  refine gXCall_r (As := [.int x]) (rest := []) C hO (c_X2_shipNumbered l E a S mk rk rv F x hst hsh) (cwV 1 C.2.2.2.2.1 gX2_offsetOf_X2_shipNumbered rfl rfl rfl (by decide +kernel) ⟨(Nat.le_of_ble_eq_true rfl), (Nat.le_of_ble_eq_true rfl)⟩) (va_recv C.2.2.2.2.2.2.2.1.1 hO.1 (ci := 2) (q0 := 0) rfl rfl) rfl hl.1 rfl (Nat.le_of_ble_eq_true rfl) dX2_offsetOf_2 ⟨(Nat.le_of_ble_eq_true rfl), (Nat.le_of_ble_eq_true rfl)⟩ (fun E0 ce q9 H locs hO hcell hcv hcl hbad => ?_) (fun H locs hO hok => ?_)
  · exact gXout C hO ht hcell hcv hcl hbad (Nat.le_of_ble_eq_true rfl) (Nat.le_of_ble_eq_true rfl)
  have hj9 := okNat (by omega) hok.1 hok.2
  have hi9 : x.toNatClampNeg < 6 := by omega
  refine gGetN (v := .int ((s_at S) x.toNatClampNeg)) (ref := RX1) (Cn := RX1) (T := TX1) (N := 5) (host := RX2) C iX1 hO (11 + x.toNatClampNeg) (xw_ship hi9) rfl 2 (by decide) (by decide +kernel) (fun _ h9 => h9) rfl dX2_offsetOf_5 ?_
  exact gXRi C hO rfl hok rfl dX2_offsetOf_8 (Nat.le_of_ble_eq_true rfl) (Nat.le_of_ble_eq_true rfl)

set_option maxHeartbeats 4000000 in
set_option maxRecDepth 100000 in
theorem c_X2_lagOf (l : Launch) (E : gE) (a : Nat → Nat) (S : St) (mk rk rv : Nat → Int32) (F : va_W) (x : Int32) (hst : l.stackTraces = false) (hI : s_inv S) : gXi l E yX2_lagOf wsX2_lagOf ({ frames := 7, cells := 1, slots := 6, locals := 103 }) (xW E a S mk rk rv ++ F) [.ref (a 0), .int x] (okShip S x) (nI (s_lag S x.toNatClampNeg)) (xW E a S mk rk rv ++ F) (fun En => En = xIOE ∧ ¬ okShip S x) 1 6 := by
  refine gXi.of (cc := cX2_lagOf) (maxL := 2) (ty := .int) (by decide) rfl (Nat.le_of_ble_eq_true rfl) ?_
  intro p e s m args below meth c A C ht ls hl hO
  have hl : lv_has ls 2 [(0, .ref (a 0)), (1, .int x)] := hl
  obtain ⟨hn, hsh, hsc, hOn, hOb, hok9, hpc9, hp0⟩ := hI
  refine lv_aload_n C.1 C.2.1 dX2_lagOf_0 rfl (lv_at hl 0 rfl) ?_
  refine lv_aload_n C.1 C.2.1 dX2_lagOf_1 rfl (lv_at hl 0 rfl) ?_
  refine lv_iload_n C.1 C.2.1 dX2_lagOf_2 rfl (lv_at hl 1 rfl) ?_
  refine gXCall_r (As := [.int x]) (rest := [.ref (a 0)]) C hO (c_X2_shipNumbered l E a S mk rk rv F x hst hsh) (cwV 1 C.2.2.2.2.1 gX2_lagOf_X2_shipNumbered rfl rfl rfl (by decide +kernel) ⟨(Nat.le_of_ble_eq_true rfl), (Nat.le_of_ble_eq_true rfl)⟩) (va_recv C.2.2.2.2.2.2.2.1.1 hO.1 (ci := 2) (q0 := 0) rfl rfl) rfl hl.1 rfl (Nat.le_of_ble_eq_true rfl) dX2_lagOf_3 ⟨(Nat.le_of_ble_eq_true rfl), (Nat.le_of_ble_eq_true rfl)⟩ (fun E0 ce q9 H locs hO hcell hcv hcl hbad => ?_) (fun H locs hO hok => ?_)
  · exact gXout C hO ht hcell hcv hcl hbad (Nat.le_of_ble_eq_true rfl) (Nat.le_of_ble_eq_true rfl)
  have hj9 := okNat (by omega) hok.1 hok.2
  have hi9 : x.toNatClampNeg < 6 := by omega
  refine gCall_i (As := [.ref (a (11 + x.toNatClampNeg))]) (rest := []) C hO (c_X2_lag l E a S mk rk rv F x.toNatClampNeg (by omega) hi9) (cwV 1 C.2.2.2.2.1 gX2_lagOf_X2_lag rfl rfl rfl (by decide +kernel) ⟨(Nat.le_of_ble_eq_true rfl), (Nat.le_of_ble_eq_true rfl)⟩) (va_recv C.2.2.2.2.2.2.2.1.1 hO.1 (ci := 2) (q0 := 0) rfl rfl) rfl hl.1 rfl (Nat.le_of_ble_eq_true rfl) dX2_lagOf_6 ⟨(Nat.le_of_ble_eq_true rfl), (Nat.le_of_ble_eq_true rfl)⟩ (fun H locs hO => ?_)
  exact gXRi C hO rfl hok rfl dX2_lagOf_9 (Nat.le_of_ble_eq_true rfl) (Nat.le_of_ble_eq_true rfl)

set_option maxHeartbeats 4000000 in
set_option maxRecDepth 100000 in
theorem c_X2_heardBy (l : Launch) (E : gE) (a : Nat → Nat) (S : St) (mk rk rv : Nat → Int32) (F : va_W) (x : Int32) (hst : l.stackTraces = false) (hI : s_inv S) : gXi l E yX2_heardBy wsX2_heardBy ({ frames := 7, cells := 1, slots := 6, locals := 103 }) (xW E a S mk rk rv ++ F) [.ref (a 0), .int x] (okShip S x) (s_hd S x.toNatClampNeg) (xW E a S mk rk rv ++ F) (fun En => En = xIOE ∧ ¬ okShip S x) 1 6 := by
  refine gXi.of (cc := cX2_heardBy) (maxL := 2) (ty := .int) (by decide) rfl (Nat.le_of_ble_eq_true rfl) ?_
  intro p e s m args below meth c A C ht ls hl hO
  have hl : lv_has ls 2 [(0, .ref (a 0)), (1, .int x)] := hl
  have iX1 : ∀ w ∈ u_ws RX1 TX1 5, w ∈ wsX2_heardBy := by decide +kernel
  obtain ⟨hn, hsh, hsc, hOn, hOb, hok9, hpc9, hp0⟩ := hI
  refine lv_aload_n C.1 C.2.1 dX2_heardBy_0 rfl (lv_at hl 0 rfl) ?_
  refine lv_iload_n C.1 C.2.1 dX2_heardBy_1 rfl (lv_at hl 1 rfl) ?_
  refine gXCall_r (As := [.int x]) (rest := []) C hO (c_X2_shipNumbered l E a S mk rk rv F x hst hsh) (cwV 1 C.2.2.2.2.1 gX2_heardBy_X2_shipNumbered rfl rfl rfl (by decide +kernel) ⟨(Nat.le_of_ble_eq_true rfl), (Nat.le_of_ble_eq_true rfl)⟩) (va_recv C.2.2.2.2.2.2.2.1.1 hO.1 (ci := 2) (q0 := 0) rfl rfl) rfl hl.1 rfl (Nat.le_of_ble_eq_true rfl) dX2_heardBy_2 ⟨(Nat.le_of_ble_eq_true rfl), (Nat.le_of_ble_eq_true rfl)⟩ (fun E0 ce q9 H locs hO hcell hcv hcl hbad => ?_) (fun H locs hO hok => ?_)
  · exact gXout C hO ht hcell hcv hcl hbad (Nat.le_of_ble_eq_true rfl) (Nat.le_of_ble_eq_true rfl)
  have hj9 := okNat (by omega) hok.1 hok.2
  have hi9 : x.toNatClampNeg < 6 := by omega
  refine gGetN (v := .int ((s_hd S) x.toNatClampNeg)) (ref := RX1) (Cn := RX1) (T := TX1) (N := 5) (host := RX2) C iX1 hO (11 + x.toNatClampNeg) (xw_ship hi9) rfl 3 (by decide) (by decide +kernel) (fun _ h9 => h9) rfl dX2_heardBy_5 ?_
  exact gXRi C hO rfl hok rfl dX2_heardBy_8 (Nat.le_of_ble_eq_true rfl) (Nat.le_of_ble_eq_true rfl)

set_option maxHeartbeats 4000000 in
set_option maxRecDepth 100000 in
theorem c_X2_missedBy (l : Launch) (E : gE) (a : Nat → Nat) (S : St) (mk rk rv : Nat → Int32) (F : va_W) (x : Int32) (hst : l.stackTraces = false) (hI : s_inv S) : gXi l E yX2_missedBy wsX2_missedBy ({ frames := 7, cells := 1, slots := 6, locals := 103 }) (xW E a S mk rk rv ++ F) [.ref (a 0), .int x] (okShip S x) (s_ms S x.toNatClampNeg) (xW E a S mk rk rv ++ F) (fun En => En = xIOE ∧ ¬ okShip S x) 1 6 := by
  refine gXi.of (cc := cX2_missedBy) (maxL := 2) (ty := .int) (by decide) rfl (Nat.le_of_ble_eq_true rfl) ?_
  intro p e s m args below meth c A C ht ls hl hO
  have hl : lv_has ls 2 [(0, .ref (a 0)), (1, .int x)] := hl
  have iX1 : ∀ w ∈ u_ws RX1 TX1 5, w ∈ wsX2_missedBy := by decide +kernel
  obtain ⟨hn, hsh, hsc, hOn, hOb, hok9, hpc9, hp0⟩ := hI
  refine lv_aload_n C.1 C.2.1 dX2_missedBy_0 rfl (lv_at hl 0 rfl) ?_
  refine lv_iload_n C.1 C.2.1 dX2_missedBy_1 rfl (lv_at hl 1 rfl) ?_
  refine gXCall_r (As := [.int x]) (rest := []) C hO (c_X2_shipNumbered l E a S mk rk rv F x hst hsh) (cwV 1 C.2.2.2.2.1 gX2_missedBy_X2_shipNumbered rfl rfl rfl (by decide +kernel) ⟨(Nat.le_of_ble_eq_true rfl), (Nat.le_of_ble_eq_true rfl)⟩) (va_recv C.2.2.2.2.2.2.2.1.1 hO.1 (ci := 2) (q0 := 0) rfl rfl) rfl hl.1 rfl (Nat.le_of_ble_eq_true rfl) dX2_missedBy_2 ⟨(Nat.le_of_ble_eq_true rfl), (Nat.le_of_ble_eq_true rfl)⟩ (fun E0 ce q9 H locs hO hcell hcv hcl hbad => ?_) (fun H locs hO hok => ?_)
  · exact gXout C hO ht hcell hcv hcl hbad (Nat.le_of_ble_eq_true rfl) (Nat.le_of_ble_eq_true rfl)
  have hj9 := okNat (by omega) hok.1 hok.2
  have hi9 : x.toNatClampNeg < 6 := by omega
  refine gGetN (v := .int ((s_ms S) x.toNatClampNeg)) (ref := RX1) (Cn := RX1) (T := TX1) (N := 5) (host := RX2) C iX1 hO (11 + x.toNatClampNeg) (xw_ship hi9) rfl 4 (by decide) (by decide +kernel) (fun _ h9 => h9) rfl dX2_missedBy_5 ?_
  exact gXRi C hO rfl hok rfl dX2_missedBy_8 (Nat.le_of_ble_eq_true rfl) (Nat.le_of_ble_eq_true rfl)

set_option maxHeartbeats 4000000 in
set_option maxRecDepth 100000 in
theorem c_X2_knownBy (l : Launch) (E : gE) (a : Nat → Nat) (S : St) (mk rk rv : Nat → Int32) (F : va_W) (x k : Int32) (hst : l.stackTraces = false) (hI : s_inv S) : gXi l E yX2_knownBy wsX2_knownBy ({ frames := 7, cells := 2, slots := 12, locals := 103 }) (xW E a S mk rk rv ++ F) [.ref (a 0), .int x, .int k] (okShip S x ∧ okKey k) (s_kn S x.toNatClampNeg k.toNatClampNeg) (xW E a S mk rk rv ++ F) (fun En => En = xIOE ∧ ¬ (okShip S x ∧ okKey k)) 2 12 := by
  refine gXi.of (cc := cX2_knownBy) (maxL := 4) (ty := .int) (by decide) rfl (Nat.le_of_ble_eq_true rfl) ?_
  intro p e s m args below meth c A C ht ls hl hO
  have hl : lv_has ls 4 [(0, .ref (a 0)), (1, .int x), (2, .int k)] := hl
  have iX1 : ∀ w ∈ u_ws RX1 TX1 5, w ∈ wsX2_knownBy := by decide +kernel
  obtain ⟨hn, hsh, hsc, hOn, hOb, hok9, hpc9, hp0⟩ := hI
  refine lv_aload_n C.1 C.2.1 dX2_knownBy_0 rfl (lv_at hl 0 rfl) ?_
  refine lv_iload_n C.1 C.2.1 dX2_knownBy_1 rfl (lv_at hl 1 rfl) ?_
  refine gXCall_r (As := [.int x]) (rest := []) C hO (c_X2_shipNumbered l E a S mk rk rv F x hst hsh) (cwV 1 C.2.2.2.2.1 gX2_knownBy_X2_shipNumbered rfl rfl rfl (by decide +kernel) ⟨(Nat.le_of_ble_eq_true rfl), (Nat.le_of_ble_eq_true rfl)⟩) (va_recv C.2.2.2.2.2.2.2.1.1 hO.1 (ci := 2) (q0 := 0) rfl rfl) rfl hl.1 rfl (Nat.le_of_ble_eq_true rfl) dX2_knownBy_2 ⟨(Nat.le_of_ble_eq_true rfl), (Nat.le_of_ble_eq_true rfl)⟩ (fun E0 ce q9 H locs hO hcell hcv hcl hbad => ?_) (fun H locs hO hok => ?_)
  · exact gXout C hO ht hcell hcv hcl (⟨hbad.1, fun g => hbad.2 g.1⟩) (Nat.le_of_ble_eq_true rfl) (Nat.le_of_ble_eq_true rfl)
  have hj9 := okNat (by omega) hok.1 hok.2
  have hi9 : x.toNatClampNeg < 6 := by omega
  refine lv_astore_n (lv' := [(3, .ref (a (11 + x.toNatClampNeg))), (0, .ref (a 0)), (1, .int x), (2, .int k)]) C.1 C.2.1 dX2_knownBy_5 rfl hl (by decide) rfl (fun ls hl => ?_)
  refine lv_iload_n C.1 C.2.1 dX2_knownBy_6 rfl (lv_at hl 3 rfl) ?_
  refine gXCallS_v (As := [.int k]) (rest := []) C hO (c_X2_checkKey l E a S mk rk rv F k hst) (cwS 1 C.2.2.2.2.1 gX2_knownBy_X2_checkKey rfl rfl rfl (by decide +kernel) ⟨(Nat.le_of_ble_eq_true rfl), (Nat.le_of_ble_eq_true rfl)⟩) rfl hl.1 rfl (Nat.le_of_ble_eq_true rfl) dX2_knownBy_7 ⟨(Nat.le_of_ble_eq_true rfl), (Nat.le_of_ble_eq_true rfl)⟩ (fun E0 ce q9 H locs hO hcell hcv hcl hbad => ?_) (fun H locs hO hok2 => ?_)
  · exact gXout C hO ht hcell hcv hcl (⟨hbad.1, fun g => hbad.2 g.2⟩) (Nat.le_of_ble_eq_true rfl) (Nat.le_of_ble_eq_true rfl)
  refine lv_aload_n C.1 C.2.1 dX2_knownBy_10 rfl (lv_at hl 0 rfl) ?_
  refine gGetN (v := .ref (a (17 + x.toNatClampNeg))) (ref := RX1) (Cn := RX1) (T := TX1) (N := 5) (host := RX2) C iX1 hO (11 + x.toNatClampNeg) (xw_ship hi9) rfl 0 (by decide) (by decide +kernel) (fun _ h9 => h9) rfl dX2_knownBy_11 ?_
  refine lv_iload_n C.1 C.2.1 dX2_knownBy_14 rfl (lv_at hl 3 rfl) ?_
  have hkk9 := okKey_n hok2
  refine lv_eqi (y := nI k.toNatClampNeg) hkk9.2 ?_
  refine gIald (v := ((s_kn S) x.toNatClampNeg) k.toNatClampNeg) (j := k.toNatClampNeg) C hO (17 + x.toNatClampNeg) (xw_kn hi9) hkk9.1 (by decide) rfl dX2_knownBy_15 ?_
  exact gXRi C hO rfl (⟨hok, hok2⟩) rfl dX2_knownBy_16 (Nat.le_of_ble_eq_true rfl) (Nat.le_of_ble_eq_true rfl)

set_option maxHeartbeats 4000000 in
set_option maxRecDepth 100000 in
theorem c_X2_errorsOf (l : Launch) (E : gE) (a : Nat → Nat) (S : St) (mk rk rv : Nat → Int32) (F : va_W) (x : Int32) (hst : l.stackTraces = false) (hI : s_inv S) : gXi l E yX2_errorsOf wsX2_errorsOf ({ frames := 7, cells := 1, slots := 6, locals := 103 }) (xW E a S mk rk rv ++ F) [.ref (a 0), .int x] (okShip S x) (nI (s_ea S x.toNatClampNeg 0)) (xW E a S mk rk rv ++ F) (fun En => En = xIOE ∧ ¬ okShip S x) 1 6 := by
  refine gXi.of (cc := cX2_errorsOf) (maxL := 2) (ty := .int) (by decide) rfl (Nat.le_of_ble_eq_true rfl) ?_
  intro p e s m args below meth c A C ht ls hl hO
  have hl : lv_has ls 2 [(0, .ref (a 0)), (1, .int x)] := hl
  obtain ⟨hn, hsh, hsc, hOn, hOb, hok9, hpc9, hp0⟩ := hI
  refine lv_aload_n C.1 C.2.1 dX2_errorsOf_0 rfl (lv_at hl 0 rfl) ?_
  refine lv_aload_n C.1 C.2.1 dX2_errorsOf_1 rfl (lv_at hl 0 rfl) ?_
  refine lv_iload_n C.1 C.2.1 dX2_errorsOf_2 rfl (lv_at hl 1 rfl) ?_
  refine gXCall_r (As := [.int x]) (rest := [.ref (a 0)]) C hO (c_X2_shipNumbered l E a S mk rk rv F x hst hsh) (cwV 1 C.2.2.2.2.1 gX2_errorsOf_X2_shipNumbered rfl rfl rfl (by decide +kernel) ⟨(Nat.le_of_ble_eq_true rfl), (Nat.le_of_ble_eq_true rfl)⟩) (va_recv C.2.2.2.2.2.2.2.1.1 hO.1 (ci := 2) (q0 := 0) rfl rfl) rfl hl.1 rfl (Nat.le_of_ble_eq_true rfl) dX2_errorsOf_3 ⟨(Nat.le_of_ble_eq_true rfl), (Nat.le_of_ble_eq_true rfl)⟩ (fun E0 ce q9 H locs hO hcell hcv hcl hbad => ?_) (fun H locs hO hok => ?_)
  · exact gXout C hO ht hcell hcv hcl hbad (Nat.le_of_ble_eq_true rfl) (Nat.le_of_ble_eq_true rfl)
  have hj9 := okNat (by omega) hok.1 hok.2
  have hi9 : x.toNatClampNeg < 6 := by omega
  refine lv_iconst (v := 0) C.1 C.2.1 dX2_errorsOf_6 (by decide) ?_
  refine gCall_i (As := [.ref (a (11 + x.toNatClampNeg)), .int 0]) (rest := []) C hO (c_X2_errorsAfter l E a S mk rk rv F x.toNatClampNeg 0 (by omega) hi9 (by omega)) (cwV 2 C.2.2.2.2.1 gX2_errorsOf_X2_errorsAfter rfl rfl rfl (by decide +kernel) ⟨(Nat.le_of_ble_eq_true rfl), (Nat.le_of_ble_eq_true rfl)⟩) (va_recv C.2.2.2.2.2.2.2.1.1 hO.1 (ci := 2) (q0 := 0) rfl rfl) rfl hl.1 rfl (Nat.le_of_ble_eq_true rfl) dX2_errorsOf_7 ⟨(Nat.le_of_ble_eq_true rfl), (Nat.le_of_ble_eq_true rfl)⟩ (fun H locs hO => ?_)
  exact gXRi C hO rfl hok rfl dX2_errorsOf_10 (Nat.le_of_ble_eq_true rfl) (Nat.le_of_ble_eq_true rfl)

set_option maxHeartbeats 4000000 in
set_option maxRecDepth 100000 in
theorem c_X2_farthestBehind (l : Launch) (E : gE) (a : Nat → Nat) (S : St) (mk rk rv : Nat → Int32) (F : va_W)  (hI : s_inv S) : gMi l E yX2_farthestBehind wsX2_farthestBehind ({ frames := 2, cells := 0, slots := 0, locals := 43 }) (xW E a S mk rk rv ++ F) [.ref (a 0)] (oI (s_fb S (s_sh S))) (xW E a S mk rk rv ++ F) 0 0 := by
  refine gMi.of (cc := cX2_farthestBehind) (maxL := 5) (ty := .int) (by decide) rfl (Nat.le_of_ble_eq_true rfl) ?_
  intro p e s m args below meth c A C ls hl hO
  have hl : lv_has ls 5 [(0, .ref (a 0))] := hl
  have iX2 : ∀ w ∈ u_ws RX2 TX2 9, w ∈ wsX2_farthestBehind := by decide +kernel
  have w90 : Cond.fieldLink RX2 90 "ParrotLog" "shipCount" "I" ∈ wsX2_farthestBehind := by decide +kernel
  have w22 : Cond.fieldLink RX2 22 "ParrotLog" "fleet" "[LParrotLog$Ship;" ∈ wsX2_farthestBehind := by decide +kernel
  obtain ⟨hn, hsh, hsc, hOn, hOb, hok9, hpc9, hp0⟩ := hI
  refine lv_iconst (v := (-1)) C.1 C.2.1 dX2_farthestBehind_0 (by decide) ?_
  refine lv_istore_n (lv' := [(1, .int (-1)), (0, .ref (a 0))]) C.1 C.2.1 dX2_farthestBehind_1 rfl hl (by decide) rfl (fun ls hl => ?_)
  refine lv_iconst (v := (-1)) C.1 C.2.1 dX2_farthestBehind_2 (by decide) ?_
  refine lv_istore_n (lv' := [(2, .int (-1)), (1, .int (-1)), (0, .ref (a 0))]) C.1 C.2.1 dX2_farthestBehind_3 rfl hl (by decide) rfl (fun ls hl => ?_)
  refine lv_iconst (v := 0) C.1 C.2.1 dX2_farthestBehind_4 (by decide) ?_
  refine lv_istore_n (lv' := [(3, .int 0), (2, .int (-1)), (1, .int (-1)), (0, .ref (a 0))]) C.1 C.2.1 dX2_farthestBehind_5 rfl hl (by decide) rfl (fun ls hl => ?_)
  have lp24 : ∀ (f : Nat) (k24 : Nat), (s_sh S + 1 ≤ k24 + f) → (k24 ≤ s_sh S) → ∀ (H : Heap) (locs : List Loc), gO E A s (xW E a S mk rk rv ++ F) H locs → ∀ ls : Array Slot, lv_has ls 5 [(0, .ref (a 0)), (1, .int (oI (s_fb S k24))), (2, .int (s_gl S k24)), (3, .int (nI k24))] → W p l e ({ frames := 2, cells := 0, slots := 0, locals := 43 } : Room) s m args below meth c H locs 0 0 (MQ below (gQi E A (oI (s_fb S (s_sh S))) (xW E a S mk rk rv ++ F)) args s 0 0 A) (F0 m 6 ls []) := by
    intro f
    induction f with
    | zero =>
      intro k24 hf hk24
      exact absurd hf (by omega)
    | succ f ih_lp24 =>
      intro k24 hf hk24 H locs hO ls hl
      refine lv_iload_n C.1 C.2.1 dX2_farthestBehind_6 rfl (lv_at hl 3 rfl) ?_
      refine lv_aload_n C.1 C.2.1 dX2_farthestBehind_7 rfl (lv_at hl 0 rfl) ?_
      refine gGet (v := .int (nI (s_sh S))) (ref := RX2) (Cn := RX2) (T := TX2) (N := 9) C iX2 hO 0 rfl rfl 8 (by decide) w90 (fun _ h9 => h9) rfl dX2_farthestBehind_8 ?_
      refine gGeN (x := k24) (y := (s_sh S)) (tgt := 43) C.1 C.2.1 (by omega) (by omega) dX2_farthestBehind_11 (by decide) (fun c_1 => ?_) (fun c_1 => ?_)
      · refine lv_iload_n C.1 C.2.1 dX2_farthestBehind_43 rfl (lv_at hl 1 rfl) ?_
        exact gRi C hO rfl (by rw [show k24 = s_sh S by omega]) dX2_farthestBehind_44 (Nat.le_of_ble_eq_true rfl) (Nat.le_of_ble_eq_true rfl)
      · refine lv_aload_n C.1 C.2.1 dX2_farthestBehind_14 rfl (lv_at hl 0 rfl) ?_
        refine lv_aload_n C.1 C.2.1 dX2_farthestBehind_15 rfl (lv_at hl 0 rfl) ?_
        refine gGet (v := .ref (a 8)) (ref := RX2) (Cn := RX2) (T := TX2) (N := 9) C iX2 hO 0 rfl rfl 2 (by decide) w22 (fun _ h9 => h9) rfl dX2_farthestBehind_16 ?_
        refine lv_iload_n C.1 C.2.1 dX2_farthestBehind_19 rfl (lv_at hl 3 rfl) ?_
        refine gAald (v := a (11 + k24)) (j := k24) C hO 8 rfl (by omega) (by decide) (xFl_at (by omega)) dX2_farthestBehind_20 ?_
        refine gCall_i (As := [.ref (a (11 + k24))]) (rest := []) C hO (c_X2_lag l E a S mk rk rv F k24 (by omega) (by omega)) (cwV 1 C.2.2.2.2.1 gX2_farthestBehind_X2_lag rfl rfl rfl (by decide +kernel) ⟨(Nat.le_of_ble_eq_true rfl), (Nat.le_of_ble_eq_true rfl)⟩) (va_recv C.2.2.2.2.2.2.2.1.1 hO.1 (ci := 2) (q0 := 0) rfl rfl) rfl hl.1 rfl (Nat.le_of_ble_eq_true rfl) dX2_farthestBehind_21 ⟨(Nat.le_of_ble_eq_true rfl), (Nat.le_of_ble_eq_true rfl)⟩ (fun H locs hO => ?_)
        refine lv_istore (lv' := [(4, .int (nI (s_lag S k24))), (0, .ref (a 0)), (1, .int (oI (s_fb S k24))), (2, .int (s_gl S k24)), (3, .int (nI k24))]) C.1 C.2.1 dX2_farthestBehind_24 hl (by decide) rfl (fun ls hl => ?_)
        have hll9 := s_lag_le S k24
        refine lv_iload C.1 C.2.1 dX2_farthestBehind_26 (lv_at hl 0 rfl) ?_
        refine lv_iload_n C.1 C.2.1 dX2_farthestBehind_28 rfl (lv_at hl 3 rfl) ?_
        refine gLeI (tgt := 37) C.1 C.2.1 dX2_farthestBehind_29 (by decide) (fun c_2 => ?_) (fun c_2 => ?_)
        · have hz9 := s_fb_0 hn c_2
          have hl : lv_has ls 5 [(0, .ref (a 0)), (1, .int (oI (s_fb S k24))), (2, .int (s_gl S k24)), (3, .int (nI k24))] := lv_sub hl [1, 2, 3, 4] rfl
          have hl : lv_has ls 5 [(0, .ref (a 0)), (1, .int (oI (s_fb S (k24 + 1)))), (2, .int (s_gl S (k24 + 1))), (3, .int (nI k24))] := by rw [hz9, s_gl_0 hz9]; exact hl
          refine gInc (j := k24) (k := 3) (lv' := [(3, .int (nI (k24 + 1))), (0, .ref (a 0)), (1, .int (oI (s_fb S (k24 + 1)))), (2, .int (s_gl S (k24 + 1)))]) C.1 C.2.1 dX2_farthestBehind_37 hl rfl (by decide) rfl (fun ls hl => ?_)
          refine lv_goto (tgt := 6) C.1 C.2.1 dX2_farthestBehind_40 (by decide) ?_
          refine W.widen (k := 0) (n := 0) (by omega) (by omega) ?_
          exact ih_lp24 (k24 + 1) (by omega) (by omega) _ _ hO _ (lv_sub hl [1, 2, 3, 0] rfl)
        · have hz9 := s_fb_1 hn c_2
          refine lv_iload_n C.1 C.2.1 dX2_farthestBehind_32 rfl (lv_at hl 4 rfl) ?_
          refine lv_istore_n (lv' := [(1, .int (nI k24)), (4, .int (nI (s_lag S k24))), (0, .ref (a 0)), (2, .int (s_gl S k24)), (3, .int (nI k24))]) C.1 C.2.1 dX2_farthestBehind_33 rfl hl (by decide) rfl (fun ls hl => ?_)
          refine lv_iload C.1 C.2.1 dX2_farthestBehind_34 (lv_at hl 1 rfl) ?_
          refine lv_istore_n (lv' := [(2, .int (nI (s_lag S k24))), (1, .int (nI k24)), (4, .int (nI (s_lag S k24))), (0, .ref (a 0)), (3, .int (nI k24))]) C.1 C.2.1 dX2_farthestBehind_36 rfl hl (by decide) rfl (fun ls hl => ?_)
          have hl : lv_has ls 5 [(2, .int (nI (s_lag S k24))), (1, .int (nI k24)), (0, .ref (a 0)), (3, .int (nI k24))] := lv_sub hl [0, 1, 3, 4] rfl
          have hl : lv_has ls 5 [(2, .int (s_gl S (k24 + 1))), (1, .int (oI (s_fb S (k24 + 1)))), (0, .ref (a 0)), (3, .int (nI k24))] := by rw [hz9, s_gl_1 hz9]; exact hl
          refine gInc (j := k24) (k := 3) (lv' := [(3, .int (nI (k24 + 1))), (2, .int (s_gl S (k24 + 1))), (1, .int (oI (s_fb S (k24 + 1)))), (0, .ref (a 0))]) C.1 C.2.1 dX2_farthestBehind_37 hl rfl (by decide) rfl (fun ls hl => ?_)
          refine lv_goto (tgt := 6) C.1 C.2.1 dX2_farthestBehind_40 (by decide) ?_
          refine W.widen (k := 0) (n := 0) (by omega) (by omega) ?_
          exact ih_lp24 (k24 + 1) (by omega) (by omega) _ _ hO _ (lv_sub hl [3, 2, 1, 0] rfl)
  exact lp24 (s_sh S + 1) 0 (by omega) (Nat.zero_le _) _ _ hO _ (lv_sub hl [3, 2, 1, 0] rfl)

set_option maxHeartbeats 4000000 in
set_option maxRecDepth 100000 in
theorem c_X2_wouldCompact (l : Launch) (E : gE) (a : Nat → Nat) (S : St) (mk rk rv : Nat → Int32) (F : va_W)  (hI : s_inv S) : gMi l E yX2_wouldCompact wsX2_wouldCompact ({ frames := 3, cells := 0, slots := 0, locals := 68 }) (xW E a S mk rk rv ++ F) [.ref (a 0)] (nI (s_wc S)) (xW E a S (mkU (s_cm S) mk (s_n S)) rk rv ++ F) 0 0 := by
  refine gMi.of (cc := cX2_wouldCompact) (maxL := 1) (ty := .int) (by decide) rfl (Nat.le_of_ble_eq_true rfl) ?_
  intro p e s m args below meth c A C ls hl hO
  have hl : lv_has ls 1 [(0, .ref (a 0))] := hl
  have iX2 : ∀ w ∈ u_ws RX2 TX2 9, w ∈ wsX2_wouldCompact := by decide +kernel
  have w10 : Cond.fieldLink RX2 10 "ParrotLog" "log" "LParrotLog$Log;" ∈ wsX2_wouldCompact := by decide +kernel
  obtain ⟨hn, hsh, hsc, hOn, hOb, hok9, hpc9, hp0⟩ := hI
  refine lv_aload_n C.1 C.2.1 dX2_wouldCompact_0 rfl (lv_at hl 0 rfl) ?_
  refine gCall_v (As := []) (rest := []) C hO (c_X2_markCompacted l E a S mk rk rv F (by omega) (by omega)) (cwV 0 C.2.2.2.2.1 gX2_wouldCompact_X2_markCompacted rfl rfl rfl (by decide +kernel) ⟨(Nat.le_of_ble_eq_true rfl), (Nat.le_of_ble_eq_true rfl)⟩) (va_recv C.2.2.2.2.2.2.2.1.1 hO.1 (ci := 2) (q0 := 0) rfl rfl) rfl hl.1 rfl (Nat.le_of_ble_eq_true rfl) dX2_wouldCompact_1 ⟨(Nat.le_of_ble_eq_true rfl), (Nat.le_of_ble_eq_true rfl)⟩ (fun H locs hO => ?_)
  have hO : gO E A s (xW E a S (mkU (s_cm S) mk (s_n S)) rk rv ++ F) H locs := hO
  refine lv_aload_n C.1 C.2.1 dX2_wouldCompact_4 rfl (lv_at hl 0 rfl) ?_
  refine gGet (v := .ref (a 1)) (ref := RX2) (Cn := RX2) (T := TX2) (N := 9) C iX2 hO 0 rfl rfl 0 (by decide) w10 (fun _ h9 => h9) rfl dX2_wouldCompact_5 ?_
  refine gCallN_i (As := []) (rest := []) C hO (c_X0_countMarked l E a S (mkU (s_cm S) mk (s_n S)) rk rv F (by omega)) ⟨va_cnB (host := RX2) 0 C.2.2.2.2.1 gX2_wouldCompact_X0_countMarked_n180 rfl rfl rfl (C.2.2.2.2.2.2.2.1.2.1 (.methodLinkNest RX2 180 yX0_countMarked RX2) (by decide +kernel)) (C.2.2.2.2.1 (.initialized RX0) (by decide +kernel)) (by decide +kernel) ⟨(Nat.le_of_ble_eq_true rfl), (Nat.le_of_ble_eq_true rfl)⟩, C.2.2.2.2.1 (.instanceMethod yX0_countMarked) (by decide +kernel), C.2.2.2.2.1 (.selects RX0 yX0_countMarked yX0_countMarked) (by decide +kernel)⟩ (va_recv C.2.2.2.2.2.2.2.1.1 hO.1 (ci := 0) (q0 := 1) rfl rfl) rfl hl.1 rfl (Nat.le_of_ble_eq_true rfl) dX2_wouldCompact_8 ⟨(Nat.le_of_ble_eq_true rfl), (Nat.le_of_ble_eq_true rfl)⟩ (fun H locs hO => ?_)
  exact gRi C hO rfl (by rw [hp0, cm_mkU]; rfl) dX2_wouldCompact_11 (Nat.le_of_ble_eq_true rfl) (Nat.le_of_ble_eq_true rfl)

set_option maxHeartbeats 4000000 in
set_option maxRecDepth 100000 in
theorem c_X2_wouldMiss (l : Launch) (E : gE) (a : Nat → Nat) (S : St) (mk rk rv : Nat → Int32) (F : va_W) (x : Int32) (hst : l.stackTraces = false) (hI : s_inv S) : gXi l E yX2_wouldMiss wsX2_wouldMiss ({ frames := 7, cells := 1, slots := 6, locals := 103 }) (xW E a S mk rk rv ++ F) [.ref (a 0), .int x] (okShip S x) (nI (s_wm S x.toNatClampNeg)) (xW E a S (mkU (s_cm S) mk (s_n S)) rk rv ++ F) (fun En => En = xIOE ∧ ¬ okShip S x) 1 6 := by
  refine gXi.of (cc := cX2_wouldMiss) (maxL := 3) (ty := .int) (by decide) rfl (Nat.le_of_ble_eq_true rfl) ?_
  intro p e s m args below meth c A C ht ls hl hO
  have hl : lv_has ls 3 [(0, .ref (a 0)), (1, .int x)] := hl
  have iX1 : ∀ w ∈ u_ws RX1 TX1 5, w ∈ wsX2_wouldMiss := by decide +kernel
  have iX2 : ∀ w ∈ u_ws RX2 TX2 9, w ∈ wsX2_wouldMiss := by decide +kernel
  have w10 : Cond.fieldLink RX2 10 "ParrotLog" "log" "LParrotLog$Log;" ∈ wsX2_wouldMiss := by decide +kernel
  obtain ⟨hn, hsh, hsc, hOn, hOb, hok9, hpc9, hp0⟩ := hI
  refine lv_aload_n C.1 C.2.1 dX2_wouldMiss_0 rfl (lv_at hl 0 rfl) ?_
  refine lv_iload_n C.1 C.2.1 dX2_wouldMiss_1 rfl (lv_at hl 1 rfl) ?_
  refine gXCall_r (As := [.int x]) (rest := []) C hO (c_X2_shipNumbered l E a S mk rk rv F x hst hsh) (cwV 1 C.2.2.2.2.1 gX2_wouldMiss_X2_shipNumbered rfl rfl rfl (by decide +kernel) ⟨(Nat.le_of_ble_eq_true rfl), (Nat.le_of_ble_eq_true rfl)⟩) (va_recv C.2.2.2.2.2.2.2.1.1 hO.1 (ci := 2) (q0 := 0) rfl rfl) rfl hl.1 rfl (Nat.le_of_ble_eq_true rfl) dX2_wouldMiss_2 ⟨(Nat.le_of_ble_eq_true rfl), (Nat.le_of_ble_eq_true rfl)⟩ (fun E0 ce q9 H locs hO hcell hcv hcl hbad => ?_) (fun H locs hO hok => ?_)
  · exact gXout C hO ht hcell hcv hcl hbad (Nat.le_of_ble_eq_true rfl) (Nat.le_of_ble_eq_true rfl)
  have hj9 := okNat (by omega) hok.1 hok.2
  have hi9 : x.toNatClampNeg < 6 := by omega
  refine lv_astore_n (lv' := [(2, .ref (a (11 + x.toNatClampNeg))), (0, .ref (a 0)), (1, .int x)]) C.1 C.2.1 dX2_wouldMiss_5 rfl hl (by decide) rfl (fun ls hl => ?_)
  refine lv_aload_n C.1 C.2.1 dX2_wouldMiss_6 rfl (lv_at hl 1 rfl) ?_
  refine gCall_v (As := []) (rest := []) C hO (c_X2_markCompacted l E a S mk rk rv F (by omega) (by omega)) (cwV 0 C.2.2.2.2.1 gX2_wouldMiss_X2_markCompacted rfl rfl rfl (by decide +kernel) ⟨(Nat.le_of_ble_eq_true rfl), (Nat.le_of_ble_eq_true rfl)⟩) (va_recv C.2.2.2.2.2.2.2.1.1 hO.1 (ci := 2) (q0 := 0) rfl rfl) rfl hl.1 rfl (Nat.le_of_ble_eq_true rfl) dX2_wouldMiss_7 ⟨(Nat.le_of_ble_eq_true rfl), (Nat.le_of_ble_eq_true rfl)⟩ (fun H locs hO => ?_)
  have hO : gO E A s (xW E a S (mkU (s_cm S) mk (s_n S)) rk rv ++ F) H locs := hO
  refine lv_aload_n C.1 C.2.1 dX2_wouldMiss_10 rfl (lv_at hl 1 rfl) ?_
  refine gGet (v := .ref (a 1)) (ref := RX2) (Cn := RX2) (T := TX2) (N := 9) C iX2 hO 0 rfl rfl 0 (by decide) w10 (fun _ h9 => h9) rfl dX2_wouldMiss_11 ?_
  refine lv_aload_n C.1 C.2.1 dX2_wouldMiss_14 rfl (lv_at hl 0 rfl) ?_
  refine gGetN (v := .int ((s_at S) x.toNatClampNeg)) (ref := RX1) (Cn := RX1) (T := TX1) (N := 5) (host := RX2) C iX1 hO (11 + x.toNatClampNeg) (xw_ship hi9) rfl 2 (by decide) (by decide +kernel) (fun _ h9 => h9) rfl dX2_wouldMiss_15 ?_
  refine gCallN_i (As := [.int ((s_at S) x.toNatClampNeg)]) (rest := []) C hO (c_X0_countMarkedFrom l E a S (mkU (s_cm S) mk (s_n S)) rk rv F ((s_at S) x.toNatClampNeg) (by omega)) ⟨va_cnB (host := RX2) 1 C.2.2.2.2.1 gX2_wouldMiss_X0_countMarkedFrom_n183 rfl rfl rfl (C.2.2.2.2.2.2.2.1.2.1 (.methodLinkNest RX2 183 yX0_countMarkedFrom RX2) (by decide +kernel)) (C.2.2.2.2.1 (.initialized RX0) (by decide +kernel)) (by decide +kernel) ⟨(Nat.le_of_ble_eq_true rfl), (Nat.le_of_ble_eq_true rfl)⟩, C.2.2.2.2.1 (.instanceMethod yX0_countMarkedFrom) (by decide +kernel), C.2.2.2.2.1 (.selects RX0 yX0_countMarkedFrom yX0_countMarkedFrom) (by decide +kernel)⟩ (va_recv C.2.2.2.2.2.2.2.1.1 hO.1 (ci := 0) (q0 := 1) rfl rfl) rfl hl.1 rfl (Nat.le_of_ble_eq_true rfl) dX2_wouldMiss_18 ⟨(Nat.le_of_ble_eq_true rfl), (Nat.le_of_ble_eq_true rfl)⟩ (fun H locs hO => ?_)
  exact gXRi C hO rfl hok (by rw [cm_mkU]; rfl) dX2_wouldMiss_21 (Nat.le_of_ble_eq_true rfl) (Nat.le_of_ble_eq_true rfl)

set_option maxHeartbeats 4000000 in
set_option maxRecDepth 100000 in
theorem c_X2_meanLag (l : Launch) (E : gE) (a : Nat → Nat) (S : St) (mk rk rv : Nat → Int32) (F : va_W)  (hI : s_inv S) : gMd l E yX2_meanLag wsX2_meanLag ({ frames := 2, cells := 0, slots := 0, locals := 43 }) (xW E a S mk rk rv ++ F) [.ref (a 0)] (s_ml S) (xW E a S mk rk rv ++ F) 0 0 := by
  refine gMd.of (cc := cX2_meanLag) (maxL := 3) (by decide) rfl (Nat.le_of_ble_eq_true rfl) ?_
  intro p e s m args below meth c A C ls hl hO
  have hl : lv_has ls 3 [(0, .ref (a 0))] := hl
  have iX2 : ∀ w ∈ u_ws RX2 TX2 9, w ∈ wsX2_meanLag := by decide +kernel
  have w90 : Cond.fieldLink RX2 90 "ParrotLog" "shipCount" "I" ∈ wsX2_meanLag := by decide +kernel
  have w22 : Cond.fieldLink RX2 22 "ParrotLog" "fleet" "[LParrotLog$Ship;" ∈ wsX2_meanLag := by decide +kernel
  obtain ⟨hn, hsh, hsc, hOn, hOb, hok9, hpc9, hp0⟩ := hI
  refine lv_aload_n C.1 C.2.1 dX2_meanLag_0 rfl (lv_at hl 0 rfl) ?_
  refine gGet (v := .int (nI (s_sh S))) (ref := RX2) (Cn := RX2) (T := TX2) (N := 9) C iX2 hO 0 rfl rfl 8 (by decide) w90 (fun _ h9 => h9) rfl dX2_meanLag_1 ?_
  refine lv_if_ne (tgt := 9) C.1 C.2.1 dX2_meanLag_4 (by decide) (fun c_1 => ?_) (fun c_1 => ?_)
  · have hz : ¬ s_sh S = 0 := fun g => c_1 (by rw [g]; rfl)
    refine lv_iconst (v := 0) C.1 C.2.1 dX2_meanLag_9 (by decide) ?_
    refine lv_istore_n (lv' := [(1, .int 0), (0, .ref (a 0))]) C.1 C.2.1 dX2_meanLag_10 rfl hl (by decide) rfl (fun ls hl => ?_)
    refine lv_iconst (v := 0) C.1 C.2.1 dX2_meanLag_11 (by decide) ?_
    refine lv_istore_n (lv' := [(2, .int 0), (1, .int 0), (0, .ref (a 0))]) C.1 C.2.1 dX2_meanLag_12 rfl hl (by decide) rfl (fun ls hl => ?_)
    have lp24 : ∀ (f : Nat) (k24 : Nat), (s_sh S + 1 ≤ k24 + f) → (k24 ≤ s_sh S) → ∀ (H : Heap) (locs : List Loc), gO E A s (xW E a S mk rk rv ++ F) H locs → ∀ ls : Array Slot, lv_has ls 3 [(0, .ref (a 0)), (1, .int (nI (s_sl S k24))), (2, .int (nI k24))] → W p l e ({ frames := 2, cells := 0, slots := 0, locals := 43 } : Room) s m args below meth c H locs 0 0 (MQ below (gQd E A (s_ml S) (xW E a S mk rk rv ++ F)) args s 0 0 A) (F0 m 13 ls []) := by
      intro f
      induction f with
      | zero =>
        intro k24 hf hk24
        exact absurd hf (by omega)
      | succ f ih_lp24 =>
        intro k24 hf hk24 H locs hO ls hl
        refine lv_iload_n C.1 C.2.1 dX2_meanLag_13 rfl (lv_at hl 2 rfl) ?_
        refine lv_aload_n C.1 C.2.1 dX2_meanLag_14 rfl (lv_at hl 0 rfl) ?_
        refine gGet (v := .int (nI (s_sh S))) (ref := RX2) (Cn := RX2) (T := TX2) (N := 9) C iX2 hO 0 rfl rfl 8 (by decide) w90 (fun _ h9 => h9) rfl dX2_meanLag_15 ?_
        refine gGeN (x := k24) (y := (s_sh S)) (tgt := 40) C.1 C.2.1 (by omega) (by omega) dX2_meanLag_18 (by decide) (fun c_2 => ?_) (fun c_2 => ?_)
        · have hke9 : k24 = s_sh S := by omega
          have hsl9 := s_sl_le hn (s_sh S)
          rw [hke9] at hl
          refine lv_iload_n C.1 C.2.1 dX2_meanLag_40 rfl (lv_at hl 1 rfl) ?_
          refine lv_i2d C.1 C.2.1 dX2_meanLag_41 ?_
          refine lv_aload_n C.1 C.2.1 dX2_meanLag_42 rfl (lv_at hl 0 rfl) ?_
          refine gGet (v := .int (nI (s_sh S))) (ref := RX2) (Cn := RX2) (T := TX2) (N := 9) C iX2 hO 0 rfl rfl 8 (by decide) w90 (fun _ h9 => h9) rfl dX2_meanLag_43 ?_
          refine lv_i2d C.1 C.2.1 dX2_meanLag_46 ?_
          refine lv_ddiv C.1 C.2.1 dX2_meanLag_47 (ml_nan _ _ (by omega) (by omega) (by omega)) ?_
          exact gRd C hO ((if_neg hz).symm) dX2_meanLag_48 (Nat.le_of_ble_eq_true rfl) (Nat.le_of_ble_eq_true rfl)
        · refine lv_iload_n C.1 C.2.1 dX2_meanLag_21 rfl (lv_at hl 1 rfl) ?_
          refine lv_aload_n C.1 C.2.1 dX2_meanLag_22 rfl (lv_at hl 0 rfl) ?_
          refine lv_aload_n C.1 C.2.1 dX2_meanLag_23 rfl (lv_at hl 0 rfl) ?_
          refine gGet (v := .ref (a 8)) (ref := RX2) (Cn := RX2) (T := TX2) (N := 9) C iX2 hO 0 rfl rfl 2 (by decide) w22 (fun _ h9 => h9) rfl dX2_meanLag_24 ?_
          refine lv_iload_n C.1 C.2.1 dX2_meanLag_27 rfl (lv_at hl 2 rfl) ?_
          refine gAald (v := a (11 + k24)) (j := k24) C hO 8 rfl (by omega) (by decide) (xFl_at (by omega)) dX2_meanLag_28 ?_
          refine gCall_i (As := [.ref (a (11 + k24))]) (rest := [.int (nI (s_sl S k24))]) C hO (c_X2_lag l E a S mk rk rv F k24 (by omega) (by omega)) (cwV 1 C.2.2.2.2.1 gX2_meanLag_X2_lag rfl rfl rfl (by decide +kernel) ⟨(Nat.le_of_ble_eq_true rfl), (Nat.le_of_ble_eq_true rfl)⟩) (va_recv C.2.2.2.2.2.2.2.1.1 hO.1 (ci := 2) (q0 := 0) rfl rfl) rfl hl.1 rfl (Nat.le_of_ble_eq_true rfl) dX2_meanLag_29 ⟨(Nat.le_of_ble_eq_true rfl), (Nat.le_of_ble_eq_true rfl)⟩ (fun H locs hO => ?_)
          refine gAddN (x := (s_sl S k24)) (y := (s_lag S k24)) C.1 C.2.1 dX2_meanLag_32 ?_
          refine lv_istore_n (lv' := [(1, .int (nI ((s_sl S k24) + (s_lag S k24)))), (0, .ref (a 0)), (2, .int (nI k24))]) C.1 C.2.1 dX2_meanLag_33 rfl hl (by decide) rfl (fun ls hl => ?_)
          refine gInc (j := k24) (k := 2) (lv' := [(2, .int (nI (k24 + 1))), (1, .int (nI ((s_sl S k24) + (s_lag S k24)))), (0, .ref (a 0))]) C.1 C.2.1 dX2_meanLag_34 hl rfl (by decide) rfl (fun ls hl => ?_)
          refine lv_goto (tgt := 13) C.1 C.2.1 dX2_meanLag_37 (by decide) ?_
          refine W.widen (k := 0) (n := 0) (by omega) (by omega) ?_
          exact ih_lp24 (k24 + 1) (by omega) (by omega) _ _ hO _ (lv_sub hl [2, 1, 0] rfl)
    exact lp24 (s_sh S + 1) 0 (by omega) (Nat.zero_le _) _ _ hO _ (lv_sub hl [2, 1, 0] rfl)
  · have hz : s_sh S = 0 := nI_z (by omega) c_1
    refine lv_dconst0 C.1 C.2.1 dX2_meanLag_7 ?_
    exact gRd C hO ((if_pos hz).symm) dX2_meanLag_8 (Nat.le_of_ble_eq_true rfl) (Nat.le_of_ble_eq_true rfl)
