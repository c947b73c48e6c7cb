set_option maxHeartbeats 4000000 in
set_option maxRecDepth 100000 in
theorem c_X2_isKey (l : Launch) (E : gE) (a : Nat → Nat) (S : St) (mk rk rv : Nat → Int32) (F : va_W) (k : Int32) : gMi l E yX2_isKey wsX2_isKey ({ frames := 0, cells := 0, slots := 0, locals := 0 }) (xW E a S mk rk rv ++ F) [.int k] (if okKey k then 1 else 0) (xW E a S mk rk rv ++ F) 0 0 := by
  refine gMi.of (cc := cX2_isKey) (maxL := 1) (ty := .boolean) (by decide) rfl (Nat.le_of_ble_eq_true rfl) ?_
  intro p e s m args below meth c A C ls hl hO
  have hl : lv_has ls 1 [(0, .int k)] := hl
  refine lv_iload_n C.1 C.2.1 dX2_isKey_0 rfl (lv_at hl 0 rfl) ?_
  refine lv_if_lt (tgt := 14) C.1 C.2.1 dX2_isKey_1 (by decide) (fun c_1 => ?_) (fun c_1 => ?_)
  · have hz9 : ¬ okKey k := fun g => g.1 c_1
    refine lv_iconst (v := 0) C.1 C.2.1 dX2_isKey_14 (by decide) ?_
    exact gRi C hO rfl (by first | exact ((if_pos hz9).symm) | exact ((if_neg hz9).symm)) dX2_isKey_15 (Nat.le_of_ble_eq_true rfl) (Nat.le_of_ble_eq_true rfl)
  · refine lv_iload_n C.1 C.2.1 dX2_isKey_4 rfl (lv_at hl 0 rfl) ?_
    refine lv_bipush (v := nI 10) C.1 C.2.1 dX2_isKey_5 (by decide) ?_
    refine gGeI (tgt := 14) C.1 C.2.1 dX2_isKey_7 (by decide) (fun c_2 => ?_) (fun c_2 => ?_)
    · have hz9 : ¬ okKey k := fun g => c_2 g.2
      refine lv_iconst (v := 0) C.1 C.2.1 dX2_isKey_14 (by decide) ?_
      exact gRi C hO rfl (by first | exact ((if_pos hz9).symm) | exact ((if_neg hz9).symm)) dX2_isKey_15 (Nat.le_of_ble_eq_true rfl) (Nat.le_of_ble_eq_true rfl)
    · have hz9 : okKey k := ⟨c_1, c_2⟩
      refine lv_iconst (v := 1) C.1 C.2.1 dX2_isKey_10 (by decide) ?_
      refine lv_goto (tgt := 15) C.1 C.2.1 dX2_isKey_11 (by decide) ?_
      exact gRi C hO rfl (by first | exact ((if_pos hz9).symm) | exact ((if_neg hz9).symm)) dX2_isKey_15 (Nat.le_of_ble_eq_true rfl) (Nat.le_of_ble_eq_true rfl)

set_option maxHeartbeats 4000000 in
set_option maxRecDepth 100000 in
theorem c_X2_checkKey (l : Launch) (E : gE) (a : Nat → Nat) (S : St) (mk rk rv : Nat → Int32) (F : va_W) (k : Int32) (hst : l.stackTraces = false) : gXv l E yX2_checkKey wsX2_checkKey ({ frames := 6, cells := 1, slots := 6, locals := 82 }) (xW E a S mk rk rv ++ F) [.int k] (okKey k) (xW E a S mk rk rv ++ F) (fun En => En = xIOE ∧ ¬ okKey k) 1 6 := by
  refine gXv.of (cc := cX2_checkKey) (maxL := 1) (by decide) rfl (Nat.le_of_ble_eq_true rfl) ?_
  intro p e s m args below meth c A C ht ls hl hO
  have hl : lv_has ls 1 [(0, .int k)] := hl
  have gwIOE : ∀ w ∈ (vx_atS RX2 245 "java/lang/IndexOutOfBoundsException" ["java/lang/RuntimeException", "java/lang/Exception"]).filter goodWord, w ∈ wsX2_checkKey := by decide +kernel
  have gNIOE : ∀ w ∈ (vx_atS RX2 245 "java/lang/IndexOutOfBoundsException" ["java/lang/RuntimeException", "java/lang/Exception"]).filter (fun w => !goodWord w), w ∈ eNw := by decide +kernel
  refine lv_iload_n C.1 C.2.1 dX2_checkKey_0 rfl (lv_at hl 0 rfl) ?_
  refine gCallS_i (As := [.int k]) (rest := []) C hO (c_X2_isKey l E a S mk rk rv F k) (cwS 1 C.2.2.2.2.1 gX2_checkKey_X2_isKey rfl rfl rfl (by decide +kernel) ⟨(Nat.le_of_ble_eq_true rfl), (Nat.le_of_ble_eq_true rfl)⟩) rfl hl.1 rfl (Nat.le_of_ble_eq_true rfl) dX2_checkKey_1 ⟨(Nat.le_of_ble_eq_true rfl), (Nat.le_of_ble_eq_true rfl)⟩ (fun H locs hO => ?_)
  refine lv_if_ne (tgt := 17) C.1 C.2.1 dX2_checkKey_4 (by decide) (fun c_1 => ?_) (fun c_1 => ?_)
  · have hz := bT c_1
    exact gXRv C hO hz dX2_checkKey_17 (Nat.le_of_ble_eq_true rfl) (Nat.le_of_ble_eq_true rfl)
  · have hz := bF c_1
    exact gThrow (E0 := "java/lang/IndexOutOfBoundsException") (text := "key is not 0 to 9") C hst hO ht hl.1 (by decide +kernel) (C.2.2.2.2.1 (.classLink RX2 243 "java/lang/IndexOutOfBoundsException") (by decide +kernel)) (C.2.2.2.2.1 (.initialized "java/lang/IndexOutOfBoundsException") (by decide +kernel)) (C.2.2.2.2.2.2.2.1.2.2.1 (39, "key is not 0 to 9") (by decide +kernel)) (vx_hat (fun w hw => C.2.2.2.2.1 w (gwIOE w hw)) gNIOE (gNb C)) (by decide +kernel) (⟨rfl, hz⟩) dX2_checkKey_7 dX2_checkKey_10 dX2_checkKey_11 dX2_checkKey_13 dX2_checkKey_16 (Nat.le_of_ble_eq_true rfl) (Nat.le_of_ble_eq_true rfl) (Nat.le_of_ble_eq_true rfl) (Nat.le_of_ble_eq_true rfl) (Nat.le_of_ble_eq_true rfl) (Nat.le_of_ble_eq_true rfl) 

set_option maxHeartbeats 4000000 in
set_option maxRecDepth 100000 in
theorem c_X2_checkHours (l : Launch) (E : gE) (a : Nat → Nat) (S : St) (mk rk rv : Nat → Int32) (F : va_W) (h : Int32) (hst : l.stackTraces = false) : gXv l E yX2_checkHours wsX2_checkHours ({ frames := 6, cells := 1, slots := 6, locals := 82 }) (xW E a S mk rk rv ++ F) [.int h] (okHours h) (xW E a S mk rk rv ++ F) (fun En => En = xIAE ∧ ¬ okHours h) 1 6 := by
  refine gXv.of (cc := cX2_checkHours) (maxL := 1) (by decide) rfl (Nat.le_of_ble_eq_true rfl) ?_
  intro p e s m args below meth c A C ht ls hl hO
  have hl : lv_has ls 1 [(0, .int h)] := hl
  have gwIAE : ∀ w ∈ (vx_atS RX2 41 "java/lang/IllegalArgumentException" ["java/lang/RuntimeException", "java/lang/Exception"]).filter goodWord, w ∈ wsX2_checkHours := by decide +kernel
  have gNIAE : ∀ w ∈ (vx_atS RX2 41 "java/lang/IllegalArgumentException" ["java/lang/RuntimeException", "java/lang/Exception"]).filter (fun w => !goodWord w), w ∈ eNw := by decide +kernel
  refine lv_iload_n C.1 C.2.1 dX2_checkHours_0 rfl (lv_at hl 0 rfl) ?_
  refine lv_iconst (v := 1) C.1 C.2.1 dX2_checkHours_1 (by decide) ?_
  refine lv_icmp_lt (tgt := 11) C.1 C.2.1 dX2_checkHours_2 (by decide) (fun c_1 => ?_) (fun c_1 => ?_)
  · exact gThrow (E0 := "java/lang/IllegalArgumentException") (text := "hours is not 1 to 60") C hst hO ht hl.1 (by decide +kernel) (C.2.2.2.2.1 (.classLink RX2 37 "java/lang/IllegalArgumentException") (by decide +kernel)) (C.2.2.2.2.1 (.initialized "java/lang/IllegalArgumentException") (by decide +kernel)) (C.2.2.2.2.2.2.2.1.2.2.1 (246, "hours is not 1 to 60") (by decide +kernel)) (vx_hat (fun w hw => C.2.2.2.2.1 w (gwIAE w hw)) gNIAE (gNb C)) (by decide +kernel) (by first | exact ⟨rfl, fun g => g.1 c_1⟩ | exact ⟨rfl, fun g => g.2 c_2⟩) dX2_checkHours_11 dX2_checkHours_14 dX2_checkHours_15 dX2_checkHours_17 dX2_checkHours_20 (Nat.le_of_ble_eq_true rfl) (Nat.le_of_ble_eq_true rfl) (Nat.le_of_ble_eq_true rfl) (Nat.le_of_ble_eq_true rfl) (Nat.le_of_ble_eq_true rfl) (Nat.le_of_ble_eq_true rfl) 
  · refine lv_iload_n C.1 C.2.1 dX2_checkHours_5 rfl (lv_at hl 0 rfl) ?_
    refine lv_bipush (v := nI 60) C.1 C.2.1 dX2_checkHours_6 (by decide) ?_
    refine gLeI (tgt := 21) C.1 C.2.1 dX2_checkHours_8 (by decide) (fun c_2 => ?_) (fun c_2 => ?_)
    · exact gXRv C hO (⟨c_1, c_2⟩) dX2_checkHours_21 (Nat.le_of_ble_eq_true rfl) (Nat.le_of_ble_eq_true rfl)
    · exact gThrow (E0 := "java/lang/IllegalArgumentException") (text := "hours is not 1 to 60") C hst hO ht hl.1 (by decide +kernel) (C.2.2.2.2.1 (.classLink RX2 37 "java/lang/IllegalArgumentException") (by decide +kernel)) (C.2.2.2.2.1 (.initialized "java/lang/IllegalArgumentException") (by decide +kernel)) (C.2.2.2.2.2.2.2.1.2.2.1 (246, "hours is not 1 to 60") (by decide +kernel)) (vx_hat (fun w hw => C.2.2.2.2.1 w (gwIAE w hw)) gNIAE (gNb C)) (by decide +kernel) (by first | exact ⟨rfl, fun g => g.1 c_1⟩ | exact ⟨rfl, fun g => g.2 c_2⟩) dX2_checkHours_11 dX2_checkHours_14 dX2_checkHours_15 dX2_checkHours_17 dX2_checkHours_20 (Nat.le_of_ble_eq_true rfl) (Nat.le_of_ble_eq_true rfl) (Nat.le_of_ble_eq_true rfl) (Nat.le_of_ble_eq_true rfl) (Nat.le_of_ble_eq_true rfl) (Nat.le_of_ble_eq_true rfl) 

set_option maxHeartbeats 4000000 in
set_option maxRecDepth 100000 in
theorem c_X2_checkReachable (l : Launch) (E : gE) (a : Nat → Nat) (S : St) (mk rk rv : Nat → Int32) (F : va_W) (o : Int32) (hst : l.stackTraces = false) : gXv l E yX2_checkReachable wsX2_checkReachable ({ frames := 6, cells := 1, slots := 6, locals := 82 }) (xW E a S mk rk rv ++ F) [.ref (a 0), .int o] (okOff S o) (xW E a S mk rk rv ++ F) (fun En => En = xIAE ∧ ¬ okOff S o) 1 6 := by
  refine gXv.of (cc := cX2_checkReachable) (maxL := 2) (by decide) rfl (Nat.le_of_ble_eq_true rfl) ?_
  intro p e s m args below meth c A C ht ls hl hO
  have hl : lv_has ls 2 [(0, .ref (a 0)), (1, .int o)] := hl
  have iX0 : ∀ w ∈ u_ws RX0 TX0 8, w ∈ wsX2_checkReachable := by decide +kernel
  have iX2 : ∀ w ∈ u_ws RX2 TX2 9, w ∈ wsX2_checkReachable := by decide +kernel
  have w10 : Cond.fieldLink RX2 10 "ParrotLog" "log" "LParrotLog$Log;" ∈ wsX2_checkReachable := by decide +kernel
  have gwIAE : ∀ w ∈ (vx_atS RX2 41 "java/lang/IllegalArgumentException" ["java/lang/RuntimeException", "java/lang/Exception"]).filter goodWord, w ∈ wsX2_checkReachable := by decide +kernel
  have gNIAE : ∀ w ∈ (vx_atS RX2 41 "java/lang/IllegalArgumentException" ["java/lang/RuntimeException", "java/lang/Exception"]).filter (fun w => !goodWord w), w ∈ eNw := by decide +kernel
  refine lv_iload_n C.1 C.2.1 dX2_checkReachable_0 rfl (lv_at hl 1 rfl) ?_
  refine lv_if_lt (tgt := 15) C.1 C.2.1 dX2_checkReachable_1 (by decide) (fun c_1 => ?_) (fun c_1 => ?_)
  · exact gThrow (E0 := "java/lang/IllegalArgumentException") (text := "offset is not 0 to the next one") C hst hO ht hl.1 (by decide +kernel) (C.2.2.2.2.1 (.classLink RX2 37 "java/lang/IllegalArgumentException") (by decide +kernel)) (C.2.2.2.2.1 (.initialized "java/lang/IllegalArgumentException") (by decide +kernel)) (C.2.2.2.2.2.2.2.1.2.2.1 (248, "offset is not 0 to the next one") (by decide +kernel)) (vx_hat (fun w hw => C.2.2.2.2.1 w (gwIAE w hw)) gNIAE (gNb C)) (by decide +kernel) (by first | exact ⟨rfl, fun g => g.1 c_1⟩ | exact ⟨rfl, fun g => g.2 c_2⟩) dX2_checkReachable_15 dX2_checkReachable_18 dX2_checkReachable_19 dX2_checkReachable_21 dX2_checkReachable_24 (Nat.le_of_ble_eq_true rfl) (Nat.le_of_ble_eq_true rfl) (Nat.le_of_ble_eq_true rfl) (Nat.le_of_ble_eq_true rfl) (Nat.le_of_ble_eq_true rfl) (Nat.le_of_ble_eq_true rfl) 
  · refine lv_iload_n C.1 C.2.1 dX2_checkReachable_4 rfl (lv_at hl 1 rfl) ?_
    refine lv_aload_n C.1 C.2.1 dX2_checkReachable_5 rfl (lv_at hl 0 rfl) ?_
    refine gGet (v := .ref (a 1)) (ref := RX2) (Cn := RX2) (T := TX2) (N := 9) C iX2 hO 0 rfl rfl 0 (by decide) w10 (fun _ h9 => h9) rfl dX2_checkReachable_6 ?_
    refine gGetN (v := .int (s_nx S)) (ref := RX0) (Cn := RX0) (T := TX0) (N := 8) (host := RX2) C iX0 hO 1 rfl rfl 6 (by decide) (by decide +kernel) (fun _ h9 => h9) rfl dX2_checkReachable_9 ?_
    refine gLeI (tgt := 25) C.1 C.2.1 dX2_checkReachable_12 (by decide) (fun c_2 => ?_) (fun c_2 => ?_)
    · exact gXRv C hO (⟨c_1, c_2⟩) dX2_checkReachable_25 (Nat.le_of_ble_eq_true rfl) (Nat.le_of_ble_eq_true rfl)
    · exact gThrow (E0 := "java/lang/IllegalArgumentException") (text := "offset is not 0 to the next one") C hst hO ht hl.1 (by decide +kernel) (C.2.2.2.2.1 (.classLink RX2 37 "java/lang/IllegalArgumentException") (by decide +kernel)) (C.2.2.2.2.1 (.initialized "java/lang/IllegalArgumentException") (by decide +kernel)) (C.2.2.2.2.2.2.2.1.2.2.1 (248, "offset is not 0 to the next one") (by decide +kernel)) (vx_hat (fun w hw => C.2.2.2.2.1 w (gwIAE w hw)) gNIAE (gNb C)) (by decide +kernel) (by first | exact ⟨rfl, fun g => g.1 c_1⟩ | exact ⟨rfl, fun g => g.2 c_2⟩) dX2_checkReachable_15 dX2_checkReachable_18 dX2_checkReachable_19 dX2_checkReachable_21 dX2_checkReachable_24 (Nat.le_of_ble_eq_true rfl) (Nat.le_of_ble_eq_true rfl) (Nat.le_of_ble_eq_true rfl) (Nat.le_of_ble_eq_true rfl) (Nat.le_of_ble_eq_true rfl) (Nat.le_of_ble_eq_true rfl) 

set_option maxHeartbeats 4000000 in
set_option maxRecDepth 100000 in
theorem c_X2_checkStorm (l : Launch) (E : gE) (a : Nat → Nat) (S : St) (mk rk rv : Nat → Int32) (F : va_W) (x : Int32) (hst : l.stackTraces = false) : gXv l E yX2_checkStorm wsX2_checkStorm ({ frames := 6, cells := 1, slots := 6, locals := 82 }) (xW E a S mk rk rv ++ F) [.ref (a 0), .int x] (okStorm S x) (xW E a S mk rk rv ++ F) (fun En => En = xIOE ∧ ¬ okStorm S x) 1 6 := by
  refine gXv.of (cc := cX2_checkStorm) (maxL := 2) (by decide) rfl (Nat.le_of_ble_eq_true rfl) ?_
  intro p e s m args below meth c A C ht ls hl hO
  have hl : lv_has ls 2 [(0, .ref (a 0)), (1, .int x)] := hl
  have iX2 : ∀ w ∈ u_ws RX2 TX2 9, w ∈ wsX2_checkStorm := by decide +kernel
  have w59 : Cond.fieldLink RX2 59 "ParrotLog" "stormCount" "I" ∈ wsX2_checkStorm := by decide +kernel
  have gwIOE : ∀ w ∈ (vx_atS RX2 245 "java/lang/IndexOutOfBoundsException" ["java/lang/RuntimeException", "java/lang/Exception"]).filter goodWord, w ∈ wsX2_checkStorm := by decide +kernel
  have gNIOE : ∀ w ∈ (vx_atS RX2 245 "java/lang/IndexOutOfBoundsException" ["java/lang/RuntimeException", "java/lang/Exception"]).filter (fun w => !goodWord w), w ∈ eNw := by decide +kernel
  refine lv_iload_n C.1 C.2.1 dX2_checkStorm_0 rfl (lv_at hl 1 rfl) ?_
  refine lv_if_lt (tgt := 12) C.1 C.2.1 dX2_checkStorm_1 (by decide) (fun c_1 => ?_) (fun c_1 => ?_)
  · exact gThrow (E0 := "java/lang/IndexOutOfBoundsException") (text := "there is no such storm") C hst hO ht hl.1 (by decide +kernel) (C.2.2.2.2.1 (.classLink RX2 243 "java/lang/IndexOutOfBoundsException") (by decide +kernel)) (C.2.2.2.2.1 (.initialized "java/lang/IndexOutOfBoundsException") (by decide +kernel)) (C.2.2.2.2.2.2.2.1.2.2.1 (250, "there is no such storm") (by decide +kernel)) (vx_hat (fun w hw => C.2.2.2.2.1 w (gwIOE w hw)) gNIOE (gNb C)) (by decide +kernel) (by first | exact ⟨rfl, fun g => g.1 c_1⟩ | exact ⟨rfl, fun g => c_2 g.2⟩) dX2_checkStorm_12 dX2_checkStorm_15 dX2_checkStorm_16 dX2_checkStorm_18 dX2_checkStorm_21 (Nat.le_of_ble_eq_true rfl) (Nat.le_of_ble_eq_true rfl) (Nat.le_of_ble_eq_true rfl) (Nat.le_of_ble_eq_true rfl) (Nat.le_of_ble_eq_true rfl) (Nat.le_of_ble_eq_true rfl) 
  · refine lv_iload_n C.1 C.2.1 dX2_checkStorm_4 rfl (lv_at hl 1 rfl) ?_
    refine lv_aload_n C.1 C.2.1 dX2_checkStorm_5 rfl (lv_at hl 0 rfl) ?_
    refine gGet (v := .int (nI (s_sc S))) (ref := RX2) (Cn := RX2) (T := TX2) (N := 9) C iX2 hO 0 rfl rfl 6 (by decide) w59 (fun _ h9 => h9) rfl dX2_checkStorm_6 ?_
    refine lv_icmp_lt (tgt := 22) C.1 C.2.1 dX2_checkStorm_9 (by decide) (fun c_2 => ?_) (fun c_2 => ?_)
    · exact gXRv C hO (⟨c_1, c_2⟩) dX2_checkStorm_22 (Nat.le_of_ble_eq_true rfl) (Nat.le_of_ble_eq_true rfl)
    · exact gThrow (E0 := "java/lang/IndexOutOfBoundsException") (text := "there is no such storm") C hst hO ht hl.1 (by decide +kernel) (C.2.2.2.2.1 (.classLink RX2 243 "java/lang/IndexOutOfBoundsException") (by decide +kernel)) (C.2.2.2.2.1 (.initialized "java/lang/IndexOutOfBoundsException") (by decide +kernel)) (C.2.2.2.2.2.2.2.1.2.2.1 (250, "there is no such storm") (by decide +kernel)) (vx_hat (fun w hw => C.2.2.2.2.1 w (gwIOE w hw)) gNIOE (gNb C)) (by decide +kernel) (by first | exact ⟨rfl, fun g => g.1 c_1⟩ | exact ⟨rfl, fun g => c_2 g.2⟩) dX2_checkStorm_12 dX2_checkStorm_15 dX2_checkStorm_16 dX2_checkStorm_18 dX2_checkStorm_21 (Nat.le_of_ble_eq_true rfl) (Nat.le_of_ble_eq_true rfl) (Nat.le_of_ble_eq_true rfl) (Nat.le_of_ble_eq_true rfl) (Nat.le_of_ble_eq_true rfl) (Nat.le_of_ble_eq_true rfl) 

set_option maxHeartbeats 4000000 in
set_option maxRecDepth 100000 in
theorem c_X2_shipNumbered (l : Launch) (E : gE) (a : Nat → Nat) (S : St) (mk rk rv : Nat → Int32) (F : va_W) (x : Int32) (hst : l.stackTraces = false) (hsh : s_sh S ≤ 6) : gXr l E yX2_shipNumbered wsX2_shipNumbered ({ frames := 6, cells := 1, slots := 6, locals := 82 }) (xW E a S mk rk rv ++ F) [.ref (a 0), .int x] (okShip S x) (a (11 + x.toNatClampNeg)) (xW E a S mk rk rv ++ F) (fun En => En = xIOE ∧ ¬ okShip S x) 1 6 := by
  refine gXr.of (cc := cX2_shipNumbered) (maxL := 2) (ty := (.object "ParrotLog$Ship")) (by decide) rfl (Nat.le_of_ble_eq_true rfl) ?_
  intro p e s m args below meth c A C ht ls hl hO
  have hl : lv_has ls 2 [(0, .ref (a 0)), (1, .int x)] := hl
  have iX2 : ∀ w ∈ u_ws RX2 TX2 9, w ∈ wsX2_shipNumbered := by decide +kernel
  have w90 : Cond.fieldLink RX2 90 "ParrotLog" "shipCount" "I" ∈ wsX2_shipNumbered := by decide +kernel
  have w22 : Cond.fieldLink RX2 22 "ParrotLog" "fleet" "[LParrotLog$Ship;" ∈ wsX2_shipNumbered := by decide +kernel
  have gwIOE : ∀ w ∈ (vx_atS RX2 245 "java/lang/IndexOutOfBoundsException" ["java/lang/RuntimeException", "java/lang/Exception"]).filter goodWord, w ∈ wsX2_shipNumbered := by decide +kernel
  have gNIOE : ∀ w ∈ (vx_atS RX2 245 "java/lang/IndexOutOfBoundsException" ["java/lang/RuntimeException", "java/lang/Exception"]).filter (fun w => !goodWord w), w ∈ eNw := by decide +kernel
  refine lv_iload_n C.1 C.2.1 dX2_shipNumbered_0 rfl (lv_at hl 1 rfl) ?_
  refine lv_if_lt (tgt := 12) C.1 C.2.1 dX2_shipNumbered_1 (by decide) (fun c_1 => ?_) (fun c_1 => ?_)
  · exact gThrow (E0 := "java/lang/IndexOutOfBoundsException") (text := "there is no such ship") C hst hO ht hl.1 (by decide +kernel) (C.2.2.2.2.1 (.classLink RX2 243 "java/lang/IndexOutOfBoundsException") (by decide +kernel)) (C.2.2.2.2.1 (.initialized "java/lang/IndexOutOfBoundsException") (by decide +kernel)) (C.2.2.2.2.2.2.2.1.2.2.1 (252, "there is no such ship") (by decide +kernel)) (vx_hat (fun w hw => C.2.2.2.2.1 w (gwIOE w hw)) gNIOE (gNb C)) (by decide +kernel) (by first | exact ⟨rfl, fun g => g.1 c_1⟩ | exact ⟨rfl, fun g => c_2 g.2⟩) dX2_shipNumbered_12 dX2_shipNumbered_15 dX2_shipNumbered_16 dX2_shipNumbered_18 dX2_shipNumbered_21 (Nat.le_of_ble_eq_true rfl) (Nat.le_of_ble_eq_true rfl) (Nat.le_of_ble_eq_true rfl) (Nat.le_of_ble_eq_true rfl) (Nat.le_of_ble_eq_true rfl) (Nat.le_of_ble_eq_true rfl) 
  · refine lv_iload_n C.1 C.2.1 dX2_shipNumbered_4 rfl (lv_at hl 1 rfl) ?_
    refine lv_aload_n C.1 C.2.1 dX2_shipNumbered_5 rfl (lv_at hl 0 rfl) ?_
    refine gGet (v := .int (nI (s_sh S))) (ref := RX2) (Cn := RX2) (T := TX2) (N := 9) C iX2 hO 0 rfl rfl 8 (by decide) w90 (fun _ h9 => h9) rfl dX2_shipNumbered_6 ?_
    refine lv_icmp_lt (tgt := 22) C.1 C.2.1 dX2_shipNumbered_9 (by decide) (fun c_2 => ?_) (fun c_2 => ?_)
    · have hj9 := okNat (by omega) c_1 c_2
      have hi9 : x.toNatClampNeg < 6 := by omega
      refine lv_aload_n C.1 C.2.1 dX2_shipNumbered_22 rfl (lv_at hl 0 rfl) ?_
      refine gGet (v := .ref (a 8)) (ref := RX2) (Cn := RX2) (T := TX2) (N := 9) C iX2 hO 0 rfl rfl 2 (by decide) w22 (fun _ h9 => h9) rfl dX2_shipNumbered_23 ?_
      refine lv_iload_n C.1 C.2.1 dX2_shipNumbered_26 rfl (lv_at hl 1 rfl) ?_
      refine lv_eqi (y := nI x.toNatClampNeg) hj9.2 ?_
      refine gAald (v := a (11 + x.toNatClampNeg)) (j := x.toNatClampNeg) C hO 8 rfl hi9 (by decide) (xFl_at hi9) dX2_shipNumbered_27 ?_
      exact gXRr C hO ⟨_, rfl⟩ (⟨c_1, c_2⟩) dX2_shipNumbered_28 (Nat.le_of_ble_eq_true rfl) (Nat.le_of_ble_eq_true rfl)
    · exact gThrow (E0 := "java/lang/IndexOutOfBoundsException") (text := "there is no such ship") C hst hO ht hl.1 (by decide +kernel) (C.2.2.2.2.1 (.classLink RX2 243 "java/lang/IndexOutOfBoundsException") (by decide +kernel)) (C.2.2.2.2.1 (.initialized "java/lang/IndexOutOfBoundsException") (by decide +kernel)) (C.2.2.2.2.2.2.2.1.2.2.1 (252, "there is no such ship") (by decide +kernel)) (vx_hat (fun w hw => C.2.2.2.2.1 w (gwIOE w hw)) gNIOE (gNb C)) (by decide +kernel) (by first | exact ⟨rfl, fun g => g.1 c_1⟩ | exact ⟨rfl, fun g => c_2 g.2⟩) dX2_shipNumbered_12 dX2_shipNumbered_15 dX2_shipNumbered_16 dX2_shipNumbered_18 dX2_shipNumbered_21 (Nat.le_of_ble_eq_true rfl) (Nat.le_of_ble_eq_true rfl) (Nat.le_of_ble_eq_true rfl) (Nat.le_of_ble_eq_true rfl) (Nat.le_of_ble_eq_true rfl) (Nat.le_of_ble_eq_true rfl) 

set_option maxHeartbeats 4000000 in
set_option maxRecDepth 100000 in
theorem c_X2_keptPosition (l : Launch) (E : gE) (a : Nat → Nat) (S : St) (mk rk rv : Nat → Int32) (F : va_W) (o : Int32) (hst : l.stackTraces = false) (hn : s_n S ≤ 48) : gXi l E yX2_keptPosition wsX2_keptPosition ({ frames := 6, cells := 1, slots := 6, locals := 82 }) (xW E a S mk rk rv ++ F) [.ref (a 0), .int o] (s_po S o ≠ none) (oI (s_po S o)) (xW E a S mk rk rv ++ F) (fun En => En = xIOE ∧ s_po S o = none) 1 6 := by
  refine gXi.of (cc := cX2_keptPosition) (maxL := 3) (ty := .int) (by decide) rfl (Nat.le_of_ble_eq_true rfl) ?_
  intro p e s m args below meth c A C ht ls hl hO
  have hl : lv_has ls 3 [(0, .ref (a 0)), (1, .int o)] := hl
  have iX2 : ∀ w ∈ u_ws RX2 TX2 9, w ∈ wsX2_keptPosition := by decide +kernel
  have w10 : Cond.fieldLink RX2 10 "ParrotLog" "log" "LParrotLog$Log;" ∈ wsX2_keptPosition := by decide +kernel
  have gwIOE : ∀ w ∈ (vx_atS RX2 245 "java/lang/IndexOutOfBoundsException" ["java/lang/RuntimeException", "java/lang/Exception"]).filter goodWord, w ∈ wsX2_keptPosition := by decide +kernel
  have gNIOE : ∀ w ∈ (vx_atS RX2 245 "java/lang/IndexOutOfBoundsException" ["java/lang/RuntimeException", "java/lang/Exception"]).filter (fun w => !goodWord w), w ∈ eNw := by decide +kernel
  refine lv_aload_n C.1 C.2.1 dX2_keptPosition_0 rfl (lv_at hl 0 rfl) ?_
  refine gGet (v := .ref (a 1)) (ref := RX2) (Cn := RX2) (T := TX2) (N := 9) C iX2 hO 0 rfl rfl 0 (by decide) w10 (fun _ h9 => h9) rfl dX2_keptPosition_1 ?_
  refine lv_iload_n C.1 C.2.1 dX2_keptPosition_4 rfl (lv_at hl 1 rfl) ?_
  refine gCallN_i (As := [.int o]) (rest := []) C hO (c_X0_positionOf l E a S mk rk rv F o (by omega)) ⟨va_cnB (host := RX2) 1 C.2.2.2.2.1 gX2_keptPosition_X0_positionOf_n130 rfl rfl rfl (C.2.2.2.2.2.2.2.1.2.1 (.methodLinkNest RX2 130 yX0_positionOf RX2) (by decide +kernel)) (C.2.2.2.2.1 (.initialized RX0) (by decide +kernel)) (by decide +kernel) ⟨(Nat.le_of_ble_eq_true rfl), (Nat.le_of_ble_eq_true rfl)⟩, C.2.2.2.2.1 (.instanceMethod yX0_positionOf) (by decide +kernel), C.2.2.2.2.1 (.selects RX0 yX0_positionOf yX0_positionOf) (by decide +kernel)⟩ (va_recv C.2.2.2.2.2.2.2.1.1 hO.1 (ci := 0) (q0 := 1) rfl rfl) rfl hl.1 rfl (Nat.le_of_ble_eq_true rfl) dX2_keptPosition_5 ⟨(Nat.le_of_ble_eq_true rfl), (Nat.le_of_ble_eq_true rfl)⟩ (fun H locs hO => ?_)
  refine lv_istore_n (lv' := [(2, .int (oI (s_po S o))), (0, .ref (a 0)), (1, .int o)]) C.1 C.2.1 dX2_keptPosition_8 rfl hl (by decide) rfl (fun ls hl => ?_)
  refine lv_iload_n C.1 C.2.1 dX2_keptPosition_9 rfl (lv_at hl 0 rfl) ?_
  refine lv_iconst (v := (-1)) C.1 C.2.1 dX2_keptPosition_10 (by decide) ?_
  refine lv_icmp_ne (tgt := 24) C.1 C.2.1 dX2_keptPosition_11 (by decide) (fun c_1 => ?_) (fun c_1 => ?_)
  · have hz : s_po S o ≠ none := fun g => c_1 (by rw [g]; rfl)
    refine lv_iload_n C.1 C.2.1 dX2_keptPosition_24 rfl (lv_at hl 0 rfl) ?_
    exact gXRi C hO rfl hz rfl dX2_keptPosition_25 (Nat.le_of_ble_eq_true rfl) (Nat.le_of_ble_eq_true rfl)
  · have hz : s_po S o = none := (oI_ne (fun i hi => by have := s_po_lt hi; omega)).mp c_1
    exact gThrow (E0 := "java/lang/IndexOutOfBoundsException") (text := "no phrase with this offset is kept") C hst hO ht hl.1 (by decide +kernel) (C.2.2.2.2.1 (.classLink RX2 243 "java/lang/IndexOutOfBoundsException") (by decide +kernel)) (C.2.2.2.2.1 (.initialized "java/lang/IndexOutOfBoundsException") (by decide +kernel)) (C.2.2.2.2.2.2.2.1.2.2.1 (254, "no phrase with this offset is kept") (by decide +kernel)) (vx_hat (fun w hw => C.2.2.2.2.1 w (gwIOE w hw)) gNIOE (gNb C)) (by decide +kernel) (⟨rfl, hz⟩) dX2_keptPosition_14 dX2_keptPosition_17 dX2_keptPosition_18 dX2_keptPosition_20 dX2_keptPosition_23 (Nat.le_of_ble_eq_true rfl) (Nat.le_of_ble_eq_true rfl) (Nat.le_of_ble_eq_true rfl) (Nat.le_of_ble_eq_true rfl) (Nat.le_of_ble_eq_true rfl) (Nat.le_of_ble_eq_true rfl) 

set_option maxHeartbeats 4000000 in
set_option maxRecDepth 100000 in
theorem c_X2_lag (l : Launch) (E : gE) (a : Nat → Nat) (S : St) (mk rk rv : Nat → Int32) (F : va_W) (i : Nat) (hn : s_n S ≤ 48) (hi : i < 6) : gMi l E yX2_lag wsX2_lag ({ frames := 1, cells := 0, slots := 0, locals := 22 }) (xW E a S mk rk rv ++ F) [.ref (a 0), .ref (a (11 + i))] (nI (s_lag S i)) (xW E a S mk rk rv ++ F) 0 0 := by
  refine gMi.of (cc := cX2_lag) (maxL := 2) (ty := .int) (by decide) rfl (Nat.le_of_ble_eq_true rfl) ?_
  intro p e s m args below meth c A C ls hl hO
  have hl : lv_has ls 2 [(0, .ref (a 0)), (1, .ref (a (11 + i)))] := hl
  have iX0 : ∀ w ∈ u_ws RX0 TX0 8, w ∈ wsX2_lag := by decide +kernel
  have iX1 : ∀ w ∈ u_ws RX1 TX1 5, w ∈ wsX2_lag := by decide +kernel
  have iX2 : ∀ w ∈ u_ws RX2 TX2 9, w ∈ wsX2_lag := by decide +kernel
  have w10 : Cond.fieldLink RX2 10 "ParrotLog" "log" "LParrotLog$Log;" ∈ wsX2_lag := by decide +kernel
  refine lv_aload_n C.1 C.2.1 dX2_lag_0 rfl (lv_at hl 0 rfl) ?_
  refine gGet (v := .ref (a 1)) (ref := RX2) (Cn := RX2) (T := TX2) (N := 9) C iX2 hO 0 rfl rfl 0 (by decide) w10 (fun _ h9 => h9) rfl dX2_lag_1 ?_
  refine gGetN (v := .int (nI (s_n S))) (ref := RX0) (Cn := RX0) (T := TX0) (N := 8) (host := RX2) C iX0 hO 1 rfl rfl 5 (by decide) (by decide +kernel) (fun _ h9 => h9) rfl dX2_lag_4 ?_
  refine lv_aload_n C.1 C.2.1 dX2_lag_7 rfl (lv_at hl 0 rfl) ?_
  refine gGet (v := .ref (a 1)) (ref := RX2) (Cn := RX2) (T := TX2) (N := 9) C iX2 hO 0 rfl rfl 0 (by decide) w10 (fun _ h9 => h9) rfl dX2_lag_8 ?_
  refine lv_aload_n C.1 C.2.1 dX2_lag_11 rfl (lv_at hl 1 rfl) ?_
  refine gGetN (v := .int ((s_at S) i)) (ref := RX1) (Cn := RX1) (T := TX1) (N := 5) (host := RX2) C iX1 hO (11 + i) (xw_ship hi) rfl 2 (by decide) (by decide +kernel) (fun _ h9 => h9) rfl dX2_lag_12 ?_
  refine gCallN_i (As := [.int ((s_at S) i)]) (rest := [.int (nI (s_n S))]) C hO (c_X0_positionFrom l E a S mk rk rv F ((s_at S) i) (by omega)) ⟨va_cnB (host := RX2) 1 C.2.2.2.2.1 gX2_lag_X0_positionFrom_n233 rfl rfl rfl (C.2.2.2.2.2.2.2.1.2.1 (.methodLinkNest RX2 233 yX0_positionFrom RX2) (by decide +kernel)) (C.2.2.2.2.1 (.initialized RX0) (by decide +kernel)) (by decide +kernel) ⟨(Nat.le_of_ble_eq_true rfl), (Nat.le_of_ble_eq_true rfl)⟩, C.2.2.2.2.1 (.instanceMethod yX0_positionFrom) (by decide +kernel), C.2.2.2.2.1 (.selects RX0 yX0_positionFrom yX0_positionFrom) (by decide +kernel)⟩ (va_recv C.2.2.2.2.2.2.2.1.1 hO.1 (ci := 0) (q0 := 1) rfl rfl) rfl hl.1 rfl (Nat.le_of_ble_eq_true rfl) dX2_lag_15 ⟨(Nat.le_of_ble_eq_true rfl), (Nat.le_of_ble_eq_true rfl)⟩ (fun H locs hO => ?_)
  refine gSubN (x := (s_n S)) (y := (pf (s_off S) ((s_at S) i) (s_n S))) C.1 C.2.1 (pf_le _ _ _) dX2_lag_18 ?_
  exact gRi C hO rfl rfl dX2_lag_19 (Nat.le_of_ble_eq_true rfl) (Nat.le_of_ble_eq_true rfl)

set_option maxHeartbeats 4000000 in
set_option maxRecDepth 100000 in
theorem c_X2_mostHeard (l : Launch) (E : gE) (a : Nat → Nat) (S : St) (mk rk rv : Nat → Int32) (F : va_W) (h9 q9 : Nat) : gMi l E yX2_mostHeard wsX2_mostHeard ({ frames := 0, cells := 0, slots := 0, locals := 0 }) (xW E a S mk rk rv ++ F) [.ref (a 0), .int (nI h9), .int (nI q9)] (nI (mhN S h9 q9)) (xW E a S mk rk rv ++ F) 0 0 := by
  refine gMi.of (cc := cX2_mostHeard) (maxL := 3) (ty := .int) (by decide) rfl (Nat.le_of_ble_eq_true rfl) ?_
  intro p e s m args below meth c A C ls hl hO
  have hl : lv_has ls 3 [(0, .ref (a 0)), (1, .int (nI h9)), (2, .int (nI q9))] := hl
  have iX2 : ∀ w ∈ u_ws RX2 TX2 9, w ∈ wsX2_mostHeard := by decide +kernel
  have w50 : Cond.fieldLink RX2 50 "ParrotLog" "stormOn" "Z" ∈ wsX2_mostHeard := by decide +kernel
  refine lv_aload_n C.1 C.2.1 dX2_mostHeard_0 rfl (lv_at hl 0 rfl) ?_
  refine gGet (v := .int (s_on S)) (ref := RX2) (Cn := RX2) (T := TX2) (N := 9) C iX2 hO 0 rfl rfl 7 (by decide) w50 (fun _ h9 => h9) rfl dX2_mostHeard_1 ?_
  refine lv_if_eq (tgt := 11) C.1 C.2.1 dX2_mostHeard_4 (by decide) (fun c_1 => ?_) (fun c_1 => ?_)
  · refine lv_iload_n C.1 C.2.1 dX2_mostHeard_11 rfl (lv_at hl 1 rfl) ?_
    refine lv_iload_n C.1 C.2.1 dX2_mostHeard_12 rfl (lv_at hl 2 rfl) ?_
    refine gMulN (x := h9) (y := q9) C.1 C.2.1 dX2_mostHeard_13 ?_
    exact gRi C hO rfl (by first | (unfold mhN; rw [if_pos c_1]; done) | (unfold mhN; rw [if_neg c_1]; rfl; done)) dX2_mostHeard_14 (Nat.le_of_ble_eq_true rfl) (Nat.le_of_ble_eq_true rfl)
  · refine lv_iconst (v := 0) C.1 C.2.1 dX2_mostHeard_7 (by decide) ?_
    refine lv_goto (tgt := 14) C.1 C.2.1 dX2_mostHeard_8 (by decide) ?_
    exact gRi C hO rfl (by first | (unfold mhN; rw [if_pos c_1]; done) | (unfold mhN; rw [if_neg c_1]; rfl; done)) dX2_mostHeard_14 (Nat.le_of_ble_eq_true rfl) (Nat.le_of_ble_eq_true rfl)

set_option maxHeartbeats 4000000 in
set_option maxRecDepth 100000 in
theorem c_X2_leastShipOffset (l : Launch) (E : gE) (a : Nat → Nat) (S : St) (mk rk rv : Nat → Int32) (F : va_W)  (hsh : s_sh S ≤ 6) : gMi l E yX2_leastShipOffset wsX2_leastShipOffset ({ frames := 1, cells := 0, slots := 0, locals := 13 }) (xW E a S mk rk rv ++ F) [.ref (a 0)] (lst (s_at S) (s_nx S) (s_sh S)) (xW E a S mk rk rv ++ F) 0 0 := by
  refine gMi.of (cc := cX2_leastShipOffset) (maxL := 3) (ty := .int) (by decide) rfl (Nat.le_of_ble_eq_true rfl) ?_
  intro p e s m args below meth c A C ls hl hO
  have hl : lv_has ls 3 [(0, .ref (a 0))] := hl
  have iX0 : ∀ w ∈ u_ws RX0 TX0 8, w ∈ wsX2_leastShipOffset := by decide +kernel
  have iX1 : ∀ w ∈ u_ws RX1 TX1 5, w ∈ wsX2_leastShipOffset := by decide +kernel
  have iX2 : ∀ w ∈ u_ws RX2 TX2 9, w ∈ wsX2_leastShipOffset := by decide +kernel
  have w10 : Cond.fieldLink RX2 10 "ParrotLog" "log" "LParrotLog$Log;" ∈ wsX2_leastShipOffset := by decide +kernel
  have w90 : Cond.fieldLink RX2 90 "ParrotLog" "shipCount" "I" ∈ wsX2_leastShipOffset := by decide +kernel
  have w22 : Cond.fieldLink RX2 22 "ParrotLog" "fleet" "[LParrotLog$Ship;" ∈ wsX2_leastShipOffset := by decide +kernel
  refine lv_aload_n C.1 C.2.1 dX2_leastShipOffset_0 rfl (lv_at hl 0 rfl) ?_
  refine gGet (v := .ref (a 1)) (ref := RX2) (Cn := RX2) (T := TX2) (N := 9) C iX2 hO 0 rfl rfl 0 (by decide) w10 (fun _ h9 => h9) rfl dX2_leastShipOffset_1 ?_
  refine gGetN (v := .int (s_nx S)) (ref := RX0) (Cn := RX0) (T := TX0) (N := 8) (host := RX2) C iX0 hO 1 rfl rfl 6 (by decide) (by decide +kernel) (fun _ h9 => h9) rfl dX2_leastShipOffset_4 ?_
  refine lv_istore_n (lv' := [(1, .int (s_nx S)), (0, .ref (a 0))]) C.1 C.2.1 dX2_leastShipOffset_7 rfl hl (by decide) rfl (fun ls hl => ?_)
  refine lv_iconst (v := 0) C.1 C.2.1 dX2_leastShipOffset_8 (by decide) ?_
  refine lv_istore_n (lv' := [(2, .int 0), (1, .int (s_nx S)), (0, .ref (a 0))]) C.1 C.2.1 dX2_leastShipOffset_9 rfl hl (by decide) rfl (fun ls hl => ?_)
  have lp24 : ∀ (f : Nat) (k : Nat), (s_sh S + 1 ≤ k + f) → (k ≤ s_sh S) → ∀ (H : Heap) (locs : List Loc), gO E A s (xW E a S mk rk rv ++ F) H locs → ∀ ls : Array Slot, lv_has ls 3 [(0, .ref (a 0)), (1, .int (lst (s_at S) (s_nx S) k)), (2, .int (nI k))] → W p l e ({ frames := 1, cells := 0, slots := 0, locals := 13 } : Room) s m args below meth c H locs 0 0 (MQ below (gQi E A (lst (s_at S) (s_nx S) (s_sh S)) (xW E a S mk rk rv ++ F)) args s 0 0 A) (F0 m 10 ls []) := by
    intro f
    induction f with
    | zero =>
      intro k hf hk9
      exact absurd hf (by omega)
    | succ f ih_lp24 =>
      intro k hf hk9 H locs hO ls hl
      refine lv_iload_n C.1 C.2.1 dX2_leastShipOffset_10 rfl (lv_at hl 2 rfl) ?_
      refine lv_aload_n C.1 C.2.1 dX2_leastShipOffset_11 rfl (lv_at hl 0 rfl) ?_
      refine gGet (v := .int (nI (s_sh S))) (ref := RX2) (Cn := RX2) (T := TX2) (N := 9) C iX2 hO 0 rfl rfl 8 (by decide) w90 (fun _ h9 => h9) rfl dX2_leastShipOffset_12 ?_
      refine gGeN (x := k) (y := (s_sh S)) (tgt := 38) C.1 C.2.1 (by omega) (by omega) dX2_leastShipOffset_15 (by decide) (fun c_1 => ?_) (fun c_1 => ?_)
      · refine lv_iload_n C.1 C.2.1 dX2_leastShipOffset_38 rfl (lv_at hl 1 rfl) ?_
        exact gRi C hO rfl (by rw [show k = s_sh S by omega]) dX2_leastShipOffset_39 (Nat.le_of_ble_eq_true rfl) (Nat.le_of_ble_eq_true rfl)
      · refine lv_iload_n C.1 C.2.1 dX2_leastShipOffset_18 rfl (lv_at hl 1 rfl) ?_
        refine lv_aload_n C.1 C.2.1 dX2_leastShipOffset_19 rfl (lv_at hl 0 rfl) ?_
        refine gGet (v := .ref (a 8)) (ref := RX2) (Cn := RX2) (T := TX2) (N := 9) C iX2 hO 0 rfl rfl 2 (by decide) w22 (fun _ h9 => h9) rfl dX2_leastShipOffset_20 ?_
        refine lv_iload_n C.1 C.2.1 dX2_leastShipOffset_23 rfl (lv_at hl 2 rfl) ?_
        refine gAald (v := a (11 + k)) (j := k) C hO 8 rfl (by omega) (by decide) (xFl_at (by omega)) dX2_leastShipOffset_24 ?_
        refine gGetN (v := .int ((s_at S) k)) (ref := RX1) (Cn := RX1) (T := TX1) (N := 5) (host := RX2) C iX1 hO (11 + k) (xw_ship (by omega)) rfl 2 (by decide) (by decide +kernel) (fun _ h9 => h9) rfl dX2_leastShipOffset_25 ?_
        refine va_mmin C.1 C.2.1 (by rw [C.2.2.1]; exact hl.1.symm) C.2.2.2.1 (C.2.2.2.2.1 (.methodLink RX2 225 Lib.Math.min.name) (by decide +kernel)) (C.2.2.2.2.1 (.static Lib.Math.min.name) (by decide +kernel)) (C.2.2.2.2.1 (.initialized "java/lang/Math") (by decide +kernel)) (C.2.2.2.2.1 (.code Lib.Math.min.name Lib.Math.min.code 2 (some .int)) (by decide +kernel)) (Nat.le_of_ble_eq_true rfl) (Nat.le_of_ble_eq_true rfl) (Nat.le_of_ble_eq_true rfl) (Nat.le_of_ble_eq_true rfl) dX2_leastShipOffset_28 ?_
        refine lv_istore_n (lv' := [(1, .int (if (s_at S) k < lst (s_at S) (s_nx S) k then (s_at S) k else lst (s_at S) (s_nx S) k)), (0, .ref (a 0)), (2, .int (nI k))]) C.1 C.2.1 dX2_leastShipOffset_31 rfl hl (by decide) rfl (fun ls hl => ?_)
        refine gInc (j := k) (k := 2) (lv' := [(2, .int (nI (k + 1))), (1, .int (if (s_at S) k < lst (s_at S) (s_nx S) k then (s_at S) k else lst (s_at S) (s_nx S) k)), (0, .ref (a 0))]) C.1 C.2.1 dX2_leastShipOffset_32 hl rfl (by decide) rfl (fun ls hl => ?_)
        refine lv_goto (tgt := 10) C.1 C.2.1 dX2_leastShipOffset_35 (by decide) ?_
        exact ih_lp24 (k + 1) (by omega) (by omega) _ _ hO _ (lv_sub hl [2, 1, 0] rfl)
  exact lp24 (s_sh S + 1) 0 (by omega) (Nat.zero_le _) _ _ hO _ (lv_sub hl [2, 1, 0] rfl)

set_option maxHeartbeats 4000000 in
set_option maxRecDepth 100000 in
theorem c_X2_markCompacted (l : Launch) (E : gE) (a : Nat → Nat) (S : St) (mk rk rv : Nat → Int32) (F : va_W)  (hn : s_n S ≤ 48) (hsh : s_sh S ≤ 6) : gMv l E yX2_markCompacted wsX2_markCompacted ({ frames := 2, cells := 0, slots := 0, locals := 48 }) (xW E a S mk rk rv ++ F) [.ref (a 0)] (xW E a S (mkU (s_cm S) mk (s_n S)) rk rv ++ F) 0 0 := by
  refine gMv.of (cc := cX2_markCompacted) (maxL := 1) (by decide) rfl (Nat.le_of_ble_eq_true rfl) ?_
  intro p e s m args below meth c A C ls hl hO
  have hl : lv_has ls 1 [(0, .ref (a 0))] := hl
  have iX2 : ∀ w ∈ u_ws RX2 TX2 9, w ∈ wsX2_markCompacted := by decide +kernel
  have w10 : Cond.fieldLink RX2 10 "ParrotLog" "log" "LParrotLog$Log;" ∈ wsX2_markCompacted := by decide +kernel
  refine lv_aload_n C.1 C.2.1 dX2_markCompacted_0 rfl (lv_at hl 0 rfl) ?_
  refine gGet (v := .ref (a 1)) (ref := RX2) (Cn := RX2) (T := TX2) (N := 9) C iX2 hO 0 rfl rfl 0 (by decide) w10 (fun _ h9 => h9) rfl dX2_markCompacted_1 ?_
  refine lv_aload_n C.1 C.2.1 dX2_markCompacted_4 rfl (lv_at hl 0 rfl) ?_
  refine gCall_i (As := []) (rest := [.ref (a 1)]) C hO (c_X2_leastShipOffset l E a S mk rk rv F (by omega)) (cwV 0 C.2.2.2.2.1 gX2_markCompacted_X2_leastShipOffset rfl rfl rfl (by decide +kernel) ⟨(Nat.le_of_ble_eq_true rfl), (Nat.le_of_ble_eq_true rfl)⟩) (va_recv C.2.2.2.2.2.2.2.1.1 hO.1 (ci := 2) (q0 := 0) rfl rfl) rfl hl.1 rfl (Nat.le_of_ble_eq_true rfl) dX2_markCompacted_5 ⟨(Nat.le_of_ble_eq_true rfl), (Nat.le_of_ble_eq_true rfl)⟩ (fun H locs hO => ?_)
  refine gCallN_v (As := [.int (lst (s_at S) (s_nx S) (s_sh S))]) (rest := []) C hO (c_X0_markCompacted l E a S mk rk rv F (lst (s_at S) (s_nx S) (s_sh S)) (by omega)) ⟨va_cnB (host := RX2) 1 C.2.2.2.2.1 gX2_markCompacted_X0_markCompacted_n223 rfl rfl rfl (C.2.2.2.2.2.2.2.1.2.1 (.methodLinkNest RX2 223 yX0_markCompacted RX2) (by decide +kernel)) (C.2.2.2.2.1 (.initialized RX0) (by decide +kernel)) (by decide +kernel) ⟨(Nat.le_of_ble_eq_true rfl), (Nat.le_of_ble_eq_true rfl)⟩, C.2.2.2.2.1 (.instanceMethod yX0_markCompacted) (by decide +kernel), C.2.2.2.2.1 (.selects RX0 yX0_markCompacted yX0_markCompacted) (by decide +kernel)⟩ (va_recv C.2.2.2.2.2.2.2.1.1 hO.1 (ci := 0) (q0 := 1) rfl rfl) rfl hl.1 rfl (Nat.le_of_ble_eq_true rfl) dX2_markCompacted_8 ⟨(Nat.le_of_ble_eq_true rfl), (Nat.le_of_ble_eq_true rfl)⟩ (fun H locs hO => ?_)
  have hO : gO E A s (xW E a S (mkU (gComp (s_off S) (s_key S) (s_val S) (s_n S) (lst (s_at S) (s_nx S) (s_sh S))) mk (s_n S)) rk rv ++ F) H locs := hO
  exact gRv C hO dX2_markCompacted_11 (Nat.le_of_ble_eq_true rfl) (Nat.le_of_ble_eq_true rfl)

set_option maxHeartbeats 4000000 in
set_option maxRecDepth 100000 in
theorem c_X2_dropMarked (l : Launch) (E : gE) (a : Nat → Nat) (S : St) (mk rk rv : Nat → Int32) (F : va_W)  (hn : s_n S ≤ 48) (hsh : s_sh S ≤ 6) : gMi l E yX2_dropMarked wsX2_dropMarked ({ frames := 2, cells := 0, slots := 0, locals := 45 }) (xW E a S mk rk rv ++ F) [.ref (a 0)] (nI (s_n S - cpN mk (s_n S))) (xW E a (S_drop S mk) mk rk rv ++ F) 0 0 := by
  refine gMi.of (cc := cX2_dropMarked) (maxL := 2) (ty := .int) (by decide) rfl (Nat.le_of_ble_eq_true rfl) ?_
  intro p e s m args below meth c A C ls hl hO
  have hl : lv_has ls 2 [(0, .ref (a 0))] := hl
  have iX1 : ∀ w ∈ u_ws RX1 TX1 5, w ∈ wsX2_dropMarked := by decide +kernel
  have iX2 : ∀ w ∈ u_ws RX2 TX2 9, w ∈ wsX2_dropMarked := by decide +kernel
  have w90 : Cond.fieldLink RX2 90 "ParrotLog" "shipCount" "I" ∈ wsX2_dropMarked := by decide +kernel
  have w10 : Cond.fieldLink RX2 10 "ParrotLog" "log" "LParrotLog$Log;" ∈ wsX2_dropMarked := by decide +kernel
  have w22 : Cond.fieldLink RX2 22 "ParrotLog" "fleet" "[LParrotLog$Ship;" ∈ wsX2_dropMarked := by decide +kernel
  have hO : gO E A s (xW E a (mkS (s_off S) (s_key S) (s_val S) (s_sto S) (s_n S) (s_nx S) (s_dr S) (s_hr S) (s_sc S) (s_on S) (s_said S) (s_sh S) (s_pc S) (s_at S) (s_hd S) (mkU (fun i => s_ms S i + nI (cm mk (pf (s_off S) (s_at S i) (s_n S)) (s_n S))) (s_ms S) (0)) (s_kn S)) mk rk rv ++ F) s.heap [] := by rw [mkU_0]; exact hO
  refine lv_iconst (v := 0) C.1 C.2.1 dX2_dropMarked_0 (by decide) ?_
  refine lv_istore_n (lv' := [(1, .int 0), (0, .ref (a 0))]) C.1 C.2.1 dX2_dropMarked_1 rfl hl (by decide) rfl (fun ls hl => ?_)
  have lp24 : ∀ (f : Nat) (k : Nat), (s_sh S + 1 ≤ k + f) → (k ≤ s_sh S) → ∀ (H : Heap) (locs : List Loc), gO E A s (xW E a (mkS (s_off S) (s_key S) (s_val S) (s_sto S) (s_n S) (s_nx S) (s_dr S) (s_hr S) (s_sc S) (s_on S) (s_said S) (s_sh S) (s_pc S) (s_at S) (s_hd S) (mkU (fun i => s_ms S i + nI (cm mk (pf (s_off S) (s_at S i) (s_n S)) (s_n S))) (s_ms S) (k)) (s_kn S)) mk rk rv ++ F) H locs → ∀ ls : Array Slot, lv_has ls 2 [(0, .ref (a 0)), (1, .int (nI k))] → W p l e ({ frames := 2, cells := 0, slots := 0, locals := 45 } : Room) s m args below meth c H locs 0 0 (MQ below (gQi E A (nI (s_n S - cpN mk (s_n S))) (xW E a (S_drop S mk) mk rk rv ++ F)) args s 0 0 A) (F0 m 2 ls []) := by
    intro f
    induction f with
    | zero =>
      intro k hf hk9
      exact absurd hf (by omega)
    | succ f ih_lp24 =>
      intro k hf hk9 H locs hO ls hl
      refine lv_iload_n C.1 C.2.1 dX2_dropMarked_2 rfl (lv_at hl 1 rfl) ?_
      refine lv_aload_n C.1 C.2.1 dX2_dropMarked_3 rfl (lv_at hl 0 rfl) ?_
      refine gGet (v := .int (nI (s_sh S))) (ref := RX2) (Cn := RX2) (T := TX2) (N := 9) C iX2 hO 0 rfl rfl 8 (by decide) w90 (fun _ h9 => h9) rfl dX2_dropMarked_4 ?_
      refine gGeN (x := k) (y := (s_sh S)) (tgt := 46) C.1 C.2.1 (by omega) (by omega) dX2_dropMarked_7 (by decide) (fun c_1 => ?_) (fun c_1 => ?_)
      · have hk8 : k = s_sh S := by omega
        rw [hk8] at hO
        have hl := lv_sub hl [0] rfl
        have hl : lv_has ls 2 [(0, .ref (a 0))] := hl
        refine lv_aload_n C.1 C.2.1 dX2_dropMarked_46 rfl (lv_at hl 0 rfl) ?_
        refine gGet (v := .ref (a 1)) (ref := RX2) (Cn := RX2) (T := TX2) (N := 9) C iX2 hO 0 rfl rfl 0 (by decide) w10 (fun _ h9 => h9) rfl dX2_dropMarked_47 ?_
        refine gCallN_i (As := []) (rest := []) C hO (c_X0_removeMarked l E a (mkS (s_off S) (s_key S) (s_val S) (s_sto S) (s_n S) (s_nx S) (s_dr S) (s_hr S) (s_sc S) (s_on S) (s_said S) (s_sh S) (s_pc S) (s_at S) (s_hd S) (mkU (fun i => s_ms S i + nI (cm mk (pf (s_off S) (s_at S i) (s_n S)) (s_n S))) (s_ms S) (s_sh S)) (s_kn S)) mk rk rv F (by omega)) ⟨va_cnB (host := RX2) 0 C.2.2.2.2.1 gX2_dropMarked_X0_removeMarked_n230 rfl rfl rfl (C.2.2.2.2.2.2.2.1.2.1 (.methodLinkNest RX2 230 yX0_removeMarked RX2) (by decide +kernel)) (C.2.2.2.2.1 (.initialized RX0) (by decide +kernel)) (by decide +kernel) ⟨(Nat.le_of_ble_eq_true rfl), (Nat.le_of_ble_eq_true rfl)⟩, C.2.2.2.2.1 (.instanceMethod yX0_removeMarked) (by decide +kernel), C.2.2.2.2.1 (.selects RX0 yX0_removeMarked yX0_removeMarked) (by decide +kernel)⟩ (va_recv C.2.2.2.2.2.2.2.1.1 hO.1 (ci := 0) (q0 := 1) rfl rfl) rfl hl.1 rfl (Nat.le_of_ble_eq_true rfl) dX2_dropMarked_50 ⟨(Nat.le_of_ble_eq_true rfl), (Nat.le_of_ble_eq_true rfl)⟩ (fun H locs hO => ?_)
        have hO : gO E A s (xW E a (S_rem (mkS (s_off S) (s_key S) (s_val S) (s_sto S) (s_n S) (s_nx S) (s_dr S) (s_hr S) (s_sc S) (s_on S) (s_said S) (s_sh S) (s_pc S) (s_at S) (s_hd S) (mkU (fun i => s_ms S i + nI (cm mk (pf (s_off S) (s_at S i) (s_n S)) (s_n S))) (s_ms S) (s_sh S)) (s_kn S)) mk) mk rk rv ++ F) H locs := hO
        exact gRi C hO rfl rfl dX2_dropMarked_53 (Nat.le_of_ble_eq_true rfl) (Nat.le_of_ble_eq_true rfl)
      · refine lv_aload_n C.1 C.2.1 dX2_dropMarked_10 rfl (lv_at hl 0 rfl) ?_
        refine gGet (v := .ref (a 8)) (ref := RX2) (Cn := RX2) (T := TX2) (N := 9) C iX2 hO 0 rfl rfl 2 (by decide) w22 (fun _ h9 => h9) rfl dX2_dropMarked_11 ?_
        refine lv_iload_n C.1 C.2.1 dX2_dropMarked_14 rfl (lv_at hl 1 rfl) ?_
        refine gAald (v := a (11 + k)) (j := k) C hO 8 rfl (by omega) (by decide) (xFl_at (by omega)) dX2_dropMarked_15 ?_
        refine lv_dup C.1 C.2.1 dX2_dropMarked_16 rfl ?_
        refine gGetN (v := .int ((mkU (fun i => s_ms S i + nI (cm mk (pf (s_off S) (s_at S i) (s_n S)) (s_n S))) (s_ms S) (k)) k)) (ref := RX1) (Cn := RX1) (T := TX1) (N := 5) (host := RX2) C iX1 hO (11 + k) (xw_ship (by omega)) rfl 4 (by decide) (by decide +kernel) (fun _ h9 => h9) rfl dX2_dropMarked_17 ?_
        refine lv_aload_n C.1 C.2.1 dX2_dropMarked_20 rfl (lv_at hl 0 rfl) ?_
        refine gGet (v := .ref (a 1)) (ref := RX2) (Cn := RX2) (T := TX2) (N := 9) C iX2 hO 0 rfl rfl 0 (by decide) w10 (fun _ h9 => h9) rfl dX2_dropMarked_21 ?_
        refine lv_aload_n C.1 C.2.1 dX2_dropMarked_24 rfl (lv_at hl 0 rfl) ?_
        refine gGet (v := .ref (a 8)) (ref := RX2) (Cn := RX2) (T := TX2) (N := 9) C iX2 hO 0 rfl rfl 2 (by decide) w22 (fun _ h9 => h9) rfl dX2_dropMarked_25 ?_
        refine lv_iload_n C.1 C.2.1 dX2_dropMarked_28 rfl (lv_at hl 1 rfl) ?_
        refine gAald (v := a (11 + k)) (j := k) C hO 8 rfl (by omega) (by decide) (xFl_at (by omega)) dX2_dropMarked_29 ?_
        refine gGetN (v := .int ((s_at S) k)) (ref := RX1) (Cn := RX1) (T := TX1) (N := 5) (host := RX2) C iX1 hO (11 + k) (xw_ship (by omega)) rfl 2 (by decide) (by decide +kernel) (fun _ h9 => h9) rfl dX2_dropMarked_30 ?_
        refine gCallN_i (As := [.int ((s_at S) k)]) (rest := [.int ((mkU (fun i => s_ms S i + nI (cm mk (pf (s_off S) (s_at S i) (s_n S)) (s_n S))) (s_ms S) (k)) k), .ref (a (11 + k))]) C hO (c_X0_countMarkedFrom l E a (mkS (s_off S) (s_key S) (s_val S) (s_sto S) (s_n S) (s_nx S) (s_dr S) (s_hr S) (s_sc S) (s_on S) (s_said S) (s_sh S) (s_pc S) (s_at S) (s_hd S) (mkU (fun i => s_ms S i + nI (cm mk (pf (s_off S) (s_at S i) (s_n S)) (s_n S))) (s_ms S) (k)) (s_kn S)) mk rk rv F ((s_at S) k) (by omega)) ⟨va_cnB (host := RX2) 1 C.2.2.2.2.1 gX2_dropMarked_X0_countMarkedFrom_n183 rfl rfl rfl (C.2.2.2.2.2.2.2.1.2.1 (.methodLinkNest RX2 183 yX0_countMarkedFrom RX2) (by decide +kernel)) (C.2.2.2.2.1 (.initialized RX0) (by decide +kernel)) (by decide +kernel) ⟨(Nat.le_of_ble_eq_true rfl), (Nat.le_of_ble_eq_true rfl)⟩, C.2.2.2.2.1 (.instanceMethod yX0_countMarkedFrom) (by decide +kernel), C.2.2.2.2.1 (.selects RX0 yX0_countMarkedFrom yX0_countMarkedFrom) (by decide +kernel)⟩ (va_recv C.2.2.2.2.2.2.2.1.1 hO.1 (ci := 0) (q0 := 1) rfl rfl) rfl hl.1 rfl (Nat.le_of_ble_eq_true rfl) dX2_dropMarked_33 ⟨(Nat.le_of_ble_eq_true rfl), (Nat.le_of_ble_eq_true rfl)⟩ (fun H locs hO => ?_)
        refine lv_iadd C.1 C.2.1 dX2_dropMarked_36 ?_
        refine gPutN (ws' := (xW E a (mkS (s_off S) (s_key S) (s_val S) (s_sto S) (s_n S) (s_nx S) (s_dr S) (s_hr S) (s_sc S) (s_on S) (s_said S) (s_sh S) (s_pc S) (s_at S) (s_hd S) (upd (mkU (fun i => s_ms S i + nI (cm mk (pf (s_off S) (s_at S i) (s_n S)) (s_n S))) (s_ms S) (k)) k (((mkU (fun i => s_ms S i + nI (cm mk (pf (s_off S) (s_at S i) (s_n S)) (s_n S))) (s_ms S) (k)) k) + (nI (cm mk (pf (s_off S) ((s_at S) k) (s_n S)) (s_n S))))) (s_kn S)) mk rk rv ++ F)) (ref := RX1) (Cn := RX1) (T := TX1) (N := 5) (host := RX2) C iX1 tyX1 tyX1_ok nmX1 hO (11 + k) (xw_ship (by omega)) rfl 4 (by decide) (by decide +kernel) (fun _ h9 => h9) rfl (by decide +kernel) rfl rfl (Nat.le_of_ble_eq_true rfl) (xs_ms (by omega) _) dX2_dropMarked_37 (fun H locs hO => ?_)
        have hO : gO E A s (xW E a (mkS (s_off S) (s_key S) (s_val S) (s_sto S) (s_n S) (s_nx S) (s_dr S) (s_hr S) (s_sc S) (s_on S) (s_said S) (s_sh S) (s_pc S) (s_at S) (s_hd S) (mkU (fun i => s_ms S i + nI (cm mk (pf (s_off S) (s_at S i) (s_n S)) (s_n S))) (s_ms S) (k + 1)) (s_kn S)) mk rk rv ++ F) H locs := by rw [mkU_sv (g := (fun i => s_ms S i + nI (cm mk (pf (s_off S) (s_at S i) (s_n S)) (s_n S)))) (mk := s_ms S) (n := k) (x := mkU (fun i => s_ms S i + nI (cm mk (pf (s_off S) (s_at S i) (s_n S)) (s_n S))) (s_ms S) k k + nI (cm mk (pf (s_off S) (s_at S k) (s_n S)) (s_n S))) (by rw [mkU_ge (Nat.lt_irrefl k)])]; exact hO
        refine gInc (j := k) (k := 1) (lv' := [(1, .int (nI (k + 1))), (0, .ref (a 0))]) C.1 C.2.1 dX2_dropMarked_40 hl rfl (by decide) rfl (fun ls hl => ?_)
        refine lv_goto (tgt := 2) C.1 C.2.1 dX2_dropMarked_43 (by decide) ?_
        refine W.widen (k := 0) (n := 0) (by omega) (by omega) ?_
        exact ih_lp24 (k + 1) (by omega) (by omega) _ _ hO _ (lv_sub hl [1, 0] rfl)
  exact lp24 (s_sh S + 1) 0 (by omega) (Nat.zero_le _) _ _ hO _ (lv_sub hl [1, 0] rfl)

set_option maxHeartbeats 4000000 in
set_option maxRecDepth 100000 in
theorem c_X2_speak (l : Launch) (E : gE) (a : Nat → Nat) (S : St) (mk rk rv : Nat → Int32) (F : va_W) (k v : Int32) (hn : s_n S ≤ 48) (hsh : s_sh S ≤ 6) (hsc : s_sc S ≤ 8) (hOn : ¬ s_on S = 0 → 1 ≤ s_sc S) : gMi l E yX2_speak wsX2_speak ({ frames := 3, cells := 0, slots := 0, locals := 66 }) (xW E a S mk rk rv ++ F) [.ref (a 0), .int k, .int v] (s_nx S) (xW E a (S_spk S k v) (mk_spk S mk) rk rv ++ F) 0 0 := by
  refine gMi.of (cc := cX2_speak) (maxL := 4) (ty := .int) (by decide) rfl (Nat.le_of_ble_eq_true rfl) ?_
  intro p e s m args below meth c A C ls hl hO
  have hl : lv_has ls 4 [(0, .ref (a 0)), (1, .int k), (2, .int v)] := hl
  have iX0 : ∀ w ∈ u_ws RX0 TX0 8, w ∈ wsX2_speak := by decide +kernel
  have iX2 : ∀ w ∈ u_ws RX2 TX2 9, w ∈ wsX2_speak := by decide +kernel
  have w10 : Cond.fieldLink RX2 10 "ParrotLog" "log" "LParrotLog$Log;" ∈ wsX2_speak := by decide +kernel
  have w50 : Cond.fieldLink RX2 50 "ParrotLog" "stormOn" "Z" ∈ wsX2_speak := by decide +kernel
  have w59 : Cond.fieldLink RX2 59 "ParrotLog" "stormCount" "I" ∈ wsX2_speak := by decide +kernel
  have w16 : Cond.fieldLink RX2 16 "ParrotLog" "saidInStorm" "[I" ∈ wsX2_speak := by decide +kernel
  refine lv_aload_n C.1 C.2.1 dX2_speak_0 rfl (lv_at hl 0 rfl) ?_
  refine gGet (v := .ref (a 1)) (ref := RX2) (Cn := RX2) (T := TX2) (N := 9) C iX2 hO 0 rfl rfl 0 (by decide) w10 (fun _ h9 => h9) rfl dX2_speak_1 ?_
  refine gGetN (v := .int (nI (s_n S))) (ref := RX0) (Cn := RX0) (T := TX0) (N := 8) (host := RX2) C iX0 hO 1 rfl rfl 5 (by decide) (by decide +kernel) (fun _ h9 => h9) rfl dX2_speak_4 ?_
  refine lv_bipush (v := nI 48) C.1 C.2.1 dX2_speak_7 (by decide) ?_
  have hcase : s_n S < 48 ∨ 48 ≤ s_n S := by omega
  have jn24 : ∀ (T : St) (mk1 : Nat → Int32), (S_room S = T) → (mk_spk S mk = mk1) → (s_n T < 48) → (s_on T = s_on S) → (s_sc T = s_sc S) → (s_nx T = s_nx S) → ∀ (H : Heap) (locs : List Loc), gO E A s (xW E a T mk1 rk rv ++ F) H locs → ∀ ls : Array Slot, lv_has ls 4 [(0, .ref (a 0)), (1, .int k), (2, .int v)] → W p l e ({ frames := 3, cells := 0, slots := 0, locals := 66 } : Room) s m args below meth c H locs 0 0 (MQ below (gQi E A (s_nx S) (xW E a (S_spk S k v) (mk_spk S mk) rk rv ++ F)) args s 0 0 A) (F0 m 24 ls []) := by
    intro T mk1 hT24 hmk hTn hTo hTs hTx H locs hO ls hl
    refine lv_iconst (v := (-1)) C.1 C.2.1 dX2_speak_24 (by decide) ?_
    refine lv_istore_n (lv' := [(3, .int (-1)), (0, .ref (a 0)), (1, .int k), (2, .int v)]) C.1 C.2.1 dX2_speak_25 rfl hl (by decide) rfl (fun ls hl => ?_)
    refine lv_aload_n C.1 C.2.1 dX2_speak_26 rfl (lv_at hl 1 rfl) ?_
    refine gGet (v := .int (s_on T)) (ref := RX2) (Cn := RX2) (T := TX2) (N := 9) C iX2 hO 0 rfl rfl 7 (by decide) w50 (fun _ h9 => h9) rfl dX2_speak_27 ?_
    refine lv_if_eq (tgt := 50) C.1 C.2.1 dX2_speak_30 (by decide) (fun c_1 => ?_) (fun c_1 => ?_)
    · have hzo : s_on T = 0 := c_1
      refine lv_aload_n C.1 C.2.1 dX2_speak_50 rfl (lv_at hl 1 rfl) ?_
      refine gGet (v := .ref (a 1)) (ref := RX2) (Cn := RX2) (T := TX2) (N := 9) C iX2 hO 0 rfl rfl 0 (by decide) w10 (fun _ h9 => h9) rfl dX2_speak_51 ?_
      refine lv_iload_n C.1 C.2.1 dX2_speak_54 rfl (lv_at hl 2 rfl) ?_
      refine lv_iload_n C.1 C.2.1 dX2_speak_55 rfl (lv_at hl 3 rfl) ?_
      refine lv_iload_n C.1 C.2.1 dX2_speak_56 rfl (lv_at hl 0 rfl) ?_
      refine gCallN_i (As := [.int k, .int v, .int (-1)]) (rest := []) C hO (c_X0_append l E a T mk1 rk rv F k v (-1) (by omega)) ⟨va_cnB (host := RX2) 3 C.2.2.2.2.1 gX2_speak_X0_append_n216 rfl rfl rfl (C.2.2.2.2.2.2.2.1.2.1 (.methodLinkNest RX2 216 yX0_append RX2) (by decide +kernel)) (C.2.2.2.2.1 (.initialized RX0) (by decide +kernel)) (by decide +kernel) ⟨(Nat.le_of_ble_eq_true rfl), (Nat.le_of_ble_eq_true rfl)⟩, C.2.2.2.2.1 (.instanceMethod yX0_append) (by decide +kernel), C.2.2.2.2.1 (.selects RX0 yX0_append yX0_append) (by decide +kernel)⟩ (va_recv C.2.2.2.2.2.2.2.1.1 hO.1 (ci := 0) (q0 := 1) rfl rfl) rfl hl.1 rfl (Nat.le_of_ble_eq_true rfl) dX2_speak_57 ⟨(Nat.le_of_ble_eq_true rfl), (Nat.le_of_ble_eq_true rfl)⟩ (fun H locs hO => ?_)
      have hO : gO E A s (xW E a (S_app T k v (-1)) mk1 rk rv ++ F) H locs := hO
      exact gRi C (by first | (rw [S_spk_0 hT24 hzo hTo, hmk]; exact hO) | (rw [S_spk_1 hT24 hzo hTo hTs, hmk]; exact hO)) rfl hTx dX2_speak_60 (Nat.le_of_ble_eq_true rfl) (Nat.le_of_ble_eq_true rfl)
    · have hzo : ¬ s_on T = 0 := c_1
      have h1s : 1 ≤ s_sc T := by rw [hTs]; exact hOn (by rw [← hTo]; exact hzo)
      refine lv_aload_n C.1 C.2.1 dX2_speak_33 rfl (lv_at hl 1 rfl) ?_
      refine gGet (v := .int (nI (s_sc T))) (ref := RX2) (Cn := RX2) (T := TX2) (N := 9) C iX2 hO 0 rfl rfl 6 (by decide) w59 (fun _ h9 => h9) rfl dX2_speak_34 ?_
      refine lv_iconst (v := 1) C.1 C.2.1 dX2_speak_37 (by decide) ?_
      refine gSubN (x := (s_sc T)) (y := 1) C.1 C.2.1 h1s dX2_speak_38 ?_
      refine lv_istore_n (lv' := [(3, .int (nI ((s_sc T) - 1))), (0, .ref (a 0)), (1, .int k), (2, .int v)]) C.1 C.2.1 dX2_speak_39 rfl hl (by decide) rfl (fun ls hl => ?_)
      refine lv_aload_n C.1 C.2.1 dX2_speak_40 rfl (lv_at hl 1 rfl) ?_
      refine gGet (v := .ref (a 7)) (ref := RX2) (Cn := RX2) (T := TX2) (N := 9) C iX2 hO 0 rfl rfl 1 (by decide) w16 (fun _ h9 => h9) rfl dX2_speak_41 ?_
      refine lv_iload_n C.1 C.2.1 dX2_speak_44 rfl (lv_at hl 0 rfl) ?_
      refine lv_dup2_11 C.1 C.2.1 dX2_speak_45 rfl rfl ?_
      refine gIald (v := (s_said T) ((s_sc T) - 1)) (j := ((s_sc T) - 1)) C hO 7 rfl (by omega) (by decide) rfl dX2_speak_46 ?_
      refine lv_iconst (v := 1) C.1 C.2.1 dX2_speak_47 (by decide) ?_
      refine lv_iadd C.1 C.2.1 dX2_speak_48 ?_
      refine gIast (j := ((s_sc T) - 1)) (ws' := (xW E a (mkS (s_off T) (s_key T) (s_val T) (s_sto T) (s_n T) (s_nx T) (s_dr T) (s_hr T) (s_sc T) (s_on T) (upd (s_said T) ((s_sc T) - 1) (((s_said T) ((s_sc T) - 1)) + 1)) (s_sh T) (s_pc T) (s_at T) (s_hd T) (s_ms T) (s_kn T)) mk1 rk rv ++ F)) C hO 7 rfl (by omega) (by decide) rfl dX2_speak_49 (fun H locs hO => ?_)
      refine lv_aload_n C.1 C.2.1 dX2_speak_50 rfl (lv_at hl 1 rfl) ?_
      refine gGet (v := .ref (a 1)) (ref := RX2) (Cn := RX2) (T := TX2) (N := 9) C iX2 hO 0 rfl rfl 0 (by decide) w10 (fun _ h9 => h9) rfl dX2_speak_51 ?_
      refine lv_iload_n C.1 C.2.1 dX2_speak_54 rfl (lv_at hl 2 rfl) ?_
      refine lv_iload_n C.1 C.2.1 dX2_speak_55 rfl (lv_at hl 3 rfl) ?_
      refine lv_iload_n C.1 C.2.1 dX2_speak_56 rfl (lv_at hl 0 rfl) ?_
      refine gCallN_i (As := [.int k, .int v, .int (nI ((s_sc T) - 1))]) (rest := []) C hO (c_X0_append l E a (mkS (s_off T) (s_key T) (s_val T) (s_sto T) (s_n T) (s_nx T) (s_dr T) (s_hr T) (s_sc T) (s_on T) (upd (s_said T) ((s_sc T) - 1) (((s_said T) ((s_sc T) - 1)) + 1)) (s_sh T) (s_pc T) (s_at T) (s_hd T) (s_ms T) (s_kn T)) mk1 rk rv F k v (nI ((s_sc T) - 1)) (by omega)) ⟨va_cnB (host := RX2) 3 C.2.2.2.2.1 gX2_speak_X0_append_n216 rfl rfl rfl (C.2.2.2.2.2.2.2.1.2.1 (.methodLinkNest RX2 216 yX0_append RX2) (by decide +kernel)) (C.2.2.2.2.1 (.initialized RX0) (by decide +kernel)) (by decide +kernel) ⟨(Nat.le_of_ble_eq_true rfl), (Nat.le_of_ble_eq_true rfl)⟩, C.2.2.2.2.1 (.instanceMethod yX0_append) (by decide +kernel), C.2.2.2.2.1 (.selects RX0 yX0_append yX0_append) (by decide +kernel)⟩ (va_recv C.2.2.2.2.2.2.2.1.1 hO.1 (ci := 0) (q0 := 1) rfl rfl) rfl hl.1 rfl (Nat.le_of_ble_eq_true rfl) dX2_speak_57 ⟨(Nat.le_of_ble_eq_true rfl), (Nat.le_of_ble_eq_true rfl)⟩ (fun H locs hO => ?_)
      have hO : gO E A s (xW E a (S_app (mkS (s_off T) (s_key T) (s_val T) (s_sto T) (s_n T) (s_nx T) (s_dr T) (s_hr T) (s_sc T) (s_on T) (upd (s_said T) ((s_sc T) - 1) (((s_said T) ((s_sc T) - 1)) + 1)) (s_sh T) (s_pc T) (s_at T) (s_hd T) (s_ms T) (s_kn T)) k v (nI ((s_sc T) - 1))) mk1 rk rv ++ F) H locs := hO
      exact gRi C (by first | (rw [S_spk_0 hT24 hzo hTo, hmk]; exact hO) | (rw [S_spk_1 hT24 hzo hTo hTs, hmk]; exact hO)) rfl hTx dX2_speak_60 (Nat.le_of_ble_eq_true rfl) (Nat.le_of_ble_eq_true rfl)
  refine gLtN (x := (s_n S)) (y := 48) (tgt := 24) C.1 C.2.1 (by omega) (by omega) dX2_speak_9 (by decide) (fun c_2 => ?_) (fun c_2 => ?_)
  · have hz : s_n S < 48 := c_2
    exact jn24 S mk (if_pos hz) (if_pos hz) hz rfl rfl rfl _ _ hO _ (lv_sub hl [0, 1, 2] rfl)
  · have hz : ¬ s_n S < 48 := by omega
    have hT0 : S_room S = S_drop S (mkU gFirst mk (s_n S)) := (if_neg hz).trans (S_drop_congr (fun i hi => (mkU_at hi).symm))
    refine lv_aload_n C.1 C.2.1 dX2_speak_12 rfl (lv_at hl 0 rfl) ?_
    refine gGet (v := .ref (a 1)) (ref := RX2) (Cn := RX2) (T := TX2) (N := 9) C iX2 hO 0 rfl rfl 0 (by decide) w10 (fun _ h9 => h9) rfl dX2_speak_13 ?_
    refine gCallN_v (As := []) (rest := []) C hO (c_X0_markFirst l E a S mk rk rv F (by omega)) ⟨va_cnB (host := RX2) 0 C.2.2.2.2.1 gX2_speak_X0_markFirst_n213 rfl rfl rfl (C.2.2.2.2.2.2.2.1.2.1 (.methodLinkNest RX2 213 yX0_markFirst RX2) (by decide +kernel)) (C.2.2.2.2.1 (.initialized RX0) (by decide +kernel)) (by decide +kernel) ⟨(Nat.le_of_ble_eq_true rfl), (Nat.le_of_ble_eq_true rfl)⟩, C.2.2.2.2.1 (.instanceMethod yX0_markFirst) (by decide +kernel), C.2.2.2.2.1 (.selects RX0 yX0_markFirst yX0_markFirst) (by decide +kernel)⟩ (va_recv C.2.2.2.2.2.2.2.1.1 hO.1 (ci := 0) (q0 := 1) rfl rfl) rfl hl.1 rfl (Nat.le_of_ble_eq_true rfl) dX2_speak_16 ⟨(Nat.le_of_ble_eq_true rfl), (Nat.le_of_ble_eq_true rfl)⟩ (fun H locs hO => ?_)
    have hO : gO E A s (xW E a S (mkU gFirst mk (s_n S)) rk rv ++ F) H locs := hO
    refine lv_aload_n C.1 C.2.1 dX2_speak_19 rfl (lv_at hl 0 rfl) ?_
    refine gCall_i (As := []) (rest := []) C hO (c_X2_dropMarked l E a S (mkU gFirst mk (s_n S)) rk rv F (by omega) (by omega)) (cwV 0 C.2.2.2.2.1 gX2_speak_X2_dropMarked rfl rfl rfl (by decide +kernel) ⟨(Nat.le_of_ble_eq_true rfl), (Nat.le_of_ble_eq_true rfl)⟩) (va_recv C.2.2.2.2.2.2.2.1.1 hO.1 (ci := 2) (q0 := 0) rfl rfl) rfl hl.1 rfl (Nat.le_of_ble_eq_true rfl) dX2_speak_20 ⟨(Nat.le_of_ble_eq_true rfl), (Nat.le_of_ble_eq_true rfl)⟩ (fun H locs hO => ?_)
    have hO : gO E A s (xW E a (S_drop S (mkU gFirst mk (s_n S))) (mkU gFirst mk (s_n S)) rk rv ++ F) H locs := hO
    refine lv_pop C.1 C.2.1 dX2_speak_23 rfl ?_
    refine W.widen (k := 0) (n := 0) (by omega) (by omega) ?_
    exact jn24 (S_drop S (mkU gFirst mk (s_n S))) (mkU gFirst mk (s_n S)) hT0 (if_neg hz) (by rw [← hT0]; exact S_room_n hn) rfl rfl rfl _ _ hO _ (lv_sub hl [0, 1, 2] rfl)
