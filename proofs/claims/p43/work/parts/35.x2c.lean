set_option maxHeartbeats 4000000 in
set_option maxRecDepth 100000 in
theorem c_X2_say (l : Launch) (E : gE) (a : Nat → Nat) (S : St) (mk rk rv : Nat → Int32) (F : va_W) (k v : Int32) (hst : l.stackTraces = false) (hI : s_inv S) : gXi l E yX2_say wsX2_say ({ frames := 6, cells := 1, slots := 6, locals := 89 }) (xW E a S mk rk rv ++ F) [.ref (a 0), .int k, .int v] (okKey k ∧ okVal v) (s_nx S) (xW E a (S_spk S k v) (mk_spk S mk) rk rv ++ F) (fun En => En = xIAE ∧ ¬ (okKey k ∧ okVal v)) 1 6 := by
  refine gXi.of (cc := cX2_say) (maxL := 3) (ty := .int) (by decide) rfl (Nat.le_of_ble_eq_true rfl) ?_
  intro p e s m args below meth c A C ht ls hl hO
  have hl : lv_has ls 3 [(0, .ref (a 0)), (1, .int k), (2, .int v)] := hl
  have gwIAE : ∀ w ∈ (vx_atS RX2 41 "java/lang/IllegalArgumentException" ["java/lang/RuntimeException", "java/lang/Exception"]).filter goodWord, w ∈ wsX2_say := by decide +kernel
  have gNIAE : ∀ w ∈ (vx_atS RX2 41 "java/lang/IllegalArgumentException" ["java/lang/RuntimeException", "java/lang/Exception"]).filter (fun w => !goodWord w), w ∈ eNw := by decide +kernel
  obtain ⟨hn, hsh, hsc, hOn, hOb, hok9, hpc9, hp0⟩ := hI
  refine lv_iload_n C.1 C.2.1 dX2_say_0 rfl (lv_at hl 1 rfl) ?_
  refine gCallS_i (As := [.int k]) (rest := []) C hO (c_X2_isKey l E a S mk rk rv F k) (cwS 1 C.2.2.2.2.1 gX2_say_X2_isKey rfl rfl rfl (by decide +kernel) ⟨(Nat.le_of_ble_eq_true rfl), (Nat.le_of_ble_eq_true rfl)⟩) rfl hl.1 rfl (Nat.le_of_ble_eq_true rfl) dX2_say_1 ⟨(Nat.le_of_ble_eq_true rfl), (Nat.le_of_ble_eq_true rfl)⟩ (fun H locs hO => ?_)
  refine lv_if_ne (tgt := 17) C.1 C.2.1 dX2_say_4 (by decide) (fun c_1 => ?_) (fun c_1 => ?_)
  · have hz := bT c_1
    refine lv_iload_n C.1 C.2.1 dX2_say_17 rfl (lv_at hl 2 rfl) ?_
    refine lv_sipush (v := (-999)) C.1 C.2.1 dX2_say_18 (by decide) ?_
    refine lv_icmp_lt (tgt := 31) C.1 C.2.1 dX2_say_21 (by decide) (fun c_2 => ?_) (fun c_2 => ?_)
    · exact gThrow (E0 := "java/lang/IllegalArgumentException") (text := "value is not -999 to 999") C hst hO ht hl.1 (by decide +kernel) (C.2.2.2.2.1 (.classLink RX2 37 "java/lang/IllegalArgumentException") (by decide +kernel)) (C.2.2.2.2.1 (.initialized "java/lang/IllegalArgumentException") (by decide +kernel)) (C.2.2.2.2.2.2.2.1.2.2.1 (44, "value is not -999 to 999") (by decide +kernel)) (vx_hat (fun w hw => C.2.2.2.2.1 w (gwIAE w hw)) gNIAE (gNb C)) (by decide +kernel) (by first | exact ⟨rfl, fun g => g.2.1 c_2⟩ | exact ⟨rfl, fun g => g.2.2 c_3⟩) dX2_say_31 dX2_say_34 dX2_say_35 dX2_say_37 dX2_say_40 (Nat.le_of_ble_eq_true rfl) (Nat.le_of_ble_eq_true rfl) (Nat.le_of_ble_eq_true rfl) (Nat.le_of_ble_eq_true rfl) (Nat.le_of_ble_eq_true rfl) (Nat.le_of_ble_eq_true rfl) 
    · refine lv_iload_n C.1 C.2.1 dX2_say_24 rfl (lv_at hl 2 rfl) ?_
      refine lv_sipush (v := nI 999) C.1 C.2.1 dX2_say_25 (by decide) ?_
      refine gLeI (tgt := 41) C.1 C.2.1 dX2_say_28 (by decide) (fun c_3 => ?_) (fun c_3 => ?_)
      · refine lv_aload_n C.1 C.2.1 dX2_say_41 rfl (lv_at hl 0 rfl) ?_
        refine lv_iload_n C.1 C.2.1 dX2_say_42 rfl (lv_at hl 1 rfl) ?_
        refine lv_iload_n C.1 C.2.1 dX2_say_43 rfl (lv_at hl 2 rfl) ?_
        refine gCall_i (As := [.int k, .int v]) (rest := []) C hO (c_X2_speak l E a S mk rk rv F k v (by omega) (by omega) (by omega) hOn) (cwV 2 C.2.2.2.2.1 gX2_say_X2_speak rfl rfl rfl (by decide +kernel) ⟨(Nat.le_of_ble_eq_true rfl), (Nat.le_of_ble_eq_true rfl)⟩) (va_recv C.2.2.2.2.2.2.2.1.1 hO.1 (ci := 2) (q0 := 0) rfl rfl) rfl hl.1 rfl (Nat.le_of_ble_eq_true rfl) dX2_say_44 ⟨(Nat.le_of_ble_eq_true rfl), (Nat.le_of_ble_eq_true rfl)⟩ (fun H locs hO => ?_)
        have hO : gO E A s (xW E a (S_spk S k v) (mk_spk S mk) rk rv ++ F) H locs := hO
        exact gXRi C hO rfl (⟨hz, c_2, c_3⟩) rfl dX2_say_47 (Nat.le_of_ble_eq_true rfl) (Nat.le_of_ble_eq_true rfl)
      · exact gThrow (E0 := "java/lang/IllegalArgumentException") (text := "value is not -999 to 999") C hst hO ht hl.1 (by decide +kernel) (C.2.2.2.2.1 (.classLink RX2 37 "java/lang/IllegalArgumentException") (by decide +kernel)) (C.2.2.2.2.1 (.initialized "java/lang/IllegalArgumentException") (by decide +kernel)) (C.2.2.2.2.2.2.2.1.2.2.1 (44, "value is not -999 to 999") (by decide +kernel)) (vx_hat (fun w hw => C.2.2.2.2.1 w (gwIAE w hw)) gNIAE (gNb C)) (by decide +kernel) (by first | exact ⟨rfl, fun g => g.2.1 c_2⟩ | exact ⟨rfl, fun g => g.2.2 c_3⟩) dX2_say_31 dX2_say_34 dX2_say_35 dX2_say_37 dX2_say_40 (Nat.le_of_ble_eq_true rfl) (Nat.le_of_ble_eq_true rfl) (Nat.le_of_ble_eq_true rfl) (Nat.le_of_ble_eq_true rfl) (Nat.le_of_ble_eq_true rfl) (Nat.le_of_ble_eq_true rfl) 
  · have hz := bF c_1
    exact gThrow (E0 := "java/lang/IllegalArgumentException") (text := "key is not 0 to 9") C hst hO ht hl.1 (by decide +kernel) (C.2.2.2.2.1 (.classLink RX2 37 "java/lang/IllegalArgumentException") (by decide +kernel)) (C.2.2.2.2.1 (.initialized "java/lang/IllegalArgumentException") (by decide +kernel)) (C.2.2.2.2.2.2.2.1.2.2.1 (39, "key is not 0 to 9") (by decide +kernel)) (vx_hat (fun w hw => C.2.2.2.2.1 w (gwIAE w hw)) gNIAE (gNb C)) (by decide +kernel) (⟨rfl, fun g => hz g.1⟩) dX2_say_7 dX2_say_10 dX2_say_11 dX2_say_13 dX2_say_16 (Nat.le_of_ble_eq_true rfl) (Nat.le_of_ble_eq_true rfl) (Nat.le_of_ble_eq_true rfl) (Nat.le_of_ble_eq_true rfl) (Nat.le_of_ble_eq_true rfl) (Nat.le_of_ble_eq_true rfl) 

set_option maxHeartbeats 4000000 in
set_option maxRecDepth 100000 in
theorem c_X2_startStorm (l : Launch) (E : gE) (a : Nat → Nat) (S : St) (mk rk rv : Nat → Int32) (F : va_W)  (hst : l.stackTraces = false) (hI : s_inv S) : gXi l E yX2_startStorm wsX2_startStorm ({ frames := 6, cells := 1, slots := 6, locals := 82 }) (xW E a S mk rk rv ++ F) [.ref (a 0)] (s_on S = 0 ∧ s_sc S < 8) (nI (s_sc S)) (xW E a (S_storm S 1 (s_sc S + 1)) mk rk rv ++ F) (fun En => En = xISE ∧ ¬ (s_on S = 0 ∧ s_sc S < 8)) 1 6 := by
  refine gXi.of (cc := cX2_startStorm) (maxL := 1) (ty := .int) (by decide) rfl (Nat.le_of_ble_eq_true rfl) ?_
  intro p e s m args below meth c A C ht ls hl hO
  have hl : lv_has ls 1 [(0, .ref (a 0))] := hl
  have iX2 : ∀ w ∈ u_ws RX2 TX2 9, w ∈ wsX2_startStorm := by decide +kernel
  have w50 : Cond.fieldLink RX2 50 "ParrotLog" "stormOn" "Z" ∈ wsX2_startStorm := by decide +kernel
  have w59 : Cond.fieldLink RX2 59 "ParrotLog" "stormCount" "I" ∈ wsX2_startStorm := by decide +kernel
  have gwISE : ∀ w ∈ (vx_atS RX2 58 "java/lang/IllegalStateException" ["java/lang/RuntimeException", "java/lang/Exception"]).filter goodWord, w ∈ wsX2_startStorm := by decide +kernel
  have gNISE : ∀ w ∈ (vx_atS RX2 58 "java/lang/IllegalStateException" ["java/lang/RuntimeException", "java/lang/Exception"]).filter (fun w => !goodWord w), w ∈ eNw := by decide +kernel
  obtain ⟨hn, hsh, hsc, hOn, hOb, hok9, hpc9, hp0⟩ := hI
  refine lv_aload_n C.1 C.2.1 dX2_startStorm_0 rfl (lv_at hl 0 rfl) ?_
  refine gGet (v := .int (s_on S)) (ref := RX2) (Cn := RX2) (T := TX2) (N := 9) C iX2 hO 0 rfl rfl 7 (by decide) w50 (fun _ h9 => h9) rfl dX2_startStorm_1 ?_
  refine lv_if_eq (tgt := 17) C.1 C.2.1 dX2_startStorm_4 (by decide) (fun c_1 => ?_) (fun c_1 => ?_)
  · refine lv_aload_n C.1 C.2.1 dX2_startStorm_17 rfl (lv_at hl 0 rfl) ?_
    refine gGet (v := .int (nI (s_sc S))) (ref := RX2) (Cn := RX2) (T := TX2) (N := 9) C iX2 hO 0 rfl rfl 6 (by decide) w59 (fun _ h9 => h9) rfl dX2_startStorm_18 ?_
    refine lv_bipush (v := nI 8) C.1 C.2.1 dX2_startStorm_21 (by decide) ?_
    refine gLtN (x := (s_sc S)) (y := 8) (tgt := 36) C.1 C.2.1 (by omega) (by omega) dX2_startStorm_23 (by decide) (fun c_2 => ?_) (fun c_2 => ?_)
    · refine lv_aload_n C.1 C.2.1 dX2_startStorm_36 rfl (lv_at hl 0 rfl) ?_
      refine lv_iconst (v := 1) C.1 C.2.1 dX2_startStorm_37 (by decide) ?_
      refine gPut (ws' := (xW E a (mkS (s_off S) (s_key S) (s_val S) (s_sto S) (s_n S) (s_nx S) (s_dr S) (s_hr S) (s_sc S) 1 (s_said S) (s_sh S) (s_pc S) (s_at S) (s_hd S) (s_ms S) (s_kn S)) mk rk rv ++ F)) (ref := RX2) (Cn := RX2) (T := TX2) (N := 9) C iX2 tyX2 tyX2_ok nmX2 hO 0 rfl rfl 7 (by decide) w50 (fun _ h9 => h9) rfl (by decide +kernel) rfl rfl (Nat.le_of_ble_eq_true rfl) rfl dX2_startStorm_38 (fun H locs hO => ?_)
      refine lv_aload_n C.1 C.2.1 dX2_startStorm_41 rfl (lv_at hl 0 rfl) ?_
      refine lv_dup C.1 C.2.1 dX2_startStorm_42 rfl ?_
      refine gGet (v := .int (nI (s_sc S))) (ref := RX2) (Cn := RX2) (T := TX2) (N := 9) C iX2 hO 0 rfl rfl 6 (by decide) w59 (fun _ h9 => h9) rfl dX2_startStorm_43 ?_
      refine lv_iconst (v := 1) C.1 C.2.1 dX2_startStorm_46 (by decide) ?_
      refine gAddN (x := (s_sc S)) (y := 1) C.1 C.2.1 dX2_startStorm_47 ?_
      refine gPut (ws' := (xW E a (mkS (s_off S) (s_key S) (s_val S) (s_sto S) (s_n S) (s_nx S) (s_dr S) (s_hr S) ((s_sc S) + 1) 1 (s_said S) (s_sh S) (s_pc S) (s_at S) (s_hd S) (s_ms S) (s_kn S)) mk rk rv ++ F)) (ref := RX2) (Cn := RX2) (T := TX2) (N := 9) C iX2 tyX2 tyX2_ok nmX2 hO 0 rfl rfl 6 (by decide) w59 (fun _ h9 => h9) rfl (by decide +kernel) rfl rfl (Nat.le_of_ble_eq_true rfl) rfl dX2_startStorm_48 (fun H locs hO => ?_)
      refine lv_aload_n C.1 C.2.1 dX2_startStorm_51 rfl (lv_at hl 0 rfl) ?_
      refine gGet (v := .int (nI ((s_sc S) + 1))) (ref := RX2) (Cn := RX2) (T := TX2) (N := 9) C iX2 hO 0 rfl rfl 6 (by decide) w59 (fun _ h9 => h9) rfl dX2_startStorm_52 ?_
      refine lv_iconst (v := 1) C.1 C.2.1 dX2_startStorm_55 (by decide) ?_
      refine gSubN (x := ((s_sc S) + 1)) (y := 1) C.1 C.2.1 (by omega) dX2_startStorm_56 ?_
      exact gXRi C hO rfl (⟨c_1, c_2⟩) rfl dX2_startStorm_57 (Nat.le_of_ble_eq_true rfl) (Nat.le_of_ble_eq_true rfl)
    · exact gThrow (E0 := "java/lang/IllegalStateException") (text := "there were 8 storms") C hst hO ht hl.1 (by decide +kernel) (C.2.2.2.2.1 (.classLink RX2 54 "java/lang/IllegalStateException") (by decide +kernel)) (C.2.2.2.2.1 (.initialized "java/lang/IllegalStateException") (by decide +kernel)) (C.2.2.2.2.2.2.2.1.2.2.1 (63, "there were 8 storms") (by decide +kernel)) (vx_hat (fun w hw => C.2.2.2.2.1 w (gwISE w hw)) gNISE (gNb C)) (by decide +kernel) (⟨rfl, fun g => by have := g.2; omega⟩) dX2_startStorm_26 dX2_startStorm_29 dX2_startStorm_30 dX2_startStorm_32 dX2_startStorm_35 (Nat.le_of_ble_eq_true rfl) (Nat.le_of_ble_eq_true rfl) (Nat.le_of_ble_eq_true rfl) (Nat.le_of_ble_eq_true rfl) (Nat.le_of_ble_eq_true rfl) (Nat.le_of_ble_eq_true rfl) 
  · exact gThrow (E0 := "java/lang/IllegalStateException") (text := "a storm is on") C hst hO ht hl.1 (by decide +kernel) (C.2.2.2.2.1 (.classLink RX2 54 "java/lang/IllegalStateException") (by decide +kernel)) (C.2.2.2.2.1 (.initialized "java/lang/IllegalStateException") (by decide +kernel)) (C.2.2.2.2.2.2.2.1.2.2.1 (56, "a storm is on") (by decide +kernel)) (vx_hat (fun w hw => C.2.2.2.2.1 w (gwISE w hw)) gNISE (gNb C)) (by decide +kernel) (⟨rfl, fun g => c_1 g.1⟩) dX2_startStorm_7 dX2_startStorm_10 dX2_startStorm_11 dX2_startStorm_13 dX2_startStorm_16 (Nat.le_of_ble_eq_true rfl) (Nat.le_of_ble_eq_true rfl) (Nat.le_of_ble_eq_true rfl) (Nat.le_of_ble_eq_true rfl) (Nat.le_of_ble_eq_true rfl) (Nat.le_of_ble_eq_true rfl) 

set_option maxHeartbeats 4000000 in
set_option maxRecDepth 100000 in
theorem c_X2_endStorm (l : Launch) (E : gE) (a : Nat → Nat) (S : St) (mk rk rv : Nat → Int32) (F : va_W)  (hst : l.stackTraces = false) (hI : s_inv S) : gXi l E yX2_endStorm wsX2_endStorm ({ frames := 6, cells := 1, slots := 6, locals := 82 }) (xW E a S mk rk rv ++ F) [.ref (a 0)] (¬ s_on S = 0) (s_said S (s_sc S - 1)) (xW E a (S_storm S 0 (s_sc S)) mk rk rv ++ F) (fun En => En = xISE ∧ s_on S = 0) 1 6 := by
  refine gXi.of (cc := cX2_endStorm) (maxL := 1) (ty := .int) (by decide) rfl (Nat.le_of_ble_eq_true rfl) ?_
  intro p e s m args below meth c A C ht ls hl hO
  have hl : lv_has ls 1 [(0, .ref (a 0))] := hl
  have iX2 : ∀ w ∈ u_ws RX2 TX2 9, w ∈ wsX2_endStorm := by decide +kernel
  have w50 : Cond.fieldLink RX2 50 "ParrotLog" "stormOn" "Z" ∈ wsX2_endStorm := by decide +kernel
  have w16 : Cond.fieldLink RX2 16 "ParrotLog" "saidInStorm" "[I" ∈ wsX2_endStorm := by decide +kernel
  have w59 : Cond.fieldLink RX2 59 "ParrotLog" "stormCount" "I" ∈ wsX2_endStorm := by decide +kernel
  have gwISE : ∀ w ∈ (vx_atS RX2 58 "java/lang/IllegalStateException" ["java/lang/RuntimeException", "java/lang/Exception"]).filter goodWord, w ∈ wsX2_endStorm := by decide +kernel
  have gNISE : ∀ w ∈ (vx_atS RX2 58 "java/lang/IllegalStateException" ["java/lang/RuntimeException", "java/lang/Exception"]).filter (fun w => !goodWord w), w ∈ eNw := by decide +kernel
  obtain ⟨hn, hsh, hsc, hOn, hOb, hok9, hpc9, hp0⟩ := hI
  refine lv_aload_n C.1 C.2.1 dX2_endStorm_0 rfl (lv_at hl 0 rfl) ?_
  refine gGet (v := .int (s_on S)) (ref := RX2) (Cn := RX2) (T := TX2) (N := 9) C iX2 hO 0 rfl rfl 7 (by decide) w50 (fun _ h9 => h9) rfl dX2_endStorm_1 ?_
  refine lv_if_ne (tgt := 17) C.1 C.2.1 dX2_endStorm_4 (by decide) (fun c_1 => ?_) (fun c_1 => ?_)
  · have h1s := hOn c_1
    refine lv_aload_n C.1 C.2.1 dX2_endStorm_17 rfl (lv_at hl 0 rfl) ?_
    refine lv_iconst (v := 0) C.1 C.2.1 dX2_endStorm_18 (by decide) ?_
    refine gPut (ws' := (xW E a (mkS (s_off S) (s_key S) (s_val S) (s_sto S) (s_n S) (s_nx S) (s_dr S) (s_hr S) (s_sc S) 0 (s_said S) (s_sh S) (s_pc S) (s_at S) (s_hd S) (s_ms S) (s_kn S)) mk rk rv ++ F)) (ref := RX2) (Cn := RX2) (T := TX2) (N := 9) C iX2 tyX2 tyX2_ok nmX2 hO 0 rfl rfl 7 (by decide) w50 (fun _ h9 => h9) rfl (by decide +kernel) rfl rfl (Nat.le_of_ble_eq_true rfl) rfl dX2_endStorm_19 (fun H locs hO => ?_)
    refine lv_aload_n C.1 C.2.1 dX2_endStorm_22 rfl (lv_at hl 0 rfl) ?_
    refine gGet (v := .ref (a 7)) (ref := RX2) (Cn := RX2) (T := TX2) (N := 9) C iX2 hO 0 rfl rfl 1 (by decide) w16 (fun _ h9 => h9) rfl dX2_endStorm_23 ?_
    refine lv_aload_n C.1 C.2.1 dX2_endStorm_26 rfl (lv_at hl 0 rfl) ?_
    refine gGet (v := .int (nI (s_sc S))) (ref := RX2) (Cn := RX2) (T := TX2) (N := 9) C iX2 hO 0 rfl rfl 6 (by decide) w59 (fun _ h9 => h9) rfl dX2_endStorm_27 ?_
    refine lv_iconst (v := 1) C.1 C.2.1 dX2_endStorm_30 (by decide) ?_
    refine gSubN (x := (s_sc S)) (y := 1) C.1 C.2.1 h1s dX2_endStorm_31 ?_
    refine gIald (v := (s_said S) ((s_sc S) - 1)) (j := ((s_sc S) - 1)) C hO 7 rfl (by omega) (by decide) rfl dX2_endStorm_32 ?_
    exact gXRi C hO rfl c_1 rfl dX2_endStorm_33 (Nat.le_of_ble_eq_true rfl) (Nat.le_of_ble_eq_true rfl)
  · exact gThrow (E0 := "java/lang/IllegalStateException") (text := "no storm is on") C hst hO ht hl.1 (by decide +kernel) (C.2.2.2.2.1 (.classLink RX2 54 "java/lang/IllegalStateException") (by decide +kernel)) (C.2.2.2.2.1 (.initialized "java/lang/IllegalStateException") (by decide +kernel)) (C.2.2.2.2.2.2.2.1.2.2.1 (65, "no storm is on") (by decide +kernel)) (vx_hat (fun w hw => C.2.2.2.2.1 w (gwISE w hw)) gNISE (gNb C)) (by decide +kernel) (⟨rfl, c_1⟩) dX2_endStorm_7 dX2_endStorm_10 dX2_endStorm_11 dX2_endStorm_13 dX2_endStorm_16 (Nat.le_of_ble_eq_true rfl) (Nat.le_of_ble_eq_true rfl) (Nat.le_of_ble_eq_true rfl) (Nat.le_of_ble_eq_true rfl) (Nat.le_of_ble_eq_true rfl) (Nat.le_of_ble_eq_true rfl) 

set_option maxHeartbeats 4000000 in
set_option maxRecDepth 100000 in
theorem c_X2_replay (l : Launch) (E : gE) (a : Nat → Nat) (S : St) (mk rk rv : Nat → Int32) (F : va_W) (x : Int32) (hst : l.stackTraces = false) (hI : s_inv S) : gXi l E yX2_replay wsX2_replay ({ frames := 7, cells := 2, slots := 12, locals := 103 }) (xW E a S mk rk rv ++ F) [.ref (a 0), .int x] (okStorm S x ∧ s_on S = 0) (nI (cnt (s_sto S) x (s_n S))) (xW E a (S_rpl S x) (mk_rpl S x mk) (flF (s_key S) (s_sto S) x rk (s_n S)) (flF (s_val S) (s_sto S) x rv (s_n S)) ++ F) (fun En => (En = xIOE ∧ ¬ okStorm S x) ∨ (En = xISE ∧ okStorm S x ∧ ¬ s_on S = 0)) 2 12 := by
  refine gXi.of (cc := cX2_replay) (maxL := 4) (ty := .int) (by decide) rfl (Nat.le_of_ble_eq_true rfl) ?_
  intro p e s m args below meth c A C ht ls hl hO
  have hl : lv_has ls 4 [(0, .ref (a 0)), (1, .int x)] := hl
  have iX2 : ∀ w ∈ u_ws RX2 TX2 9, w ∈ wsX2_replay := by decide +kernel
  have w50 : Cond.fieldLink RX2 50 "ParrotLog" "stormOn" "Z" ∈ wsX2_replay := by decide +kernel
  have w10 : Cond.fieldLink RX2 10 "ParrotLog" "log" "LParrotLog$Log;" ∈ wsX2_replay := by decide +kernel
  have w27 : Cond.fieldLink RX2 27 "ParrotLog" "replayKeys" "[I" ∈ wsX2_replay := by decide +kernel
  have w30 : Cond.fieldLink RX2 30 "ParrotLog" "replayValues" "[I" ∈ wsX2_replay := by decide +kernel
  have gwISE : ∀ w ∈ (vx_atS RX2 58 "java/lang/IllegalStateException" ["java/lang/RuntimeException", "java/lang/Exception"]).filter goodWord, w ∈ wsX2_replay := by decide +kernel
  have gNISE : ∀ w ∈ (vx_atS RX2 58 "java/lang/IllegalStateException" ["java/lang/RuntimeException", "java/lang/Exception"]).filter (fun w => !goodWord w), w ∈ eNw := by decide +kernel
  obtain ⟨hn, hsh, hsc, hOn, hOb, hok9, hpc9, hp0⟩ := hI
  refine lv_aload_n C.1 C.2.1 dX2_replay_0 rfl (lv_at hl 0 rfl) ?_
  refine lv_iload_n C.1 C.2.1 dX2_replay_1 rfl (lv_at hl 1 rfl) ?_
  refine gXCall_v (As := [.int x]) (rest := []) C hO (c_X2_checkStorm l E a S mk rk rv F x hst) (cwV 1 C.2.2.2.2.1 gX2_replay_X2_checkStorm rfl rfl rfl (by decide +kernel) ⟨(Nat.le_of_ble_eq_true rfl), (Nat.le_of_ble_eq_true rfl)⟩) (va_recv C.2.2.2.2.2.2.2.1.1 hO.1 (ci := 2) (q0 := 0) rfl rfl) rfl hl.1 rfl (Nat.le_of_ble_eq_true rfl) dX2_replay_2 ⟨(Nat.le_of_ble_eq_true rfl), (Nat.le_of_ble_eq_true rfl)⟩ (fun E0 ce q9 H locs hO hcell hcv hcl hbad => ?_) (fun H locs hO hok => ?_)
  · exact gXout C hO ht hcell hcv hcl (Or.inl hbad) (Nat.le_of_ble_eq_true rfl) (Nat.le_of_ble_eq_true rfl)
  refine lv_aload_n C.1 C.2.1 dX2_replay_5 rfl (lv_at hl 0 rfl) ?_
  refine gGet (v := .int (s_on S)) (ref := RX2) (Cn := RX2) (T := TX2) (N := 9) C iX2 hO 0 rfl rfl 7 (by decide) w50 (fun _ h9 => h9) rfl dX2_replay_6 ?_
  refine lv_if_eq (tgt := 22) C.1 C.2.1 dX2_replay_9 (by decide) (fun c_2 => ?_) (fun c_2 => ?_)
  · have hz9 : s_on S = 0 := c_2
    refine lv_aload_n C.1 C.2.1 dX2_replay_22 rfl (lv_at hl 0 rfl) ?_
    refine gGet (v := .ref (a 1)) (ref := RX2) (Cn := RX2) (T := TX2) (N := 9) C iX2 hO 0 rfl rfl 0 (by decide) w10 (fun _ h9 => h9) rfl dX2_replay_23 ?_
    refine lv_iload_n C.1 C.2.1 dX2_replay_26 rfl (lv_at hl 1 rfl) ?_
    refine lv_aload_n C.1 C.2.1 dX2_replay_27 rfl (lv_at hl 0 rfl) ?_
    refine gGet (v := .ref (a 9)) (ref := RX2) (Cn := RX2) (T := TX2) (N := 9) C iX2 hO 0 rfl rfl 3 (by decide) w27 (fun _ h9 => h9) rfl dX2_replay_28 ?_
    refine lv_aload_n C.1 C.2.1 dX2_replay_31 rfl (lv_at hl 0 rfl) ?_
    refine gGet (v := .ref (a 10)) (ref := RX2) (Cn := RX2) (T := TX2) (N := 9) C iX2 hO 0 rfl rfl 4 (by decide) w30 (fun _ h9 => h9) rfl dX2_replay_32 ?_
    refine gCallN_i (As := [.int x, .ref (a 9), .ref (a 10)]) (rest := []) C hO (c_X0_copyStorm l E a S mk rk rv F x (by omega)) ⟨va_cnB (host := RX2) 3 C.2.2.2.2.1 gX2_replay_X0_copyStorm_n71 rfl rfl rfl (C.2.2.2.2.2.2.2.1.2.1 (.methodLinkNest RX2 71 yX0_copyStorm RX2) (by decide +kernel)) (C.2.2.2.2.1 (.initialized RX0) (by decide +kernel)) (by decide +kernel) ⟨(Nat.le_of_ble_eq_true rfl), (Nat.le_of_ble_eq_true rfl)⟩, C.2.2.2.2.1 (.instanceMethod yX0_copyStorm) (by decide +kernel), C.2.2.2.2.1 (.selects RX0 yX0_copyStorm yX0_copyStorm) (by decide +kernel)⟩ (va_recv C.2.2.2.2.2.2.2.1.1 hO.1 (ci := 0) (q0 := 1) rfl rfl) rfl hl.1 rfl (Nat.le_of_ble_eq_true rfl) dX2_replay_35 ⟨(Nat.le_of_ble_eq_true rfl), (Nat.le_of_ble_eq_true rfl)⟩ (fun H locs hO => ?_)
    have hO : gO E A s (xW E a S mk (flF (s_key S) (s_sto S) x rk (s_n S)) (flF (s_val S) (s_sto S) x rv (s_n S)) ++ F) H locs := hO
    refine lv_istore_n (lv' := [(2, .int (nI (cnt (s_sto S) x (s_n S)))), (0, .ref (a 0)), (1, .int x)]) C.1 C.2.1 dX2_replay_38 rfl hl (by decide) rfl (fun ls hl => ?_)
    refine lv_iconst (v := 0) C.1 C.2.1 dX2_replay_39 (by decide) ?_
    refine lv_istore_n (lv' := [(3, .int 0), (2, .int (nI (cnt (s_sto S) x (s_n S)))), (0, .ref (a 0)), (1, .int x)]) C.1 C.2.1 dX2_replay_40 rfl hl (by decide) rfl (fun ls hl => ?_)
    have lp24 : ∀ (f : Nat) (k24 : Nat), (cnt (s_sto S) x (s_n S) + 1 ≤ k24 + f) → (k24 ≤ cnt (s_sto S) x (s_n S)) → ∀ (H : Heap) (locs : List Loc), gO E A s (xW E a (S_rp S (flF (s_key S) (s_sto S) x rk (s_n S)) (flF (s_val S) (s_sto S) x rv (s_n S)) k24) (mk_rp S (flF (s_key S) (s_sto S) x rk (s_n S)) (flF (s_val S) (s_sto S) x rv (s_n S)) mk k24) (flF (s_key S) (s_sto S) x rk (s_n S)) (flF (s_val S) (s_sto S) x rv (s_n S)) ++ F) H locs → ∀ ls : Array Slot, lv_has ls 4 [(0, .ref (a 0)), (2, .int (nI (cnt (s_sto S) x (s_n S)))), (3, .int (nI k24))] → W p l e ({ frames := 7, cells := 2, slots := 12, locals := 103 } : Room) s m args below meth c H locs 1 6 (vx_MQ below (gXQi E A (okStorm S x ∧ s_on S = 0) (nI (cnt (s_sto S) x (s_n S))) (xW E a (S_rpl S x) (mk_rpl S x mk) (flF (s_key S) (s_sto S) x rk (s_n S)) (flF (s_val S) (s_sto S) x rv (s_n S)) ++ F)) (gXC E A (fun En => (En = xIOE ∧ ¬ okStorm S x) ∨ (En = xISE ∧ okStorm S x ∧ ¬ s_on S = 0)) (xW E a S mk rk rv ++ F)) args s 2 12 A) (F0 m 41 ls []) := by
      intro f
      induction f with
      | zero =>
        intro k24 hf hk24
        exact absurd hf (by omega)
      | succ f ih_lp24 =>
        intro k24 hf hk24 H locs hO ls hl
        have hct9 := cnt_le (s_sto S) x (s_n S)
        refine lv_iload_n C.1 C.2.1 dX2_replay_41 rfl (lv_at hl 2 rfl) ?_
        refine lv_iload_n C.1 C.2.1 dX2_replay_42 rfl (lv_at hl 1 rfl) ?_
        refine gGeN (x := k24) (y := (cnt (s_sto S) x (s_n S))) (tgt := 69) C.1 C.2.1 (by omega) (by omega) dX2_replay_43 (by decide) (fun c_3 => ?_) (fun c_3 => ?_)
        · have hke9 : k24 = cnt (s_sto S) x (s_n S) := by omega
          refine lv_iload_n C.1 C.2.1 dX2_replay_69 rfl (lv_at hl 1 rfl) ?_
          exact gXRi C (by rw [← (S_rpl_of S x rk rv mk).1, ← (S_rpl_of S x rk rv mk).2, ← hke9]; exact hO) rfl (⟨hok, hz9⟩) rfl dX2_replay_70 (Nat.le_of_ble_eq_true rfl) (Nat.le_of_ble_eq_true rfl)
        · obtain ⟨hs1, hs2, hs3, hs4, hs5⟩ := S_rp_keep S hn (flF (s_key S) (s_sto S) x rk (s_n S)) (flF (s_val S) (s_sto S) x rv (s_n S)) k24
          refine lv_aload_n C.1 C.2.1 dX2_replay_46 rfl (lv_at hl 0 rfl) ?_
          refine lv_aload_n C.1 C.2.1 dX2_replay_47 rfl (lv_at hl 0 rfl) ?_
          refine gGet (v := .ref (a 9)) (ref := RX2) (Cn := RX2) (T := TX2) (N := 9) C iX2 hO 0 rfl rfl 3 (by decide) w27 (fun _ h9 => h9) rfl dX2_replay_48 ?_
          refine lv_iload_n C.1 C.2.1 dX2_replay_51 rfl (lv_at hl 2 rfl) ?_
          refine gIald (v := (flF (s_key S) (s_sto S) x rk (s_n S)) k24) (j := k24) C hO 9 rfl (by omega) (by decide) rfl dX2_replay_52 ?_
          refine lv_aload_n C.1 C.2.1 dX2_replay_53 rfl (lv_at hl 0 rfl) ?_
          refine gGet (v := .ref (a 10)) (ref := RX2) (Cn := RX2) (T := TX2) (N := 9) C iX2 hO 0 rfl rfl 4 (by decide) w30 (fun _ h9 => h9) rfl dX2_replay_54 ?_
          refine lv_iload_n C.1 C.2.1 dX2_replay_57 rfl (lv_at hl 2 rfl) ?_
          refine gIald (v := (flF (s_val S) (s_sto S) x rv (s_n S)) k24) (j := k24) C hO 10 rfl (by omega) (by decide) rfl dX2_replay_58 ?_
          refine gCall_i (As := [.int ((flF (s_key S) (s_sto S) x rk (s_n S)) k24), .int ((flF (s_val S) (s_sto S) x rv (s_n S)) k24)]) (rest := []) C hO (c_X2_speak l E a (S_rp S (flF (s_key S) (s_sto S) x rk (s_n S)) (flF (s_val S) (s_sto S) x rv (s_n S)) k24) (mk_rp S (flF (s_key S) (s_sto S) x rk (s_n S)) (flF (s_val S) (s_sto S) x rv (s_n S)) mk k24) (flF (s_key S) (s_sto S) x rk (s_n S)) (flF (s_val S) (s_sto S) x rv (s_n S)) F ((flF (s_key S) (s_sto S) x rk (s_n S)) k24) ((flF (s_val S) (s_sto S) x rv (s_n S)) k24) (by omega) (by omega) (by omega) (by rw [hs2, hs1]; exact hOn)) (cwV 2 C.2.2.2.2.1 gX2_replay_X2_speak rfl rfl rfl (by decide +kernel) ⟨(Nat.le_of_ble_eq_true rfl), (Nat.le_of_ble_eq_true rfl)⟩) (va_recv C.2.2.2.2.2.2.2.1.1 hO.1 (ci := 2) (q0 := 0) rfl rfl) rfl hl.1 rfl (Nat.le_of_ble_eq_true rfl) dX2_replay_59 ⟨(Nat.le_of_ble_eq_true rfl), (Nat.le_of_ble_eq_true rfl)⟩ (fun H locs hO => ?_)
          have hO : gO E A s (xW E a (S_spk (S_rp S (flF (s_key S) (s_sto S) x rk (s_n S)) (flF (s_val S) (s_sto S) x rv (s_n S)) k24) ((flF (s_key S) (s_sto S) x rk (s_n S)) k24) ((flF (s_val S) (s_sto S) x rv (s_n S)) k24)) (mk_spk (S_rp S (flF (s_key S) (s_sto S) x rk (s_n S)) (flF (s_val S) (s_sto S) x rv (s_n S)) k24) (mk_rp S (flF (s_key S) (s_sto S) x rk (s_n S)) (flF (s_val S) (s_sto S) x rv (s_n S)) mk k24)) (flF (s_key S) (s_sto S) x rk (s_n S)) (flF (s_val S) (s_sto S) x rv (s_n S)) ++ F) H locs := hO
          refine lv_pop C.1 C.2.1 dX2_replay_62 rfl ?_
          refine gInc (j := k24) (k := 2) (lv' := [(3, .int (nI (k24 + 1))), (0, .ref (a 0)), (2, .int (nI (cnt (s_sto S) x (s_n S))))]) C.1 C.2.1 dX2_replay_63 hl rfl (by decide) rfl (fun ls hl => ?_)
          refine lv_goto (tgt := 41) C.1 C.2.1 dX2_replay_66 (by decide) ?_
          refine W.widen (k := 1) (n := 6) (by omega) (by omega) ?_
          exact ih_lp24 (k24 + 1) (by omega) (by omega) _ _ hO _ (lv_sub hl [1, 2, 0] rfl)
    refine W.widen (k := 1) (n := 6) (by omega) (by omega) ?_
    exact lp24 (cnt (s_sto S) x (s_n S) + 1) 0 (by omega) (Nat.zero_le _) _ _ hO _ (lv_sub hl [2, 1, 0] rfl)
  · have hz9 : ¬ s_on S = 0 := c_2
    exact gThrow (E0 := "java/lang/IllegalStateException") (text := "a storm is on") C hst hO ht hl.1 (by decide +kernel) (C.2.2.2.2.1 (.classLink RX2 54 "java/lang/IllegalStateException") (by decide +kernel)) (C.2.2.2.2.1 (.initialized "java/lang/IllegalStateException") (by decide +kernel)) (C.2.2.2.2.2.2.2.1.2.2.1 (56, "a storm is on") (by decide +kernel)) (vx_hat (fun w hw => C.2.2.2.2.1 w (gwISE w hw)) gNISE (gNb C)) (by decide +kernel) (Or.inr ⟨rfl, hok, hz9⟩) dX2_replay_12 dX2_replay_15 dX2_replay_16 dX2_replay_18 dX2_replay_21 (Nat.le_of_ble_eq_true rfl) (Nat.le_of_ble_eq_true rfl) (Nat.le_of_ble_eq_true rfl) (Nat.le_of_ble_eq_true rfl) (Nat.le_of_ble_eq_true rfl) (Nat.le_of_ble_eq_true rfl) 

set_option maxHeartbeats 4000000 in
set_option maxRecDepth 100000 in
theorem c_X2_compact (l : Launch) (E : gE) (a : Nat → Nat) (S : St) (mk rk rv : Nat → Int32) (F : va_W)  (hI : s_inv S) : gMi l E yX2_compact wsX2_compact ({ frames := 3, cells := 0, slots := 0, locals := 68 }) (xW E a S mk rk rv ++ F) [.ref (a 0)] (nI (s_n S - cpN (s_cm S) (s_n S))) (xW E a (S_drop S (s_cm S)) (mkU (s_cm S) mk (s_n S)) rk rv ++ F) 0 0 := by
  refine gMi.of (cc := cX2_compact) (maxL := 1) (ty := .int) (by decide) rfl (Nat.le_of_ble_eq_true rfl) ?_
  intro p e s m args below meth c A C ls hl hO
  have hl : lv_has ls 1 [(0, .ref (a 0))] := hl
  obtain ⟨hn, hsh, hsc, hOn, hOb, hok9, hpc9, hp0⟩ := hI
  refine lv_aload_n C.1 C.2.1 dX2_compact_0 rfl (lv_at hl 0 rfl) ?_
  refine gCall_v (As := []) (rest := []) C hO (c_X2_markCompacted l E a S mk rk rv F (by omega) (by omega)) (cwV 0 C.2.2.2.2.1 gX2_compact_X2_markCompacted rfl rfl rfl (by decide +kernel) ⟨(Nat.le_of_ble_eq_true rfl), (Nat.le_of_ble_eq_true rfl)⟩) (va_recv C.2.2.2.2.2.2.2.1.1 hO.1 (ci := 2) (q0 := 0) rfl rfl) rfl hl.1 rfl (Nat.le_of_ble_eq_true rfl) dX2_compact_1 ⟨(Nat.le_of_ble_eq_true rfl), (Nat.le_of_ble_eq_true rfl)⟩ (fun H locs hO => ?_)
  have hO : gO E A s (xW E a S (mkU (s_cm S) mk (s_n S)) rk rv ++ F) H locs := hO
  refine lv_aload_n C.1 C.2.1 dX2_compact_4 rfl (lv_at hl 0 rfl) ?_
  refine gCall_i (As := []) (rest := []) C hO (c_X2_dropMarked l E a S (mkU (s_cm S) mk (s_n S)) rk rv F (by omega) (by omega)) (cwV 0 C.2.2.2.2.1 gX2_compact_X2_dropMarked rfl rfl rfl (by decide +kernel) ⟨(Nat.le_of_ble_eq_true rfl), (Nat.le_of_ble_eq_true rfl)⟩) (va_recv C.2.2.2.2.2.2.2.1.1 hO.1 (ci := 2) (q0 := 0) rfl rfl) rfl hl.1 rfl (Nat.le_of_ble_eq_true rfl) dX2_compact_5 ⟨(Nat.le_of_ble_eq_true rfl), (Nat.le_of_ble_eq_true rfl)⟩ (fun H locs hO => ?_)
  have hO : gO E A s (xW E a (S_drop S (mkU (s_cm S) mk (s_n S))) (mkU (s_cm S) mk (s_n S)) rk rv ++ F) H locs := hO
  exact gRi C (by rw [← S_drop_mkU S (s_cm S) mk]; exact hO) rfl (by rw [cpN_mkU]) dX2_compact_8 (Nat.le_of_ble_eq_true rfl) (Nat.le_of_ble_eq_true rfl)

set_option maxHeartbeats 4000000 in
set_option maxRecDepth 100000 in
theorem c_X2_trimTo (l : Launch) (E : gE) (a : Nat → Nat) (S : St) (mk rk rv : Nat → Int32) (F : va_W) (o : Int32) (hst : l.stackTraces = false) (hI : s_inv S) : gXi l E yX2_trimTo wsX2_trimTo ({ frames := 7, cells := 1, slots := 6, locals := 103 }) (xW E a S mk rk rv ++ F) [.ref (a 0), .int o] (okOff S o) (nI (s_n S - cpN (gAhead (s_off S) o) (s_n S))) (xW E a (S_drop S (gAhead (s_off S) o)) (mkU (gAhead (s_off S) o) mk (s_n S)) rk rv ++ F) (fun En => En = xIAE ∧ ¬ okOff S o) 1 6 := by
  refine gXi.of (cc := cX2_trimTo) (maxL := 2) (ty := .int) (by decide) rfl (Nat.le_of_ble_eq_true rfl) ?_
  intro p e s m args below meth c A C ht ls hl hO
  have hl : lv_has ls 2 [(0, .ref (a 0)), (1, .int o)] := hl
  have iX2 : ∀ w ∈ u_ws RX2 TX2 9, w ∈ wsX2_trimTo := by decide +kernel
  have w10 : Cond.fieldLink RX2 10 "ParrotLog" "log" "LParrotLog$Log;" ∈ wsX2_trimTo := by decide +kernel
  obtain ⟨hn, hsh, hsc, hOn, hOb, hok9, hpc9, hp0⟩ := hI
  refine lv_aload_n C.1 C.2.1 dX2_trimTo_0 rfl (lv_at hl 0 rfl) ?_
  refine lv_iload_n C.1 C.2.1 dX2_trimTo_1 rfl (lv_at hl 1 rfl) ?_
  refine gXCall_v (As := [.int o]) (rest := []) C hO (c_X2_checkReachable l E a S mk rk rv F o hst) (cwV 1 C.2.2.2.2.1 gX2_trimTo_X2_checkReachable rfl rfl rfl (by decide +kernel) ⟨(Nat.le_of_ble_eq_true rfl), (Nat.le_of_ble_eq_true rfl)⟩) (va_recv C.2.2.2.2.2.2.2.1.1 hO.1 (ci := 2) (q0 := 0) rfl rfl) rfl hl.1 rfl (Nat.le_of_ble_eq_true rfl) dX2_trimTo_2 ⟨(Nat.le_of_ble_eq_true rfl), (Nat.le_of_ble_eq_true rfl)⟩ (fun E0 ce q9 H locs hO hcell hcv hcl hbad => ?_) (fun H locs hO hok => ?_)
  · exact gXout C hO ht hcell hcv hcl hbad (Nat.le_of_ble_eq_true rfl) (Nat.le_of_ble_eq_true rfl)
  refine lv_aload_n C.1 C.2.1 dX2_trimTo_5 rfl (lv_at hl 0 rfl) ?_
  refine gGet (v := .ref (a 1)) (ref := RX2) (Cn := RX2) (T := TX2) (N := 9) C iX2 hO 0 rfl rfl 0 (by decide) w10 (fun _ h9 => h9) rfl dX2_trimTo_6 ?_
  refine lv_iload_n C.1 C.2.1 dX2_trimTo_9 rfl (lv_at hl 1 rfl) ?_
  refine gCallN_v (As := [.int o]) (rest := []) C hO (c_X0_markAhead l E a S mk rk rv F o (by omega)) ⟨va_cnB (host := RX2) 1 C.2.2.2.2.1 gX2_trimTo_X0_markAhead_n85 rfl rfl rfl (C.2.2.2.2.2.2.2.1.2.1 (.methodLinkNest RX2 85 yX0_markAhead RX2) (by decide +kernel)) (C.2.2.2.2.1 (.initialized RX0) (by decide +kernel)) (by decide +kernel) ⟨(Nat.le_of_ble_eq_true rfl), (Nat.le_of_ble_eq_true rfl)⟩, C.2.2.2.2.1 (.instanceMethod yX0_markAhead) (by decide +kernel), C.2.2.2.2.1 (.selects RX0 yX0_markAhead yX0_markAhead) (by decide +kernel)⟩ (va_recv C.2.2.2.2.2.2.2.1.1 hO.1 (ci := 0) (q0 := 1) rfl rfl) rfl hl.1 rfl (Nat.le_of_ble_eq_true rfl) dX2_trimTo_10 ⟨(Nat.le_of_ble_eq_true rfl), (Nat.le_of_ble_eq_true rfl)⟩ (fun H locs hO => ?_)
  have hO : gO E A s (xW E a S (mkU (gAhead (s_off S) o) mk (s_n S)) rk rv ++ F) H locs := hO
  refine lv_aload_n C.1 C.2.1 dX2_trimTo_13 rfl (lv_at hl 0 rfl) ?_
  refine gCall_i (As := []) (rest := []) C hO (c_X2_dropMarked l E a S (mkU (gAhead (s_off S) o) mk (s_n S)) rk rv F (by omega) (by omega)) (cwV 0 C.2.2.2.2.1 gX2_trimTo_X2_dropMarked rfl rfl rfl (by decide +kernel) ⟨(Nat.le_of_ble_eq_true rfl), (Nat.le_of_ble_eq_true rfl)⟩) (va_recv C.2.2.2.2.2.2.2.1.1 hO.1 (ci := 2) (q0 := 0) rfl rfl) rfl hl.1 rfl (Nat.le_of_ble_eq_true rfl) dX2_trimTo_14 ⟨(Nat.le_of_ble_eq_true rfl), (Nat.le_of_ble_eq_true rfl)⟩ (fun H locs hO => ?_)
  have hO : gO E A s (xW E a (S_drop S (mkU (gAhead (s_off S) o) mk (s_n S))) (mkU (gAhead (s_off S) o) mk (s_n S)) rk rv ++ F) H locs := hO
  exact gXRi C (by rw [← S_drop_mkU S (gAhead (s_off S) o) mk]; exact hO) rfl hok (by rw [cpN_mkU]) dX2_trimTo_17 (Nat.le_of_ble_eq_true rfl) (Nat.le_of_ble_eq_true rfl)

set_option maxHeartbeats 4000000 in
set_option maxRecDepth 100000 in
theorem c_X2_addShip (l : Launch) (E : gE) (a : Nat → Nat) (S : St) (mk rk rv : Nat → Int32) (F : va_W) (q o : Int32) (hst : l.stackTraces = false) (hI : s_inv S) : gXi l E yX2_addShip wsX2_addShip ({ frames := 7, cells := 2, slots := 12, locals := 103 }) (xW E a S mk rk rv ++ F) [.ref (a 0), .int q, .int o] (okPace q ∧ okOff S o ∧ s_sh S < 6) (nI (s_sh S)) (xW E a (S_ship S q o) mk rk rv ++ F) (fun En => (En = xIAE ∧ ¬ (okPace q ∧ okOff S o)) ∨ (En = xISE ∧ okPace q ∧ okOff S o ∧ ¬ s_sh S < 6)) 2 12 := by
  refine gXi.of (cc := cX2_addShip) (maxL := 4) (ty := .int) (by decide) rfl (Nat.le_of_ble_eq_true rfl) ?_
  intro p e s m args below meth c A C ht ls hl hO
  have hl : lv_has ls 4 [(0, .ref (a 0)), (1, .int q), (2, .int o)] := hl
  have iX1 : ∀ w ∈ u_ws RX1 TX1 5, w ∈ wsX2_addShip := by decide +kernel
  have iX2 : ∀ w ∈ u_ws RX2 TX2 9, w ∈ wsX2_addShip := by decide +kernel
  have w90 : Cond.fieldLink RX2 90 "ParrotLog" "shipCount" "I" ∈ wsX2_addShip := by decide +kernel
  have w22 : Cond.fieldLink RX2 22 "ParrotLog" "fleet" "[LParrotLog$Ship;" ∈ wsX2_addShip := by decide +kernel
  have gwIAE : ∀ w ∈ (vx_atS RX2 41 "java/lang/IllegalArgumentException" ["java/lang/RuntimeException", "java/lang/Exception"]).filter goodWord, w ∈ wsX2_addShip := by decide +kernel
  have gNIAE : ∀ w ∈ (vx_atS RX2 41 "java/lang/IllegalArgumentException" ["java/lang/RuntimeException", "java/lang/Exception"]).filter (fun w => !goodWord w), w ∈ eNw := by decide +kernel
  have gwISE : ∀ w ∈ (vx_atS RX2 58 "java/lang/IllegalStateException" ["java/lang/RuntimeException", "java/lang/Exception"]).filter goodWord, w ∈ wsX2_addShip := by decide +kernel
  have gNISE : ∀ w ∈ (vx_atS RX2 58 "java/lang/IllegalStateException" ["java/lang/RuntimeException", "java/lang/Exception"]).filter (fun w => !goodWord w), w ∈ eNw := by decide +kernel
  obtain ⟨hn, hsh, hsc, hOn, hOb, hok9, hpc9, hp0⟩ := hI
  refine lv_iload_n C.1 C.2.1 dX2_addShip_0 rfl (lv_at hl 1 rfl) ?_
  refine lv_iconst (v := 1) C.1 C.2.1 dX2_addShip_1 (by decide) ?_
  refine lv_icmp_lt (tgt := 10) C.1 C.2.1 dX2_addShip_2 (by decide) (fun c_1 => ?_) (fun c_1 => ?_)
  · exact gThrow (E0 := "java/lang/IllegalArgumentException") (text := "pace is not 1 to 5") C hst hO ht hl.1 (by decide +kernel) (C.2.2.2.2.1 (.classLink RX2 37 "java/lang/IllegalArgumentException") (by decide +kernel)) (C.2.2.2.2.1 (.initialized "java/lang/IllegalArgumentException") (by decide +kernel)) (C.2.2.2.2.2.2.2.1.2.2.1 (88, "pace is not 1 to 5") (by decide +kernel)) (vx_hat (fun w hw => C.2.2.2.2.1 w (gwIAE w hw)) gNIAE (gNb C)) (by decide +kernel) (by first | exact Or.inl ⟨rfl, fun g => g.1.1 c_1⟩ | exact Or.inl ⟨rfl, fun g => g.1.2 c_2⟩) dX2_addShip_10 dX2_addShip_13 dX2_addShip_14 dX2_addShip_16 dX2_addShip_19 (Nat.le_of_ble_eq_true rfl) (Nat.le_of_ble_eq_true rfl) (Nat.le_of_ble_eq_true rfl) (Nat.le_of_ble_eq_true rfl) (Nat.le_of_ble_eq_true rfl) (Nat.le_of_ble_eq_true rfl) 
  · refine lv_iload_n C.1 C.2.1 dX2_addShip_5 rfl (lv_at hl 1 rfl) ?_
    refine lv_iconst (v := nI 5) C.1 C.2.1 dX2_addShip_6 (by decide) ?_
    refine gLeI (tgt := 20) C.1 C.2.1 dX2_addShip_7 (by decide) (fun c_2 => ?_) (fun c_2 => ?_)
    · refine lv_aload_n C.1 C.2.1 dX2_addShip_20 rfl (lv_at hl 0 rfl) ?_
      refine lv_iload_n C.1 C.2.1 dX2_addShip_21 rfl (lv_at hl 2 rfl) ?_
      refine gXCall_v (As := [.int o]) (rest := []) C hO (c_X2_checkReachable l E a S mk rk rv F o hst) (cwV 1 C.2.2.2.2.1 gX2_addShip_X2_checkReachable rfl rfl rfl (by decide +kernel) ⟨(Nat.le_of_ble_eq_true rfl), (Nat.le_of_ble_eq_true rfl)⟩) (va_recv C.2.2.2.2.2.2.2.1.1 hO.1 (ci := 2) (q0 := 0) rfl rfl) rfl hl.1 rfl (Nat.le_of_ble_eq_true rfl) dX2_addShip_22 ⟨(Nat.le_of_ble_eq_true rfl), (Nat.le_of_ble_eq_true rfl)⟩ (fun E0 ce q9 H locs hO hcell hcv hcl hbad => ?_) (fun H locs hO hok => ?_)
      · exact gXout C hO ht hcell hcv hcl (Or.inl ⟨hbad.1, fun g => hbad.2 g.2⟩) (Nat.le_of_ble_eq_true rfl) (Nat.le_of_ble_eq_true rfl)
      refine lv_aload_n C.1 C.2.1 dX2_addShip_25 rfl (lv_at hl 0 rfl) ?_
      refine gGet (v := .int (nI (s_sh S))) (ref := RX2) (Cn := RX2) (T := TX2) (N := 9) C iX2 hO 0 rfl rfl 8 (by decide) w90 (fun _ h9 => h9) rfl dX2_addShip_26 ?_
      refine lv_bipush (v := nI 6) C.1 C.2.1 dX2_addShip_29 (by decide) ?_
      refine gLtN (x := (s_sh S)) (y := 6) (tgt := 44) C.1 C.2.1 (by omega) (by omega) dX2_addShip_31 (by decide) (fun c_4 => ?_) (fun c_4 => ?_)
      · have hlt9 : s_sh S < 6 := by omega
        refine lv_aload_n C.1 C.2.1 dX2_addShip_44 rfl (lv_at hl 0 rfl) ?_
        refine gGet (v := .ref (a 8)) (ref := RX2) (Cn := RX2) (T := TX2) (N := 9) C iX2 hO 0 rfl rfl 2 (by decide) w22 (fun _ h9 => h9) rfl dX2_addShip_45 ?_
        refine lv_aload_n C.1 C.2.1 dX2_addShip_48 rfl (lv_at hl 0 rfl) ?_
        refine gGet (v := .int (nI (s_sh S))) (ref := RX2) (Cn := RX2) (T := TX2) (N := 9) C iX2 hO 0 rfl rfl 8 (by decide) w90 (fun _ h9 => h9) rfl dX2_addShip_49 ?_
        refine gAald (v := a (11 + (s_sh S))) (j := (s_sh S)) C hO 8 rfl hlt9 (by decide) (xFl_at hlt9) dX2_addShip_52 ?_
        refine lv_astore_n (lv' := [(3, .ref (a (11 + (s_sh S)))), (0, .ref (a 0)), (1, .int q), (2, .int o)]) C.1 C.2.1 dX2_addShip_53 rfl hl (by decide) rfl (fun ls hl => ?_)
        refine lv_aload_n C.1 C.2.1 dX2_addShip_54 rfl (lv_at hl 0 rfl) ?_
        refine lv_iload_n C.1 C.2.1 dX2_addShip_55 rfl (lv_at hl 2 rfl) ?_
        refine gPutN (ws' := (xW E a (mkS (s_off S) (s_key S) (s_val S) (s_sto S) (s_n S) (s_nx S) (s_dr S) (s_hr S) (s_sc S) (s_on S) (s_said S) (s_sh S) (upd (s_pc S) (s_sh S) q) (s_at S) (s_hd S) (s_ms S) (s_kn S)) mk rk rv ++ F)) (ref := RX1) (Cn := RX1) (T := TX1) (N := 5) (host := RX2) C iX1 tyX1 tyX1_ok nmX1 hO (11 + (s_sh S)) (xw_ship hlt9) rfl 1 (by decide) (by decide +kernel) (fun _ h9 => h9) rfl (by decide +kernel) rfl rfl (Nat.le_of_ble_eq_true rfl) (xs_pc hlt9 _) dX2_addShip_56 (fun H locs hO => ?_)
        refine lv_aload_n C.1 C.2.1 dX2_addShip_59 rfl (lv_at hl 0 rfl) ?_
        refine lv_iload_n C.1 C.2.1 dX2_addShip_60 rfl (lv_at hl 3 rfl) ?_
        refine gPutN (ws' := (xW E a (mkS (s_off S) (s_key S) (s_val S) (s_sto S) (s_n S) (s_nx S) (s_dr S) (s_hr S) (s_sc S) (s_on S) (s_said S) (s_sh S) (upd (s_pc S) (s_sh S) q) (upd (s_at S) (s_sh S) o) (s_hd S) (s_ms S) (s_kn S)) mk rk rv ++ F)) (ref := RX1) (Cn := RX1) (T := TX1) (N := 5) (host := RX2) C iX1 tyX1 tyX1_ok nmX1 hO (11 + (s_sh S)) (xw_ship hlt9) rfl 2 (by decide) (by decide +kernel) (fun _ h9 => h9) rfl (by decide +kernel) rfl rfl (Nat.le_of_ble_eq_true rfl) (xs_at hlt9 _) dX2_addShip_61 (fun H locs hO => ?_)
        refine lv_aload_n C.1 C.2.1 dX2_addShip_64 rfl (lv_at hl 1 rfl) ?_
        refine lv_dup C.1 C.2.1 dX2_addShip_65 rfl ?_
        refine gGet (v := .int (nI (s_sh S))) (ref := RX2) (Cn := RX2) (T := TX2) (N := 9) C iX2 hO 0 rfl rfl 8 (by decide) w90 (fun _ h9 => h9) rfl dX2_addShip_66 ?_
        refine lv_iconst (v := 1) C.1 C.2.1 dX2_addShip_69 (by decide) ?_
        refine gAddN (x := (s_sh S)) (y := 1) C.1 C.2.1 dX2_addShip_70 ?_
        refine gPut (ws' := (xW E a (mkS (s_off S) (s_key S) (s_val S) (s_sto S) (s_n S) (s_nx S) (s_dr S) (s_hr S) (s_sc S) (s_on S) (s_said S) ((s_sh S) + 1) (upd (s_pc S) (s_sh S) q) (upd (s_at S) (s_sh S) o) (s_hd S) (s_ms S) (s_kn S)) mk rk rv ++ F)) (ref := RX2) (Cn := RX2) (T := TX2) (N := 9) C iX2 tyX2 tyX2_ok nmX2 hO 0 rfl rfl 8 (by decide) w90 (fun _ h9 => h9) rfl (by decide +kernel) rfl rfl (Nat.le_of_ble_eq_true rfl) rfl dX2_addShip_71 (fun H locs hO => ?_)
        refine lv_aload_n C.1 C.2.1 dX2_addShip_74 rfl (lv_at hl 1 rfl) ?_
        refine gGet (v := .int (nI ((s_sh S) + 1))) (ref := RX2) (Cn := RX2) (T := TX2) (N := 9) C iX2 hO 0 rfl rfl 8 (by decide) w90 (fun _ h9 => h9) rfl dX2_addShip_75 ?_
        refine lv_iconst (v := 1) C.1 C.2.1 dX2_addShip_78 (by decide) ?_
        refine gSubN (x := ((s_sh S) + 1)) (y := 1) C.1 C.2.1 (by omega) dX2_addShip_79 ?_
        exact gXRi C hO rfl (⟨⟨c_1, c_2⟩, hok, hlt9⟩) rfl dX2_addShip_80 (Nat.le_of_ble_eq_true rfl) (Nat.le_of_ble_eq_true rfl)
      · exact gThrow (E0 := "java/lang/IllegalStateException") (text := "there are 6 ships") C hst hO ht hl.1 (by decide +kernel) (C.2.2.2.2.1 (.classLink RX2 54 "java/lang/IllegalStateException") (by decide +kernel)) (C.2.2.2.2.1 (.initialized "java/lang/IllegalStateException") (by decide +kernel)) (C.2.2.2.2.2.2.2.1.2.2.1 (93, "there are 6 ships") (by decide +kernel)) (vx_hat (fun w hw => C.2.2.2.2.1 w (gwISE w hw)) gNISE (gNb C)) (by decide +kernel) (Or.inr ⟨rfl, ⟨c_1, c_2⟩, hok, by omega⟩) dX2_addShip_34 dX2_addShip_37 dX2_addShip_38 dX2_addShip_40 dX2_addShip_43 (Nat.le_of_ble_eq_true rfl) (Nat.le_of_ble_eq_true rfl) (Nat.le_of_ble_eq_true rfl) (Nat.le_of_ble_eq_true rfl) (Nat.le_of_ble_eq_true rfl) (Nat.le_of_ble_eq_true rfl) 
    · exact gThrow (E0 := "java/lang/IllegalArgumentException") (text := "pace is not 1 to 5") C hst hO ht hl.1 (by decide +kernel) (C.2.2.2.2.1 (.classLink RX2 37 "java/lang/IllegalArgumentException") (by decide +kernel)) (C.2.2.2.2.1 (.initialized "java/lang/IllegalArgumentException") (by decide +kernel)) (C.2.2.2.2.2.2.2.1.2.2.1 (88, "pace is not 1 to 5") (by decide +kernel)) (vx_hat (fun w hw => C.2.2.2.2.1 w (gwIAE w hw)) gNIAE (gNb C)) (by decide +kernel) (by first | exact Or.inl ⟨rfl, fun g => g.1.1 c_1⟩ | exact Or.inl ⟨rfl, fun g => g.1.2 c_2⟩) dX2_addShip_10 dX2_addShip_13 dX2_addShip_14 dX2_addShip_16 dX2_addShip_19 (Nat.le_of_ble_eq_true rfl) (Nat.le_of_ble_eq_true rfl) (Nat.le_of_ble_eq_true rfl) (Nat.le_of_ble_eq_true rfl) (Nat.le_of_ble_eq_true rfl) (Nat.le_of_ble_eq_true rfl) 

set_option maxHeartbeats 4000000 in
set_option maxRecDepth 100000 in
theorem c_X2_seek (l : Launch) (E : gE) (a : Nat → Nat) (S : St) (mk rk rv : Nat → Int32) (F : va_W) (x o : Int32) (hst : l.stackTraces = false) (hI : s_inv S) : gXi l E yX2_seek wsX2_seek ({ frames := 7, cells := 2, slots := 12, locals := 103 }) (xW E a S mk rk rv ++ F) [.ref (a 0), .int x, .int o] (okShip S x ∧ okOff S o) (s_at S x.toNatClampNeg) (xW E a (S_at S (upd (s_at S) x.toNatClampNeg o)) mk rk rv ++ F) (fun En => (En = xIOE ∧ ¬ okShip S x) ∨ (En = xIAE ∧ okShip S x ∧ ¬ okOff S o)) 2 12 := by
  refine gXi.of (cc := cX2_seek) (maxL := 5) (ty := .int) (by decide) rfl (Nat.le_of_ble_eq_true rfl) ?_
  intro p e s m args below meth c A C ht ls hl hO
  have hl : lv_has ls 5 [(0, .ref (a 0)), (1, .int x), (2, .int o)] := hl
  have iX1 : ∀ w ∈ u_ws RX1 TX1 5, w ∈ wsX2_seek := by decide +kernel
  obtain ⟨hn, hsh, hsc, hOn, hOb, hok9, hpc9, hp0⟩ := hI
  refine lv_aload_n C.1 C.2.1 dX2_seek_0 rfl (lv_at hl 0 rfl) ?_
  refine lv_iload_n C.1 C.2.1 dX2_seek_1 rfl (lv_at hl 1 rfl) ?_
  refine gXCall_r (As := [.int x]) (rest := []) C hO (c_X2_shipNumbered l E a S mk rk rv F x hst hsh) (cwV 1 C.2.2.2.2.1 gX2_seek_X2_shipNumbered rfl rfl rfl (by decide +kernel) ⟨(Nat.le_of_ble_eq_true rfl), (Nat.le_of_ble_eq_true rfl)⟩) (va_recv C.2.2.2.2.2.2.2.1.1 hO.1 (ci := 2) (q0 := 0) rfl rfl) rfl hl.1 rfl (Nat.le_of_ble_eq_true rfl) dX2_seek_2 ⟨(Nat.le_of_ble_eq_true rfl), (Nat.le_of_ble_eq_true rfl)⟩ (fun E0 ce q9 H locs hO hcell hcv hcl hbad => ?_) (fun H locs hO hok => ?_)
  · exact gXout C hO ht hcell hcv hcl (Or.inl hbad) (Nat.le_of_ble_eq_true rfl) (Nat.le_of_ble_eq_true rfl)
  have hj9 := okNat (by omega) hok.1 hok.2
  have hi9 : x.toNatClampNeg < 6 := by omega
  refine lv_astore_n (lv' := [(3, .ref (a (11 + x.toNatClampNeg))), (0, .ref (a 0)), (1, .int x), (2, .int o)]) C.1 C.2.1 dX2_seek_5 rfl hl (by decide) rfl (fun ls hl => ?_)
  refine lv_aload_n C.1 C.2.1 dX2_seek_6 rfl (lv_at hl 1 rfl) ?_
  refine lv_iload_n C.1 C.2.1 dX2_seek_7 rfl (lv_at hl 3 rfl) ?_
  refine gXCall_v (As := [.int o]) (rest := []) C hO (c_X2_checkReachable l E a S mk rk rv F o hst) (cwV 1 C.2.2.2.2.1 gX2_seek_X2_checkReachable rfl rfl rfl (by decide +kernel) ⟨(Nat.le_of_ble_eq_true rfl), (Nat.le_of_ble_eq_true rfl)⟩) (va_recv C.2.2.2.2.2.2.2.1.1 hO.1 (ci := 2) (q0 := 0) rfl rfl) rfl hl.1 rfl (Nat.le_of_ble_eq_true rfl) dX2_seek_8 ⟨(Nat.le_of_ble_eq_true rfl), (Nat.le_of_ble_eq_true rfl)⟩ (fun E0 ce q9 H locs hO hcell hcv hcl hbad => ?_) (fun H locs hO hok2 => ?_)
  · exact gXout C hO ht hcell hcv hcl (Or.inr ⟨hbad.1, hok, hbad.2⟩) (Nat.le_of_ble_eq_true rfl) (Nat.le_of_ble_eq_true rfl)
  refine lv_aload_n C.1 C.2.1 dX2_seek_11 rfl (lv_at hl 0 rfl) ?_
  refine gGetN (v := .int ((s_at S) x.toNatClampNeg)) (ref := RX1) (Cn := RX1) (T := TX1) (N := 5) (host := RX2) C iX1 hO (11 + x.toNatClampNeg) (xw_ship hi9) rfl 2 (by decide) (by decide +kernel) (fun _ h9 => h9) rfl dX2_seek_12 ?_
  refine lv_istore (lv' := [(4, .int ((s_at S) x.toNatClampNeg)), (3, .ref (a (11 + x.toNatClampNeg))), (0, .ref (a 0)), (1, .int x), (2, .int o)]) C.1 C.2.1 dX2_seek_15 hl (by decide) rfl (fun ls hl => ?_)
  refine lv_aload_n C.1 C.2.1 dX2_seek_17 rfl (lv_at hl 1 rfl) ?_
  refine lv_iload_n C.1 C.2.1 dX2_seek_18 rfl (lv_at hl 4 rfl) ?_
  refine gPutN (ws' := (xW E a (mkS (s_off S) (s_key S) (s_val S) (s_sto S) (s_n S) (s_nx S) (s_dr S) (s_hr S) (s_sc S) (s_on S) (s_said S) (s_sh S) (s_pc S) (upd (s_at S) x.toNatClampNeg o) (s_hd S) (s_ms S) (s_kn S)) mk rk rv ++ F)) (ref := RX1) (Cn := RX1) (T := TX1) (N := 5) (host := RX2) C iX1 tyX1 tyX1_ok nmX1 hO (11 + x.toNatClampNeg) (xw_ship hi9) rfl 2 (by decide) (by decide +kernel) (fun _ h9 => h9) rfl (by decide +kernel) rfl rfl (Nat.le_of_ble_eq_true rfl) (xs_at hi9 _) dX2_seek_19 (fun H locs hO => ?_)
  refine lv_iload C.1 C.2.1 dX2_seek_22 (lv_at hl 0 rfl) ?_
  exact gXRi C hO rfl (⟨hok, hok2⟩) rfl dX2_seek_24 (Nat.le_of_ble_eq_true rfl) (Nat.le_of_ble_eq_true rfl)

set_option maxHeartbeats 4000000 in
set_option maxRecDepth 100000 in
theorem c_X2_passHours (l : Launch) (E : gE) (a : Nat → Nat) (S : St) (mk rk rv : Nat → Int32) (F : va_W) (h : Int32) (hst : l.stackTraces = false) (hI : s_inv S) : gXi l E yX2_passHours wsX2_passHours ({ frames := 7, cells := 1, slots := 6, locals := 102 }) (xW E a S mk rk rv ++ F) [.ref (a 0), .int h] (okHours h) (nI (s_ph S (h.toNatClampNeg) (s_sh S))) (xW E a (S_pass S h) mk rk rv ++ F) (fun En => En = xIAE ∧ ¬ okHours h) 1 6 := by
  refine gXi.of (cc := cX2_passHours) (maxL := 4) (ty := .int) (by decide) rfl (Nat.le_of_ble_eq_true rfl) ?_
  intro p e s m args below meth c A C ht ls hl hO
  have hl : lv_has ls 4 [(0, .ref (a 0)), (1, .int h)] := hl
  have iX1 : ∀ w ∈ u_ws RX1 TX1 5, w ∈ wsX2_passHours := by decide +kernel
  have iX2 : ∀ w ∈ u_ws RX2 TX2 9, w ∈ wsX2_passHours := by decide +kernel
  have w90 : Cond.fieldLink RX2 90 "ParrotLog" "shipCount" "I" ∈ wsX2_passHours := by decide +kernel
  have w115 : Cond.fieldLink RX2 115 "ParrotLog" "hour" "I" ∈ wsX2_passHours := by decide +kernel
  have w22 : Cond.fieldLink RX2 22 "ParrotLog" "fleet" "[LParrotLog$Ship;" ∈ wsX2_passHours := by decide +kernel
  obtain ⟨hn, hsh, hsc, hOn, hOb, hok9, hpc9, hp0⟩ := hI
  refine lv_iload_n C.1 C.2.1 dX2_passHours_0 rfl (lv_at hl 1 rfl) ?_
  refine gXCallS_v (As := [.int h]) (rest := []) C hO (c_X2_checkHours l E a S mk rk rv F h hst) (cwS 1 C.2.2.2.2.1 gX2_passHours_X2_checkHours rfl rfl rfl (by decide +kernel) ⟨(Nat.le_of_ble_eq_true rfl), (Nat.le_of_ble_eq_true rfl)⟩) rfl hl.1 rfl (Nat.le_of_ble_eq_true rfl) dX2_passHours_1 ⟨(Nat.le_of_ble_eq_true rfl), (Nat.le_of_ble_eq_true rfl)⟩ (fun E0 ce q9 H locs hO hcell hcv hcl hbad => ?_) (fun H locs hO hok => ?_)
  · exact gXout C hO ht hcell hcv hcl hbad (Nat.le_of_ble_eq_true rfl) (Nat.le_of_ble_eq_true rfl)
  have hhn9 := okHours_n hok
  have hl : lv_has ls 4 [(0, .ref (a 0)), (1, .int (nI (h.toNatClampNeg)))] := by rw [← hhn9.2.2]; exact hl
  refine lv_iconst (v := 0) C.1 C.2.1 dX2_passHours_4 (by decide) ?_
  refine lv_istore_n (lv' := [(2, .int 0), (0, .ref (a 0)), (1, .int (nI h.toNatClampNeg))]) C.1 C.2.1 dX2_passHours_5 rfl hl (by decide) rfl (fun ls hl => ?_)
  refine lv_iconst (v := 0) C.1 C.2.1 dX2_passHours_6 (by decide) ?_
  refine lv_istore_n (lv' := [(3, .int 0), (2, .int 0), (0, .ref (a 0)), (1, .int (nI h.toNatClampNeg))]) C.1 C.2.1 dX2_passHours_7 rfl hl (by decide) rfl (fun ls hl => ?_)
  have lp24 : ∀ (f : Nat) (k24 : Nat), (s_sh S + 1 ≤ k24 + f) → (k24 ≤ s_sh S) → ∀ (H : Heap) (locs : List Loc), gO E A s (xW E a (S_ps S (h.toNatClampNeg) k24) mk rk rv ++ F) H locs → ∀ ls : Array Slot, lv_has ls 4 [(0, .ref (a 0)), (1, .int (nI h.toNatClampNeg)), (2, .int (nI (s_ph S (h.toNatClampNeg) k24))), (3, .int (nI k24))] → W p l e ({ frames := 7, cells := 1, slots := 6, locals := 102 } : Room) s m args below meth c H locs 1 6 (vx_MQ below (gXQi E A (okHours h) (nI (s_ph S (h.toNatClampNeg) (s_sh S))) (xW E a (S_pass S h) mk rk rv ++ F)) (gXC E A (fun En => En = xIAE ∧ ¬ okHours h) (xW E a S mk rk rv ++ F)) args s 1 6 A) (F0 m 8 ls []) := by
    intro f
    induction f with
    | zero =>
      intro k24 hf hk24
      exact absurd hf (by omega)
    | succ f ih_lp24 =>
      intro k24 hf hk24 H locs hO ls hl
      obtain ⟨hs1, hs2, hs3, hs4, hs5, hs6, hs7⟩ := S_ps_keep S (h.toNatClampNeg) k24
      refine lv_iload_n C.1 C.2.1 dX2_passHours_8 rfl (lv_at hl 3 rfl) ?_
      refine lv_aload_n C.1 C.2.1 dX2_passHours_9 rfl (lv_at hl 0 rfl) ?_
      refine gGet (v := .int (nI (s_sh (S_ps S (h.toNatClampNeg) k24)))) (ref := RX2) (Cn := RX2) (T := TX2) (N := 9) C iX2 hO 0 rfl rfl 8 (by decide) w90 (fun _ h9 => h9) rfl dX2_passHours_10 ?_
      refine gGeN (x := k24) (y := (s_sh (S_ps S (h.toNatClampNeg) k24))) (tgt := 49) C.1 C.2.1 (by omega) (by omega) dX2_passHours_13 (by decide) (fun c_2 => ?_) (fun c_2 => ?_)
      · have hke9 : k24 = s_sh S := by omega
        rw [hke9] at hO hl
        have hl := lv_sub hl [0, 1, 2] rfl
        have hl : lv_has ls 4 [(0, .ref (a 0)), (1, .int h), (2, .int (nI (s_ph S (h.toNatClampNeg) (s_sh S))))] := (congrArg (fun z24 => lv_has ls 4 [(0, .ref (a 0)), (1, .int z24), (2, .int (nI (s_ph S (h.toNatClampNeg) (s_sh S))))]) hhn9.2.2).mpr hl
        have hs8 := S_ps_hr S (h.toNatClampNeg) (s_sh S)
        obtain ⟨hs1, hs2, hs3, hs4, hs5, hs6, hs7⟩ := S_ps_keep S (h.toNatClampNeg) (s_sh S)
        refine lv_aload_n C.1 C.2.1 dX2_passHours_49 rfl (lv_at hl 0 rfl) ?_
        refine lv_dup C.1 C.2.1 dX2_passHours_50 rfl ?_
        refine gGet (v := .int (s_hr (S_ps S (h.toNatClampNeg) (s_sh S)))) (ref := RX2) (Cn := RX2) (T := TX2) (N := 9) C iX2 hO 0 rfl rfl 5 (by decide) w115 (fun _ h9 => h9) rfl dX2_passHours_51 ?_
        refine lv_iload_n C.1 C.2.1 dX2_passHours_54 rfl (lv_at hl 1 rfl) ?_
        refine lv_iadd C.1 C.2.1 dX2_passHours_55 ?_
        refine gPut (ws' := (xW E a (mkS (s_off (S_ps S (h.toNatClampNeg) (s_sh S))) (s_key (S_ps S (h.toNatClampNeg) (s_sh S))) (s_val (S_ps S (h.toNatClampNeg) (s_sh S))) (s_sto (S_ps S (h.toNatClampNeg) (s_sh S))) (s_n (S_ps S (h.toNatClampNeg) (s_sh S))) (s_nx (S_ps S (h.toNatClampNeg) (s_sh S))) (s_dr (S_ps S (h.toNatClampNeg) (s_sh S))) ((s_hr (S_ps S (h.toNatClampNeg) (s_sh S))) + h) (s_sc (S_ps S (h.toNatClampNeg) (s_sh S))) (s_on (S_ps S (h.toNatClampNeg) (s_sh S))) (s_said (S_ps S (h.toNatClampNeg) (s_sh S))) (s_sh (S_ps S (h.toNatClampNeg) (s_sh S))) (s_pc (S_ps S (h.toNatClampNeg) (s_sh S))) (s_at (S_ps S (h.toNatClampNeg) (s_sh S))) (s_hd (S_ps S (h.toNatClampNeg) (s_sh S))) (s_ms (S_ps S (h.toNatClampNeg) (s_sh S))) (s_kn (S_ps S (h.toNatClampNeg) (s_sh S)))) mk rk rv ++ F)) (ref := RX2) (Cn := RX2) (T := TX2) (N := 9) C iX2 tyX2 tyX2_ok nmX2 hO 0 rfl rfl 5 (by decide) w115 (fun _ h9 => h9) rfl (by decide +kernel) rfl rfl (Nat.le_of_ble_eq_true rfl) rfl dX2_passHours_56 (fun H locs hO => ?_)
        refine lv_iload_n C.1 C.2.1 dX2_passHours_59 rfl (lv_at hl 2 rfl) ?_
        exact gXRi C (by rw [hs8] at hO; exact hO) rfl hok rfl dX2_passHours_60 (Nat.le_of_ble_eq_true rfl) (Nat.le_of_ble_eq_true rfl)
      · have hpT9 : 1 ≤ pN (S_ps S (h.toNatClampNeg) k24) k24 ∧ pN (S_ps S (h.toNatClampNeg) k24) k24 ≤ 5 ∧ s_pc (S_ps S (h.toNatClampNeg) k24) k24 = nI (pN (S_ps S (h.toNatClampNeg) k24) k24) := by unfold pN; rw [hs5]; exact hpc9 k24 (by omega)
        have hokT9 : s_ok (S_ps S (h.toNatClampNeg) k24) := by unfold s_ok; rw [hs2, hs3]; exact hok9
        have hmh9 := mh_le (S := (S_ps S (h.toNatClampNeg) k24)) hhn9.2.1 hpT9.2.1
        refine lv_iload_n C.1 C.2.1 dX2_passHours_16 rfl (lv_at hl 2 rfl) ?_
        refine lv_aload_n C.1 C.2.1 dX2_passHours_17 rfl (lv_at hl 0 rfl) ?_
        refine lv_aload_n C.1 C.2.1 dX2_passHours_18 rfl (lv_at hl 0 rfl) ?_
        refine gGet (v := .ref (a 8)) (ref := RX2) (Cn := RX2) (T := TX2) (N := 9) C iX2 hO 0 rfl rfl 2 (by decide) w22 (fun _ h9 => h9) rfl dX2_passHours_19 ?_
        refine lv_iload_n C.1 C.2.1 dX2_passHours_22 rfl (lv_at hl 3 rfl) ?_
        refine gAald (v := a (11 + k24)) (j := k24) C hO 8 rfl (by omega) (by decide) (xFl_at (by omega)) dX2_passHours_23 ?_
        refine lv_aload_n C.1 C.2.1 dX2_passHours_24 rfl (lv_at hl 0 rfl) ?_
        refine lv_iload_n C.1 C.2.1 dX2_passHours_25 rfl (lv_at hl 1 rfl) ?_
        refine lv_aload_n C.1 C.2.1 dX2_passHours_26 rfl (lv_at hl 0 rfl) ?_
        refine gGet (v := .ref (a 8)) (ref := RX2) (Cn := RX2) (T := TX2) (N := 9) C iX2 hO 0 rfl rfl 2 (by decide) w22 (fun _ h9 => h9) rfl dX2_passHours_27 ?_
        refine lv_iload_n C.1 C.2.1 dX2_passHours_30 rfl (lv_at hl 3 rfl) ?_
        refine gAald (v := a (11 + k24)) (j := k24) C hO 8 rfl (by omega) (by decide) (xFl_at (by omega)) dX2_passHours_31 ?_
        refine gGetN (v := .int ((s_pc (S_ps S (h.toNatClampNeg) k24)) k24)) (ref := RX1) (Cn := RX1) (T := TX1) (N := 5) (host := RX2) C iX1 hO (11 + k24) (xw_ship (by omega)) rfl 1 (by decide) (by decide +kernel) (fun _ h9 => h9) rfl dX2_passHours_32 ?_
        refine lv_eqi (y := nI (pN (S_ps S (h.toNatClampNeg) k24) k24)) hpT9.2.2 ?_
        refine gCall_i (As := [.int (nI h.toNatClampNeg), .int (nI (pN (S_ps S (h.toNatClampNeg) k24) k24))]) (rest := [.ref (a (11 + k24)), .ref (a 0), .int (nI (s_ph S (h.toNatClampNeg) k24))]) C hO (c_X2_mostHeard l E a (S_ps S (h.toNatClampNeg) k24) mk rk rv F h.toNatClampNeg (pN (S_ps S (h.toNatClampNeg) k24) k24)) (cwV 2 C.2.2.2.2.1 gX2_passHours_X2_mostHeard rfl rfl rfl (by decide +kernel) ⟨(Nat.le_of_ble_eq_true rfl), (Nat.le_of_ble_eq_true rfl)⟩) (va_recv C.2.2.2.2.2.2.2.1.1 hO.1 (ci := 2) (q0 := 0) rfl rfl) rfl hl.1 rfl (Nat.le_of_ble_eq_true rfl) dX2_passHours_35 ⟨(Nat.le_of_ble_eq_true rfl), (Nat.le_of_ble_eq_true rfl)⟩ (fun H locs hO => ?_)
        refine gCall_i (As := [.ref (a (11 + k24)), .int (nI (mhN (S_ps S (h.toNatClampNeg) k24) h.toNatClampNeg (pN (S_ps S (h.toNatClampNeg) k24) k24)))]) (rest := [.int (nI (s_ph S (h.toNatClampNeg) k24))]) C hO (c_X2_hearNext l E a (S_ps S (h.toNatClampNeg) k24) mk rk rv F k24 (mhN (S_ps S (h.toNatClampNeg) k24) h.toNatClampNeg (pN (S_ps S (h.toNatClampNeg) k24) k24)) (by omega) (by omega) hokT9 (by omega)) (cwV 2 C.2.2.2.2.1 gX2_passHours_X2_hearNext rfl rfl rfl (by decide +kernel) ⟨(Nat.le_of_ble_eq_true rfl), (Nat.le_of_ble_eq_true rfl)⟩) (va_recv C.2.2.2.2.2.2.2.1.1 hO.1 (ci := 2) (q0 := 0) rfl rfl) rfl hl.1 rfl (Nat.le_of_ble_eq_true rfl) dX2_passHours_38 ⟨(Nat.le_of_ble_eq_true rfl), (Nat.le_of_ble_eq_true rfl)⟩ (fun H locs hO => ?_)
        have hO : gO E A s (xW E a (S_ps S (h.toNatClampNeg) (k24 + 1)) mk rk rv ++ F) H locs := hO
        refine gAddN (x := (s_ph S (h.toNatClampNeg) k24)) (y := (s_dh (S_ps S (h.toNatClampNeg) k24) (h.toNatClampNeg) k24)) C.1 C.2.1 dX2_passHours_41 ?_
        refine lv_istore_n (lv' := [(2, .int (nI ((s_ph S (h.toNatClampNeg) k24) + (s_dh (S_ps S (h.toNatClampNeg) k24) (h.toNatClampNeg) k24)))), (0, .ref (a 0)), (1, .int (nI h.toNatClampNeg)), (3, .int (nI k24))]) C.1 C.2.1 dX2_passHours_42 rfl hl (by decide) rfl (fun ls hl => ?_)
        refine gInc (j := k24) (k := 3) (lv' := [(3, .int (nI (k24 + 1))), (2, .int (nI ((s_ph S (h.toNatClampNeg) k24) + (s_dh (S_ps S (h.toNatClampNeg) k24) (h.toNatClampNeg) k24)))), (0, .ref (a 0)), (1, .int (nI h.toNatClampNeg))]) C.1 C.2.1 dX2_passHours_43 hl rfl (by decide) rfl (fun ls hl => ?_)
        refine lv_goto (tgt := 8) C.1 C.2.1 dX2_passHours_46 (by decide) ?_
        refine W.widen (k := 1) (n := 6) (by omega) (by omega) ?_
        exact ih_lp24 (k24 + 1) (by omega) (by omega) _ _ hO _ (lv_sub hl [2, 3, 1, 0] rfl)
  refine W.widen (k := 1) (n := 6) (by omega) (by omega) ?_
  exact lp24 (s_sh S + 1) 0 (by omega) (Nat.zero_le _) _ _ hO _ (lv_sub hl [2, 3, 1, 0] rfl)
