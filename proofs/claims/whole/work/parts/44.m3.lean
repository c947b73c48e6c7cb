set_option maxHeartbeats 4000000 in
set_option maxRecDepth 100000 in
theorem c_X3_say_ok (l : Launch) (E : gE) (b : Nat → Nat) (S : St) (th : Int32) (mk : Nat → Int32) (F : va_W) (k v : Int32) (hI : s_inv S) (hsr : s_srt S) (hok : okKey k ∧ okVal v) : gMi l E yX3_say wsX3_say ({ frames := 2, cells := 0, slots := 0, locals := 46 }) (mW E b S th mk ++ F) [.ref (b 0), .int k, .int v] (s_nx S) (mW E b (S_spk S k v) 0 (mk_spk S mk) ++ F) 0 0 := by
  refine gMi.of (cc := cX3_say) (maxL := 3) (ty := .int) (by decide) rfl (Nat.le_of_ble_eq_true rfl) ?_
  intro p e s m args below meth c A C ls hl hO
  have hl : lv_has ls 3 [(0, .ref (b 0)), (1, .int k), (2, .int v)] := hl
  have iX3 : ∀ w ∈ u_ws RX3 TX3 19, w ∈ wsX3_say := by decide +kernel
  have w44 : Cond.fieldLink RX3 44 "ParrotLogModel" "thrown" "I" ∈ wsX3_say := by decide +kernel
  have w68 : Cond.fieldLink RX3 68 "ParrotLogModel" "next" "I" ∈ wsX3_say := by decide +kernel
  obtain ⟨hn, hsh, hsc, hOn, hOb, hok9, hpc9, hp0⟩ := hI
  refine lv_aload_n C.1 C.2.1 dX3_say_0 rfl (lv_at hl 0 rfl) ?_
  refine lv_iconst (v := 0) C.1 C.2.1 dX3_say_1 (by decide) ?_
  refine gPut (ws' := (mW E b S 0 mk ++ F)) (ref := RX3) (Cn := RX3) (T := TX3) (N := 19) C iX3 tyX3 tyX3_ok nmX3 hO 0 rfl rfl 0 (by decide) w44 (fun _ h9 => h9) rfl (by decide +kernel) rfl rfl (Nat.le_of_ble_eq_true rfl) rfl dX3_say_2 (fun H locs hO => ?_)
  refine lv_iload_n C.1 C.2.1 dX3_say_5 rfl (lv_at hl 1 rfl) ?_
  refine gCallS_i (As := [.int k]) (rest := []) C hO (c_X3_isKey l E b S 0 mk F k) (cwS 1 C.2.2.2.2.1 gX3_say_X3_isKey rfl rfl rfl (by decide +kernel) ⟨(Nat.le_of_ble_eq_true rfl), (Nat.le_of_ble_eq_true rfl)⟩) rfl hl.1 rfl (Nat.le_of_ble_eq_true rfl) dX3_say_6 ⟨(Nat.le_of_ble_eq_true rfl), (Nat.le_of_ble_eq_true rfl)⟩ (fun H locs hO => ?_)
  refine lv_if_eq (tgt := 25) C.1 C.2.1 dX3_say_9 (by decide) (fun c_1 => ?_) (fun c_1 => ?_)
  · exact absurd hok.1 (bF c_1)
  · refine lv_iload_n C.1 C.2.1 dX3_say_12 rfl (lv_at hl 2 rfl) ?_
    refine lv_sipush (v := (-999)) C.1 C.2.1 dX3_say_13 (by decide) ?_
    refine lv_sipush (v := nI 999) C.1 C.2.1 dX3_say_16 (by decide) ?_
    refine gCallS_i (As := [.int v, .int (-999), .int (nI 999)]) (rest := []) C hO (c_X3_isIn l E b S 0 mk F v (-999) (nI 999)) (cwS 3 C.2.2.2.2.1 gX3_say_X3_isIn rfl rfl rfl (by decide +kernel) ⟨(Nat.le_of_ble_eq_true rfl), (Nat.le_of_ble_eq_true rfl)⟩) rfl hl.1 rfl (Nat.le_of_ble_eq_true rfl) dX3_say_19 ⟨(Nat.le_of_ble_eq_true rfl), (Nat.le_of_ble_eq_true rfl)⟩ (fun H locs hO => ?_)
    refine lv_if_ne (tgt := 31) C.1 C.2.1 dX3_say_22 (by decide) (fun c_2 => ?_) (fun c_2 => ?_)
    · refine lv_aload_n C.1 C.2.1 dX3_say_31 rfl (lv_at hl 0 rfl) ?_
      refine lv_iload_n C.1 C.2.1 dX3_say_32 rfl (lv_at hl 1 rfl) ?_
      refine lv_iload_n C.1 C.2.1 dX3_say_33 rfl (lv_at hl 2 rfl) ?_
      refine gCall_v (As := [.int k, .int v]) (rest := []) C hO (c_X3_put l E b S 0 mk F k v (by omega) (by omega) (by omega) hOn hsr) (cwV 2 C.2.2.2.2.1 gX3_say_X3_put rfl rfl rfl (by decide +kernel) ⟨(Nat.le_of_ble_eq_true rfl), (Nat.le_of_ble_eq_true rfl)⟩) (va_recv C.2.2.2.2.2.2.2.1.1 hO.1 (ci := 3) (q0 := 0) rfl rfl) rfl hl.1 rfl (Nat.le_of_ble_eq_true rfl) dX3_say_34 ⟨(Nat.le_of_ble_eq_true rfl), (Nat.le_of_ble_eq_true rfl)⟩ (fun H locs hO => ?_)
      have hO : gO E A s (mW E b (S_spk S k v) 0 (mk_spk S mk) ++ F) H locs := hO
      refine lv_aload_n C.1 C.2.1 dX3_say_37 rfl (lv_at hl 0 rfl) ?_
      refine gGet (v := .int (s_nx (S_spk S k v))) (ref := RX3) (Cn := RX3) (T := TX3) (N := 19) C iX3 hO 0 rfl rfl 7 (by decide) w68 (fun _ h9 => h9) rfl dX3_say_38 ?_
      refine lv_iconst (v := 1) C.1 C.2.1 dX3_say_41 (by decide) ?_
      refine lv_isub C.1 C.2.1 dX3_say_42 ?_
      exact gRi C hO rfl (by rw [(S_spk_keep S k v).2.2.2.1, Int32.add_sub_cancel]) dX3_say_43 (Nat.le_of_ble_eq_true rfl) (Nat.le_of_ble_eq_true rfl)
    · exact absurd hok.2 (bF c_2)

set_option maxHeartbeats 4000000 in
set_option maxRecDepth 100000 in
theorem c_X3_say_no (l : Launch) (E : gE) (b : Nat → Nat) (S : St) (th : Int32) (mk : Nat → Int32) (F : va_W) (k v : Int32) (hI : s_inv S) (hsr : s_srt S) (hok : ¬ (okKey k ∧ okVal v)) : gMi l E yX3_say wsX3_say ({ frames := 2, cells := 0, slots := 0, locals := 42 }) (mW E b S th mk ++ F) [.ref (b 0), .int k, .int v] 0 (mW E b S 1 mk ++ F) 0 0 := by
  refine gMi.of (cc := cX3_say) (maxL := 3) (ty := .int) (by decide) rfl (Nat.le_of_ble_eq_true rfl) ?_
  intro p e s m args below meth c A C ls hl hO
  have hl : lv_has ls 3 [(0, .ref (b 0)), (1, .int k), (2, .int v)] := hl
  have iX3 : ∀ w ∈ u_ws RX3 TX3 19, w ∈ wsX3_say := by decide +kernel
  have w44 : Cond.fieldLink RX3 44 "ParrotLogModel" "thrown" "I" ∈ wsX3_say := by decide +kernel
  obtain ⟨hn, hsh, hsc, hOn, hOb, hok9, hpc9, hp0⟩ := hI
  refine lv_aload_n C.1 C.2.1 dX3_say_0 rfl (lv_at hl 0 rfl) ?_
  refine lv_iconst (v := 0) C.1 C.2.1 dX3_say_1 (by decide) ?_
  refine gPut (ws' := (mW E b S 0 mk ++ F)) (ref := RX3) (Cn := RX3) (T := TX3) (N := 19) C iX3 tyX3 tyX3_ok nmX3 hO 0 rfl rfl 0 (by decide) w44 (fun _ h9 => h9) rfl (by decide +kernel) rfl rfl (Nat.le_of_ble_eq_true rfl) rfl dX3_say_2 (fun H locs hO => ?_)
  refine lv_iload_n C.1 C.2.1 dX3_say_5 rfl (lv_at hl 1 rfl) ?_
  refine gCallS_i (As := [.int k]) (rest := []) C hO (c_X3_isKey l E b S 0 mk F k) (cwS 1 C.2.2.2.2.1 gX3_say_X3_isKey rfl rfl rfl (by decide +kernel) ⟨(Nat.le_of_ble_eq_true rfl), (Nat.le_of_ble_eq_true rfl)⟩) rfl hl.1 rfl (Nat.le_of_ble_eq_true rfl) dX3_say_6 ⟨(Nat.le_of_ble_eq_true rfl), (Nat.le_of_ble_eq_true rfl)⟩ (fun H locs hO => ?_)
  refine lv_if_eq (tgt := 25) C.1 C.2.1 dX3_say_9 (by decide) (fun c_1 => ?_) (fun c_1 => ?_)
  · refine lv_aload_n C.1 C.2.1 dX3_say_25 rfl (lv_at hl 0 rfl) ?_
    refine lv_iconst (v := 1) C.1 C.2.1 dX3_say_26 (by decide) ?_
    refine gCall_i (As := [.int 1]) (rest := []) C hO (c_X3_fail l E b S 0 mk F 1) (cwV 1 C.2.2.2.2.1 gX3_say_X3_fail rfl rfl rfl (by decide +kernel) ⟨(Nat.le_of_ble_eq_true rfl), (Nat.le_of_ble_eq_true rfl)⟩) (va_recv C.2.2.2.2.2.2.2.1.1 hO.1 (ci := 3) (q0 := 0) rfl rfl) rfl hl.1 rfl (Nat.le_of_ble_eq_true rfl) dX3_say_27 ⟨(Nat.le_of_ble_eq_true rfl), (Nat.le_of_ble_eq_true rfl)⟩ (fun H locs hO => ?_)
    have hO : gO E A s (mW E b S 1 mk ++ F) H locs := hO
    exact gRi C hO rfl rfl dX3_say_30 (Nat.le_of_ble_eq_true rfl) (Nat.le_of_ble_eq_true rfl)
  · have hz8 := bT c_1
    refine lv_iload_n C.1 C.2.1 dX3_say_12 rfl (lv_at hl 2 rfl) ?_
    refine lv_sipush (v := (-999)) C.1 C.2.1 dX3_say_13 (by decide) ?_
    refine lv_sipush (v := nI 999) C.1 C.2.1 dX3_say_16 (by decide) ?_
    refine gCallS_i (As := [.int v, .int (-999), .int (nI 999)]) (rest := []) C hO (c_X3_isIn l E b S 0 mk F v (-999) (nI 999)) (cwS 3 C.2.2.2.2.1 gX3_say_X3_isIn rfl rfl rfl (by decide +kernel) ⟨(Nat.le_of_ble_eq_true rfl), (Nat.le_of_ble_eq_true rfl)⟩) rfl hl.1 rfl (Nat.le_of_ble_eq_true rfl) dX3_say_19 ⟨(Nat.le_of_ble_eq_true rfl), (Nat.le_of_ble_eq_true rfl)⟩ (fun H locs hO => ?_)
    refine lv_if_ne (tgt := 31) C.1 C.2.1 dX3_say_22 (by decide) (fun c_2 => ?_) (fun c_2 => ?_)
    · exact absurd ⟨hz8, bT c_2⟩ hok
    · refine lv_aload_n C.1 C.2.1 dX3_say_25 rfl (lv_at hl 0 rfl) ?_
      refine lv_iconst (v := 1) C.1 C.2.1 dX3_say_26 (by decide) ?_
      refine gCall_i (As := [.int 1]) (rest := []) C hO (c_X3_fail l E b S 0 mk F 1) (cwV 1 C.2.2.2.2.1 gX3_say_X3_fail rfl rfl rfl (by decide +kernel) ⟨(Nat.le_of_ble_eq_true rfl), (Nat.le_of_ble_eq_true rfl)⟩) (va_recv C.2.2.2.2.2.2.2.1.1 hO.1 (ci := 3) (q0 := 0) rfl rfl) rfl hl.1 rfl (Nat.le_of_ble_eq_true rfl) dX3_say_27 ⟨(Nat.le_of_ble_eq_true rfl), (Nat.le_of_ble_eq_true rfl)⟩ (fun H locs hO => ?_)
      have hO : gO E A s (mW E b S 1 mk ++ F) H locs := hO
      exact gRi C hO rfl rfl dX3_say_30 (Nat.le_of_ble_eq_true rfl) (Nat.le_of_ble_eq_true rfl)

set_option maxHeartbeats 4000000 in
set_option maxRecDepth 100000 in
theorem c_X3_startStorm_ok (l : Launch) (E : gE) (b : Nat → Nat) (S : St) (th : Int32) (mk : Nat → Int32) (F : va_W)  (hI : s_inv S) (hsr : s_srt S) (hok : s_on S = 0 ∧ s_sc S < 8) : gMi l E yX3_startStorm wsX3_startStorm ({ frames := 0, cells := 0, slots := 0, locals := 0 }) (mW E b S th mk ++ F) [.ref (b 0)] (nI (s_sc S)) (mW E b (S_storm S 1 (s_sc S + 1)) 0 mk ++ F) 0 0 := by
  refine gMi.of (cc := cX3_startStorm) (maxL := 1) (ty := .int) (by decide) rfl (Nat.le_of_ble_eq_true rfl) ?_
  intro p e s m args below meth c A C ls hl hO
  have hl : lv_has ls 1 [(0, .ref (b 0))] := hl
  have iX3 : ∀ w ∈ u_ws RX3 TX3 19, w ∈ wsX3_startStorm := by decide +kernel
  have w44 : Cond.fieldLink RX3 44 "ParrotLogModel" "thrown" "I" ∈ wsX3_startStorm := by decide +kernel
  have w71 : Cond.fieldLink RX3 71 "ParrotLogModel" "isOn" "Z" ∈ wsX3_startStorm := by decide +kernel
  have w55 : Cond.fieldLink RX3 55 "ParrotLogModel" "storms" "I" ∈ wsX3_startStorm := by decide +kernel
  obtain ⟨hn, hsh, hsc, hOn, hOb, hok9, hpc9, hp0⟩ := hI
  refine lv_aload_n C.1 C.2.1 dX3_startStorm_0 rfl (lv_at hl 0 rfl) ?_
  refine lv_iconst (v := 0) C.1 C.2.1 dX3_startStorm_1 (by decide) ?_
  refine gPut (ws' := (mW E b S 0 mk ++ F)) (ref := RX3) (Cn := RX3) (T := TX3) (N := 19) C iX3 tyX3 tyX3_ok nmX3 hO 0 rfl rfl 0 (by decide) w44 (fun _ h9 => h9) rfl (by decide +kernel) rfl rfl (Nat.le_of_ble_eq_true rfl) rfl dX3_startStorm_2 (fun H locs hO => ?_)
  refine lv_aload_n C.1 C.2.1 dX3_startStorm_5 rfl (lv_at hl 0 rfl) ?_
  refine gGet (v := .int (s_on S)) (ref := RX3) (Cn := RX3) (T := TX3) (N := 19) C iX3 hO 0 rfl rfl 11 (by decide) w71 (fun _ h9 => h9) rfl dX3_startStorm_6 ?_
  refine lv_if_ne (tgt := 21) C.1 C.2.1 dX3_startStorm_9 (by decide) (fun c_1 => ?_) (fun c_1 => ?_)
  · exact absurd hok.1 c_1
  · refine lv_aload_n C.1 C.2.1 dX3_startStorm_12 rfl (lv_at hl 0 rfl) ?_
    refine gGet (v := .int (nI (s_sc S))) (ref := RX3) (Cn := RX3) (T := TX3) (N := 19) C iX3 hO 0 rfl rfl 10 (by decide) w55 (fun _ h9 => h9) rfl dX3_startStorm_13 ?_
    refine lv_bipush (v := nI 8) C.1 C.2.1 dX3_startStorm_16 (by decide) ?_
    refine gNeN (x := (s_sc S)) (y := 8) (tgt := 27) C.1 C.2.1 (by omega) (by omega) dX3_startStorm_18 (by decide) (fun c_2 => ?_) (fun c_2 => ?_)
    · refine lv_aload_n C.1 C.2.1 dX3_startStorm_27 rfl (lv_at hl 0 rfl) ?_
      refine lv_iconst (v := 1) C.1 C.2.1 dX3_startStorm_28 (by decide) ?_
      refine gPut (ws' := (mW E b (mkS (s_off S) (s_key S) (s_val S) (s_sto S) (s_n S) (s_nx S) (s_dr S) (s_hr S) (s_sc S) 1 (s_said S) (s_sh S) (s_pc S) (s_at S) (s_hd S) (s_ms S) (s_kn S)) 0 mk ++ F)) (ref := RX3) (Cn := RX3) (T := TX3) (N := 19) C iX3 tyX3 tyX3_ok nmX3 hO 0 rfl rfl 11 (by decide) w71 (fun _ h9 => h9) rfl (by decide +kernel) rfl rfl (Nat.le_of_ble_eq_true rfl) rfl dX3_startStorm_29 (fun H locs hO => ?_)
      refine lv_aload_n C.1 C.2.1 dX3_startStorm_32 rfl (lv_at hl 0 rfl) ?_
      refine lv_dup C.1 C.2.1 dX3_startStorm_33 rfl ?_
      refine gGet (v := .int (nI (s_sc S))) (ref := RX3) (Cn := RX3) (T := TX3) (N := 19) C iX3 hO 0 rfl rfl 10 (by decide) w55 (fun _ h9 => h9) rfl dX3_startStorm_34 ?_
      refine lv_iconst (v := 1) C.1 C.2.1 dX3_startStorm_37 (by decide) ?_
      refine gAddN (x := (s_sc S)) (y := 1) C.1 C.2.1 dX3_startStorm_38 ?_
      refine gPut (ws' := (mW E b (mkS (s_off S) (s_key S) (s_val S) (s_sto S) (s_n S) (s_nx S) (s_dr S) (s_hr S) ((s_sc S) + 1) 1 (s_said S) (s_sh S) (s_pc S) (s_at S) (s_hd S) (s_ms S) (s_kn S)) 0 mk ++ F)) (ref := RX3) (Cn := RX3) (T := TX3) (N := 19) C iX3 tyX3 tyX3_ok nmX3 hO 0 rfl rfl 10 (by decide) w55 (fun _ h9 => h9) rfl (by decide +kernel) rfl rfl (Nat.le_of_ble_eq_true rfl) rfl dX3_startStorm_39 (fun H locs hO => ?_)
      refine lv_aload_n C.1 C.2.1 dX3_startStorm_42 rfl (lv_at hl 0 rfl) ?_
      refine gGet (v := .int (nI ((s_sc S) + 1))) (ref := RX3) (Cn := RX3) (T := TX3) (N := 19) C iX3 hO 0 rfl rfl 10 (by decide) w55 (fun _ h9 => h9) rfl dX3_startStorm_43 ?_
      refine lv_iconst (v := 1) C.1 C.2.1 dX3_startStorm_46 (by decide) ?_
      refine gSubN (x := ((s_sc S) + 1)) (y := 1) C.1 C.2.1 (by omega) dX3_startStorm_47 ?_
      exact gRi C hO rfl rfl dX3_startStorm_48 (Nat.le_of_ble_eq_true rfl) (Nat.le_of_ble_eq_true rfl)
    · exact absurd hok.2 (by omega)

set_option maxHeartbeats 4000000 in
set_option maxRecDepth 100000 in
theorem c_X3_startStorm_no (l : Launch) (E : gE) (b : Nat → Nat) (S : St) (th : Int32) (mk : Nat → Int32) (F : va_W)  (hI : s_inv S) (hsr : s_srt S) (hok : ¬ (s_on S = 0 ∧ s_sc S < 8)) : gMi l E yX3_startStorm wsX3_startStorm ({ frames := 1, cells := 0, slots := 0, locals := 21 }) (mW E b S th mk ++ F) [.ref (b 0)] 0 (mW E b S 1 mk ++ F) 0 0 := by
  refine gMi.of (cc := cX3_startStorm) (maxL := 1) (ty := .int) (by decide) rfl (Nat.le_of_ble_eq_true rfl) ?_
  intro p e s m args below meth c A C ls hl hO
  have hl : lv_has ls 1 [(0, .ref (b 0))] := hl
  have iX3 : ∀ w ∈ u_ws RX3 TX3 19, w ∈ wsX3_startStorm := by decide +kernel
  have w44 : Cond.fieldLink RX3 44 "ParrotLogModel" "thrown" "I" ∈ wsX3_startStorm := by decide +kernel
  have w71 : Cond.fieldLink RX3 71 "ParrotLogModel" "isOn" "Z" ∈ wsX3_startStorm := by decide +kernel
  have w55 : Cond.fieldLink RX3 55 "ParrotLogModel" "storms" "I" ∈ wsX3_startStorm := by decide +kernel
  obtain ⟨hn, hsh, hsc, hOn, hOb, hok9, hpc9, hp0⟩ := hI
  refine lv_aload_n C.1 C.2.1 dX3_startStorm_0 rfl (lv_at hl 0 rfl) ?_
  refine lv_iconst (v := 0) C.1 C.2.1 dX3_startStorm_1 (by decide) ?_
  refine gPut (ws' := (mW E b S 0 mk ++ F)) (ref := RX3) (Cn := RX3) (T := TX3) (N := 19) C iX3 tyX3 tyX3_ok nmX3 hO 0 rfl rfl 0 (by decide) w44 (fun _ h9 => h9) rfl (by decide +kernel) rfl rfl (Nat.le_of_ble_eq_true rfl) rfl dX3_startStorm_2 (fun H locs hO => ?_)
  refine lv_aload_n C.1 C.2.1 dX3_startStorm_5 rfl (lv_at hl 0 rfl) ?_
  refine gGet (v := .int (s_on S)) (ref := RX3) (Cn := RX3) (T := TX3) (N := 19) C iX3 hO 0 rfl rfl 11 (by decide) w71 (fun _ h9 => h9) rfl dX3_startStorm_6 ?_
  refine lv_if_ne (tgt := 21) C.1 C.2.1 dX3_startStorm_9 (by decide) (fun c_1 => ?_) (fun c_1 => ?_)
  · refine lv_aload_n C.1 C.2.1 dX3_startStorm_21 rfl (lv_at hl 0 rfl) ?_
    refine lv_iconst (v := 1) C.1 C.2.1 dX3_startStorm_22 (by decide) ?_
    refine gCall_i (As := [.int 1]) (rest := []) C hO (c_X3_fail l E b S 0 mk F 1) (cwV 1 C.2.2.2.2.1 gX3_startStorm_X3_fail rfl rfl rfl (by decide +kernel) ⟨(Nat.le_of_ble_eq_true rfl), (Nat.le_of_ble_eq_true rfl)⟩) (va_recv C.2.2.2.2.2.2.2.1.1 hO.1 (ci := 3) (q0 := 0) rfl rfl) rfl hl.1 rfl (Nat.le_of_ble_eq_true rfl) dX3_startStorm_23 ⟨(Nat.le_of_ble_eq_true rfl), (Nat.le_of_ble_eq_true rfl)⟩ (fun H locs hO => ?_)
    have hO : gO E A s (mW E b S 1 mk ++ F) H locs := hO
    exact gRi C hO rfl rfl dX3_startStorm_26 (Nat.le_of_ble_eq_true rfl) (Nat.le_of_ble_eq_true rfl)
  · have hz8 := c_1
    refine lv_aload_n C.1 C.2.1 dX3_startStorm_12 rfl (lv_at hl 0 rfl) ?_
    refine gGet (v := .int (nI (s_sc S))) (ref := RX3) (Cn := RX3) (T := TX3) (N := 19) C iX3 hO 0 rfl rfl 10 (by decide) w55 (fun _ h9 => h9) rfl dX3_startStorm_13 ?_
    refine lv_bipush (v := nI 8) C.1 C.2.1 dX3_startStorm_16 (by decide) ?_
    refine gNeN (x := (s_sc S)) (y := 8) (tgt := 27) C.1 C.2.1 (by omega) (by omega) dX3_startStorm_18 (by decide) (fun c_2 => ?_) (fun c_2 => ?_)
    · exact absurd ⟨hz8, by omega⟩ hok
    · refine lv_aload_n C.1 C.2.1 dX3_startStorm_21 rfl (lv_at hl 0 rfl) ?_
      refine lv_iconst (v := 1) C.1 C.2.1 dX3_startStorm_22 (by decide) ?_
      refine gCall_i (As := [.int 1]) (rest := []) C hO (c_X3_fail l E b S 0 mk F 1) (cwV 1 C.2.2.2.2.1 gX3_startStorm_X3_fail rfl rfl rfl (by decide +kernel) ⟨(Nat.le_of_ble_eq_true rfl), (Nat.le_of_ble_eq_true rfl)⟩) (va_recv C.2.2.2.2.2.2.2.1.1 hO.1 (ci := 3) (q0 := 0) rfl rfl) rfl hl.1 rfl (Nat.le_of_ble_eq_true rfl) dX3_startStorm_23 ⟨(Nat.le_of_ble_eq_true rfl), (Nat.le_of_ble_eq_true rfl)⟩ (fun H locs hO => ?_)
      have hO : gO E A s (mW E b S 1 mk ++ F) H locs := hO
      exact gRi C hO rfl rfl dX3_startStorm_26 (Nat.le_of_ble_eq_true rfl) (Nat.le_of_ble_eq_true rfl)

set_option maxHeartbeats 4000000 in
set_option maxRecDepth 100000 in
theorem c_X3_endStorm_ok (l : Launch) (E : gE) (b : Nat → Nat) (S : St) (th : Int32) (mk : Nat → Int32) (F : va_W)  (hI : s_inv S) (hsr : s_srt S) (hok : ¬ s_on S = 0) : gMi l E yX3_endStorm wsX3_endStorm ({ frames := 0, cells := 0, slots := 0, locals := 0 }) (mW E b S th mk ++ F) [.ref (b 0)] (s_said S (s_sc S - 1)) (mW E b (S_storm S 0 (s_sc S)) 0 mk ++ F) 0 0 := by
  refine gMi.of (cc := cX3_endStorm) (maxL := 1) (ty := .int) (by decide) rfl (Nat.le_of_ble_eq_true rfl) ?_
  intro p e s m args below meth c A C ls hl hO
  have hl : lv_has ls 1 [(0, .ref (b 0))] := hl
  have iX3 : ∀ w ∈ u_ws RX3 TX3 19, w ∈ wsX3_endStorm := by decide +kernel
  have w44 : Cond.fieldLink RX3 44 "ParrotLogModel" "thrown" "I" ∈ wsX3_endStorm := by decide +kernel
  have w71 : Cond.fieldLink RX3 71 "ParrotLogModel" "isOn" "Z" ∈ wsX3_endStorm := by decide +kernel
  have w26 : Cond.fieldLink RX3 26 "ParrotLogModel" "said" "[I" ∈ wsX3_endStorm := by decide +kernel
  have w55 : Cond.fieldLink RX3 55 "ParrotLogModel" "storms" "I" ∈ wsX3_endStorm := by decide +kernel
  obtain ⟨hn, hsh, hsc, hOn, hOb, hok9, hpc9, hp0⟩ := hI
  refine lv_aload_n C.1 C.2.1 dX3_endStorm_0 rfl (lv_at hl 0 rfl) ?_
  refine lv_iconst (v := 0) C.1 C.2.1 dX3_endStorm_1 (by decide) ?_
  refine gPut (ws' := (mW E b S 0 mk ++ F)) (ref := RX3) (Cn := RX3) (T := TX3) (N := 19) C iX3 tyX3 tyX3_ok nmX3 hO 0 rfl rfl 0 (by decide) w44 (fun _ h9 => h9) rfl (by decide +kernel) rfl rfl (Nat.le_of_ble_eq_true rfl) rfl dX3_endStorm_2 (fun H locs hO => ?_)
  refine lv_aload_n C.1 C.2.1 dX3_endStorm_5 rfl (lv_at hl 0 rfl) ?_
  refine gGet (v := .int (s_on S)) (ref := RX3) (Cn := RX3) (T := TX3) (N := 19) C iX3 hO 0 rfl rfl 11 (by decide) w71 (fun _ h9 => h9) rfl dX3_endStorm_6 ?_
  refine lv_if_ne (tgt := 18) C.1 C.2.1 dX3_endStorm_9 (by decide) (fun c_1 => ?_) (fun c_1 => ?_)
  · have h1s := hOn hok
    refine lv_aload_n C.1 C.2.1 dX3_endStorm_18 rfl (lv_at hl 0 rfl) ?_
    refine lv_iconst (v := 0) C.1 C.2.1 dX3_endStorm_19 (by decide) ?_
    refine gPut (ws' := (mW E b (mkS (s_off S) (s_key S) (s_val S) (s_sto S) (s_n S) (s_nx S) (s_dr S) (s_hr S) (s_sc S) 0 (s_said S) (s_sh S) (s_pc S) (s_at S) (s_hd S) (s_ms S) (s_kn S)) 0 mk ++ F)) (ref := RX3) (Cn := RX3) (T := TX3) (N := 19) C iX3 tyX3 tyX3_ok nmX3 hO 0 rfl rfl 11 (by decide) w71 (fun _ h9 => h9) rfl (by decide +kernel) rfl rfl (Nat.le_of_ble_eq_true rfl) rfl dX3_endStorm_20 (fun H locs hO => ?_)
    refine lv_aload_n C.1 C.2.1 dX3_endStorm_23 rfl (lv_at hl 0 rfl) ?_
    refine gGet (v := .ref (b 6)) (ref := RX3) (Cn := RX3) (T := TX3) (N := 19) C iX3 hO 0 rfl rfl 12 (by decide) w26 (fun _ h9 => h9) rfl dX3_endStorm_24 ?_
    refine lv_aload_n C.1 C.2.1 dX3_endStorm_27 rfl (lv_at hl 0 rfl) ?_
    refine gGet (v := .int (nI (s_sc S))) (ref := RX3) (Cn := RX3) (T := TX3) (N := 19) C iX3 hO 0 rfl rfl 10 (by decide) w55 (fun _ h9 => h9) rfl dX3_endStorm_28 ?_
    refine lv_iconst (v := 1) C.1 C.2.1 dX3_endStorm_31 (by decide) ?_
    refine gSubN (x := (s_sc S)) (y := 1) C.1 C.2.1 h1s dX3_endStorm_32 ?_
    refine gIald (v := (s_said S) ((s_sc S) - 1)) (j := ((s_sc S) - 1)) C hO 6 rfl (by omega) (by decide) rfl dX3_endStorm_33 ?_
    exact gRi C hO rfl rfl dX3_endStorm_34 (Nat.le_of_ble_eq_true rfl) (Nat.le_of_ble_eq_true rfl)
  · exact absurd c_1 hok

set_option maxHeartbeats 4000000 in
set_option maxRecDepth 100000 in
theorem c_X3_endStorm_no (l : Launch) (E : gE) (b : Nat → Nat) (S : St) (th : Int32) (mk : Nat → Int32) (F : va_W)  (hI : s_inv S) (hsr : s_srt S) (hok : s_on S = 0) : gMi l E yX3_endStorm wsX3_endStorm ({ frames := 1, cells := 0, slots := 0, locals := 21 }) (mW E b S th mk ++ F) [.ref (b 0)] 0 (mW E b S 1 mk ++ F) 0 0 := by
  refine gMi.of (cc := cX3_endStorm) (maxL := 1) (ty := .int) (by decide) rfl (Nat.le_of_ble_eq_true rfl) ?_
  intro p e s m args below meth c A C ls hl hO
  have hl : lv_has ls 1 [(0, .ref (b 0))] := hl
  have iX3 : ∀ w ∈ u_ws RX3 TX3 19, w ∈ wsX3_endStorm := by decide +kernel
  have w44 : Cond.fieldLink RX3 44 "ParrotLogModel" "thrown" "I" ∈ wsX3_endStorm := by decide +kernel
  have w71 : Cond.fieldLink RX3 71 "ParrotLogModel" "isOn" "Z" ∈ wsX3_endStorm := by decide +kernel
  obtain ⟨hn, hsh, hsc, hOn, hOb, hok9, hpc9, hp0⟩ := hI
  refine lv_aload_n C.1 C.2.1 dX3_endStorm_0 rfl (lv_at hl 0 rfl) ?_
  refine lv_iconst (v := 0) C.1 C.2.1 dX3_endStorm_1 (by decide) ?_
  refine gPut (ws' := (mW E b S 0 mk ++ F)) (ref := RX3) (Cn := RX3) (T := TX3) (N := 19) C iX3 tyX3 tyX3_ok nmX3 hO 0 rfl rfl 0 (by decide) w44 (fun _ h9 => h9) rfl (by decide +kernel) rfl rfl (Nat.le_of_ble_eq_true rfl) rfl dX3_endStorm_2 (fun H locs hO => ?_)
  refine lv_aload_n C.1 C.2.1 dX3_endStorm_5 rfl (lv_at hl 0 rfl) ?_
  refine gGet (v := .int (s_on S)) (ref := RX3) (Cn := RX3) (T := TX3) (N := 19) C iX3 hO 0 rfl rfl 11 (by decide) w71 (fun _ h9 => h9) rfl dX3_endStorm_6 ?_
  refine lv_if_ne (tgt := 18) C.1 C.2.1 dX3_endStorm_9 (by decide) (fun c_1 => ?_) (fun c_1 => ?_)
  · exact absurd hok c_1
  · refine lv_aload_n C.1 C.2.1 dX3_endStorm_12 rfl (lv_at hl 0 rfl) ?_
    refine lv_iconst (v := 1) C.1 C.2.1 dX3_endStorm_13 (by decide) ?_
    refine gCall_i (As := [.int 1]) (rest := []) C hO (c_X3_fail l E b S 0 mk F 1) (cwV 1 C.2.2.2.2.1 gX3_endStorm_X3_fail rfl rfl rfl (by decide +kernel) ⟨(Nat.le_of_ble_eq_true rfl), (Nat.le_of_ble_eq_true rfl)⟩) (va_recv C.2.2.2.2.2.2.2.1.1 hO.1 (ci := 3) (q0 := 0) rfl rfl) rfl hl.1 rfl (Nat.le_of_ble_eq_true rfl) dX3_endStorm_14 ⟨(Nat.le_of_ble_eq_true rfl), (Nat.le_of_ble_eq_true rfl)⟩ (fun H locs hO => ?_)
    have hO : gO E A s (mW E b S 1 mk ++ F) H locs := hO
    exact gRi C hO rfl rfl dX3_endStorm_17 (Nat.le_of_ble_eq_true rfl) (Nat.le_of_ble_eq_true rfl)

set_option maxHeartbeats 4000000 in
set_option maxRecDepth 100000 in
theorem c_X3_replay_ok (l : Launch) (E : gE) (b : Nat → Nat) (S : St) (th : Int32) (mk : Nat → Int32) (F : va_W) (x : Int32) (hI : s_inv S) (hsr : s_srt S) (hok : okStorm S x ∧ s_on S = 0) (hrs9 : ∀ i, i < cnt (s_sto S) x (s_n S) → s_srt (S_rp S (s_rk S x) (s_rv S x) i)) : gMi l E yX3_replay wsX3_replay ({ frames := 2, cells := 2, slots := 96, locals := 46 }) (mW E b S th mk ++ F) [.ref (b 0), .int x] (nI (cnt (s_sto S) x (s_n S))) (mW E b (S_rpl S x) 0 (mk_rpl S x mk) ++ F) 2 96 := by
  refine gMi.of (cc := cX3_replay) (maxL := 6) (ty := .int) (by decide) rfl (Nat.le_of_ble_eq_true rfl) ?_
  intro p e s m args below meth c A C ls hl hO
  have hl : lv_has ls 6 [(0, .ref (b 0)), (1, .int x)] := hl
  have iX3 : ∀ w ∈ u_ws RX3 TX3 19, w ∈ wsX3_replay := by decide +kernel
  have w44 : Cond.fieldLink RX3 44 "ParrotLogModel" "thrown" "I" ∈ wsX3_replay := by decide +kernel
  have w71 : Cond.fieldLink RX3 71 "ParrotLogModel" "isOn" "Z" ∈ wsX3_replay := by decide +kernel
  have w58 : Cond.fieldLink RX3 58 "ParrotLogModel" "many" "I" ∈ wsX3_replay := by decide +kernel
  have w19 : Cond.fieldLink RX3 19 "ParrotLogModel" "storm" "[I" ∈ wsX3_replay := by decide +kernel
  have w13 : Cond.fieldLink RX3 13 "ParrotLogModel" "key" "[I" ∈ wsX3_replay := by decide +kernel
  have w16 : Cond.fieldLink RX3 16 "ParrotLogModel" "value" "[I" ∈ wsX3_replay := by decide +kernel
  obtain ⟨hn, hsh, hsc, hOn, hOb, hok9, hpc9, hp0⟩ := hI
  refine lv_aload_n C.1 C.2.1 dX3_replay_0 rfl (lv_at hl 0 rfl) ?_
  refine lv_iconst (v := 0) C.1 C.2.1 dX3_replay_1 (by decide) ?_
  refine gPut (ws' := (mW E b S 0 mk ++ F)) (ref := RX3) (Cn := RX3) (T := TX3) (N := 19) C iX3 tyX3 tyX3_ok nmX3 hO 0 rfl rfl 0 (by decide) w44 (fun _ h9 => h9) rfl (by decide +kernel) rfl rfl (Nat.le_of_ble_eq_true rfl) rfl dX3_replay_2 (fun H locs hO => ?_)
  refine lv_aload_n C.1 C.2.1 dX3_replay_5 rfl (lv_at hl 0 rfl) ?_
  refine lv_iload_n C.1 C.2.1 dX3_replay_6 rfl (lv_at hl 1 rfl) ?_
  refine gCall_i (As := [.int x]) (rest := []) C hO (c_X3_isStorm l E b S 0 mk F x (by omega)) (cwV 1 C.2.2.2.2.1 gX3_replay_X3_isStorm rfl rfl rfl (by decide +kernel) ⟨(Nat.le_of_ble_eq_true rfl), (Nat.le_of_ble_eq_true rfl)⟩) (va_recv C.2.2.2.2.2.2.2.1.1 hO.1 (ci := 3) (q0 := 0) rfl rfl) rfl hl.1 rfl (Nat.le_of_ble_eq_true rfl) dX3_replay_7 ⟨(Nat.le_of_ble_eq_true rfl), (Nat.le_of_ble_eq_true rfl)⟩ (fun H locs hO => ?_)
  refine lv_if_ne (tgt := 19) C.1 C.2.1 dX3_replay_10 (by decide) (fun c_1 => ?_) (fun c_1 => ?_)
  · refine lv_aload_n C.1 C.2.1 dX3_replay_19 rfl (lv_at hl 0 rfl) ?_
    refine gGet (v := .int (s_on S)) (ref := RX3) (Cn := RX3) (T := TX3) (N := 19) C iX3 hO 0 rfl rfl 11 (by decide) w71 (fun _ h9 => h9) rfl dX3_replay_20 ?_
    refine lv_if_eq (tgt := 32) C.1 C.2.1 dX3_replay_23 (by decide) (fun c_2 => ?_) (fun c_2 => ?_)
    · refine lv_bipush (v := nI 48) C.1 C.2.1 dX3_replay_32 (by decide) ?_
      refine gNewI (N9 := 48) C (C.2.2.2.2.1 (.arrayClass .int) (by decide +kernel)) hO (by decide) (Nat.le_of_ble_eq_true rfl) (Nat.le_of_ble_eq_true rfl) dX3_replay_34 (fun q_rk H hO => ?_)
      refine lv_astore_n (lv' := [(2, .ref q_rk), (0, .ref (b 0)), (1, .int x)]) C.1 C.2.1 dX3_replay_36 rfl hl (by decide) rfl (fun ls hl => ?_)
      refine lv_bipush (v := nI 48) C.1 C.2.1 dX3_replay_37 (by decide) ?_
      refine gNewI (N9 := 48) C (C.2.2.2.2.1 (.arrayClass .int) (by decide +kernel)) hO (by decide) (Nat.le_of_ble_eq_true rfl) (Nat.le_of_ble_eq_true rfl) dX3_replay_39 (fun q_rv H hO => ?_)
      refine lv_astore_n (lv' := [(3, .ref q_rv), (2, .ref q_rk), (0, .ref (b 0)), (1, .int x)]) C.1 C.2.1 dX3_replay_41 rfl hl (by decide) rfl (fun ls hl => ?_)
      refine lv_iconst (v := 0) C.1 C.2.1 dX3_replay_42 (by decide) ?_
      refine lv_istore (lv' := [(4, .int 0), (3, .ref q_rv), (2, .ref q_rk), (0, .ref (b 0)), (1, .int x)]) C.1 C.2.1 dX3_replay_43 hl (by decide) rfl (fun ls hl => ?_)
      refine lv_iconst (v := 0) C.1 C.2.1 dX3_replay_45 (by decide) ?_
      refine lv_istore (lv' := [(5, .int 0), (4, .int 0), (3, .ref q_rv), (2, .ref q_rk), (0, .ref (b 0)), (1, .int x)]) C.1 C.2.1 dX3_replay_46 hl (by decide) rfl (fun ls hl => ?_)
      have lp24 : ∀ (f : Nat) (k24 : Nat), (s_n S + 1 ≤ k24 + f) → (k24 ≤ s_n S) → ∀ (H : Heap) (locs : List Loc), gO E A s (mW E b S 0 mk ++ ((q_rv, .inl (eI E, 48, .inl (flF (s_val S) (s_sto S) x (fun _ => 0) (k24)))) :: (q_rk, .inl (eI E, 48, .inl (flF (s_key S) (s_sto S) x (fun _ => 0) (k24)))) :: F)) H locs → ∀ ls : Array Slot, lv_has ls 6 [(0, .ref (b 0)), (1, .int x), (2, .ref q_rk), (3, .ref q_rv), (4, .int (nI (cnt (s_sto S) x k24))), (5, .int (nI k24))] → W p l e ({ frames := 2, cells := 2, slots := 96, locals := 46 } : Room) s m args below meth c H locs 2 96 (MQ below (gQi E A (nI (cnt (s_sto S) x (s_n S))) (mW E b (S_rpl S x) 0 (mk_rpl S x mk) ++ F)) args s 2 96 A) (F0 m 48 ls []) := by
        intro f
        induction f with
        | zero =>
          intro k24 hf hk24
          exact absurd hf (by omega)
        | succ f ih_lp24 =>
          intro k24 hf hk24 H locs hO ls hl
          refine lv_iload C.1 C.2.1 dX3_replay_48 (lv_at hl 5 rfl) ?_
          refine lv_aload_n C.1 C.2.1 dX3_replay_50 rfl (lv_at hl 0 rfl) ?_
          refine gGet (v := .int (nI (s_n S))) (ref := RX3) (Cn := RX3) (T := TX3) (N := 19) C iX3 hO 0 rfl rfl 1 (by decide) w58 (fun _ h9 => h9) rfl dX3_replay_51 ?_
          refine gGeN (x := k24) (y := (s_n S)) (tgt := 102) C.1 C.2.1 (by omega) (by omega) dX3_replay_54 (by decide) (fun c_5 => ?_) (fun c_5 => ?_)
          · have hk9 : k24 = s_n S := by omega
            rw [hk9] at hO hl
            have hl := lv_sub hl [0, 2, 3, 4] rfl
            have hl : lv_has ls 6 [(0, .ref (b 0)), (2, .ref q_rk), (3, .ref q_rv), (4, .int (nI (cnt (s_sto S) x (s_n S))))] := hl
            have hct9 := cnt_le (s_sto S) x (s_n S)
            refine lv_iconst (v := 0) C.1 C.2.1 dX3_replay_102 (by decide) ?_
            refine lv_istore (lv' := [(5, .int 0), (0, .ref (b 0)), (2, .ref q_rk), (3, .ref q_rv), (4, .int (nI (cnt (s_sto S) x (s_n S))))]) C.1 C.2.1 dX3_replay_103 hl (by decide) rfl (fun ls hl => ?_)
            have lp25 : ∀ (f : Nat) (j24 : Nat), (cnt (s_sto S) x (s_n S) + 1 ≤ j24 + f) → (j24 ≤ cnt (s_sto S) x (s_n S)) → ∀ (H : Heap) (locs : List Loc), gO E A s (mW E b (S_rp S (s_rk S x) (s_rv S x) (j24)) 0 (mk_rp S (s_rk S x) (s_rv S x) mk (j24)) ++ ((q_rv, .inl (eI E, 48, .inl (s_rv S x))) :: (q_rk, .inl (eI E, 48, .inl (s_rk S x))) :: F)) H locs → ∀ ls : Array Slot, lv_has ls 6 [(0, .ref (b 0)), (2, .ref q_rk), (3, .ref q_rv), (4, .int (nI (cnt (s_sto S) x (s_n S)))), (5, .int (nI j24))] → W p l e ({ frames := 2, cells := 2, slots := 96, locals := 46 } : Room) s m args below meth c H locs 2 96 (MQ below (gQi E A (nI (cnt (s_sto S) x (s_n S))) (mW E b (S_rpl S x) 0 (mk_rpl S x mk) ++ F)) args s 2 96 A) (F0 m 105 ls []) := by
              intro f
              induction f with
              | zero =>
                intro j24 hf hj24
                exact absurd hf (by omega)
              | succ f ih_lp25 =>
                intro j24 hf hj24 H locs hO ls hl
                refine lv_iload C.1 C.2.1 dX3_replay_105 (lv_at hl 4 rfl) ?_
                refine lv_iload C.1 C.2.1 dX3_replay_107 (lv_at hl 3 rfl) ?_
                refine gGeN (x := j24) (y := (cnt (s_sto S) x (s_n S))) (tgt := 130) C.1 C.2.1 (by omega) (by omega) dX3_replay_109 (by decide) (fun c_6 => ?_) (fun c_6 => ?_)
                · have hke9 : j24 = cnt (s_sto S) x (s_n S) := by omega
                  refine lv_iload C.1 C.2.1 dX3_replay_130 (lv_at hl 3 rfl) ?_
                  exact gRi C (gO.drop (W0 := mW E b (S_rpl S x) 0 (mk_rpl S x mk)) (gO.drop (W0 := mW E b (S_rpl S x) 0 (mk_rpl S x mk)) (by rw [hke9] at hO; exact hO))) rfl rfl dX3_replay_132 (Nat.le_of_ble_eq_true rfl) (Nat.le_of_ble_eq_true rfl)
                · obtain ⟨hs1, hs2, hs3, hs4, hs5⟩ := S_rp_keep S hn (s_rk S x) (s_rv S x) j24
                  refine lv_aload_n C.1 C.2.1 dX3_replay_112 rfl (lv_at hl 0 rfl) ?_
                  refine lv_aload_n C.1 C.2.1 dX3_replay_113 rfl (lv_at hl 1 rfl) ?_
                  refine lv_iload C.1 C.2.1 dX3_replay_114 (lv_at hl 4 rfl) ?_
                  refine gIald (v := (s_rk S x) j24) (j := j24) C hO 13 rfl (by omega) (by decide) rfl dX3_replay_116 ?_
                  refine lv_aload_n C.1 C.2.1 dX3_replay_117 rfl (lv_at hl 2 rfl) ?_
                  refine lv_iload C.1 C.2.1 dX3_replay_118 (lv_at hl 4 rfl) ?_
                  refine gIald (v := (s_rv S x) j24) (j := j24) C hO 12 rfl (by omega) (by decide) rfl dX3_replay_120 ?_
                  refine gCall_v (As := [.int ((s_rk S x) j24), .int ((s_rv S x) j24)]) (rest := []) C hO (c_X3_put l E b (S_rp S (s_rk S x) (s_rv S x) (j24)) 0 (mk_rp S (s_rk S x) (s_rv S x) mk (j24)) ((q_rv, .inl (eI E, 48, .inl (s_rv S x))) :: (q_rk, .inl (eI E, 48, .inl (s_rk S x))) :: F) ((s_rk S x) j24) ((s_rv S x) j24) (by omega) (by omega) (by omega) (by rw [hs2, hs1]; exact hOn) (hrs9 j24 (by omega))) (cwV 2 C.2.2.2.2.1 gX3_replay_X3_put rfl rfl rfl (by decide +kernel) ⟨(Nat.le_of_ble_eq_true rfl), (Nat.le_of_ble_eq_true rfl)⟩) (va_recv C.2.2.2.2.2.2.2.1.1 hO.1 (ci := 3) (q0 := 0) rfl rfl) rfl hl.1 rfl (Nat.le_of_ble_eq_true rfl) dX3_replay_121 ⟨(Nat.le_of_ble_eq_true rfl), (Nat.le_of_ble_eq_true rfl)⟩ (fun H locs hO => ?_)
                  have hO : gO E A s (mW E b (S_spk (S_rp S (s_rk S x) (s_rv S x) (j24)) ((s_rk S x) j24) ((s_rv S x) j24)) 0 (mk_spk (S_rp S (s_rk S x) (s_rv S x) (j24)) (mk_rp S (s_rk S x) (s_rv S x) mk (j24))) ++ ((q_rv, .inl (eI E, 48, .inl (s_rv S x))) :: (q_rk, .inl (eI E, 48, .inl (s_rk S x))) :: F)) H locs := hO
                  refine gInc (j := j24) (k := 4) (lv' := [(5, .int (nI (j24 + 1))), (0, .ref (b 0)), (2, .ref q_rk), (3, .ref q_rv), (4, .int (nI (cnt (s_sto S) x (s_n S))))]) C.1 C.2.1 dX3_replay_124 hl rfl (by decide) rfl (fun ls hl => ?_)
                  refine lv_goto (tgt := 105) C.1 C.2.1 dX3_replay_127 (by decide) ?_
                  refine W.widen (k := 2) (n := 96) (by omega) (by omega) ?_
                  exact ih_lp25 (j24 + 1) (by omega) (by omega) _ _ hO _ (lv_sub hl [1, 2, 3, 4, 0] rfl)
            exact lp25 (cnt (s_sto S) x (s_n S) + 1) 0 (by omega) (Nat.zero_le _) _ _ hO _ (lv_sub hl [1, 2, 3, 4, 0] rfl)
          · have hle := cnt_le (s_sto S) x k24
            refine lv_aload_n C.1 C.2.1 dX3_replay_57 rfl (lv_at hl 0 rfl) ?_
            refine gGet (v := .ref (b 4)) (ref := RX3) (Cn := RX3) (T := TX3) (N := 19) C iX3 hO 0 rfl rfl 5 (by decide) w19 (fun _ h9 => h9) rfl dX3_replay_58 ?_
            refine lv_iload C.1 C.2.1 dX3_replay_61 (lv_at hl 5 rfl) ?_
            refine gIald (v := (s_sto S) k24) (j := k24) C hO 4 rfl (by omega) (by decide) rfl dX3_replay_63 ?_
            refine lv_iload_n C.1 C.2.1 dX3_replay_64 rfl (lv_at hl 1 rfl) ?_
            refine lv_icmp_eq (tgt := 71) C.1 C.2.1 dX3_replay_65 (by decide) (fun c_7 => ?_) (fun c_7 => ?_)
            · have hz : s_sto S k24 = x := c_7
              refine lv_aload_n C.1 C.2.1 dX3_replay_71 rfl (lv_at hl 2 rfl) ?_
              refine lv_iload C.1 C.2.1 dX3_replay_72 (lv_at hl 4 rfl) ?_
              refine lv_aload_n C.1 C.2.1 dX3_replay_74 rfl (lv_at hl 0 rfl) ?_
              refine gGet (v := .ref (b 2)) (ref := RX3) (Cn := RX3) (T := TX3) (N := 19) C iX3 hO 0 rfl rfl 3 (by decide) w13 (fun _ h9 => h9) rfl dX3_replay_75 ?_
              refine lv_iload C.1 C.2.1 dX3_replay_78 (lv_at hl 5 rfl) ?_
              refine gIald (v := (s_key S) k24) (j := k24) C hO 2 rfl (by omega) (by decide) rfl dX3_replay_80 ?_
              refine gIast (j := (cnt (s_sto S) x k24)) (ws' := (mW E b S 0 mk ++ ((q_rv, .inl (eI E, 48, .inl (flF (s_val S) (s_sto S) x (fun _ => 0) (k24)))) :: (q_rk, .inl (eI E, 48, .inl (upd (flF (s_key S) (s_sto S) x (fun _ => 0) (k24)) (cnt (s_sto S) x k24) ((s_key S) k24)))) :: F))) C hO 13 rfl (by omega) (by decide) rfl dX3_replay_81 (fun H locs hO => ?_)
              refine lv_aload_n C.1 C.2.1 dX3_replay_82 rfl (lv_at hl 3 rfl) ?_
              refine lv_iload C.1 C.2.1 dX3_replay_83 (lv_at hl 4 rfl) ?_
              refine lv_aload_n C.1 C.2.1 dX3_replay_85 rfl (lv_at hl 0 rfl) ?_
              refine gGet (v := .ref (b 3)) (ref := RX3) (Cn := RX3) (T := TX3) (N := 19) C iX3 hO 0 rfl rfl 4 (by decide) w16 (fun _ h9 => h9) rfl dX3_replay_86 ?_
              refine lv_iload C.1 C.2.1 dX3_replay_89 (lv_at hl 5 rfl) ?_
              refine gIald (v := (s_val S) k24) (j := k24) C hO 3 rfl (by omega) (by decide) rfl dX3_replay_91 ?_
              refine gIast (j := (cnt (s_sto S) x k24)) (ws' := (mW E b S 0 mk ++ ((q_rv, .inl (eI E, 48, .inl (upd (flF (s_val S) (s_sto S) x (fun _ => 0) (k24)) (cnt (s_sto S) x k24) ((s_val S) k24)))) :: (q_rk, .inl (eI E, 48, .inl (upd (flF (s_key S) (s_sto S) x (fun _ => 0) (k24)) (cnt (s_sto S) x k24) ((s_key S) k24)))) :: F))) C hO 12 rfl (by omega) (by decide) rfl dX3_replay_92 (fun H locs hO => ?_)
              refine gInc (j := (cnt (s_sto S) x k24)) (k := 4) (lv' := [(4, .int (nI ((cnt (s_sto S) x k24) + 1))), (0, .ref (b 0)), (1, .int x), (2, .ref q_rk), (3, .ref q_rv), (5, .int (nI k24))]) C.1 C.2.1 dX3_replay_93 hl rfl (by decide) rfl (fun ls hl => ?_)
              have hO : gO E A s (mW E b S 0 mk ++ ((q_rv, .inl (eI E, 48, .inl (flF (s_val S) (s_sto S) x (fun _ => 0) (k24 + 1)))) :: (q_rk, .inl (eI E, 48, .inl (flF (s_key S) (s_sto S) x (fun _ => 0) (k24 + 1)))) :: F)) H locs := by rw [fl_s1 hz, fl_s1 hz]; exact hO
              have hl : lv_has ls 6 [(4, .int (nI (cnt (s_sto S) x (k24 + 1)))), (0, .ref (b 0)), (1, .int x), (2, .ref q_rk), (3, .ref q_rv), (5, .int (nI k24))] := by rw [cnt_s1 hz]; exact hl
              refine gInc (j := k24) (k := 5) (lv' := [(5, .int (nI (k24 + 1))), (4, .int (nI (cnt (s_sto S) x (k24 + 1)))), (0, .ref (b 0)), (1, .int x), (2, .ref q_rk), (3, .ref q_rv)]) C.1 C.2.1 dX3_replay_96 hl rfl (by decide) rfl (fun ls hl => ?_)
              refine lv_goto (tgt := 48) C.1 C.2.1 dX3_replay_99 (by decide) ?_
              exact ih_lp24 (k24 + 1) (by omega) (by omega) _ _ hO _ (lv_sub hl [2, 3, 4, 5, 1, 0] rfl)
            · have hz : ¬ s_sto S k24 = x := c_7
              refine lv_goto (tgt := 96) C.1 C.2.1 dX3_replay_68 (by decide) ?_
              have hO : gO E A s (mW E b S 0 mk ++ ((q_rv, .inl (eI E, 48, .inl (flF (s_val S) (s_sto S) x (fun _ => 0) (k24 + 1)))) :: (q_rk, .inl (eI E, 48, .inl (flF (s_key S) (s_sto S) x (fun _ => 0) (k24 + 1)))) :: F)) H locs := by rw [fl_s0 hz, fl_s0 hz]; exact hO
              have hl : lv_has ls 6 [(0, .ref (b 0)), (1, .int x), (2, .ref q_rk), (3, .ref q_rv), (4, .int (nI (cnt (s_sto S) x (k24 + 1)))), (5, .int (nI k24))] := by rw [cnt_s0 hz]; exact hl
              refine gInc (j := k24) (k := 5) (lv' := [(5, .int (nI (k24 + 1))), (0, .ref (b 0)), (1, .int x), (2, .ref q_rk), (3, .ref q_rv), (4, .int (nI (cnt (s_sto S) x (k24 + 1))))]) C.1 C.2.1 dX3_replay_96 hl rfl (by decide) rfl (fun ls hl => ?_)
              refine lv_goto (tgt := 48) C.1 C.2.1 dX3_replay_99 (by decide) ?_
              exact ih_lp24 (k24 + 1) (by omega) (by omega) _ _ hO _ (lv_sub hl [1, 2, 3, 4, 5, 0] rfl)
      refine W.widen (k := 2) (n := 96) (by omega) (by omega) ?_
      exact lp24 (s_n S + 1) 0 (by omega) (Nat.zero_le _) _ _ hO _ (lv_sub hl [4, 5, 3, 2, 1, 0] rfl)
    · exact absurd hok.2 c_2
  · exact absurd hok.1 (bF c_1)

set_option maxHeartbeats 4000000 in
set_option maxRecDepth 100000 in
theorem c_X3_replay_no (l : Launch) (E : gE) (b : Nat → Nat) (S : St) (th : Int32) (mk : Nat → Int32) (F : va_W) (x : Int32) (hI : s_inv S) (hsr : s_srt S) (hok : ¬ okStorm S x) : gMi l E yX3_replay wsX3_replay ({ frames := 2, cells := 0, slots := 0, locals := 43 }) (mW E b S th mk ++ F) [.ref (b 0), .int x] 0 (mW E b S 1 mk ++ F) 0 0 := by
  refine gMi.of (cc := cX3_replay) (maxL := 6) (ty := .int) (by decide) rfl (Nat.le_of_ble_eq_true rfl) ?_
  intro p e s m args below meth c A C ls hl hO
  have hl : lv_has ls 6 [(0, .ref (b 0)), (1, .int x)] := hl
  have iX3 : ∀ w ∈ u_ws RX3 TX3 19, w ∈ wsX3_replay := by decide +kernel
  have w44 : Cond.fieldLink RX3 44 "ParrotLogModel" "thrown" "I" ∈ wsX3_replay := by decide +kernel
  obtain ⟨hn, hsh, hsc, hOn, hOb, hok9, hpc9, hp0⟩ := hI
  refine lv_aload_n C.1 C.2.1 dX3_replay_0 rfl (lv_at hl 0 rfl) ?_
  refine lv_iconst (v := 0) C.1 C.2.1 dX3_replay_1 (by decide) ?_
  refine gPut (ws' := (mW E b S 0 mk ++ F)) (ref := RX3) (Cn := RX3) (T := TX3) (N := 19) C iX3 tyX3 tyX3_ok nmX3 hO 0 rfl rfl 0 (by decide) w44 (fun _ h9 => h9) rfl (by decide +kernel) rfl rfl (Nat.le_of_ble_eq_true rfl) rfl dX3_replay_2 (fun H locs hO => ?_)
  refine lv_aload_n C.1 C.2.1 dX3_replay_5 rfl (lv_at hl 0 rfl) ?_
  refine lv_iload_n C.1 C.2.1 dX3_replay_6 rfl (lv_at hl 1 rfl) ?_
  refine gCall_i (As := [.int x]) (rest := []) C hO (c_X3_isStorm l E b S 0 mk F x (by omega)) (cwV 1 C.2.2.2.2.1 gX3_replay_X3_isStorm rfl rfl rfl (by decide +kernel) ⟨(Nat.le_of_ble_eq_true rfl), (Nat.le_of_ble_eq_true rfl)⟩) (va_recv C.2.2.2.2.2.2.2.1.1 hO.1 (ci := 3) (q0 := 0) rfl rfl) rfl hl.1 rfl (Nat.le_of_ble_eq_true rfl) dX3_replay_7 ⟨(Nat.le_of_ble_eq_true rfl), (Nat.le_of_ble_eq_true rfl)⟩ (fun H locs hO => ?_)
  refine lv_if_ne (tgt := 19) C.1 C.2.1 dX3_replay_10 (by decide) (fun c_1 => ?_) (fun c_1 => ?_)
  · exact absurd (bT c_1) hok
  · refine lv_aload_n C.1 C.2.1 dX3_replay_13 rfl (lv_at hl 0 rfl) ?_
    refine lv_iconst (v := 1) C.1 C.2.1 dX3_replay_14 (by decide) ?_
    refine gCall_i (As := [.int 1]) (rest := []) C hO (c_X3_fail l E b S 0 mk F 1) (cwV 1 C.2.2.2.2.1 gX3_replay_X3_fail rfl rfl rfl (by decide +kernel) ⟨(Nat.le_of_ble_eq_true rfl), (Nat.le_of_ble_eq_true rfl)⟩) (va_recv C.2.2.2.2.2.2.2.1.1 hO.1 (ci := 3) (q0 := 0) rfl rfl) rfl hl.1 rfl (Nat.le_of_ble_eq_true rfl) dX3_replay_15 ⟨(Nat.le_of_ble_eq_true rfl), (Nat.le_of_ble_eq_true rfl)⟩ (fun H locs hO => ?_)
    have hO : gO E A s (mW E b S 1 mk ++ F) H locs := hO
    exact gRi C hO rfl rfl dX3_replay_18 (Nat.le_of_ble_eq_true rfl) (Nat.le_of_ble_eq_true rfl)

set_option maxHeartbeats 4000000 in
set_option maxRecDepth 100000 in
theorem c_X3_replay_no2 (l : Launch) (E : gE) (b : Nat → Nat) (S : St) (th : Int32) (mk : Nat → Int32) (F : va_W) (x : Int32) (hI : s_inv S) (hsr : s_srt S) (hok : okStorm S x ∧ ¬ s_on S = 0) : gMi l E yX3_replay wsX3_replay ({ frames := 2, cells := 0, slots := 0, locals := 43 }) (mW E b S th mk ++ F) [.ref (b 0), .int x] 0 (mW E b S 2 mk ++ F) 0 0 := by
  refine gMi.of (cc := cX3_replay) (maxL := 6) (ty := .int) (by decide) rfl (Nat.le_of_ble_eq_true rfl) ?_
  intro p e s m args below meth c A C ls hl hO
  have hl : lv_has ls 6 [(0, .ref (b 0)), (1, .int x)] := hl
  have iX3 : ∀ w ∈ u_ws RX3 TX3 19, w ∈ wsX3_replay := by decide +kernel
  have w44 : Cond.fieldLink RX3 44 "ParrotLogModel" "thrown" "I" ∈ wsX3_replay := by decide +kernel
  have w71 : Cond.fieldLink RX3 71 "ParrotLogModel" "isOn" "Z" ∈ wsX3_replay := by decide +kernel
  obtain ⟨hn, hsh, hsc, hOn, hOb, hok9, hpc9, hp0⟩ := hI
  refine lv_aload_n C.1 C.2.1 dX3_replay_0 rfl (lv_at hl 0 rfl) ?_
  refine lv_iconst (v := 0) C.1 C.2.1 dX3_replay_1 (by decide) ?_
  refine gPut (ws' := (mW E b S 0 mk ++ F)) (ref := RX3) (Cn := RX3) (T := TX3) (N := 19) C iX3 tyX3 tyX3_ok nmX3 hO 0 rfl rfl 0 (by decide) w44 (fun _ h9 => h9) rfl (by decide +kernel) rfl rfl (Nat.le_of_ble_eq_true rfl) rfl dX3_replay_2 (fun H locs hO => ?_)
  refine lv_aload_n C.1 C.2.1 dX3_replay_5 rfl (lv_at hl 0 rfl) ?_
  refine lv_iload_n C.1 C.2.1 dX3_replay_6 rfl (lv_at hl 1 rfl) ?_
  refine gCall_i (As := [.int x]) (rest := []) C hO (c_X3_isStorm l E b S 0 mk F x (by omega)) (cwV 1 C.2.2.2.2.1 gX3_replay_X3_isStorm rfl rfl rfl (by decide +kernel) ⟨(Nat.le_of_ble_eq_true rfl), (Nat.le_of_ble_eq_true rfl)⟩) (va_recv C.2.2.2.2.2.2.2.1.1 hO.1 (ci := 3) (q0 := 0) rfl rfl) rfl hl.1 rfl (Nat.le_of_ble_eq_true rfl) dX3_replay_7 ⟨(Nat.le_of_ble_eq_true rfl), (Nat.le_of_ble_eq_true rfl)⟩ (fun H locs hO => ?_)
  refine lv_if_ne (tgt := 19) C.1 C.2.1 dX3_replay_10 (by decide) (fun c_1 => ?_) (fun c_1 => ?_)
  · refine lv_aload_n C.1 C.2.1 dX3_replay_19 rfl (lv_at hl 0 rfl) ?_
    refine gGet (v := .int (s_on S)) (ref := RX3) (Cn := RX3) (T := TX3) (N := 19) C iX3 hO 0 rfl rfl 11 (by decide) w71 (fun _ h9 => h9) rfl dX3_replay_20 ?_
    refine lv_if_eq (tgt := 32) C.1 C.2.1 dX3_replay_23 (by decide) (fun c_2 => ?_) (fun c_2 => ?_)
    · exact absurd c_2 hok.2
    · refine lv_aload_n C.1 C.2.1 dX3_replay_26 rfl (lv_at hl 0 rfl) ?_
      refine lv_iconst (v := nI 2) C.1 C.2.1 dX3_replay_27 (by decide) ?_
      refine gCall_i (As := [.int (nI 2)]) (rest := []) C hO (c_X3_fail l E b S 0 mk F (nI 2)) (cwV 1 C.2.2.2.2.1 gX3_replay_X3_fail rfl rfl rfl (by decide +kernel) ⟨(Nat.le_of_ble_eq_true rfl), (Nat.le_of_ble_eq_true rfl)⟩) (va_recv C.2.2.2.2.2.2.2.1.1 hO.1 (ci := 3) (q0 := 0) rfl rfl) rfl hl.1 rfl (Nat.le_of_ble_eq_true rfl) dX3_replay_28 ⟨(Nat.le_of_ble_eq_true rfl), (Nat.le_of_ble_eq_true rfl)⟩ (fun H locs hO => ?_)
      have hO : gO E A s (mW E b S (nI 2) mk ++ F) H locs := hO
      exact gRi C hO rfl rfl dX3_replay_31 (Nat.le_of_ble_eq_true rfl) (Nat.le_of_ble_eq_true rfl)
  · exact absurd hok.1 (bF c_1)

set_option maxHeartbeats 4000000 in
set_option maxRecDepth 100000 in
theorem c_X3_compact (l : Launch) (E : gE) (b : Nat → Nat) (S : St) (th : Int32) (mk : Nat → Int32) (F : va_W)  (hI : s_inv S) (hsr : s_srt S) : gMi l E yX3_compact wsX3_compact ({ frames := 2, cells := 1, slots := 10, locals := 37 }) (mW E b S th mk ++ F) [.ref (b 0)] (nI (s_n S - cpN (s_cm S) (s_n S))) (mW E b (S_drop S (s_cm S)) 0 (mkU (s_cm S) mk (s_n S)) ++ F) 1 10 := by
  refine gMi.of (cc := cX3_compact) (maxL := 1) (ty := .int) (by decide) rfl (Nat.le_of_ble_eq_true rfl) ?_
  intro p e s m args below meth c A C ls hl hO
  have hl : lv_has ls 1 [(0, .ref (b 0))] := hl
  have iX3 : ∀ w ∈ u_ws RX3 TX3 19, w ∈ wsX3_compact := by decide +kernel
  have w44 : Cond.fieldLink RX3 44 "ParrotLogModel" "thrown" "I" ∈ wsX3_compact := by decide +kernel
  obtain ⟨hn, hsh, hsc, hOn, hOb, hok9, hpc9, hp0⟩ := hI
  refine lv_aload_n C.1 C.2.1 dX3_compact_0 rfl (lv_at hl 0 rfl) ?_
  refine lv_iconst (v := 0) C.1 C.2.1 dX3_compact_1 (by decide) ?_
  refine gPut (ws' := (mW E b S 0 mk ++ F)) (ref := RX3) (Cn := RX3) (T := TX3) (N := 19) C iX3 tyX3 tyX3_ok nmX3 hO 0 rfl rfl 0 (by decide) w44 (fun _ h9 => h9) rfl (by decide +kernel) rfl rfl (Nat.le_of_ble_eq_true rfl) rfl dX3_compact_2 (fun H locs hO => ?_)
  refine lv_aload_n C.1 C.2.1 dX3_compact_5 rfl (lv_at hl 0 rfl) ?_
  refine gCall_i (As := []) (rest := []) C hO (c_X3_mark l E b S 0 mk F (by omega) (by omega) hok9) (cwV 0 C.2.2.2.2.1 gX3_compact_X3_mark rfl rfl rfl (by decide +kernel) ⟨(Nat.le_of_ble_eq_true rfl), (Nat.le_of_ble_eq_true rfl)⟩) (va_recv C.2.2.2.2.2.2.2.1.1 hO.1 (ci := 3) (q0 := 0) rfl rfl) rfl hl.1 rfl (Nat.le_of_ble_eq_true rfl) dX3_compact_6 ⟨(Nat.le_of_ble_eq_true rfl), (Nat.le_of_ble_eq_true rfl)⟩ (fun H locs hO => ?_)
  have hO : gO E A s (mW E b S 0 (mkU (s_cm S) mk (s_n S)) ++ F) H locs := hO
  refine lv_pop C.1 C.2.1 dX3_compact_9 rfl ?_
  refine lv_aload_n C.1 C.2.1 dX3_compact_10 rfl (lv_at hl 0 rfl) ?_
  refine gCall_i (As := []) (rest := []) C hO (c_X3_drop l E b S 0 (mkU (s_cm S) mk (s_n S)) F (by omega) (by omega) hsr) (cwV 0 C.2.2.2.2.1 gX3_compact_X3_drop rfl rfl rfl (by decide +kernel) ⟨(Nat.le_of_ble_eq_true rfl), (Nat.le_of_ble_eq_true rfl)⟩) (va_recv C.2.2.2.2.2.2.2.1.1 hO.1 (ci := 3) (q0 := 0) rfl rfl) rfl hl.1 rfl (Nat.le_of_ble_eq_true rfl) dX3_compact_11 ⟨(Nat.le_of_ble_eq_true rfl), (Nat.le_of_ble_eq_true rfl)⟩ (fun H locs hO => ?_)
  have hO : gO E A s (mW E b (S_drop S (mkU (s_cm S) mk (s_n S))) 0 (mkU (s_cm S) mk (s_n S)) ++ F) H locs := hO
  exact gRi C (by rw [← S_drop_mkU S (s_cm S) mk]; exact hO) rfl (by rw [cpN_mkU]) dX3_compact_14 (Nat.le_of_ble_eq_true rfl) (Nat.le_of_ble_eq_true rfl)

set_option maxHeartbeats 4000000 in
set_option maxRecDepth 100000 in
theorem c_X3_trimTo_ok (l : Launch) (E : gE) (b : Nat → Nat) (S : St) (th : Int32) (mk : Nat → Int32) (F : va_W) (o : Int32) (hI : s_inv S) (hsr : s_srt S) (hok : okOff S o) : gMi l E yX3_trimTo wsX3_trimTo ({ frames := 1, cells := 0, slots := 0, locals := 23 }) (mW E b S th mk ++ F) [.ref (b 0), .int o] (nI (s_n S - cpN (gAhead (s_off S) o) (s_n S))) (mW E b (S_drop S (gAhead (s_off S) o)) 0 (mkU (gAhead (s_off S) o) mk (s_n S)) ++ F) 0 0 := by
  refine gMi.of (cc := cX3_trimTo) (maxL := 3) (ty := .int) (by decide) rfl (Nat.le_of_ble_eq_true rfl) ?_
  intro p e s m args below meth c A C ls hl hO
  have hl : lv_has ls 3 [(0, .ref (b 0)), (1, .int o)] := hl
  have iX3 : ∀ w ∈ u_ws RX3 TX3 19, w ∈ wsX3_trimTo := by decide +kernel
  have w44 : Cond.fieldLink RX3 44 "ParrotLogModel" "thrown" "I" ∈ wsX3_trimTo := by decide +kernel
  have w68 : Cond.fieldLink RX3 68 "ParrotLogModel" "next" "I" ∈ wsX3_trimTo := by decide +kernel
  have w58 : Cond.fieldLink RX3 58 "ParrotLogModel" "many" "I" ∈ wsX3_trimTo := by decide +kernel
  have w22 : Cond.fieldLink RX3 22 "ParrotLogModel" "goes" "[Z" ∈ wsX3_trimTo := by decide +kernel
  have w9 : Cond.fieldLink RX3 9 "ParrotLogModel" "offset" "[I" ∈ wsX3_trimTo := by decide +kernel
  obtain ⟨hn, hsh, hsc, hOn, hOb, hok9, hpc9, hp0⟩ := hI
  refine lv_aload_n C.1 C.2.1 dX3_trimTo_0 rfl (lv_at hl 0 rfl) ?_
  refine lv_iconst (v := 0) C.1 C.2.1 dX3_trimTo_1 (by decide) ?_
  refine gPut (ws' := (mW E b S 0 mk ++ F)) (ref := RX3) (Cn := RX3) (T := TX3) (N := 19) C iX3 tyX3 tyX3_ok nmX3 hO 0 rfl rfl 0 (by decide) w44 (fun _ h9 => h9) rfl (by decide +kernel) rfl rfl (Nat.le_of_ble_eq_true rfl) rfl dX3_trimTo_2 (fun H locs hO => ?_)
  refine lv_iload_n C.1 C.2.1 dX3_trimTo_5 rfl (lv_at hl 1 rfl) ?_
  refine lv_iconst (v := 0) C.1 C.2.1 dX3_trimTo_6 (by decide) ?_
  refine lv_aload_n C.1 C.2.1 dX3_trimTo_7 rfl (lv_at hl 0 rfl) ?_
  refine gGet (v := .int (s_nx S)) (ref := RX3) (Cn := RX3) (T := TX3) (N := 19) C iX3 hO 0 rfl rfl 7 (by decide) w68 (fun _ h9 => h9) rfl dX3_trimTo_8 ?_
  refine gCallS_i (As := [.int o, .int 0, .int (s_nx S)]) (rest := []) C hO (c_X3_isIn l E b S 0 mk F o 0 (s_nx S)) (cwS 3 C.2.2.2.2.1 gX3_trimTo_X3_isIn rfl rfl rfl (by decide +kernel) ⟨(Nat.le_of_ble_eq_true rfl), (Nat.le_of_ble_eq_true rfl)⟩) rfl hl.1 rfl (Nat.le_of_ble_eq_true rfl) dX3_trimTo_11 ⟨(Nat.le_of_ble_eq_true rfl), (Nat.le_of_ble_eq_true rfl)⟩ (fun H locs hO => ?_)
  refine lv_if_ne (tgt := 23) C.1 C.2.1 dX3_trimTo_14 (by decide) (fun c_1 => ?_) (fun c_1 => ?_)
  · have hO : gO E A s (mW E b S 0 (mkU (gAhead (s_off S) o) mk 0) ++ F) H locs := by rw [mkU_0]; exact hO
    refine lv_iconst (v := 0) C.1 C.2.1 dX3_trimTo_23 (by decide) ?_
    refine lv_istore_n (lv' := [(2, .int 0), (0, .ref (b 0)), (1, .int o)]) C.1 C.2.1 dX3_trimTo_24 rfl hl (by decide) rfl (fun ls hl => ?_)
    have lp24 : ∀ (f : Nat) (k24 : Nat), (s_n S + 1 ≤ k24 + f) → (k24 ≤ s_n S) → ∀ (H : Heap) (locs : List Loc), gO E A s (mW E b S 0 (mkU (gAhead (s_off S) o) mk k24) ++ F) H locs → ∀ ls : Array Slot, lv_has ls 3 [(0, .ref (b 0)), (1, .int o), (2, .int (nI k24))] → W p l e ({ frames := 1, cells := 0, slots := 0, locals := 23 } : Room) s m args below meth c H locs 0 0 (MQ below (gQi E A (nI (s_n S - cpN (gAhead (s_off S) o) (s_n S))) (mW E b (S_drop S (gAhead (s_off S) o)) 0 (mkU (gAhead (s_off S) o) mk (s_n S)) ++ F)) args s 0 0 A) (F0 m 25 ls []) := by
      intro f
      induction f with
      | zero =>
        intro k24 hf hk24
        exact absurd hf (by omega)
      | succ f ih_lp24 =>
        intro k24 hf hk24 H locs hO ls hl
        refine lv_iload_n C.1 C.2.1 dX3_trimTo_25 rfl (lv_at hl 2 rfl) ?_
        refine lv_aload_n C.1 C.2.1 dX3_trimTo_26 rfl (lv_at hl 0 rfl) ?_
        refine gGet (v := .int (nI (s_n S))) (ref := RX3) (Cn := RX3) (T := TX3) (N := 19) C iX3 hO 0 rfl rfl 1 (by decide) w58 (fun _ h9 => h9) rfl dX3_trimTo_27 ?_
        refine gGeN (x := k24) (y := (s_n S)) (tgt := 60) C.1 C.2.1 (by omega) (by omega) dX3_trimTo_30 (by decide) (fun c_2 => ?_) (fun c_2 => ?_)
        · have hke9 : k24 = s_n S := by omega
          rw [hke9] at hO
          refine lv_aload_n C.1 C.2.1 dX3_trimTo_60 rfl (lv_at hl 0 rfl) ?_
          refine gCall_i (As := []) (rest := []) C hO (c_X3_drop l E b S 0 (mkU (gAhead (s_off S) o) mk (s_n S)) F (by omega) (by omega) hsr) (cwV 0 C.2.2.2.2.1 gX3_trimTo_X3_drop rfl rfl rfl (by decide +kernel) ⟨(Nat.le_of_ble_eq_true rfl), (Nat.le_of_ble_eq_true rfl)⟩) (va_recv C.2.2.2.2.2.2.2.1.1 hO.1 (ci := 3) (q0 := 0) rfl rfl) rfl hl.1 rfl (Nat.le_of_ble_eq_true rfl) dX3_trimTo_61 ⟨(Nat.le_of_ble_eq_true rfl), (Nat.le_of_ble_eq_true rfl)⟩ (fun H locs hO => ?_)
          have hO : gO E A s (mW E b (S_drop S (mkU (gAhead (s_off S) o) mk (s_n S))) 0 (mkU (gAhead (s_off S) o) mk (s_n S)) ++ F) H locs := hO
          exact gRi C (by rw [← S_drop_mkU S (gAhead (s_off S) o) mk]; exact hO) rfl (by rw [cpN_mkU]) dX3_trimTo_64 (Nat.le_of_ble_eq_true rfl) (Nat.le_of_ble_eq_true rfl)
        · refine lv_aload_n C.1 C.2.1 dX3_trimTo_33 rfl (lv_at hl 0 rfl) ?_
          refine gGet (v := .ref (b 5)) (ref := RX3) (Cn := RX3) (T := TX3) (N := 19) C iX3 hO 0 rfl rfl 6 (by decide) w22 (fun _ h9 => h9) rfl dX3_trimTo_34 ?_
          refine lv_iload_n C.1 C.2.1 dX3_trimTo_37 rfl (lv_at hl 2 rfl) ?_
          refine lv_aload_n C.1 C.2.1 dX3_trimTo_38 rfl (lv_at hl 0 rfl) ?_
          refine gGet (v := .ref (b 1)) (ref := RX3) (Cn := RX3) (T := TX3) (N := 19) C iX3 hO 0 rfl rfl 2 (by decide) w9 (fun _ h9 => h9) rfl dX3_trimTo_39 ?_
          refine lv_iload_n C.1 C.2.1 dX3_trimTo_42 rfl (lv_at hl 2 rfl) ?_
          refine gIald (v := (s_off S) k24) (j := k24) C hO 1 rfl (by omega) (by decide) rfl dX3_trimTo_43 ?_
          refine lv_iload_n C.1 C.2.1 dX3_trimTo_44 rfl (lv_at hl 1 rfl) ?_
          refine gGeI (tgt := 52) C.1 C.2.1 dX3_trimTo_45 (by decide) (fun c_3 => ?_) (fun c_3 => ?_)
          · have hz : gAhead (s_off S) o k24 = 0 := if_neg c_3
            refine lv_iconst (v := 0) C.1 C.2.1 dX3_trimTo_52 (by decide) ?_
            refine gZast (j := k24) (ws' := (mW E b S 0 (mkU (gAhead (s_off S) o) mk (k24 + 1)) ++ F)) C hO 5 rfl (by omega) (by decide) rfl (by rw [mkU_sv hz]; rfl) dX3_trimTo_53 (fun H locs hO => ?_)
            refine gInc (j := k24) (k := 2) (lv' := [(2, .int (nI (k24 + 1))), (0, .ref (b 0)), (1, .int o)]) C.1 C.2.1 dX3_trimTo_54 hl rfl (by decide) rfl (fun ls hl => ?_)
            refine lv_goto (tgt := 25) C.1 C.2.1 dX3_trimTo_57 (by decide) ?_
            exact ih_lp24 (k24 + 1) (by omega) (by omega) _ _ hO _ (lv_sub hl [1, 2, 0] rfl)
          · have hz : gAhead (s_off S) o k24 = 1 := if_pos c_3
            refine lv_iconst (v := 1) C.1 C.2.1 dX3_trimTo_48 (by decide) ?_
            refine lv_goto (tgt := 53) C.1 C.2.1 dX3_trimTo_49 (by decide) ?_
            refine gZast (j := k24) (ws' := (mW E b S 0 (mkU (gAhead (s_off S) o) mk (k24 + 1)) ++ F)) C hO 5 rfl (by omega) (by decide) rfl (by rw [mkU_sv hz]; rfl) dX3_trimTo_53 (fun H locs hO => ?_)
            refine gInc (j := k24) (k := 2) (lv' := [(2, .int (nI (k24 + 1))), (0, .ref (b 0)), (1, .int o)]) C.1 C.2.1 dX3_trimTo_54 hl rfl (by decide) rfl (fun ls hl => ?_)
            refine lv_goto (tgt := 25) C.1 C.2.1 dX3_trimTo_57 (by decide) ?_
            exact ih_lp24 (k24 + 1) (by omega) (by omega) _ _ hO _ (lv_sub hl [1, 2, 0] rfl)
    refine W.widen (k := 0) (n := 0) (by omega) (by omega) ?_
    exact lp24 (s_n S + 1) 0 (by omega) (Nat.zero_le _) _ _ hO _ (lv_sub hl [1, 2, 0] rfl)
  · exact absurd hok (bF c_1)

set_option maxHeartbeats 4000000 in
set_option maxRecDepth 100000 in
theorem c_X3_trimTo_no (l : Launch) (E : gE) (b : Nat → Nat) (S : St) (th : Int32) (mk : Nat → Int32) (F : va_W) (o : Int32) (hI : s_inv S) (hsr : s_srt S) (hok : ¬ okOff S o) : gMi l E yX3_trimTo wsX3_trimTo ({ frames := 1, cells := 0, slots := 0, locals := 22 }) (mW E b S th mk ++ F) [.ref (b 0), .int o] 0 (mW E b S 1 mk ++ F) 0 0 := by
  refine gMi.of (cc := cX3_trimTo) (maxL := 3) (ty := .int) (by decide) rfl (Nat.le_of_ble_eq_true rfl) ?_
  intro p e s m args below meth c A C ls hl hO
  have hl : lv_has ls 3 [(0, .ref (b 0)), (1, .int o)] := hl
  have iX3 : ∀ w ∈ u_ws RX3 TX3 19, w ∈ wsX3_trimTo := by decide +kernel
  have w44 : Cond.fieldLink RX3 44 "ParrotLogModel" "thrown" "I" ∈ wsX3_trimTo := by decide +kernel
  have w68 : Cond.fieldLink RX3 68 "ParrotLogModel" "next" "I" ∈ wsX3_trimTo := by decide +kernel
  obtain ⟨hn, hsh, hsc, hOn, hOb, hok9, hpc9, hp0⟩ := hI
  refine lv_aload_n C.1 C.2.1 dX3_trimTo_0 rfl (lv_at hl 0 rfl) ?_
  refine lv_iconst (v := 0) C.1 C.2.1 dX3_trimTo_1 (by decide) ?_
  refine gPut (ws' := (mW E b S 0 mk ++ F)) (ref := RX3) (Cn := RX3) (T := TX3) (N := 19) C iX3 tyX3 tyX3_ok nmX3 hO 0 rfl rfl 0 (by decide) w44 (fun _ h9 => h9) rfl (by decide +kernel) rfl rfl (Nat.le_of_ble_eq_true rfl) rfl dX3_trimTo_2 (fun H locs hO => ?_)
  refine lv_iload_n C.1 C.2.1 dX3_trimTo_5 rfl (lv_at hl 1 rfl) ?_
  refine lv_iconst (v := 0) C.1 C.2.1 dX3_trimTo_6 (by decide) ?_
  refine lv_aload_n C.1 C.2.1 dX3_trimTo_7 rfl (lv_at hl 0 rfl) ?_
  refine gGet (v := .int (s_nx S)) (ref := RX3) (Cn := RX3) (T := TX3) (N := 19) C iX3 hO 0 rfl rfl 7 (by decide) w68 (fun _ h9 => h9) rfl dX3_trimTo_8 ?_
  refine gCallS_i (As := [.int o, .int 0, .int (s_nx S)]) (rest := []) C hO (c_X3_isIn l E b S 0 mk F o 0 (s_nx S)) (cwS 3 C.2.2.2.2.1 gX3_trimTo_X3_isIn rfl rfl rfl (by decide +kernel) ⟨(Nat.le_of_ble_eq_true rfl), (Nat.le_of_ble_eq_true rfl)⟩) rfl hl.1 rfl (Nat.le_of_ble_eq_true rfl) dX3_trimTo_11 ⟨(Nat.le_of_ble_eq_true rfl), (Nat.le_of_ble_eq_true rfl)⟩ (fun H locs hO => ?_)
  refine lv_if_ne (tgt := 23) C.1 C.2.1 dX3_trimTo_14 (by decide) (fun c_1 => ?_) (fun c_1 => ?_)
  · exact absurd (bT c_1) hok
  · refine lv_aload_n C.1 C.2.1 dX3_trimTo_17 rfl (lv_at hl 0 rfl) ?_
    refine lv_iconst (v := 1) C.1 C.2.1 dX3_trimTo_18 (by decide) ?_
    refine gCall_i (As := [.int 1]) (rest := []) C hO (c_X3_fail l E b S 0 mk F 1) (cwV 1 C.2.2.2.2.1 gX3_trimTo_X3_fail rfl rfl rfl (by decide +kernel) ⟨(Nat.le_of_ble_eq_true rfl), (Nat.le_of_ble_eq_true rfl)⟩) (va_recv C.2.2.2.2.2.2.2.1.1 hO.1 (ci := 3) (q0 := 0) rfl rfl) rfl hl.1 rfl (Nat.le_of_ble_eq_true rfl) dX3_trimTo_19 ⟨(Nat.le_of_ble_eq_true rfl), (Nat.le_of_ble_eq_true rfl)⟩ (fun H locs hO => ?_)
    have hO : gO E A s (mW E b S 1 mk ++ F) H locs := hO
    exact gRi C hO rfl rfl dX3_trimTo_22 (Nat.le_of_ble_eq_true rfl) (Nat.le_of_ble_eq_true rfl)

set_option maxHeartbeats 4000000 in
set_option maxRecDepth 100000 in
theorem c_X3_addShip_ok (l : Launch) (E : gE) (b : Nat → Nat) (S : St) (th : Int32) (mk : Nat → Int32) (F : va_W) (q o : Int32) (hI : s_inv S) (hsr : s_srt S) (hok : okPace q ∧ okOff S o ∧ s_sh S < 6) : gMi l E yX3_addShip wsX3_addShip ({ frames := 1, cells := 0, slots := 0, locals := 22 }) (mW E b S th mk ++ F) [.ref (b 0), .int q, .int o] (nI (s_sh S)) (mW E b (S_ship S q o) 0 mk ++ F) 0 0 := by
  refine gMi.of (cc := cX3_addShip) (maxL := 3) (ty := .int) (by decide) rfl (Nat.le_of_ble_eq_true rfl) ?_
  intro p e s m args below meth c A C ls hl hO
  have hl : lv_has ls 3 [(0, .ref (b 0)), (1, .int q), (2, .int o)] := hl
  have iX3 : ∀ w ∈ u_ws RX3 TX3 19, w ∈ wsX3_addShip := by decide +kernel
  have w44 : Cond.fieldLink RX3 44 "ParrotLogModel" "thrown" "I" ∈ wsX3_addShip := by decide +kernel
  have w68 : Cond.fieldLink RX3 68 "ParrotLogModel" "next" "I" ∈ wsX3_addShip := by decide +kernel
  have w48 : Cond.fieldLink RX3 48 "ParrotLogModel" "ships" "I" ∈ wsX3_addShip := by decide +kernel
  have w29 : Cond.fieldLink RX3 29 "ParrotLogModel" "pace" "[I" ∈ wsX3_addShip := by decide +kernel
  have w32 : Cond.fieldLink RX3 32 "ParrotLogModel" "at" "[I" ∈ wsX3_addShip := by decide +kernel
  obtain ⟨hn, hsh, hsc, hOn, hOb, hok9, hpc9, hp0⟩ := hI
  refine lv_aload_n C.1 C.2.1 dX3_addShip_0 rfl (lv_at hl 0 rfl) ?_
  refine lv_iconst (v := 0) C.1 C.2.1 dX3_addShip_1 (by decide) ?_
  refine gPut (ws' := (mW E b S 0 mk ++ F)) (ref := RX3) (Cn := RX3) (T := TX3) (N := 19) C iX3 tyX3 tyX3_ok nmX3 hO 0 rfl rfl 0 (by decide) w44 (fun _ h9 => h9) rfl (by decide +kernel) rfl rfl (Nat.le_of_ble_eq_true rfl) rfl dX3_addShip_2 (fun H locs hO => ?_)
  refine lv_iload_n C.1 C.2.1 dX3_addShip_5 rfl (lv_at hl 1 rfl) ?_
  refine lv_iconst (v := 1) C.1 C.2.1 dX3_addShip_6 (by decide) ?_
  refine lv_iconst (v := nI 5) C.1 C.2.1 dX3_addShip_7 (by decide) ?_
  refine gCallS_i (As := [.int q, .int 1, .int (nI 5)]) (rest := []) C hO (c_X3_isIn l E b S 0 mk F q 1 (nI 5)) (cwS 3 C.2.2.2.2.1 gX3_addShip_X3_isIn rfl rfl rfl (by decide +kernel) ⟨(Nat.le_of_ble_eq_true rfl), (Nat.le_of_ble_eq_true rfl)⟩) rfl hl.1 rfl (Nat.le_of_ble_eq_true rfl) dX3_addShip_8 ⟨(Nat.le_of_ble_eq_true rfl), (Nat.le_of_ble_eq_true rfl)⟩ (fun H locs hO => ?_)
  refine lv_if_eq (tgt := 26) C.1 C.2.1 dX3_addShip_11 (by decide) (fun c_1 => ?_) (fun c_1 => ?_)
  · exact absurd hok.1 (bF c_1)
  · refine lv_iload_n C.1 C.2.1 dX3_addShip_14 rfl (lv_at hl 2 rfl) ?_
    refine lv_iconst (v := 0) C.1 C.2.1 dX3_addShip_15 (by decide) ?_
    refine lv_aload_n C.1 C.2.1 dX3_addShip_16 rfl (lv_at hl 0 rfl) ?_
    refine gGet (v := .int (s_nx S)) (ref := RX3) (Cn := RX3) (T := TX3) (N := 19) C iX3 hO 0 rfl rfl 7 (by decide) w68 (fun _ h9 => h9) rfl dX3_addShip_17 ?_
    refine gCallS_i (As := [.int o, .int 0, .int (s_nx S)]) (rest := []) C hO (c_X3_isIn l E b S 0 mk F o 0 (s_nx S)) (cwS 3 C.2.2.2.2.1 gX3_addShip_X3_isIn rfl rfl rfl (by decide +kernel) ⟨(Nat.le_of_ble_eq_true rfl), (Nat.le_of_ble_eq_true rfl)⟩) rfl hl.1 rfl (Nat.le_of_ble_eq_true rfl) dX3_addShip_20 ⟨(Nat.le_of_ble_eq_true rfl), (Nat.le_of_ble_eq_true rfl)⟩ (fun H locs hO => ?_)
    refine lv_if_ne (tgt := 32) C.1 C.2.1 dX3_addShip_23 (by decide) (fun c_2 => ?_) (fun c_2 => ?_)
    · refine lv_aload_n C.1 C.2.1 dX3_addShip_32 rfl (lv_at hl 0 rfl) ?_
      refine gGet (v := .int (nI (s_sh S))) (ref := RX3) (Cn := RX3) (T := TX3) (N := 19) C iX3 hO 0 rfl rfl 13 (by decide) w48 (fun _ h9 => h9) rfl dX3_addShip_33 ?_
      refine lv_bipush (v := nI 6) C.1 C.2.1 dX3_addShip_36 (by decide) ?_
      refine gNeN (x := (s_sh S)) (y := 6) (tgt := 47) C.1 C.2.1 (by omega) (by omega) dX3_addShip_38 (by decide) (fun c_3 => ?_) (fun c_3 => ?_)
      · have hlt9 := hok.2.2
        refine lv_aload_n C.1 C.2.1 dX3_addShip_47 rfl (lv_at hl 0 rfl) ?_
        refine gGet (v := .ref (b 7)) (ref := RX3) (Cn := RX3) (T := TX3) (N := 19) C iX3 hO 0 rfl rfl 14 (by decide) w29 (fun _ h9 => h9) rfl dX3_addShip_48 ?_
        refine lv_aload_n C.1 C.2.1 dX3_addShip_51 rfl (lv_at hl 0 rfl) ?_
        refine gGet (v := .int (nI (s_sh S))) (ref := RX3) (Cn := RX3) (T := TX3) (N := 19) C iX3 hO 0 rfl rfl 13 (by decide) w48 (fun _ h9 => h9) rfl dX3_addShip_52 ?_
        refine lv_iload_n C.1 C.2.1 dX3_addShip_55 rfl (lv_at hl 1 rfl) ?_
        refine gIast (j := (s_sh S)) (ws' := (mW E b (mkS (s_off S) (s_key S) (s_val S) (s_sto S) (s_n S) (s_nx S) (s_dr S) (s_hr S) (s_sc S) (s_on S) (s_said S) (s_sh S) (upd (s_pc S) (s_sh S) q) (s_at S) (s_hd S) (s_ms S) (s_kn S)) 0 mk ++ F)) C hO 7 rfl hlt9 (by decide) rfl dX3_addShip_56 (fun H locs hO => ?_)
        refine lv_aload_n C.1 C.2.1 dX3_addShip_57 rfl (lv_at hl 0 rfl) ?_
        refine gGet (v := .ref (b 8)) (ref := RX3) (Cn := RX3) (T := TX3) (N := 19) C iX3 hO 0 rfl rfl 15 (by decide) w32 (fun _ h9 => h9) rfl dX3_addShip_58 ?_
        refine lv_aload_n C.1 C.2.1 dX3_addShip_61 rfl (lv_at hl 0 rfl) ?_
        refine gGet (v := .int (nI (s_sh S))) (ref := RX3) (Cn := RX3) (T := TX3) (N := 19) C iX3 hO 0 rfl rfl 13 (by decide) w48 (fun _ h9 => h9) rfl dX3_addShip_62 ?_
        refine lv_iload_n C.1 C.2.1 dX3_addShip_65 rfl (lv_at hl 2 rfl) ?_
        refine gIast (j := (s_sh S)) (ws' := (mW E b (mkS (s_off S) (s_key S) (s_val S) (s_sto S) (s_n S) (s_nx S) (s_dr S) (s_hr S) (s_sc S) (s_on S) (s_said S) (s_sh S) (upd (s_pc S) (s_sh S) q) (upd (s_at S) (s_sh S) o) (s_hd S) (s_ms S) (s_kn S)) 0 mk ++ F)) C hO 8 rfl hlt9 (by decide) rfl dX3_addShip_66 (fun H locs hO => ?_)
        refine lv_aload_n C.1 C.2.1 dX3_addShip_67 rfl (lv_at hl 0 rfl) ?_
        refine lv_dup C.1 C.2.1 dX3_addShip_68 rfl ?_
        refine gGet (v := .int (nI (s_sh S))) (ref := RX3) (Cn := RX3) (T := TX3) (N := 19) C iX3 hO 0 rfl rfl 13 (by decide) w48 (fun _ h9 => h9) rfl dX3_addShip_69 ?_
        refine lv_iconst (v := 1) C.1 C.2.1 dX3_addShip_72 (by decide) ?_
        refine gAddN (x := (s_sh S)) (y := 1) C.1 C.2.1 dX3_addShip_73 ?_
        refine gPut (ws' := (mW E b (mkS (s_off S) (s_key S) (s_val S) (s_sto S) (s_n S) (s_nx S) (s_dr S) (s_hr S) (s_sc S) (s_on S) (s_said S) ((s_sh S) + 1) (upd (s_pc S) (s_sh S) q) (upd (s_at S) (s_sh S) o) (s_hd S) (s_ms S) (s_kn S)) 0 mk ++ F)) (ref := RX3) (Cn := RX3) (T := TX3) (N := 19) C iX3 tyX3 tyX3_ok nmX3 hO 0 rfl rfl 13 (by decide) w48 (fun _ h9 => h9) rfl (by decide +kernel) rfl rfl (Nat.le_of_ble_eq_true rfl) rfl dX3_addShip_74 (fun H locs hO => ?_)
        refine lv_aload_n C.1 C.2.1 dX3_addShip_77 rfl (lv_at hl 0 rfl) ?_
        refine gGet (v := .int (nI ((s_sh S) + 1))) (ref := RX3) (Cn := RX3) (T := TX3) (N := 19) C iX3 hO 0 rfl rfl 13 (by decide) w48 (fun _ h9 => h9) rfl dX3_addShip_78 ?_
        refine lv_iconst (v := 1) C.1 C.2.1 dX3_addShip_81 (by decide) ?_
        refine gSubN (x := ((s_sh S) + 1)) (y := 1) C.1 C.2.1 (by omega) dX3_addShip_82 ?_
        exact gRi C hO rfl rfl dX3_addShip_83 (Nat.le_of_ble_eq_true rfl) (Nat.le_of_ble_eq_true rfl)
      · exact absurd hok.2.2 (by omega)
    · exact absurd hok.2.1 (bF c_2)

set_option maxHeartbeats 4000000 in
set_option maxRecDepth 100000 in
theorem c_X3_addShip_no (l : Launch) (E : gE) (b : Nat → Nat) (S : St) (th : Int32) (mk : Nat → Int32) (F : va_W) (q o : Int32) (hI : s_inv S) (hsr : s_srt S) (hok : ¬ (okPace q ∧ okOff S o)) : gMi l E yX3_addShip wsX3_addShip ({ frames := 1, cells := 0, slots := 0, locals := 22 }) (mW E b S th mk ++ F) [.ref (b 0), .int q, .int o] 0 (mW E b S 1 mk ++ F) 0 0 := by
  refine gMi.of (cc := cX3_addShip) (maxL := 3) (ty := .int) (by decide) rfl (Nat.le_of_ble_eq_true rfl) ?_
  intro p e s m args below meth c A C ls hl hO
  have hl : lv_has ls 3 [(0, .ref (b 0)), (1, .int q), (2, .int o)] := hl
  have iX3 : ∀ w ∈ u_ws RX3 TX3 19, w ∈ wsX3_addShip := by decide +kernel
  have w44 : Cond.fieldLink RX3 44 "ParrotLogModel" "thrown" "I" ∈ wsX3_addShip := by decide +kernel
  have w68 : Cond.fieldLink RX3 68 "ParrotLogModel" "next" "I" ∈ wsX3_addShip := by decide +kernel
  obtain ⟨hn, hsh, hsc, hOn, hOb, hok9, hpc9, hp0⟩ := hI
  refine lv_aload_n C.1 C.2.1 dX3_addShip_0 rfl (lv_at hl 0 rfl) ?_
  refine lv_iconst (v := 0) C.1 C.2.1 dX3_addShip_1 (by decide) ?_
  refine gPut (ws' := (mW E b S 0 mk ++ F)) (ref := RX3) (Cn := RX3) (T := TX3) (N := 19) C iX3 tyX3 tyX3_ok nmX3 hO 0 rfl rfl 0 (by decide) w44 (fun _ h9 => h9) rfl (by decide +kernel) rfl rfl (Nat.le_of_ble_eq_true rfl) rfl dX3_addShip_2 (fun H locs hO => ?_)
  refine lv_iload_n C.1 C.2.1 dX3_addShip_5 rfl (lv_at hl 1 rfl) ?_
  refine lv_iconst (v := 1) C.1 C.2.1 dX3_addShip_6 (by decide) ?_
  refine lv_iconst (v := nI 5) C.1 C.2.1 dX3_addShip_7 (by decide) ?_
  refine gCallS_i (As := [.int q, .int 1, .int (nI 5)]) (rest := []) C hO (c_X3_isIn l E b S 0 mk F q 1 (nI 5)) (cwS 3 C.2.2.2.2.1 gX3_addShip_X3_isIn rfl rfl rfl (by decide +kernel) ⟨(Nat.le_of_ble_eq_true rfl), (Nat.le_of_ble_eq_true rfl)⟩) rfl hl.1 rfl (Nat.le_of_ble_eq_true rfl) dX3_addShip_8 ⟨(Nat.le_of_ble_eq_true rfl), (Nat.le_of_ble_eq_true rfl)⟩ (fun H locs hO => ?_)
  refine lv_if_eq (tgt := 26) C.1 C.2.1 dX3_addShip_11 (by decide) (fun c_1 => ?_) (fun c_1 => ?_)
  · refine lv_aload_n C.1 C.2.1 dX3_addShip_26 rfl (lv_at hl 0 rfl) ?_
    refine lv_iconst (v := 1) C.1 C.2.1 dX3_addShip_27 (by decide) ?_
    refine gCall_i (As := [.int 1]) (rest := []) C hO (c_X3_fail l E b S 0 mk F 1) (cwV 1 C.2.2.2.2.1 gX3_addShip_X3_fail rfl rfl rfl (by decide +kernel) ⟨(Nat.le_of_ble_eq_true rfl), (Nat.le_of_ble_eq_true rfl)⟩) (va_recv C.2.2.2.2.2.2.2.1.1 hO.1 (ci := 3) (q0 := 0) rfl rfl) rfl hl.1 rfl (Nat.le_of_ble_eq_true rfl) dX3_addShip_28 ⟨(Nat.le_of_ble_eq_true rfl), (Nat.le_of_ble_eq_true rfl)⟩ (fun H locs hO => ?_)
    have hO : gO E A s (mW E b S 1 mk ++ F) H locs := hO
    exact gRi C hO rfl rfl dX3_addShip_31 (Nat.le_of_ble_eq_true rfl) (Nat.le_of_ble_eq_true rfl)
  · have hz8 := bT c_1
    refine lv_iload_n C.1 C.2.1 dX3_addShip_14 rfl (lv_at hl 2 rfl) ?_
    refine lv_iconst (v := 0) C.1 C.2.1 dX3_addShip_15 (by decide) ?_
    refine lv_aload_n C.1 C.2.1 dX3_addShip_16 rfl (lv_at hl 0 rfl) ?_
    refine gGet (v := .int (s_nx S)) (ref := RX3) (Cn := RX3) (T := TX3) (N := 19) C iX3 hO 0 rfl rfl 7 (by decide) w68 (fun _ h9 => h9) rfl dX3_addShip_17 ?_
    refine gCallS_i (As := [.int o, .int 0, .int (s_nx S)]) (rest := []) C hO (c_X3_isIn l E b S 0 mk F o 0 (s_nx S)) (cwS 3 C.2.2.2.2.1 gX3_addShip_X3_isIn rfl rfl rfl (by decide +kernel) ⟨(Nat.le_of_ble_eq_true rfl), (Nat.le_of_ble_eq_true rfl)⟩) rfl hl.1 rfl (Nat.le_of_ble_eq_true rfl) dX3_addShip_20 ⟨(Nat.le_of_ble_eq_true rfl), (Nat.le_of_ble_eq_true rfl)⟩ (fun H locs hO => ?_)
    refine lv_if_ne (tgt := 32) C.1 C.2.1 dX3_addShip_23 (by decide) (fun c_2 => ?_) (fun c_2 => ?_)
    · exact absurd ⟨hz8, bT c_2⟩ hok
    · refine lv_aload_n C.1 C.2.1 dX3_addShip_26 rfl (lv_at hl 0 rfl) ?_
      refine lv_iconst (v := 1) C.1 C.2.1 dX3_addShip_27 (by decide) ?_
      refine gCall_i (As := [.int 1]) (rest := []) C hO (c_X3_fail l E b S 0 mk F 1) (cwV 1 C.2.2.2.2.1 gX3_addShip_X3_fail rfl rfl rfl (by decide +kernel) ⟨(Nat.le_of_ble_eq_true rfl), (Nat.le_of_ble_eq_true rfl)⟩) (va_recv C.2.2.2.2.2.2.2.1.1 hO.1 (ci := 3) (q0 := 0) rfl rfl) rfl hl.1 rfl (Nat.le_of_ble_eq_true rfl) dX3_addShip_28 ⟨(Nat.le_of_ble_eq_true rfl), (Nat.le_of_ble_eq_true rfl)⟩ (fun H locs hO => ?_)
      have hO : gO E A s (mW E b S 1 mk ++ F) H locs := hO
      exact gRi C hO rfl rfl dX3_addShip_31 (Nat.le_of_ble_eq_true rfl) (Nat.le_of_ble_eq_true rfl)

set_option maxHeartbeats 4000000 in
set_option maxRecDepth 100000 in
theorem c_X3_addShip_no2 (l : Launch) (E : gE) (b : Nat → Nat) (S : St) (th : Int32) (mk : Nat → Int32) (F : va_W) (q o : Int32) (hI : s_inv S) (hsr : s_srt S) (hok : okPace q ∧ okOff S o ∧ ¬ s_sh S < 6) : gMi l E yX3_addShip wsX3_addShip ({ frames := 1, cells := 0, slots := 0, locals := 22 }) (mW E b S th mk ++ F) [.ref (b 0), .int q, .int o] 0 (mW E b S 2 mk ++ F) 0 0 := by
  refine gMi.of (cc := cX3_addShip) (maxL := 3) (ty := .int) (by decide) rfl (Nat.le_of_ble_eq_true rfl) ?_
  intro p e s m args below meth c A C ls hl hO
  have hl : lv_has ls 3 [(0, .ref (b 0)), (1, .int q), (2, .int o)] := hl
  have iX3 : ∀ w ∈ u_ws RX3 TX3 19, w ∈ wsX3_addShip := by decide +kernel
  have w44 : Cond.fieldLink RX3 44 "ParrotLogModel" "thrown" "I" ∈ wsX3_addShip := by decide +kernel
  have w68 : Cond.fieldLink RX3 68 "ParrotLogModel" "next" "I" ∈ wsX3_addShip := by decide +kernel
  have w48 : Cond.fieldLink RX3 48 "ParrotLogModel" "ships" "I" ∈ wsX3_addShip := by decide +kernel
  obtain ⟨hn, hsh, hsc, hOn, hOb, hok9, hpc9, hp0⟩ := hI
  refine lv_aload_n C.1 C.2.1 dX3_addShip_0 rfl (lv_at hl 0 rfl) ?_
  refine lv_iconst (v := 0) C.1 C.2.1 dX3_addShip_1 (by decide) ?_
  refine gPut (ws' := (mW E b S 0 mk ++ F)) (ref := RX3) (Cn := RX3) (T := TX3) (N := 19) C iX3 tyX3 tyX3_ok nmX3 hO 0 rfl rfl 0 (by decide) w44 (fun _ h9 => h9) rfl (by decide +kernel) rfl rfl (Nat.le_of_ble_eq_true rfl) rfl dX3_addShip_2 (fun H locs hO => ?_)
  refine lv_iload_n C.1 C.2.1 dX3_addShip_5 rfl (lv_at hl 1 rfl) ?_
  refine lv_iconst (v := 1) C.1 C.2.1 dX3_addShip_6 (by decide) ?_
  refine lv_iconst (v := nI 5) C.1 C.2.1 dX3_addShip_7 (by decide) ?_
  refine gCallS_i (As := [.int q, .int 1, .int (nI 5)]) (rest := []) C hO (c_X3_isIn l E b S 0 mk F q 1 (nI 5)) (cwS 3 C.2.2.2.2.1 gX3_addShip_X3_isIn rfl rfl rfl (by decide +kernel) ⟨(Nat.le_of_ble_eq_true rfl), (Nat.le_of_ble_eq_true rfl)⟩) rfl hl.1 rfl (Nat.le_of_ble_eq_true rfl) dX3_addShip_8 ⟨(Nat.le_of_ble_eq_true rfl), (Nat.le_of_ble_eq_true rfl)⟩ (fun H locs hO => ?_)
  refine lv_if_eq (tgt := 26) C.1 C.2.1 dX3_addShip_11 (by decide) (fun c_1 => ?_) (fun c_1 => ?_)
  · exact absurd hok.1 (bF c_1)
  · refine lv_iload_n C.1 C.2.1 dX3_addShip_14 rfl (lv_at hl 2 rfl) ?_
    refine lv_iconst (v := 0) C.1 C.2.1 dX3_addShip_15 (by decide) ?_
    refine lv_aload_n C.1 C.2.1 dX3_addShip_16 rfl (lv_at hl 0 rfl) ?_
    refine gGet (v := .int (s_nx S)) (ref := RX3) (Cn := RX3) (T := TX3) (N := 19) C iX3 hO 0 rfl rfl 7 (by decide) w68 (fun _ h9 => h9) rfl dX3_addShip_17 ?_
    refine gCallS_i (As := [.int o, .int 0, .int (s_nx S)]) (rest := []) C hO (c_X3_isIn l E b S 0 mk F o 0 (s_nx S)) (cwS 3 C.2.2.2.2.1 gX3_addShip_X3_isIn rfl rfl rfl (by decide +kernel) ⟨(Nat.le_of_ble_eq_true rfl), (Nat.le_of_ble_eq_true rfl)⟩) rfl hl.1 rfl (Nat.le_of_ble_eq_true rfl) dX3_addShip_20 ⟨(Nat.le_of_ble_eq_true rfl), (Nat.le_of_ble_eq_true rfl)⟩ (fun H locs hO => ?_)
    refine lv_if_ne (tgt := 32) C.1 C.2.1 dX3_addShip_23 (by decide) (fun c_2 => ?_) (fun c_2 => ?_)
    · refine lv_aload_n C.1 C.2.1 dX3_addShip_32 rfl (lv_at hl 0 rfl) ?_
      refine gGet (v := .int (nI (s_sh S))) (ref := RX3) (Cn := RX3) (T := TX3) (N := 19) C iX3 hO 0 rfl rfl 13 (by decide) w48 (fun _ h9 => h9) rfl dX3_addShip_33 ?_
      refine lv_bipush (v := nI 6) C.1 C.2.1 dX3_addShip_36 (by decide) ?_
      refine gNeN (x := (s_sh S)) (y := 6) (tgt := 47) C.1 C.2.1 (by omega) (by omega) dX3_addShip_38 (by decide) (fun c_3 => ?_) (fun c_3 => ?_)
      · exact absurd (show s_sh S < 6 by omega) hok.2.2
      · refine lv_aload_n C.1 C.2.1 dX3_addShip_41 rfl (lv_at hl 0 rfl) ?_
        refine lv_iconst (v := nI 2) C.1 C.2.1 dX3_addShip_42 (by decide) ?_
        refine gCall_i (As := [.int (nI 2)]) (rest := []) C hO (c_X3_fail l E b S 0 mk F (nI 2)) (cwV 1 C.2.2.2.2.1 gX3_addShip_X3_fail rfl rfl rfl (by decide +kernel) ⟨(Nat.le_of_ble_eq_true rfl), (Nat.le_of_ble_eq_true rfl)⟩) (va_recv C.2.2.2.2.2.2.2.1.1 hO.1 (ci := 3) (q0 := 0) rfl rfl) rfl hl.1 rfl (Nat.le_of_ble_eq_true rfl) dX3_addShip_43 ⟨(Nat.le_of_ble_eq_true rfl), (Nat.le_of_ble_eq_true rfl)⟩ (fun H locs hO => ?_)
        have hO : gO E A s (mW E b S (nI 2) mk ++ F) H locs := hO
        exact gRi C hO rfl rfl dX3_addShip_46 (Nat.le_of_ble_eq_true rfl) (Nat.le_of_ble_eq_true rfl)
    · exact absurd hok.2.1 (bF c_2)

set_option maxHeartbeats 4000000 in
set_option maxRecDepth 100000 in
theorem c_X3_seek_ok (l : Launch) (E : gE) (b : Nat → Nat) (S : St) (th : Int32) (mk : Nat → Int32) (F : va_W) (x o : Int32) (hI : s_inv S) (hsr : s_srt S) (hok : okShip S x ∧ okOff S o) : gMi l E yX3_seek wsX3_seek ({ frames := 2, cells := 0, slots := 0, locals := 43 }) (mW E b S th mk ++ F) [.ref (b 0), .int x, .int o] (s_at S x.toNatClampNeg) (mW E b (S_at S (upd (s_at S) x.toNatClampNeg o)) 0 mk ++ F) 0 0 := by
  refine gMi.of (cc := cX3_seek) (maxL := 4) (ty := .int) (by decide) rfl (Nat.le_of_ble_eq_true rfl) ?_
  intro p e s m args below meth c A C ls hl hO
  have hl : lv_has ls 4 [(0, .ref (b 0)), (1, .int x), (2, .int o)] := hl
  have iX3 : ∀ w ∈ u_ws RX3 TX3 19, w ∈ wsX3_seek := by decide +kernel
  have w44 : Cond.fieldLink RX3 44 "ParrotLogModel" "thrown" "I" ∈ wsX3_seek := by decide +kernel
  have w68 : Cond.fieldLink RX3 68 "ParrotLogModel" "next" "I" ∈ wsX3_seek := by decide +kernel
  have w32 : Cond.fieldLink RX3 32 "ParrotLogModel" "at" "[I" ∈ wsX3_seek := by decide +kernel
  obtain ⟨hn, hsh, hsc, hOn, hOb, hok9, hpc9, hp0⟩ := hI
  refine lv_aload_n C.1 C.2.1 dX3_seek_0 rfl (lv_at hl 0 rfl) ?_
  refine lv_iconst (v := 0) C.1 C.2.1 dX3_seek_1 (by decide) ?_
  refine gPut (ws' := (mW E b S 0 mk ++ F)) (ref := RX3) (Cn := RX3) (T := TX3) (N := 19) C iX3 tyX3 tyX3_ok nmX3 hO 0 rfl rfl 0 (by decide) w44 (fun _ h9 => h9) rfl (by decide +kernel) rfl rfl (Nat.le_of_ble_eq_true rfl) rfl dX3_seek_2 (fun H locs hO => ?_)
  refine lv_aload_n C.1 C.2.1 dX3_seek_5 rfl (lv_at hl 0 rfl) ?_
  refine lv_iload_n C.1 C.2.1 dX3_seek_6 rfl (lv_at hl 1 rfl) ?_
  refine gCall_i (As := [.int x]) (rest := []) C hO (c_X3_isShip l E b S 0 mk F x (by omega)) (cwV 1 C.2.2.2.2.1 gX3_seek_X3_isShip rfl rfl rfl (by decide +kernel) ⟨(Nat.le_of_ble_eq_true rfl), (Nat.le_of_ble_eq_true rfl)⟩) (va_recv C.2.2.2.2.2.2.2.1.1 hO.1 (ci := 3) (q0 := 0) rfl rfl) rfl hl.1 rfl (Nat.le_of_ble_eq_true rfl) dX3_seek_7 ⟨(Nat.le_of_ble_eq_true rfl), (Nat.le_of_ble_eq_true rfl)⟩ (fun H locs hO => ?_)
  refine lv_if_ne (tgt := 19) C.1 C.2.1 dX3_seek_10 (by decide) (fun c_1 => ?_) (fun c_1 => ?_)
  · refine lv_iload_n C.1 C.2.1 dX3_seek_19 rfl (lv_at hl 2 rfl) ?_
    refine lv_iconst (v := 0) C.1 C.2.1 dX3_seek_20 (by decide) ?_
    refine lv_aload_n C.1 C.2.1 dX3_seek_21 rfl (lv_at hl 0 rfl) ?_
    refine gGet (v := .int (s_nx S)) (ref := RX3) (Cn := RX3) (T := TX3) (N := 19) C iX3 hO 0 rfl rfl 7 (by decide) w68 (fun _ h9 => h9) rfl dX3_seek_22 ?_
    refine gCallS_i (As := [.int o, .int 0, .int (s_nx S)]) (rest := []) C hO (c_X3_isIn l E b S 0 mk F o 0 (s_nx S)) (cwS 3 C.2.2.2.2.1 gX3_seek_X3_isIn rfl rfl rfl (by decide +kernel) ⟨(Nat.le_of_ble_eq_true rfl), (Nat.le_of_ble_eq_true rfl)⟩) rfl hl.1 rfl (Nat.le_of_ble_eq_true rfl) dX3_seek_25 ⟨(Nat.le_of_ble_eq_true rfl), (Nat.le_of_ble_eq_true rfl)⟩ (fun H locs hO => ?_)
    refine lv_if_ne (tgt := 37) C.1 C.2.1 dX3_seek_28 (by decide) (fun c_2 => ?_) (fun c_2 => ?_)
    · have hj9 := okNat (by omega) hok.1.1 hok.1.2
      have hi9 : x.toNatClampNeg < 6 := by omega
      have hl : lv_has ls 4 [(0, .ref (b 0)), (1, .int (nI (x.toNatClampNeg))), (2, .int o)] := by rw [← hj9.2]; exact hl
      refine lv_aload_n C.1 C.2.1 dX3_seek_37 rfl (lv_at hl 0 rfl) ?_
      refine gGet (v := .ref (b 8)) (ref := RX3) (Cn := RX3) (T := TX3) (N := 19) C iX3 hO 0 rfl rfl 15 (by decide) w32 (fun _ h9 => h9) rfl dX3_seek_38 ?_
      refine lv_iload_n C.1 C.2.1 dX3_seek_41 rfl (lv_at hl 1 rfl) ?_
      refine gIald (v := (s_at S) x.toNatClampNeg) (j := x.toNatClampNeg) C hO 8 rfl hi9 (by decide) rfl dX3_seek_42 ?_
      refine lv_istore_n (lv' := [(3, .int ((s_at S) x.toNatClampNeg)), (0, .ref (b 0)), (1, .int (nI x.toNatClampNeg)), (2, .int o)]) C.1 C.2.1 dX3_seek_43 rfl hl (by decide) rfl (fun ls hl => ?_)
      refine lv_aload_n C.1 C.2.1 dX3_seek_44 rfl (lv_at hl 1 rfl) ?_
      refine gGet (v := .ref (b 8)) (ref := RX3) (Cn := RX3) (T := TX3) (N := 19) C iX3 hO 0 rfl rfl 15 (by decide) w32 (fun _ h9 => h9) rfl dX3_seek_45 ?_
      refine lv_iload_n C.1 C.2.1 dX3_seek_48 rfl (lv_at hl 2 rfl) ?_
      refine lv_iload_n C.1 C.2.1 dX3_seek_49 rfl (lv_at hl 3 rfl) ?_
      refine gIast (j := x.toNatClampNeg) (ws' := (mW E b (mkS (s_off S) (s_key S) (s_val S) (s_sto S) (s_n S) (s_nx S) (s_dr S) (s_hr S) (s_sc S) (s_on S) (s_said S) (s_sh S) (s_pc S) (upd (s_at S) x.toNatClampNeg o) (s_hd S) (s_ms S) (s_kn S)) 0 mk ++ F)) C hO 8 rfl hi9 (by decide) rfl dX3_seek_50 (fun H locs hO => ?_)
      refine lv_iload_n C.1 C.2.1 dX3_seek_51 rfl (lv_at hl 0 rfl) ?_
      exact gRi C hO rfl rfl dX3_seek_52 (Nat.le_of_ble_eq_true rfl) (Nat.le_of_ble_eq_true rfl)
    · exact absurd hok.2 (bF c_2)
  · exact absurd hok.1 (bF c_1)

set_option maxHeartbeats 4000000 in
set_option maxRecDepth 100000 in
theorem c_X3_seek_no (l : Launch) (E : gE) (b : Nat → Nat) (S : St) (th : Int32) (mk : Nat → Int32) (F : va_W) (x o : Int32) (hI : s_inv S) (hsr : s_srt S) (hok : ¬ okShip S x) : gMi l E yX3_seek wsX3_seek ({ frames := 2, cells := 0, slots := 0, locals := 43 }) (mW E b S th mk ++ F) [.ref (b 0), .int x, .int o] 0 (mW E b S 1 mk ++ F) 0 0 := by
  refine gMi.of (cc := cX3_seek) (maxL := 4) (ty := .int) (by decide) rfl (Nat.le_of_ble_eq_true rfl) ?_
  intro p e s m args below meth c A C ls hl hO
  have hl : lv_has ls 4 [(0, .ref (b 0)), (1, .int x), (2, .int o)] := hl
  have iX3 : ∀ w ∈ u_ws RX3 TX3 19, w ∈ wsX3_seek := by decide +kernel
  have w44 : Cond.fieldLink RX3 44 "ParrotLogModel" "thrown" "I" ∈ wsX3_seek := by decide +kernel
  obtain ⟨hn, hsh, hsc, hOn, hOb, hok9, hpc9, hp0⟩ := hI
  refine lv_aload_n C.1 C.2.1 dX3_seek_0 rfl (lv_at hl 0 rfl) ?_
  refine lv_iconst (v := 0) C.1 C.2.1 dX3_seek_1 (by decide) ?_
  refine gPut (ws' := (mW E b S 0 mk ++ F)) (ref := RX3) (Cn := RX3) (T := TX3) (N := 19) C iX3 tyX3 tyX3_ok nmX3 hO 0 rfl rfl 0 (by decide) w44 (fun _ h9 => h9) rfl (by decide +kernel) rfl rfl (Nat.le_of_ble_eq_true rfl) rfl dX3_seek_2 (fun H locs hO => ?_)
  refine lv_aload_n C.1 C.2.1 dX3_seek_5 rfl (lv_at hl 0 rfl) ?_
  refine lv_iload_n C.1 C.2.1 dX3_seek_6 rfl (lv_at hl 1 rfl) ?_
  refine gCall_i (As := [.int x]) (rest := []) C hO (c_X3_isShip l E b S 0 mk F x (by omega)) (cwV 1 C.2.2.2.2.1 gX3_seek_X3_isShip rfl rfl rfl (by decide +kernel) ⟨(Nat.le_of_ble_eq_true rfl), (Nat.le_of_ble_eq_true rfl)⟩) (va_recv C.2.2.2.2.2.2.2.1.1 hO.1 (ci := 3) (q0 := 0) rfl rfl) rfl hl.1 rfl (Nat.le_of_ble_eq_true rfl) dX3_seek_7 ⟨(Nat.le_of_ble_eq_true rfl), (Nat.le_of_ble_eq_true rfl)⟩ (fun H locs hO => ?_)
  refine lv_if_ne (tgt := 19) C.1 C.2.1 dX3_seek_10 (by decide) (fun c_1 => ?_) (fun c_1 => ?_)
  · exact absurd (bT c_1) hok
  · refine lv_aload_n C.1 C.2.1 dX3_seek_13 rfl (lv_at hl 0 rfl) ?_
    refine lv_iconst (v := 1) C.1 C.2.1 dX3_seek_14 (by decide) ?_
    refine gCall_i (As := [.int 1]) (rest := []) C hO (c_X3_fail l E b S 0 mk F 1) (cwV 1 C.2.2.2.2.1 gX3_seek_X3_fail rfl rfl rfl (by decide +kernel) ⟨(Nat.le_of_ble_eq_true rfl), (Nat.le_of_ble_eq_true rfl)⟩) (va_recv C.2.2.2.2.2.2.2.1.1 hO.1 (ci := 3) (q0 := 0) rfl rfl) rfl hl.1 rfl (Nat.le_of_ble_eq_true rfl) dX3_seek_15 ⟨(Nat.le_of_ble_eq_true rfl), (Nat.le_of_ble_eq_true rfl)⟩ (fun H locs hO => ?_)
    have hO : gO E A s (mW E b S 1 mk ++ F) H locs := hO
    exact gRi C hO rfl rfl dX3_seek_18 (Nat.le_of_ble_eq_true rfl) (Nat.le_of_ble_eq_true rfl)

set_option maxHeartbeats 4000000 in
set_option maxRecDepth 100000 in
theorem c_X3_seek_no2 (l : Launch) (E : gE) (b : Nat → Nat) (S : St) (th : Int32) (mk : Nat → Int32) (F : va_W) (x o : Int32) (hI : s_inv S) (hsr : s_srt S) (hok : okShip S x ∧ ¬ okOff S o) : gMi l E yX3_seek wsX3_seek ({ frames := 2, cells := 0, slots := 0, locals := 43 }) (mW E b S th mk ++ F) [.ref (b 0), .int x, .int o] 0 (mW E b S 2 mk ++ F) 0 0 := by
  refine gMi.of (cc := cX3_seek) (maxL := 4) (ty := .int) (by decide) rfl (Nat.le_of_ble_eq_true rfl) ?_
  intro p e s m args below meth c A C ls hl hO
  have hl : lv_has ls 4 [(0, .ref (b 0)), (1, .int x), (2, .int o)] := hl
  have iX3 : ∀ w ∈ u_ws RX3 TX3 19, w ∈ wsX3_seek := by decide +kernel
  have w44 : Cond.fieldLink RX3 44 "ParrotLogModel" "thrown" "I" ∈ wsX3_seek := by decide +kernel
  have w68 : Cond.fieldLink RX3 68 "ParrotLogModel" "next" "I" ∈ wsX3_seek := by decide +kernel
  obtain ⟨hn, hsh, hsc, hOn, hOb, hok9, hpc9, hp0⟩ := hI
  refine lv_aload_n C.1 C.2.1 dX3_seek_0 rfl (lv_at hl 0 rfl) ?_
  refine lv_iconst (v := 0) C.1 C.2.1 dX3_seek_1 (by decide) ?_
  refine gPut (ws' := (mW E b S 0 mk ++ F)) (ref := RX3) (Cn := RX3) (T := TX3) (N := 19) C iX3 tyX3 tyX3_ok nmX3 hO 0 rfl rfl 0 (by decide) w44 (fun _ h9 => h9) rfl (by decide +kernel) rfl rfl (Nat.le_of_ble_eq_true rfl) rfl dX3_seek_2 (fun H locs hO => ?_)
  refine lv_aload_n C.1 C.2.1 dX3_seek_5 rfl (lv_at hl 0 rfl) ?_
  refine lv_iload_n C.1 C.2.1 dX3_seek_6 rfl (lv_at hl 1 rfl) ?_
  refine gCall_i (As := [.int x]) (rest := []) C hO (c_X3_isShip l E b S 0 mk F x (by omega)) (cwV 1 C.2.2.2.2.1 gX3_seek_X3_isShip rfl rfl rfl (by decide +kernel) ⟨(Nat.le_of_ble_eq_true rfl), (Nat.le_of_ble_eq_true rfl)⟩) (va_recv C.2.2.2.2.2.2.2.1.1 hO.1 (ci := 3) (q0 := 0) rfl rfl) rfl hl.1 rfl (Nat.le_of_ble_eq_true rfl) dX3_seek_7 ⟨(Nat.le_of_ble_eq_true rfl), (Nat.le_of_ble_eq_true rfl)⟩ (fun H locs hO => ?_)
  refine lv_if_ne (tgt := 19) C.1 C.2.1 dX3_seek_10 (by decide) (fun c_1 => ?_) (fun c_1 => ?_)
  · refine lv_iload_n C.1 C.2.1 dX3_seek_19 rfl (lv_at hl 2 rfl) ?_
    refine lv_iconst (v := 0) C.1 C.2.1 dX3_seek_20 (by decide) ?_
    refine lv_aload_n C.1 C.2.1 dX3_seek_21 rfl (lv_at hl 0 rfl) ?_
    refine gGet (v := .int (s_nx S)) (ref := RX3) (Cn := RX3) (T := TX3) (N := 19) C iX3 hO 0 rfl rfl 7 (by decide) w68 (fun _ h9 => h9) rfl dX3_seek_22 ?_
    refine gCallS_i (As := [.int o, .int 0, .int (s_nx S)]) (rest := []) C hO (c_X3_isIn l E b S 0 mk F o 0 (s_nx S)) (cwS 3 C.2.2.2.2.1 gX3_seek_X3_isIn rfl rfl rfl (by decide +kernel) ⟨(Nat.le_of_ble_eq_true rfl), (Nat.le_of_ble_eq_true rfl)⟩) rfl hl.1 rfl (Nat.le_of_ble_eq_true rfl) dX3_seek_25 ⟨(Nat.le_of_ble_eq_true rfl), (Nat.le_of_ble_eq_true rfl)⟩ (fun H locs hO => ?_)
    refine lv_if_ne (tgt := 37) C.1 C.2.1 dX3_seek_28 (by decide) (fun c_2 => ?_) (fun c_2 => ?_)
    · exact absurd (bT c_2) hok.2
    · refine lv_aload_n C.1 C.2.1 dX3_seek_31 rfl (lv_at hl 0 rfl) ?_
      refine lv_iconst (v := nI 2) C.1 C.2.1 dX3_seek_32 (by decide) ?_
      refine gCall_i (As := [.int (nI 2)]) (rest := []) C hO (c_X3_fail l E b S 0 mk F (nI 2)) (cwV 1 C.2.2.2.2.1 gX3_seek_X3_fail rfl rfl rfl (by decide +kernel) ⟨(Nat.le_of_ble_eq_true rfl), (Nat.le_of_ble_eq_true rfl)⟩) (va_recv C.2.2.2.2.2.2.2.1.1 hO.1 (ci := 3) (q0 := 0) rfl rfl) rfl hl.1 rfl (Nat.le_of_ble_eq_true rfl) dX3_seek_33 ⟨(Nat.le_of_ble_eq_true rfl), (Nat.le_of_ble_eq_true rfl)⟩ (fun H locs hO => ?_)
      have hO : gO E A s (mW E b S (nI 2) mk ++ F) H locs := hO
      exact gRi C hO rfl rfl dX3_seek_36 (Nat.le_of_ble_eq_true rfl) (Nat.le_of_ble_eq_true rfl)
  · exact absurd hok.1 (bF c_1)
