set_option maxHeartbeats 4000000 in
set_option maxRecDepth 100000 in
theorem c_X3_hours (l : Launch) (E : gE) (b : Nat → Nat) (S : St) (th : Int32) (mk : Nat → Int32) (F : va_W)  (hI : s_inv S) (hsr : s_srt S) : gMi l E yX3_hours wsX3_hours ({ frames := 1, cells := 0, slots := 0, locals := 21 }) (mW E b S th mk ++ F) [.ref (b 0)] (s_hr S) (mW E b S 0 mk ++ F) 0 0 := by
  refine gMi.of (cc := cX3_hours) (maxL := 1) (ty := .int) (by decide) rfl (Nat.le_of_ble_eq_true rfl) ?_
  intro p e s m args below meth c A C ls hl hO
  have hl : lv_has ls 1 [(0, .ref (b 0))] := hl
  have iX3 : ∀ w ∈ u_ws RX3 TX3 19, w ∈ wsX3_hours := by decide +kernel
  have w105 : Cond.fieldLink RX3 105 "ParrotLogModel" "hours" "I" ∈ wsX3_hours := by decide +kernel
  obtain ⟨hn, hsh, hsc, hOn, hOb, hok9, hpc9, hp0⟩ := hI
  refine lv_aload_n C.1 C.2.1 dX3_hours_0 rfl (lv_at hl 0 rfl) ?_
  refine lv_aload_n C.1 C.2.1 dX3_hours_1 rfl (lv_at hl 0 rfl) ?_
  refine gGet (v := .int (s_hr S)) (ref := RX3) (Cn := RX3) (T := TX3) (N := 19) C iX3 hO 0 rfl rfl 9 (by decide) w105 (fun _ h9 => h9) rfl dX3_hours_2 ?_
  refine gCall_i (As := [.int (s_hr S)]) (rest := []) C hO (c_X3_told l E b S th mk F (s_hr S)) (cwV 1 C.2.2.2.2.1 gX3_hours_X3_told rfl rfl rfl (by decide +kernel) ⟨(Nat.le_of_ble_eq_true rfl), (Nat.le_of_ble_eq_true rfl)⟩) (va_recv C.2.2.2.2.2.2.2.1.1 hO.1 (ci := 3) (q0 := 0) rfl rfl) rfl hl.1 rfl (Nat.le_of_ble_eq_true rfl) dX3_hours_5 ⟨(Nat.le_of_ble_eq_true rfl), (Nat.le_of_ble_eq_true rfl)⟩ (fun H locs hO => ?_)
  have hO : gO E A s (mW E b S 0 mk ++ F) H locs := hO
  exact gRi C hO rfl rfl dX3_hours_8 (Nat.le_of_ble_eq_true rfl) (Nat.le_of_ble_eq_true rfl)

set_option maxHeartbeats 4000000 in
set_option maxRecDepth 100000 in
theorem c_X3_phrases (l : Launch) (E : gE) (b : Nat → Nat) (S : St) (th : Int32) (mk : Nat → Int32) (F : va_W)  (hI : s_inv S) (hsr : s_srt S) : gMi l E yX3_phrases wsX3_phrases ({ frames := 1, cells := 0, slots := 0, locals := 21 }) (mW E b S th mk ++ F) [.ref (b 0)] (nI (s_n S)) (mW E b S 0 mk ++ F) 0 0 := by
  refine gMi.of (cc := cX3_phrases) (maxL := 1) (ty := .int) (by decide) rfl (Nat.le_of_ble_eq_true rfl) ?_
  intro p e s m args below meth c A C ls hl hO
  have hl : lv_has ls 1 [(0, .ref (b 0))] := hl
  have iX3 : ∀ w ∈ u_ws RX3 TX3 19, w ∈ wsX3_phrases := by decide +kernel
  have w58 : Cond.fieldLink RX3 58 "ParrotLogModel" "many" "I" ∈ wsX3_phrases := by decide +kernel
  obtain ⟨hn, hsh, hsc, hOn, hOb, hok9, hpc9, hp0⟩ := hI
  refine lv_aload_n C.1 C.2.1 dX3_phrases_0 rfl (lv_at hl 0 rfl) ?_
  refine lv_aload_n C.1 C.2.1 dX3_phrases_1 rfl (lv_at hl 0 rfl) ?_
  refine gGet (v := .int (nI (s_n S))) (ref := RX3) (Cn := RX3) (T := TX3) (N := 19) C iX3 hO 0 rfl rfl 1 (by decide) w58 (fun _ h9 => h9) rfl dX3_phrases_2 ?_
  refine gCall_i (As := [.int (nI (s_n S))]) (rest := []) C hO (c_X3_told l E b S th mk F (nI (s_n S))) (cwV 1 C.2.2.2.2.1 gX3_phrases_X3_told rfl rfl rfl (by decide +kernel) ⟨(Nat.le_of_ble_eq_true rfl), (Nat.le_of_ble_eq_true rfl)⟩) (va_recv C.2.2.2.2.2.2.2.1.1 hO.1 (ci := 3) (q0 := 0) rfl rfl) rfl hl.1 rfl (Nat.le_of_ble_eq_true rfl) dX3_phrases_5 ⟨(Nat.le_of_ble_eq_true rfl), (Nat.le_of_ble_eq_true rfl)⟩ (fun H locs hO => ?_)
  have hO : gO E A s (mW E b S 0 mk ++ F) H locs := hO
  exact gRi C hO rfl rfl dX3_phrases_8 (Nat.le_of_ble_eq_true rfl) (Nat.le_of_ble_eq_true rfl)

set_option maxHeartbeats 4000000 in
set_option maxRecDepth 100000 in
theorem c_X3_nextOffset (l : Launch) (E : gE) (b : Nat → Nat) (S : St) (th : Int32) (mk : Nat → Int32) (F : va_W)  (hI : s_inv S) (hsr : s_srt S) : gMi l E yX3_nextOffset wsX3_nextOffset ({ frames := 1, cells := 0, slots := 0, locals := 21 }) (mW E b S th mk ++ F) [.ref (b 0)] (s_nx S) (mW E b S 0 mk ++ F) 0 0 := by
  refine gMi.of (cc := cX3_nextOffset) (maxL := 1) (ty := .int) (by decide) rfl (Nat.le_of_ble_eq_true rfl) ?_
  intro p e s m args below meth c A C ls hl hO
  have hl : lv_has ls 1 [(0, .ref (b 0))] := hl
  have iX3 : ∀ w ∈ u_ws RX3 TX3 19, w ∈ wsX3_nextOffset := by decide +kernel
  have w68 : Cond.fieldLink RX3 68 "ParrotLogModel" "next" "I" ∈ wsX3_nextOffset := by decide +kernel
  obtain ⟨hn, hsh, hsc, hOn, hOb, hok9, hpc9, hp0⟩ := hI
  refine lv_aload_n C.1 C.2.1 dX3_nextOffset_0 rfl (lv_at hl 0 rfl) ?_
  refine lv_aload_n C.1 C.2.1 dX3_nextOffset_1 rfl (lv_at hl 0 rfl) ?_
  refine gGet (v := .int (s_nx S)) (ref := RX3) (Cn := RX3) (T := TX3) (N := 19) C iX3 hO 0 rfl rfl 7 (by decide) w68 (fun _ h9 => h9) rfl dX3_nextOffset_2 ?_
  refine gCall_i (As := [.int (s_nx S)]) (rest := []) C hO (c_X3_told l E b S th mk F (s_nx S)) (cwV 1 C.2.2.2.2.1 gX3_nextOffset_X3_told rfl rfl rfl (by decide +kernel) ⟨(Nat.le_of_ble_eq_true rfl), (Nat.le_of_ble_eq_true rfl)⟩) (va_recv C.2.2.2.2.2.2.2.1.1 hO.1 (ci := 3) (q0 := 0) rfl rfl) rfl hl.1 rfl (Nat.le_of_ble_eq_true rfl) dX3_nextOffset_5 ⟨(Nat.le_of_ble_eq_true rfl), (Nat.le_of_ble_eq_true rfl)⟩ (fun H locs hO => ?_)
  have hO : gO E A s (mW E b S 0 mk ++ F) H locs := hO
  exact gRi C hO rfl rfl dX3_nextOffset_8 (Nat.le_of_ble_eq_true rfl) (Nat.le_of_ble_eq_true rfl)

set_option maxHeartbeats 4000000 in
set_option maxRecDepth 100000 in
theorem c_X3_firstOffset (l : Launch) (E : gE) (b : Nat → Nat) (S : St) (th : Int32) (mk : Nat → Int32) (F : va_W)  (hI : s_inv S) (hsr : s_srt S) : gMi l E yX3_firstOffset wsX3_firstOffset ({ frames := 1, cells := 0, slots := 0, locals := 21 }) (mW E b S th mk ++ F) [.ref (b 0)] (s_first S) (mW E b S 0 mk ++ F) 0 0 := by
  refine gMi.of (cc := cX3_firstOffset) (maxL := 1) (ty := .int) (by decide) rfl (Nat.le_of_ble_eq_true rfl) ?_
  intro p e s m args below meth c A C ls hl hO
  have hl : lv_has ls 1 [(0, .ref (b 0))] := hl
  obtain ⟨hn, hsh, hsc, hOn, hOb, hok9, hpc9, hp0⟩ := hI
  refine lv_aload_n C.1 C.2.1 dX3_firstOffset_0 rfl (lv_at hl 0 rfl) ?_
  refine lv_aload_n C.1 C.2.1 dX3_firstOffset_1 rfl (lv_at hl 0 rfl) ?_
  refine gCall_i (As := []) (rest := [.ref (b 0)]) C hO (c_X3_first l E b S th mk F (by omega)) (cwV 0 C.2.2.2.2.1 gX3_firstOffset_X3_first rfl rfl rfl (by decide +kernel) ⟨(Nat.le_of_ble_eq_true rfl), (Nat.le_of_ble_eq_true rfl)⟩) (va_recv C.2.2.2.2.2.2.2.1.1 hO.1 (ci := 3) (q0 := 0) rfl rfl) rfl hl.1 rfl (Nat.le_of_ble_eq_true rfl) dX3_firstOffset_2 ⟨(Nat.le_of_ble_eq_true rfl), (Nat.le_of_ble_eq_true rfl)⟩ (fun H locs hO => ?_)
  refine gCall_i (As := [.int (s_first S)]) (rest := []) C hO (c_X3_told l E b S th mk F (s_first S)) (cwV 1 C.2.2.2.2.1 gX3_firstOffset_X3_told rfl rfl rfl (by decide +kernel) ⟨(Nat.le_of_ble_eq_true rfl), (Nat.le_of_ble_eq_true rfl)⟩) (va_recv C.2.2.2.2.2.2.2.1.1 hO.1 (ci := 3) (q0 := 0) rfl rfl) rfl hl.1 rfl (Nat.le_of_ble_eq_true rfl) dX3_firstOffset_5 ⟨(Nat.le_of_ble_eq_true rfl), (Nat.le_of_ble_eq_true rfl)⟩ (fun H locs hO => ?_)
  have hO : gO E A s (mW E b S 0 mk ++ F) H locs := hO
  exact gRi C hO rfl rfl dX3_firstOffset_8 (Nat.le_of_ble_eq_true rfl) (Nat.le_of_ble_eq_true rfl)

set_option maxHeartbeats 4000000 in
set_option maxRecDepth 100000 in
theorem c_X3_dropped (l : Launch) (E : gE) (b : Nat → Nat) (S : St) (th : Int32) (mk : Nat → Int32) (F : va_W)  (hI : s_inv S) (hsr : s_srt S) : gMi l E yX3_dropped wsX3_dropped ({ frames := 1, cells := 0, slots := 0, locals := 21 }) (mW E b S th mk ++ F) [.ref (b 0)] (s_dr S) (mW E b S 0 mk ++ F) 0 0 := by
  refine gMi.of (cc := cX3_dropped) (maxL := 1) (ty := .int) (by decide) rfl (Nat.le_of_ble_eq_true rfl) ?_
  intro p e s m args below meth c A C ls hl hO
  have hl : lv_has ls 1 [(0, .ref (b 0))] := hl
  have iX3 : ∀ w ∈ u_ws RX3 TX3 19, w ∈ wsX3_dropped := by decide +kernel
  have w61 : Cond.fieldLink RX3 61 "ParrotLogModel" "dropped" "I" ∈ wsX3_dropped := by decide +kernel
  obtain ⟨hn, hsh, hsc, hOn, hOb, hok9, hpc9, hp0⟩ := hI
  refine lv_aload_n C.1 C.2.1 dX3_dropped_0 rfl (lv_at hl 0 rfl) ?_
  refine lv_aload_n C.1 C.2.1 dX3_dropped_1 rfl (lv_at hl 0 rfl) ?_
  refine gGet (v := .int (s_dr S)) (ref := RX3) (Cn := RX3) (T := TX3) (N := 19) C iX3 hO 0 rfl rfl 8 (by decide) w61 (fun _ h9 => h9) rfl dX3_dropped_2 ?_
  refine gCall_i (As := [.int (s_dr S)]) (rest := []) C hO (c_X3_told l E b S th mk F (s_dr S)) (cwV 1 C.2.2.2.2.1 gX3_dropped_X3_told rfl rfl rfl (by decide +kernel) ⟨(Nat.le_of_ble_eq_true rfl), (Nat.le_of_ble_eq_true rfl)⟩) (va_recv C.2.2.2.2.2.2.2.1.1 hO.1 (ci := 3) (q0 := 0) rfl rfl) rfl hl.1 rfl (Nat.le_of_ble_eq_true rfl) dX3_dropped_5 ⟨(Nat.le_of_ble_eq_true rfl), (Nat.le_of_ble_eq_true rfl)⟩ (fun H locs hO => ?_)
  have hO : gO E A s (mW E b S 0 mk ++ F) H locs := hO
  exact gRi C hO rfl rfl dX3_dropped_8 (Nat.le_of_ble_eq_true rfl) (Nat.le_of_ble_eq_true rfl)

set_option maxHeartbeats 4000000 in
set_option maxRecDepth 100000 in
theorem c_X3_storms (l : Launch) (E : gE) (b : Nat → Nat) (S : St) (th : Int32) (mk : Nat → Int32) (F : va_W)  (hI : s_inv S) (hsr : s_srt S) : gMi l E yX3_storms wsX3_storms ({ frames := 1, cells := 0, slots := 0, locals := 21 }) (mW E b S th mk ++ F) [.ref (b 0)] (nI (s_sc S)) (mW E b S 0 mk ++ F) 0 0 := by
  refine gMi.of (cc := cX3_storms) (maxL := 1) (ty := .int) (by decide) rfl (Nat.le_of_ble_eq_true rfl) ?_
  intro p e s m args below meth c A C ls hl hO
  have hl : lv_has ls 1 [(0, .ref (b 0))] := hl
  have iX3 : ∀ w ∈ u_ws RX3 TX3 19, w ∈ wsX3_storms := by decide +kernel
  have w55 : Cond.fieldLink RX3 55 "ParrotLogModel" "storms" "I" ∈ wsX3_storms := by decide +kernel
  obtain ⟨hn, hsh, hsc, hOn, hOb, hok9, hpc9, hp0⟩ := hI
  refine lv_aload_n C.1 C.2.1 dX3_storms_0 rfl (lv_at hl 0 rfl) ?_
  refine lv_aload_n C.1 C.2.1 dX3_storms_1 rfl (lv_at hl 0 rfl) ?_
  refine gGet (v := .int (nI (s_sc S))) (ref := RX3) (Cn := RX3) (T := TX3) (N := 19) C iX3 hO 0 rfl rfl 10 (by decide) w55 (fun _ h9 => h9) rfl dX3_storms_2 ?_
  refine gCall_i (As := [.int (nI (s_sc S))]) (rest := []) C hO (c_X3_told l E b S th mk F (nI (s_sc S))) (cwV 1 C.2.2.2.2.1 gX3_storms_X3_told rfl rfl rfl (by decide +kernel) ⟨(Nat.le_of_ble_eq_true rfl), (Nat.le_of_ble_eq_true rfl)⟩) (va_recv C.2.2.2.2.2.2.2.1.1 hO.1 (ci := 3) (q0 := 0) rfl rfl) rfl hl.1 rfl (Nat.le_of_ble_eq_true rfl) dX3_storms_5 ⟨(Nat.le_of_ble_eq_true rfl), (Nat.le_of_ble_eq_true rfl)⟩ (fun H locs hO => ?_)
  have hO : gO E A s (mW E b S 0 mk ++ F) H locs := hO
  exact gRi C hO rfl rfl dX3_storms_8 (Nat.le_of_ble_eq_true rfl) (Nat.le_of_ble_eq_true rfl)

set_option maxHeartbeats 4000000 in
set_option maxRecDepth 100000 in
theorem c_X3_ships (l : Launch) (E : gE) (b : Nat → Nat) (S : St) (th : Int32) (mk : Nat → Int32) (F : va_W)  (hI : s_inv S) (hsr : s_srt S) : gMi l E yX3_ships wsX3_ships ({ frames := 1, cells := 0, slots := 0, locals := 21 }) (mW E b S th mk ++ F) [.ref (b 0)] (nI (s_sh S)) (mW E b S 0 mk ++ F) 0 0 := by
  refine gMi.of (cc := cX3_ships) (maxL := 1) (ty := .int) (by decide) rfl (Nat.le_of_ble_eq_true rfl) ?_
  intro p e s m args below meth c A C ls hl hO
  have hl : lv_has ls 1 [(0, .ref (b 0))] := hl
  have iX3 : ∀ w ∈ u_ws RX3 TX3 19, w ∈ wsX3_ships := by decide +kernel
  have w48 : Cond.fieldLink RX3 48 "ParrotLogModel" "ships" "I" ∈ wsX3_ships := by decide +kernel
  obtain ⟨hn, hsh, hsc, hOn, hOb, hok9, hpc9, hp0⟩ := hI
  refine lv_aload_n C.1 C.2.1 dX3_ships_0 rfl (lv_at hl 0 rfl) ?_
  refine lv_aload_n C.1 C.2.1 dX3_ships_1 rfl (lv_at hl 0 rfl) ?_
  refine gGet (v := .int (nI (s_sh S))) (ref := RX3) (Cn := RX3) (T := TX3) (N := 19) C iX3 hO 0 rfl rfl 13 (by decide) w48 (fun _ h9 => h9) rfl dX3_ships_2 ?_
  refine gCall_i (As := [.int (nI (s_sh S))]) (rest := []) C hO (c_X3_told l E b S th mk F (nI (s_sh S))) (cwV 1 C.2.2.2.2.1 gX3_ships_X3_told rfl rfl rfl (by decide +kernel) ⟨(Nat.le_of_ble_eq_true rfl), (Nat.le_of_ble_eq_true rfl)⟩) (va_recv C.2.2.2.2.2.2.2.1.1 hO.1 (ci := 3) (q0 := 0) rfl rfl) rfl hl.1 rfl (Nat.le_of_ble_eq_true rfl) dX3_ships_5 ⟨(Nat.le_of_ble_eq_true rfl), (Nat.le_of_ble_eq_true rfl)⟩ (fun H locs hO => ?_)
  have hO : gO E A s (mW E b S 0 mk ++ F) H locs := hO
  exact gRi C hO rfl rfl dX3_ships_8 (Nat.le_of_ble_eq_true rfl) (Nat.le_of_ble_eq_true rfl)

set_option maxHeartbeats 4000000 in
set_option maxRecDepth 100000 in
theorem c_X3_isStormy (l : Launch) (E : gE) (b : Nat → Nat) (S : St) (th : Int32) (mk : Nat → Int32) (F : va_W)  (hI : s_inv S) (hsr : s_srt S) : gMi l E yX3_isStormy wsX3_isStormy ({ frames := 0, cells := 0, slots := 0, locals := 0 }) (mW E b S th mk ++ F) [.ref (b 0)] (s_on S) (mW E b S 0 mk ++ F) 0 0 := by
  refine gMi.of (cc := cX3_isStormy) (maxL := 1) (ty := .boolean) (by decide) rfl (Nat.le_of_ble_eq_true rfl) ?_
  intro p e s m args below meth c A C ls hl hO
  have hl : lv_has ls 1 [(0, .ref (b 0))] := hl
  have iX3 : ∀ w ∈ u_ws RX3 TX3 19, w ∈ wsX3_isStormy := by decide +kernel
  have w44 : Cond.fieldLink RX3 44 "ParrotLogModel" "thrown" "I" ∈ wsX3_isStormy := by decide +kernel
  have w71 : Cond.fieldLink RX3 71 "ParrotLogModel" "isOn" "Z" ∈ wsX3_isStormy := by decide +kernel
  obtain ⟨hn, hsh, hsc, hOn, hOb, hok9, hpc9, hp0⟩ := hI
  refine lv_aload_n C.1 C.2.1 dX3_isStormy_0 rfl (lv_at hl 0 rfl) ?_
  refine lv_iconst (v := 0) C.1 C.2.1 dX3_isStormy_1 (by decide) ?_
  refine gPut (ws' := (mW E b S 0 mk ++ F)) (ref := RX3) (Cn := RX3) (T := TX3) (N := 19) C iX3 tyX3 tyX3_ok nmX3 hO 0 rfl rfl 0 (by decide) w44 (fun _ h9 => h9) rfl (by decide +kernel) rfl rfl (Nat.le_of_ble_eq_true rfl) rfl dX3_isStormy_2 (fun H locs hO => ?_)
  refine lv_aload_n C.1 C.2.1 dX3_isStormy_5 rfl (lv_at hl 0 rfl) ?_
  refine gGet (v := .int (s_on S)) (ref := RX3) (Cn := RX3) (T := TX3) (N := 19) C iX3 hO 0 rfl rfl 11 (by decide) w71 (fun _ h9 => h9) rfl dX3_isStormy_6 ?_
  exact gRi C hO (by rcases hOb with g | g <;> rw [g] <;> rfl) rfl dX3_isStormy_9 (Nat.le_of_ble_eq_true rfl) (Nat.le_of_ble_eq_true rfl)

set_option maxHeartbeats 4000000 in
set_option maxRecDepth 100000 in
theorem c_X3_isKept (l : Launch) (E : gE) (b : Nat → Nat) (S : St) (th : Int32) (mk : Nat → Int32) (F : va_W) (o : Int32) (hI : s_inv S) (hsr : s_srt S) : gMi l E yX3_isKept wsX3_isKept ({ frames := 2, cells := 0, slots := 0, locals := 44 }) (mW E b S th mk ++ F) [.ref (b 0), .int o] (if s_po S o = none then 0 else 1) (mW E b S 0 mk ++ F) 0 0 := by
  refine gMi.of (cc := cX3_isKept) (maxL := 2) (ty := .boolean) (by decide) rfl (Nat.le_of_ble_eq_true rfl) ?_
  intro p e s m args below meth c A C ls hl hO
  have hl : lv_has ls 2 [(0, .ref (b 0)), (1, .int o)] := hl
  have iX3 : ∀ w ∈ u_ws RX3 TX3 19, w ∈ wsX3_isKept := by decide +kernel
  have w44 : Cond.fieldLink RX3 44 "ParrotLogModel" "thrown" "I" ∈ wsX3_isKept := by decide +kernel
  obtain ⟨hn, hsh, hsc, hOn, hOb, hok9, hpc9, hp0⟩ := hI
  refine lv_aload_n C.1 C.2.1 dX3_isKept_0 rfl (lv_at hl 0 rfl) ?_
  refine lv_iconst (v := 0) C.1 C.2.1 dX3_isKept_1 (by decide) ?_
  refine gPut (ws' := (mW E b S 0 mk ++ F)) (ref := RX3) (Cn := RX3) (T := TX3) (N := 19) C iX3 tyX3 tyX3_ok nmX3 hO 0 rfl rfl 0 (by decide) w44 (fun _ h9 => h9) rfl (by decide +kernel) rfl rfl (Nat.le_of_ble_eq_true rfl) rfl dX3_isKept_2 (fun H locs hO => ?_)
  refine lv_aload_n C.1 C.2.1 dX3_isKept_5 rfl (lv_at hl 0 rfl) ?_
  refine lv_iload_n C.1 C.2.1 dX3_isKept_6 rfl (lv_at hl 1 rfl) ?_
  refine gCall_i (As := [.int o]) (rest := []) C hO (c_X3_place l E b S 0 mk F o (by omega)) (cwV 1 C.2.2.2.2.1 gX3_isKept_X3_place rfl rfl rfl (by decide +kernel) ⟨(Nat.le_of_ble_eq_true rfl), (Nat.le_of_ble_eq_true rfl)⟩) (va_recv C.2.2.2.2.2.2.2.1.1 hO.1 (ci := 3) (q0 := 0) rfl rfl) rfl hl.1 rfl (Nat.le_of_ble_eq_true rfl) dX3_isKept_7 ⟨(Nat.le_of_ble_eq_true rfl), (Nat.le_of_ble_eq_true rfl)⟩ (fun H locs hO => ?_)
  refine lv_iconst (v := (-1)) C.1 C.2.1 dX3_isKept_10 (by decide) ?_
  refine lv_icmp_eq (tgt := 18) C.1 C.2.1 dX3_isKept_11 (by decide) (fun c_1 => ?_) (fun c_1 => ?_)
  · have hz : s_po S o = none := (oI_ne (fun i hi => by have := s_po_lt hi; omega)).mp c_1
    refine lv_iconst (v := 0) C.1 C.2.1 dX3_isKept_18 (by decide) ?_
    exact gRi C hO rfl (by first | exact ((if_pos hz).symm) | exact ((if_neg hz).symm)) dX3_isKept_19 (Nat.le_of_ble_eq_true rfl) (Nat.le_of_ble_eq_true rfl)
  · have hz : ¬ s_po S o = none := fun g => c_1 (by rw [g]; rfl)
    refine lv_iconst (v := 1) C.1 C.2.1 dX3_isKept_14 (by decide) ?_
    refine lv_goto (tgt := 19) C.1 C.2.1 dX3_isKept_15 (by decide) ?_
    exact gRi C hO rfl (by first | exact ((if_pos hz).symm) | exact ((if_neg hz).symm)) dX3_isKept_19 (Nat.le_of_ble_eq_true rfl) (Nat.le_of_ble_eq_true rfl)

set_option maxHeartbeats 4000000 in
set_option maxRecDepth 100000 in
theorem c_X3_of_ok (l : Launch) (E : gE) (b : Nat → Nat) (S : St) (th : Int32) (mk : Nat → Int32) (F : va_W) (o : Int32) (q9 r : Nat) (g : Nat → Int32) (hn : s_n S ≤ 48) (hok : s_po S o ≠ none) (hq : (mW E b S 0 mk ++ F)[q9]? = some (r, .inl (eI E, 48, .inl g))) : gMi l E yX3_of wsX3_of ({ frames := 2, cells := 0, slots := 0, locals := 44 }) (mW E b S th mk ++ F) [.ref (b 0), .int o, .ref r] (s_ka S g o) (mW E b S 0 mk ++ F) 0 0 := by
  refine gMi.of (cc := cX3_of) (maxL := 4) (ty := .int) (by decide) rfl (Nat.le_of_ble_eq_true rfl) ?_
  intro p e s m args below meth c A C ls hl hO
  have hl : lv_has ls 4 [(0, .ref (b 0)), (1, .int o), (2, .ref r)] := hl
  have iX3 : ∀ w ∈ u_ws RX3 TX3 19, w ∈ wsX3_of := by decide +kernel
  have w44 : Cond.fieldLink RX3 44 "ParrotLogModel" "thrown" "I" ∈ wsX3_of := by decide +kernel
  refine lv_aload_n C.1 C.2.1 dX3_of_0 rfl (lv_at hl 0 rfl) ?_
  refine lv_iconst (v := 0) C.1 C.2.1 dX3_of_1 (by decide) ?_
  refine gPut (ws' := (mW E b S 0 mk ++ F)) (ref := RX3) (Cn := RX3) (T := TX3) (N := 19) C iX3 tyX3 tyX3_ok nmX3 hO 0 rfl rfl 0 (by decide) w44 (fun _ h9 => h9) rfl (by decide +kernel) rfl rfl (Nat.le_of_ble_eq_true rfl) rfl dX3_of_2 (fun H locs hO => ?_)
  refine lv_aload_n C.1 C.2.1 dX3_of_5 rfl (lv_at hl 0 rfl) ?_
  refine lv_iload_n C.1 C.2.1 dX3_of_6 rfl (lv_at hl 1 rfl) ?_
  refine gCall_i (As := [.int o]) (rest := []) C hO (c_X3_place l E b S 0 mk F o (by omega)) (cwV 1 C.2.2.2.2.1 gX3_of_X3_place rfl rfl rfl (by decide +kernel) ⟨(Nat.le_of_ble_eq_true rfl), (Nat.le_of_ble_eq_true rfl)⟩) (va_recv C.2.2.2.2.2.2.2.1.1 hO.1 (ci := 3) (q0 := 0) rfl rfl) rfl hl.1 rfl (Nat.le_of_ble_eq_true rfl) dX3_of_7 ⟨(Nat.le_of_ble_eq_true rfl), (Nat.le_of_ble_eq_true rfl)⟩ (fun H locs hO => ?_)
  refine lv_istore_n (lv' := [(3, .int (oI (s_po S o))), (0, .ref (b 0)), (1, .int o), (2, .ref r)]) C.1 C.2.1 dX3_of_10 rfl hl (by decide) rfl (fun ls hl => ?_)
  refine lv_iload_n C.1 C.2.1 dX3_of_11 rfl (lv_at hl 0 rfl) ?_
  refine lv_iconst (v := (-1)) C.1 C.2.1 dX3_of_12 (by decide) ?_
  refine lv_icmp_ne (tgt := 24) C.1 C.2.1 dX3_of_13 (by decide) (fun c_1 => ?_) (fun c_1 => ?_)
  · obtain ⟨i24, hz, hi8⟩ := s_po_ne hok
    refine lv_aload_n C.1 C.2.1 dX3_of_24 rfl (lv_at hl 3 rfl) ?_
    refine lv_iload_n C.1 C.2.1 dX3_of_25 rfl (lv_at hl 0 rfl) ?_
    refine lv_eqi (y := nI i24) (by rw [hz]; rfl) ?_
    refine gIald (v := g i24) (j := i24) C hO q9 hq (by omega) (by decide) rfl dX3_of_26 ?_
    exact gRi C hO rfl (by unfold s_ka; rw [hz]) dX3_of_27 (Nat.le_of_ble_eq_true rfl) (Nat.le_of_ble_eq_true rfl)
  · exact absurd ((oI_ne (fun i hi => by have := s_po_lt hi; omega)).mp c_1) hok

set_option maxHeartbeats 4000000 in
set_option maxRecDepth 100000 in
theorem c_X3_of_no (l : Launch) (E : gE) (b : Nat → Nat) (S : St) (th : Int32) (mk : Nat → Int32) (F : va_W) (o : Int32) (q9 r : Nat) (g : Nat → Int32) (hn : s_n S ≤ 48) (hok : s_po S o = none) (hq : (mW E b S 0 mk ++ F)[q9]? = some (r, .inl (eI E, 48, .inl g))) : gMi l E yX3_of wsX3_of ({ frames := 2, cells := 0, slots := 0, locals := 44 }) (mW E b S th mk ++ F) [.ref (b 0), .int o, .ref r] 0 (mW E b S 1 mk ++ F) 0 0 := by
  refine gMi.of (cc := cX3_of) (maxL := 4) (ty := .int) (by decide) rfl (Nat.le_of_ble_eq_true rfl) ?_
  intro p e s m args below meth c A C ls hl hO
  have hl : lv_has ls 4 [(0, .ref (b 0)), (1, .int o), (2, .ref r)] := hl
  have iX3 : ∀ w ∈ u_ws RX3 TX3 19, w ∈ wsX3_of := by decide +kernel
  have w44 : Cond.fieldLink RX3 44 "ParrotLogModel" "thrown" "I" ∈ wsX3_of := by decide +kernel
  refine lv_aload_n C.1 C.2.1 dX3_of_0 rfl (lv_at hl 0 rfl) ?_
  refine lv_iconst (v := 0) C.1 C.2.1 dX3_of_1 (by decide) ?_
  refine gPut (ws' := (mW E b S 0 mk ++ F)) (ref := RX3) (Cn := RX3) (T := TX3) (N := 19) C iX3 tyX3 tyX3_ok nmX3 hO 0 rfl rfl 0 (by decide) w44 (fun _ h9 => h9) rfl (by decide +kernel) rfl rfl (Nat.le_of_ble_eq_true rfl) rfl dX3_of_2 (fun H locs hO => ?_)
  refine lv_aload_n C.1 C.2.1 dX3_of_5 rfl (lv_at hl 0 rfl) ?_
  refine lv_iload_n C.1 C.2.1 dX3_of_6 rfl (lv_at hl 1 rfl) ?_
  refine gCall_i (As := [.int o]) (rest := []) C hO (c_X3_place l E b S 0 mk F o (by omega)) (cwV 1 C.2.2.2.2.1 gX3_of_X3_place rfl rfl rfl (by decide +kernel) ⟨(Nat.le_of_ble_eq_true rfl), (Nat.le_of_ble_eq_true rfl)⟩) (va_recv C.2.2.2.2.2.2.2.1.1 hO.1 (ci := 3) (q0 := 0) rfl rfl) rfl hl.1 rfl (Nat.le_of_ble_eq_true rfl) dX3_of_7 ⟨(Nat.le_of_ble_eq_true rfl), (Nat.le_of_ble_eq_true rfl)⟩ (fun H locs hO => ?_)
  refine lv_istore_n (lv' := [(3, .int (oI (s_po S o))), (0, .ref (b 0)), (1, .int o), (2, .ref r)]) C.1 C.2.1 dX3_of_10 rfl hl (by decide) rfl (fun ls hl => ?_)
  refine lv_iload_n C.1 C.2.1 dX3_of_11 rfl (lv_at hl 0 rfl) ?_
  refine lv_iconst (v := (-1)) C.1 C.2.1 dX3_of_12 (by decide) ?_
  refine lv_icmp_ne (tgt := 24) C.1 C.2.1 dX3_of_13 (by decide) (fun c_1 => ?_) (fun c_1 => ?_)
  · exact absurd (by rw [hok]; rfl) c_1
  · refine lv_aload_n C.1 C.2.1 dX3_of_16 rfl (lv_at hl 1 rfl) ?_
    refine lv_iconst (v := 1) C.1 C.2.1 dX3_of_17 (by decide) ?_
    refine gCall_i (As := [.int 1]) (rest := []) C hO (c_X3_fail l E b S 0 mk F 1) (cwV 1 C.2.2.2.2.1 gX3_of_X3_fail rfl rfl rfl (by decide +kernel) ⟨(Nat.le_of_ble_eq_true rfl), (Nat.le_of_ble_eq_true rfl)⟩) (va_recv C.2.2.2.2.2.2.2.1.1 hO.1 (ci := 3) (q0 := 0) rfl rfl) rfl hl.1 rfl (Nat.le_of_ble_eq_true rfl) dX3_of_18 ⟨(Nat.le_of_ble_eq_true rfl), (Nat.le_of_ble_eq_true rfl)⟩ (fun H locs hO => ?_)
    have hO : gO E A s (mW E b S 1 mk ++ F) H locs := hO
    refine lv_goto (tgt := 27) C.1 C.2.1 dX3_of_21 (by decide) ?_
    exact gRi C hO rfl rfl dX3_of_27 (Nat.le_of_ble_eq_true rfl) (Nat.le_of_ble_eq_true rfl)

set_option maxHeartbeats 4000000 in
set_option maxRecDepth 100000 in
theorem c_X3_keyAt_ok (l : Launch) (E : gE) (b : Nat → Nat) (S : St) (th : Int32) (mk : Nat → Int32) (F : va_W) (o : Int32) (hI : s_inv S) (hsr : s_srt S) (hok : s_po S o ≠ none) : gMi l E yX3_keyAt wsX3_keyAt ({ frames := 3, cells := 0, slots := 0, locals := 67 }) (mW E b S th mk ++ F) [.ref (b 0), .int o] (s_ka S (s_key S) o) (mW E b S 0 mk ++ F) 0 0 := by
  refine gMi.of (cc := cX3_keyAt) (maxL := 2) (ty := .int) (by decide) rfl (Nat.le_of_ble_eq_true rfl) ?_
  intro p e s m args below meth c A C ls hl hO
  have hl : lv_has ls 2 [(0, .ref (b 0)), (1, .int o)] := hl
  have iX3 : ∀ w ∈ u_ws RX3 TX3 19, w ∈ wsX3_keyAt := by decide +kernel
  have w13 : Cond.fieldLink RX3 13 "ParrotLogModel" "key" "[I" ∈ wsX3_keyAt := by decide +kernel
  obtain ⟨hn, hsh, hsc, hOn, hOb, hok9, hpc9, hp0⟩ := hI
  refine lv_aload_n C.1 C.2.1 dX3_keyAt_0 rfl (lv_at hl 0 rfl) ?_
  refine lv_iload_n C.1 C.2.1 dX3_keyAt_1 rfl (lv_at hl 1 rfl) ?_
  refine lv_aload_n C.1 C.2.1 dX3_keyAt_2 rfl (lv_at hl 0 rfl) ?_
  refine gGet (v := .ref (b 2)) (ref := RX3) (Cn := RX3) (T := TX3) (N := 19) C iX3 hO 0 rfl rfl 3 (by decide) w13 (fun _ h9 => h9) rfl dX3_keyAt_3 ?_
  refine gCall_i (As := [.int o, .ref (b 2)]) (rest := []) C hO (c_X3_of_ok l E b S th mk F o 2 (b 2) (s_key S) (by omega) hok rfl) (cwV 2 C.2.2.2.2.1 gX3_keyAt_X3_of rfl rfl rfl (by decide +kernel) ⟨(Nat.le_of_ble_eq_true rfl), (Nat.le_of_ble_eq_true rfl)⟩) (va_recv C.2.2.2.2.2.2.2.1.1 hO.1 (ci := 3) (q0 := 0) rfl rfl) rfl hl.1 rfl (Nat.le_of_ble_eq_true rfl) dX3_keyAt_6 ⟨(Nat.le_of_ble_eq_true rfl), (Nat.le_of_ble_eq_true rfl)⟩ (fun H locs hO => ?_)
  have hO : gO E A s (mW E b S 0 mk ++ F) H locs := hO
  exact gRi C hO rfl rfl dX3_keyAt_9 (Nat.le_of_ble_eq_true rfl) (Nat.le_of_ble_eq_true rfl)

set_option maxHeartbeats 4000000 in
set_option maxRecDepth 100000 in
theorem c_X3_keyAt_no (l : Launch) (E : gE) (b : Nat → Nat) (S : St) (th : Int32) (mk : Nat → Int32) (F : va_W) (o : Int32) (hI : s_inv S) (hsr : s_srt S) (hok : s_po S o = none) : gMi l E yX3_keyAt wsX3_keyAt ({ frames := 3, cells := 0, slots := 0, locals := 67 }) (mW E b S th mk ++ F) [.ref (b 0), .int o] 0 (mW E b S 1 mk ++ F) 0 0 := by
  refine gMi.of (cc := cX3_keyAt) (maxL := 2) (ty := .int) (by decide) rfl (Nat.le_of_ble_eq_true rfl) ?_
  intro p e s m args below meth c A C ls hl hO
  have hl : lv_has ls 2 [(0, .ref (b 0)), (1, .int o)] := hl
  have iX3 : ∀ w ∈ u_ws RX3 TX3 19, w ∈ wsX3_keyAt := by decide +kernel
  have w13 : Cond.fieldLink RX3 13 "ParrotLogModel" "key" "[I" ∈ wsX3_keyAt := by decide +kernel
  obtain ⟨hn, hsh, hsc, hOn, hOb, hok9, hpc9, hp0⟩ := hI
  refine lv_aload_n C.1 C.2.1 dX3_keyAt_0 rfl (lv_at hl 0 rfl) ?_
  refine lv_iload_n C.1 C.2.1 dX3_keyAt_1 rfl (lv_at hl 1 rfl) ?_
  refine lv_aload_n C.1 C.2.1 dX3_keyAt_2 rfl (lv_at hl 0 rfl) ?_
  refine gGet (v := .ref (b 2)) (ref := RX3) (Cn := RX3) (T := TX3) (N := 19) C iX3 hO 0 rfl rfl 3 (by decide) w13 (fun _ h9 => h9) rfl dX3_keyAt_3 ?_
  refine gCall_i (As := [.int o, .ref (b 2)]) (rest := []) C hO (c_X3_of_no l E b S th mk F o 2 (b 2) (s_key S) (by omega) hok rfl) (cwV 2 C.2.2.2.2.1 gX3_keyAt_X3_of rfl rfl rfl (by decide +kernel) ⟨(Nat.le_of_ble_eq_true rfl), (Nat.le_of_ble_eq_true rfl)⟩) (va_recv C.2.2.2.2.2.2.2.1.1 hO.1 (ci := 3) (q0 := 0) rfl rfl) rfl hl.1 rfl (Nat.le_of_ble_eq_true rfl) dX3_keyAt_6 ⟨(Nat.le_of_ble_eq_true rfl), (Nat.le_of_ble_eq_true rfl)⟩ (fun H locs hO => ?_)
  have hO : gO E A s (mW E b S 1 mk ++ F) H locs := hO
  exact gRi C hO rfl rfl dX3_keyAt_9 (Nat.le_of_ble_eq_true rfl) (Nat.le_of_ble_eq_true rfl)

set_option maxHeartbeats 4000000 in
set_option maxRecDepth 100000 in
theorem c_X3_valueAt_ok (l : Launch) (E : gE) (b : Nat → Nat) (S : St) (th : Int32) (mk : Nat → Int32) (F : va_W) (o : Int32) (hI : s_inv S) (hsr : s_srt S) (hok : s_po S o ≠ none) : gMi l E yX3_valueAt wsX3_valueAt ({ frames := 3, cells := 0, slots := 0, locals := 67 }) (mW E b S th mk ++ F) [.ref (b 0), .int o] (s_ka S (s_val S) o) (mW E b S 0 mk ++ F) 0 0 := by
  refine gMi.of (cc := cX3_valueAt) (maxL := 2) (ty := .int) (by decide) rfl (Nat.le_of_ble_eq_true rfl) ?_
  intro p e s m args below meth c A C ls hl hO
  have hl : lv_has ls 2 [(0, .ref (b 0)), (1, .int o)] := hl
  have iX3 : ∀ w ∈ u_ws RX3 TX3 19, w ∈ wsX3_valueAt := by decide +kernel
  have w16 : Cond.fieldLink RX3 16 "ParrotLogModel" "value" "[I" ∈ wsX3_valueAt := by decide +kernel
  obtain ⟨hn, hsh, hsc, hOn, hOb, hok9, hpc9, hp0⟩ := hI
  refine lv_aload_n C.1 C.2.1 dX3_valueAt_0 rfl (lv_at hl 0 rfl) ?_
  refine lv_iload_n C.1 C.2.1 dX3_valueAt_1 rfl (lv_at hl 1 rfl) ?_
  refine lv_aload_n C.1 C.2.1 dX3_valueAt_2 rfl (lv_at hl 0 rfl) ?_
  refine gGet (v := .ref (b 3)) (ref := RX3) (Cn := RX3) (T := TX3) (N := 19) C iX3 hO 0 rfl rfl 4 (by decide) w16 (fun _ h9 => h9) rfl dX3_valueAt_3 ?_
  refine gCall_i (As := [.int o, .ref (b 3)]) (rest := []) C hO (c_X3_of_ok l E b S th mk F o 3 (b 3) (s_val S) (by omega) hok rfl) (cwV 2 C.2.2.2.2.1 gX3_valueAt_X3_of rfl rfl rfl (by decide +kernel) ⟨(Nat.le_of_ble_eq_true rfl), (Nat.le_of_ble_eq_true rfl)⟩) (va_recv C.2.2.2.2.2.2.2.1.1 hO.1 (ci := 3) (q0 := 0) rfl rfl) rfl hl.1 rfl (Nat.le_of_ble_eq_true rfl) dX3_valueAt_6 ⟨(Nat.le_of_ble_eq_true rfl), (Nat.le_of_ble_eq_true rfl)⟩ (fun H locs hO => ?_)
  have hO : gO E A s (mW E b S 0 mk ++ F) H locs := hO
  exact gRi C hO rfl rfl dX3_valueAt_9 (Nat.le_of_ble_eq_true rfl) (Nat.le_of_ble_eq_true rfl)

set_option maxHeartbeats 4000000 in
set_option maxRecDepth 100000 in
theorem c_X3_valueAt_no (l : Launch) (E : gE) (b : Nat → Nat) (S : St) (th : Int32) (mk : Nat → Int32) (F : va_W) (o : Int32) (hI : s_inv S) (hsr : s_srt S) (hok : s_po S o = none) : gMi l E yX3_valueAt wsX3_valueAt ({ frames := 3, cells := 0, slots := 0, locals := 67 }) (mW E b S th mk ++ F) [.ref (b 0), .int o] 0 (mW E b S 1 mk ++ F) 0 0 := by
  refine gMi.of (cc := cX3_valueAt) (maxL := 2) (ty := .int) (by decide) rfl (Nat.le_of_ble_eq_true rfl) ?_
  intro p e s m args below meth c A C ls hl hO
  have hl : lv_has ls 2 [(0, .ref (b 0)), (1, .int o)] := hl
  have iX3 : ∀ w ∈ u_ws RX3 TX3 19, w ∈ wsX3_valueAt := by decide +kernel
  have w16 : Cond.fieldLink RX3 16 "ParrotLogModel" "value" "[I" ∈ wsX3_valueAt := by decide +kernel
  obtain ⟨hn, hsh, hsc, hOn, hOb, hok9, hpc9, hp0⟩ := hI
  refine lv_aload_n C.1 C.2.1 dX3_valueAt_0 rfl (lv_at hl 0 rfl) ?_
  refine lv_iload_n C.1 C.2.1 dX3_valueAt_1 rfl (lv_at hl 1 rfl) ?_
  refine lv_aload_n C.1 C.2.1 dX3_valueAt_2 rfl (lv_at hl 0 rfl) ?_
  refine gGet (v := .ref (b 3)) (ref := RX3) (Cn := RX3) (T := TX3) (N := 19) C iX3 hO 0 rfl rfl 4 (by decide) w16 (fun _ h9 => h9) rfl dX3_valueAt_3 ?_
  refine gCall_i (As := [.int o, .ref (b 3)]) (rest := []) C hO (c_X3_of_no l E b S th mk F o 3 (b 3) (s_val S) (by omega) hok rfl) (cwV 2 C.2.2.2.2.1 gX3_valueAt_X3_of rfl rfl rfl (by decide +kernel) ⟨(Nat.le_of_ble_eq_true rfl), (Nat.le_of_ble_eq_true rfl)⟩) (va_recv C.2.2.2.2.2.2.2.1.1 hO.1 (ci := 3) (q0 := 0) rfl rfl) rfl hl.1 rfl (Nat.le_of_ble_eq_true rfl) dX3_valueAt_6 ⟨(Nat.le_of_ble_eq_true rfl), (Nat.le_of_ble_eq_true rfl)⟩ (fun H locs hO => ?_)
  have hO : gO E A s (mW E b S 1 mk ++ F) H locs := hO
  exact gRi C hO rfl rfl dX3_valueAt_9 (Nat.le_of_ble_eq_true rfl) (Nat.le_of_ble_eq_true rfl)

set_option maxHeartbeats 4000000 in
set_option maxRecDepth 100000 in
theorem c_X3_stormAt_ok (l : Launch) (E : gE) (b : Nat → Nat) (S : St) (th : Int32) (mk : Nat → Int32) (F : va_W) (o : Int32) (hI : s_inv S) (hsr : s_srt S) (hok : s_po S o ≠ none) : gMi l E yX3_stormAt wsX3_stormAt ({ frames := 3, cells := 0, slots := 0, locals := 67 }) (mW E b S th mk ++ F) [.ref (b 0), .int o] (s_ka S (s_sto S) o) (mW E b S 0 mk ++ F) 0 0 := by
  refine gMi.of (cc := cX3_stormAt) (maxL := 2) (ty := .int) (by decide) rfl (Nat.le_of_ble_eq_true rfl) ?_
  intro p e s m args below meth c A C ls hl hO
  have hl : lv_has ls 2 [(0, .ref (b 0)), (1, .int o)] := hl
  have iX3 : ∀ w ∈ u_ws RX3 TX3 19, w ∈ wsX3_stormAt := by decide +kernel
  have w19 : Cond.fieldLink RX3 19 "ParrotLogModel" "storm" "[I" ∈ wsX3_stormAt := by decide +kernel
  obtain ⟨hn, hsh, hsc, hOn, hOb, hok9, hpc9, hp0⟩ := hI
  refine lv_aload_n C.1 C.2.1 dX3_stormAt_0 rfl (lv_at hl 0 rfl) ?_
  refine lv_iload_n C.1 C.2.1 dX3_stormAt_1 rfl (lv_at hl 1 rfl) ?_
  refine lv_aload_n C.1 C.2.1 dX3_stormAt_2 rfl (lv_at hl 0 rfl) ?_
  refine gGet (v := .ref (b 4)) (ref := RX3) (Cn := RX3) (T := TX3) (N := 19) C iX3 hO 0 rfl rfl 5 (by decide) w19 (fun _ h9 => h9) rfl dX3_stormAt_3 ?_
  refine gCall_i (As := [.int o, .ref (b 4)]) (rest := []) C hO (c_X3_of_ok l E b S th mk F o 4 (b 4) (s_sto S) (by omega) hok rfl) (cwV 2 C.2.2.2.2.1 gX3_stormAt_X3_of rfl rfl rfl (by decide +kernel) ⟨(Nat.le_of_ble_eq_true rfl), (Nat.le_of_ble_eq_true rfl)⟩) (va_recv C.2.2.2.2.2.2.2.1.1 hO.1 (ci := 3) (q0 := 0) rfl rfl) rfl hl.1 rfl (Nat.le_of_ble_eq_true rfl) dX3_stormAt_6 ⟨(Nat.le_of_ble_eq_true rfl), (Nat.le_of_ble_eq_true rfl)⟩ (fun H locs hO => ?_)
  have hO : gO E A s (mW E b S 0 mk ++ F) H locs := hO
  exact gRi C hO rfl rfl dX3_stormAt_9 (Nat.le_of_ble_eq_true rfl) (Nat.le_of_ble_eq_true rfl)

set_option maxHeartbeats 4000000 in
set_option maxRecDepth 100000 in
theorem c_X3_stormAt_no (l : Launch) (E : gE) (b : Nat → Nat) (S : St) (th : Int32) (mk : Nat → Int32) (F : va_W) (o : Int32) (hI : s_inv S) (hsr : s_srt S) (hok : s_po S o = none) : gMi l E yX3_stormAt wsX3_stormAt ({ frames := 3, cells := 0, slots := 0, locals := 67 }) (mW E b S th mk ++ F) [.ref (b 0), .int o] 0 (mW E b S 1 mk ++ F) 0 0 := by
  refine gMi.of (cc := cX3_stormAt) (maxL := 2) (ty := .int) (by decide) rfl (Nat.le_of_ble_eq_true rfl) ?_
  intro p e s m args below meth c A C ls hl hO
  have hl : lv_has ls 2 [(0, .ref (b 0)), (1, .int o)] := hl
  have iX3 : ∀ w ∈ u_ws RX3 TX3 19, w ∈ wsX3_stormAt := by decide +kernel
  have w19 : Cond.fieldLink RX3 19 "ParrotLogModel" "storm" "[I" ∈ wsX3_stormAt := by decide +kernel
  obtain ⟨hn, hsh, hsc, hOn, hOb, hok9, hpc9, hp0⟩ := hI
  refine lv_aload_n C.1 C.2.1 dX3_stormAt_0 rfl (lv_at hl 0 rfl) ?_
  refine lv_iload_n C.1 C.2.1 dX3_stormAt_1 rfl (lv_at hl 1 rfl) ?_
  refine lv_aload_n C.1 C.2.1 dX3_stormAt_2 rfl (lv_at hl 0 rfl) ?_
  refine gGet (v := .ref (b 4)) (ref := RX3) (Cn := RX3) (T := TX3) (N := 19) C iX3 hO 0 rfl rfl 5 (by decide) w19 (fun _ h9 => h9) rfl dX3_stormAt_3 ?_
  refine gCall_i (As := [.int o, .ref (b 4)]) (rest := []) C hO (c_X3_of_no l E b S th mk F o 4 (b 4) (s_sto S) (by omega) hok rfl) (cwV 2 C.2.2.2.2.1 gX3_stormAt_X3_of rfl rfl rfl (by decide +kernel) ⟨(Nat.le_of_ble_eq_true rfl), (Nat.le_of_ble_eq_true rfl)⟩) (va_recv C.2.2.2.2.2.2.2.1.1 hO.1 (ci := 3) (q0 := 0) rfl rfl) rfl hl.1 rfl (Nat.le_of_ble_eq_true rfl) dX3_stormAt_6 ⟨(Nat.le_of_ble_eq_true rfl), (Nat.le_of_ble_eq_true rfl)⟩ (fun H locs hO => ?_)
  have hO : gO E A s (mW E b S 1 mk ++ F) H locs := hO
  exact gRi C hO rfl rfl dX3_stormAt_9 (Nat.le_of_ble_eq_true rfl) (Nat.le_of_ble_eq_true rfl)

set_option maxHeartbeats 4000000 in
set_option maxRecDepth 100000 in
theorem c_X3_latestOf_ok (l : Launch) (E : gE) (b : Nat → Nat) (S : St) (th : Int32) (mk : Nat → Int32) (F : va_W) (k : Int32) (hI : s_inv S) (hsr : s_srt S) (hok : okKey k) : gMi l E yX3_latestOf wsX3_latestOf ({ frames := 2, cells := 0, slots := 0, locals := 43 }) (mW E b S th mk ++ F) [.ref (b 0), .int k] (s_lo S k) (mW E b S 0 mk ++ F) 0 0 := by
  refine gMi.of (cc := cX3_latestOf) (maxL := 2) (ty := .int) (by decide) rfl (Nat.le_of_ble_eq_true rfl) ?_
  intro p e s m args below meth c A C ls hl hO
  have hl : lv_has ls 2 [(0, .ref (b 0)), (1, .int k)] := hl
  have iX3 : ∀ w ∈ u_ws RX3 TX3 19, w ∈ wsX3_latestOf := by decide +kernel
  have w44 : Cond.fieldLink RX3 44 "ParrotLogModel" "thrown" "I" ∈ wsX3_latestOf := by decide +kernel
  obtain ⟨hn, hsh, hsc, hOn, hOb, hok9, hpc9, hp0⟩ := hI
  refine lv_aload_n C.1 C.2.1 dX3_latestOf_0 rfl (lv_at hl 0 rfl) ?_
  refine lv_iconst (v := 0) C.1 C.2.1 dX3_latestOf_1 (by decide) ?_
  refine gPut (ws' := (mW E b S 0 mk ++ F)) (ref := RX3) (Cn := RX3) (T := TX3) (N := 19) C iX3 tyX3 tyX3_ok nmX3 hO 0 rfl rfl 0 (by decide) w44 (fun _ h9 => h9) rfl (by decide +kernel) rfl rfl (Nat.le_of_ble_eq_true rfl) rfl dX3_latestOf_2 (fun H locs hO => ?_)
  refine lv_iload_n C.1 C.2.1 dX3_latestOf_5 rfl (lv_at hl 1 rfl) ?_
  refine gCallS_i (As := [.int k]) (rest := []) C hO (c_X3_isKey l E b S 0 mk F k) (cwS 1 C.2.2.2.2.1 gX3_latestOf_X3_isKey rfl rfl rfl (by decide +kernel) ⟨(Nat.le_of_ble_eq_true rfl), (Nat.le_of_ble_eq_true rfl)⟩) rfl hl.1 rfl (Nat.le_of_ble_eq_true rfl) dX3_latestOf_6 ⟨(Nat.le_of_ble_eq_true rfl), (Nat.le_of_ble_eq_true rfl)⟩ (fun H locs hO => ?_)
  refine lv_if_eq (tgt := 20) C.1 C.2.1 dX3_latestOf_9 (by decide) (fun c_1 => ?_) (fun c_1 => ?_)
  · exact absurd hok (bF c_1)
  · refine lv_aload_n C.1 C.2.1 dX3_latestOf_12 rfl (lv_at hl 0 rfl) ?_
    refine lv_iload_n C.1 C.2.1 dX3_latestOf_13 rfl (lv_at hl 1 rfl) ?_
    refine gCall_i (As := [.int k]) (rest := []) C hO (c_X3_latest l E b S 0 mk F k (by omega)) (cwV 1 C.2.2.2.2.1 gX3_latestOf_X3_latest rfl rfl rfl (by decide +kernel) ⟨(Nat.le_of_ble_eq_true rfl), (Nat.le_of_ble_eq_true rfl)⟩) (va_recv C.2.2.2.2.2.2.2.1.1 hO.1 (ci := 3) (q0 := 0) rfl rfl) rfl hl.1 rfl (Nat.le_of_ble_eq_true rfl) dX3_latestOf_14 ⟨(Nat.le_of_ble_eq_true rfl), (Nat.le_of_ble_eq_true rfl)⟩ (fun H locs hO => ?_)
    refine lv_goto (tgt := 25) C.1 C.2.1 dX3_latestOf_17 (by decide) ?_
    exact gRi C hO rfl rfl dX3_latestOf_25 (Nat.le_of_ble_eq_true rfl) (Nat.le_of_ble_eq_true rfl)

set_option maxHeartbeats 4000000 in
set_option maxRecDepth 100000 in
theorem c_X3_latestOf_no (l : Launch) (E : gE) (b : Nat → Nat) (S : St) (th : Int32) (mk : Nat → Int32) (F : va_W) (k : Int32) (hI : s_inv S) (hsr : s_srt S) (hok : ¬ okKey k) : gMi l E yX3_latestOf wsX3_latestOf ({ frames := 2, cells := 0, slots := 0, locals := 42 }) (mW E b S th mk ++ F) [.ref (b 0), .int k] 0 (mW E b S 1 mk ++ F) 0 0 := by
  refine gMi.of (cc := cX3_latestOf) (maxL := 2) (ty := .int) (by decide) rfl (Nat.le_of_ble_eq_true rfl) ?_
  intro p e s m args below meth c A C ls hl hO
  have hl : lv_has ls 2 [(0, .ref (b 0)), (1, .int k)] := hl
  have iX3 : ∀ w ∈ u_ws RX3 TX3 19, w ∈ wsX3_latestOf := by decide +kernel
  have w44 : Cond.fieldLink RX3 44 "ParrotLogModel" "thrown" "I" ∈ wsX3_latestOf := by decide +kernel
  obtain ⟨hn, hsh, hsc, hOn, hOb, hok9, hpc9, hp0⟩ := hI
  refine lv_aload_n C.1 C.2.1 dX3_latestOf_0 rfl (lv_at hl 0 rfl) ?_
  refine lv_iconst (v := 0) C.1 C.2.1 dX3_latestOf_1 (by decide) ?_
  refine gPut (ws' := (mW E b S 0 mk ++ F)) (ref := RX3) (Cn := RX3) (T := TX3) (N := 19) C iX3 tyX3 tyX3_ok nmX3 hO 0 rfl rfl 0 (by decide) w44 (fun _ h9 => h9) rfl (by decide +kernel) rfl rfl (Nat.le_of_ble_eq_true rfl) rfl dX3_latestOf_2 (fun H locs hO => ?_)
  refine lv_iload_n C.1 C.2.1 dX3_latestOf_5 rfl (lv_at hl 1 rfl) ?_
  refine gCallS_i (As := [.int k]) (rest := []) C hO (c_X3_isKey l E b S 0 mk F k) (cwS 1 C.2.2.2.2.1 gX3_latestOf_X3_isKey rfl rfl rfl (by decide +kernel) ⟨(Nat.le_of_ble_eq_true rfl), (Nat.le_of_ble_eq_true rfl)⟩) rfl hl.1 rfl (Nat.le_of_ble_eq_true rfl) dX3_latestOf_6 ⟨(Nat.le_of_ble_eq_true rfl), (Nat.le_of_ble_eq_true rfl)⟩ (fun H locs hO => ?_)
  refine lv_if_eq (tgt := 20) C.1 C.2.1 dX3_latestOf_9 (by decide) (fun c_1 => ?_) (fun c_1 => ?_)
  · refine lv_aload_n C.1 C.2.1 dX3_latestOf_20 rfl (lv_at hl 0 rfl) ?_
    refine lv_iconst (v := 1) C.1 C.2.1 dX3_latestOf_21 (by decide) ?_
    refine gCall_i (As := [.int 1]) (rest := []) C hO (c_X3_fail l E b S 0 mk F 1) (cwV 1 C.2.2.2.2.1 gX3_latestOf_X3_fail rfl rfl rfl (by decide +kernel) ⟨(Nat.le_of_ble_eq_true rfl), (Nat.le_of_ble_eq_true rfl)⟩) (va_recv C.2.2.2.2.2.2.2.1.1 hO.1 (ci := 3) (q0 := 0) rfl rfl) rfl hl.1 rfl (Nat.le_of_ble_eq_true rfl) dX3_latestOf_22 ⟨(Nat.le_of_ble_eq_true rfl), (Nat.le_of_ble_eq_true rfl)⟩ (fun H locs hO => ?_)
    have hO : gO E A s (mW E b S 1 mk ++ F) H locs := hO
    exact gRi C hO rfl rfl dX3_latestOf_25 (Nat.le_of_ble_eq_true rfl) (Nat.le_of_ble_eq_true rfl)
  · exact absurd (bT c_1) hok

set_option maxHeartbeats 4000000 in
set_option maxRecDepth 100000 in
theorem c_X3_valueOf_ok (l : Launch) (E : gE) (b : Nat → Nat) (S : St) (th : Int32) (mk : Nat → Int32) (F : va_W) (k : Int32) (hI : s_inv S) (hsr : s_srt S) (hok : okKey k) : gMi l E yX3_valueOf wsX3_valueOf ({ frames := 2, cells := 0, slots := 0, locals := 43 }) (mW E b S th mk ++ F) [.ref (b 0), .int k] (s_wv S k) (mW E b S 0 mk ++ F) 0 0 := by
  refine gMi.of (cc := cX3_valueOf) (maxL := 2) (ty := .int) (by decide) rfl (Nat.le_of_ble_eq_true rfl) ?_
  intro p e s m args below meth c A C ls hl hO
  have hl : lv_has ls 2 [(0, .ref (b 0)), (1, .int k)] := hl
  have iX3 : ∀ w ∈ u_ws RX3 TX3 19, w ∈ wsX3_valueOf := by decide +kernel
  have w44 : Cond.fieldLink RX3 44 "ParrotLogModel" "thrown" "I" ∈ wsX3_valueOf := by decide +kernel
  obtain ⟨hn, hsh, hsc, hOn, hOb, hok9, hpc9, hp0⟩ := hI
  refine lv_aload_n C.1 C.2.1 dX3_valueOf_0 rfl (lv_at hl 0 rfl) ?_
  refine lv_iconst (v := 0) C.1 C.2.1 dX3_valueOf_1 (by decide) ?_
  refine gPut (ws' := (mW E b S 0 mk ++ F)) (ref := RX3) (Cn := RX3) (T := TX3) (N := 19) C iX3 tyX3 tyX3_ok nmX3 hO 0 rfl rfl 0 (by decide) w44 (fun _ h9 => h9) rfl (by decide +kernel) rfl rfl (Nat.le_of_ble_eq_true rfl) rfl dX3_valueOf_2 (fun H locs hO => ?_)
  refine lv_iload_n C.1 C.2.1 dX3_valueOf_5 rfl (lv_at hl 1 rfl) ?_
  refine gCallS_i (As := [.int k]) (rest := []) C hO (c_X3_isKey l E b S 0 mk F k) (cwS 1 C.2.2.2.2.1 gX3_valueOf_X3_isKey rfl rfl rfl (by decide +kernel) ⟨(Nat.le_of_ble_eq_true rfl), (Nat.le_of_ble_eq_true rfl)⟩) rfl hl.1 rfl (Nat.le_of_ble_eq_true rfl) dX3_valueOf_6 ⟨(Nat.le_of_ble_eq_true rfl), (Nat.le_of_ble_eq_true rfl)⟩ (fun H locs hO => ?_)
  refine lv_if_eq (tgt := 20) C.1 C.2.1 dX3_valueOf_9 (by decide) (fun c_1 => ?_) (fun c_1 => ?_)
  · exact absurd hok (bF c_1)
  · refine lv_aload_n C.1 C.2.1 dX3_valueOf_12 rfl (lv_at hl 0 rfl) ?_
    refine lv_iload_n C.1 C.2.1 dX3_valueOf_13 rfl (lv_at hl 1 rfl) ?_
    refine gCall_i (As := [.int k]) (rest := []) C hO (c_X3_worth l E b S 0 mk F k (by omega)) (cwV 1 C.2.2.2.2.1 gX3_valueOf_X3_worth rfl rfl rfl (by decide +kernel) ⟨(Nat.le_of_ble_eq_true rfl), (Nat.le_of_ble_eq_true rfl)⟩) (va_recv C.2.2.2.2.2.2.2.1.1 hO.1 (ci := 3) (q0 := 0) rfl rfl) rfl hl.1 rfl (Nat.le_of_ble_eq_true rfl) dX3_valueOf_14 ⟨(Nat.le_of_ble_eq_true rfl), (Nat.le_of_ble_eq_true rfl)⟩ (fun H locs hO => ?_)
    refine lv_goto (tgt := 25) C.1 C.2.1 dX3_valueOf_17 (by decide) ?_
    exact gRi C hO rfl rfl dX3_valueOf_25 (Nat.le_of_ble_eq_true rfl) (Nat.le_of_ble_eq_true rfl)

set_option maxHeartbeats 4000000 in
set_option maxRecDepth 100000 in
theorem c_X3_valueOf_no (l : Launch) (E : gE) (b : Nat → Nat) (S : St) (th : Int32) (mk : Nat → Int32) (F : va_W) (k : Int32) (hI : s_inv S) (hsr : s_srt S) (hok : ¬ okKey k) : gMi l E yX3_valueOf wsX3_valueOf ({ frames := 2, cells := 0, slots := 0, locals := 42 }) (mW E b S th mk ++ F) [.ref (b 0), .int k] 0 (mW E b S 1 mk ++ F) 0 0 := by
  refine gMi.of (cc := cX3_valueOf) (maxL := 2) (ty := .int) (by decide) rfl (Nat.le_of_ble_eq_true rfl) ?_
  intro p e s m args below meth c A C ls hl hO
  have hl : lv_has ls 2 [(0, .ref (b 0)), (1, .int k)] := hl
  have iX3 : ∀ w ∈ u_ws RX3 TX3 19, w ∈ wsX3_valueOf := by decide +kernel
  have w44 : Cond.fieldLink RX3 44 "ParrotLogModel" "thrown" "I" ∈ wsX3_valueOf := by decide +kernel
  obtain ⟨hn, hsh, hsc, hOn, hOb, hok9, hpc9, hp0⟩ := hI
  refine lv_aload_n C.1 C.2.1 dX3_valueOf_0 rfl (lv_at hl 0 rfl) ?_
  refine lv_iconst (v := 0) C.1 C.2.1 dX3_valueOf_1 (by decide) ?_
  refine gPut (ws' := (mW E b S 0 mk ++ F)) (ref := RX3) (Cn := RX3) (T := TX3) (N := 19) C iX3 tyX3 tyX3_ok nmX3 hO 0 rfl rfl 0 (by decide) w44 (fun _ h9 => h9) rfl (by decide +kernel) rfl rfl (Nat.le_of_ble_eq_true rfl) rfl dX3_valueOf_2 (fun H locs hO => ?_)
  refine lv_iload_n C.1 C.2.1 dX3_valueOf_5 rfl (lv_at hl 1 rfl) ?_
  refine gCallS_i (As := [.int k]) (rest := []) C hO (c_X3_isKey l E b S 0 mk F k) (cwS 1 C.2.2.2.2.1 gX3_valueOf_X3_isKey rfl rfl rfl (by decide +kernel) ⟨(Nat.le_of_ble_eq_true rfl), (Nat.le_of_ble_eq_true rfl)⟩) rfl hl.1 rfl (Nat.le_of_ble_eq_true rfl) dX3_valueOf_6 ⟨(Nat.le_of_ble_eq_true rfl), (Nat.le_of_ble_eq_true rfl)⟩ (fun H locs hO => ?_)
  refine lv_if_eq (tgt := 20) C.1 C.2.1 dX3_valueOf_9 (by decide) (fun c_1 => ?_) (fun c_1 => ?_)
  · refine lv_aload_n C.1 C.2.1 dX3_valueOf_20 rfl (lv_at hl 0 rfl) ?_
    refine lv_iconst (v := 1) C.1 C.2.1 dX3_valueOf_21 (by decide) ?_
    refine gCall_i (As := [.int 1]) (rest := []) C hO (c_X3_fail l E b S 0 mk F 1) (cwV 1 C.2.2.2.2.1 gX3_valueOf_X3_fail rfl rfl rfl (by decide +kernel) ⟨(Nat.le_of_ble_eq_true rfl), (Nat.le_of_ble_eq_true rfl)⟩) (va_recv C.2.2.2.2.2.2.2.1.1 hO.1 (ci := 3) (q0 := 0) rfl rfl) rfl hl.1 rfl (Nat.le_of_ble_eq_true rfl) dX3_valueOf_22 ⟨(Nat.le_of_ble_eq_true rfl), (Nat.le_of_ble_eq_true rfl)⟩ (fun H locs hO => ?_)
    have hO : gO E A s (mW E b S 1 mk ++ F) H locs := hO
    exact gRi C hO rfl rfl dX3_valueOf_25 (Nat.le_of_ble_eq_true rfl) (Nat.le_of_ble_eq_true rfl)
  · exact absurd (bT c_1) hok

set_option maxHeartbeats 4000000 in
set_option maxRecDepth 100000 in
theorem c_X3_countOf_ok (l : Launch) (E : gE) (b : Nat → Nat) (S : St) (th : Int32) (mk : Nat → Int32) (F : va_W) (k : Int32) (hI : s_inv S) (hsr : s_srt S) (hok : okKey k) : gMi l E yX3_countOf wsX3_countOf ({ frames := 2, cells := 0, slots := 0, locals := 42 }) (mW E b S th mk ++ F) [.ref (b 0), .int k] (nI (cnt (s_key S) k (s_n S))) (mW E b S 0 mk ++ F) 0 0 := by
  refine gMi.of (cc := cX3_countOf) (maxL := 2) (ty := .int) (by decide) rfl (Nat.le_of_ble_eq_true rfl) ?_
  intro p e s m args below meth c A C ls hl hO
  have hl : lv_has ls 2 [(0, .ref (b 0)), (1, .int k)] := hl
  have iX3 : ∀ w ∈ u_ws RX3 TX3 19, w ∈ wsX3_countOf := by decide +kernel
  have w44 : Cond.fieldLink RX3 44 "ParrotLogModel" "thrown" "I" ∈ wsX3_countOf := by decide +kernel
  obtain ⟨hn, hsh, hsc, hOn, hOb, hok9, hpc9, hp0⟩ := hI
  refine lv_aload_n C.1 C.2.1 dX3_countOf_0 rfl (lv_at hl 0 rfl) ?_
  refine lv_iconst (v := 0) C.1 C.2.1 dX3_countOf_1 (by decide) ?_
  refine gPut (ws' := (mW E b S 0 mk ++ F)) (ref := RX3) (Cn := RX3) (T := TX3) (N := 19) C iX3 tyX3 tyX3_ok nmX3 hO 0 rfl rfl 0 (by decide) w44 (fun _ h9 => h9) rfl (by decide +kernel) rfl rfl (Nat.le_of_ble_eq_true rfl) rfl dX3_countOf_2 (fun H locs hO => ?_)
  refine lv_iload_n C.1 C.2.1 dX3_countOf_5 rfl (lv_at hl 1 rfl) ?_
  refine gCallS_i (As := [.int k]) (rest := []) C hO (c_X3_isKey l E b S 0 mk F k) (cwS 1 C.2.2.2.2.1 gX3_countOf_X3_isKey rfl rfl rfl (by decide +kernel) ⟨(Nat.le_of_ble_eq_true rfl), (Nat.le_of_ble_eq_true rfl)⟩) rfl hl.1 rfl (Nat.le_of_ble_eq_true rfl) dX3_countOf_6 ⟨(Nat.le_of_ble_eq_true rfl), (Nat.le_of_ble_eq_true rfl)⟩ (fun H locs hO => ?_)
  refine lv_if_eq (tgt := 20) C.1 C.2.1 dX3_countOf_9 (by decide) (fun c_1 => ?_) (fun c_1 => ?_)
  · exact absurd hok (bF c_1)
  · refine lv_aload_n C.1 C.2.1 dX3_countOf_12 rfl (lv_at hl 0 rfl) ?_
    refine lv_iload_n C.1 C.2.1 dX3_countOf_13 rfl (lv_at hl 1 rfl) ?_
    refine gCall_i (As := [.int k]) (rest := []) C hO (c_X3_count l E b S 0 mk F k (by omega)) (cwV 1 C.2.2.2.2.1 gX3_countOf_X3_count rfl rfl rfl (by decide +kernel) ⟨(Nat.le_of_ble_eq_true rfl), (Nat.le_of_ble_eq_true rfl)⟩) (va_recv C.2.2.2.2.2.2.2.1.1 hO.1 (ci := 3) (q0 := 0) rfl rfl) rfl hl.1 rfl (Nat.le_of_ble_eq_true rfl) dX3_countOf_14 ⟨(Nat.le_of_ble_eq_true rfl), (Nat.le_of_ble_eq_true rfl)⟩ (fun H locs hO => ?_)
    refine lv_goto (tgt := 25) C.1 C.2.1 dX3_countOf_17 (by decide) ?_
    exact gRi C hO rfl rfl dX3_countOf_25 (Nat.le_of_ble_eq_true rfl) (Nat.le_of_ble_eq_true rfl)

set_option maxHeartbeats 4000000 in
set_option maxRecDepth 100000 in
theorem c_X3_countOf_no (l : Launch) (E : gE) (b : Nat → Nat) (S : St) (th : Int32) (mk : Nat → Int32) (F : va_W) (k : Int32) (hI : s_inv S) (hsr : s_srt S) (hok : ¬ okKey k) : gMi l E yX3_countOf wsX3_countOf ({ frames := 2, cells := 0, slots := 0, locals := 42 }) (mW E b S th mk ++ F) [.ref (b 0), .int k] 0 (mW E b S 1 mk ++ F) 0 0 := by
  refine gMi.of (cc := cX3_countOf) (maxL := 2) (ty := .int) (by decide) rfl (Nat.le_of_ble_eq_true rfl) ?_
  intro p e s m args below meth c A C ls hl hO
  have hl : lv_has ls 2 [(0, .ref (b 0)), (1, .int k)] := hl
  have iX3 : ∀ w ∈ u_ws RX3 TX3 19, w ∈ wsX3_countOf := by decide +kernel
  have w44 : Cond.fieldLink RX3 44 "ParrotLogModel" "thrown" "I" ∈ wsX3_countOf := by decide +kernel
  obtain ⟨hn, hsh, hsc, hOn, hOb, hok9, hpc9, hp0⟩ := hI
  refine lv_aload_n C.1 C.2.1 dX3_countOf_0 rfl (lv_at hl 0 rfl) ?_
  refine lv_iconst (v := 0) C.1 C.2.1 dX3_countOf_1 (by decide) ?_
  refine gPut (ws' := (mW E b S 0 mk ++ F)) (ref := RX3) (Cn := RX3) (T := TX3) (N := 19) C iX3 tyX3 tyX3_ok nmX3 hO 0 rfl rfl 0 (by decide) w44 (fun _ h9 => h9) rfl (by decide +kernel) rfl rfl (Nat.le_of_ble_eq_true rfl) rfl dX3_countOf_2 (fun H locs hO => ?_)
  refine lv_iload_n C.1 C.2.1 dX3_countOf_5 rfl (lv_at hl 1 rfl) ?_
  refine gCallS_i (As := [.int k]) (rest := []) C hO (c_X3_isKey l E b S 0 mk F k) (cwS 1 C.2.2.2.2.1 gX3_countOf_X3_isKey rfl rfl rfl (by decide +kernel) ⟨(Nat.le_of_ble_eq_true rfl), (Nat.le_of_ble_eq_true rfl)⟩) rfl hl.1 rfl (Nat.le_of_ble_eq_true rfl) dX3_countOf_6 ⟨(Nat.le_of_ble_eq_true rfl), (Nat.le_of_ble_eq_true rfl)⟩ (fun H locs hO => ?_)
  refine lv_if_eq (tgt := 20) C.1 C.2.1 dX3_countOf_9 (by decide) (fun c_1 => ?_) (fun c_1 => ?_)
  · refine lv_aload_n C.1 C.2.1 dX3_countOf_20 rfl (lv_at hl 0 rfl) ?_
    refine lv_iconst (v := 1) C.1 C.2.1 dX3_countOf_21 (by decide) ?_
    refine gCall_i (As := [.int 1]) (rest := []) C hO (c_X3_fail l E b S 0 mk F 1) (cwV 1 C.2.2.2.2.1 gX3_countOf_X3_fail rfl rfl rfl (by decide +kernel) ⟨(Nat.le_of_ble_eq_true rfl), (Nat.le_of_ble_eq_true rfl)⟩) (va_recv C.2.2.2.2.2.2.2.1.1 hO.1 (ci := 3) (q0 := 0) rfl rfl) rfl hl.1 rfl (Nat.le_of_ble_eq_true rfl) dX3_countOf_22 ⟨(Nat.le_of_ble_eq_true rfl), (Nat.le_of_ble_eq_true rfl)⟩ (fun H locs hO => ?_)
    have hO : gO E A s (mW E b S 1 mk ++ F) H locs := hO
    exact gRi C hO rfl rfl dX3_countOf_25 (Nat.le_of_ble_eq_true rfl) (Nat.le_of_ble_eq_true rfl)
  · exact absurd (bT c_1) hok

set_option maxHeartbeats 4000000 in
set_option maxRecDepth 100000 in
theorem c_X3_saidIn_ok (l : Launch) (E : gE) (b : Nat → Nat) (S : St) (th : Int32) (mk : Nat → Int32) (F : va_W) (x : Int32) (hI : s_inv S) (hsr : s_srt S) (hok : okStorm S x) : gMi l E yX3_saidIn wsX3_saidIn ({ frames := 2, cells := 0, slots := 0, locals := 43 }) (mW E b S th mk ++ F) [.ref (b 0), .int x] (s_said S x.toNatClampNeg) (mW E b S 0 mk ++ F) 0 0 := by
  refine gMi.of (cc := cX3_saidIn) (maxL := 2) (ty := .int) (by decide) rfl (Nat.le_of_ble_eq_true rfl) ?_
  intro p e s m args below meth c A C ls hl hO
  have hl : lv_has ls 2 [(0, .ref (b 0)), (1, .int x)] := hl
  have iX3 : ∀ w ∈ u_ws RX3 TX3 19, w ∈ wsX3_saidIn := by decide +kernel
  have w44 : Cond.fieldLink RX3 44 "ParrotLogModel" "thrown" "I" ∈ wsX3_saidIn := by decide +kernel
  have w26 : Cond.fieldLink RX3 26 "ParrotLogModel" "said" "[I" ∈ wsX3_saidIn := by decide +kernel
  obtain ⟨hn, hsh, hsc, hOn, hOb, hok9, hpc9, hp0⟩ := hI
  refine lv_aload_n C.1 C.2.1 dX3_saidIn_0 rfl (lv_at hl 0 rfl) ?_
  refine lv_iconst (v := 0) C.1 C.2.1 dX3_saidIn_1 (by decide) ?_
  refine gPut (ws' := (mW E b S 0 mk ++ F)) (ref := RX3) (Cn := RX3) (T := TX3) (N := 19) C iX3 tyX3 tyX3_ok nmX3 hO 0 rfl rfl 0 (by decide) w44 (fun _ h9 => h9) rfl (by decide +kernel) rfl rfl (Nat.le_of_ble_eq_true rfl) rfl dX3_saidIn_2 (fun H locs hO => ?_)
  refine lv_aload_n C.1 C.2.1 dX3_saidIn_5 rfl (lv_at hl 0 rfl) ?_
  refine lv_iload_n C.1 C.2.1 dX3_saidIn_6 rfl (lv_at hl 1 rfl) ?_
  refine gCall_i (As := [.int x]) (rest := []) C hO (c_X3_isStorm l E b S 0 mk F x (by omega)) (cwV 1 C.2.2.2.2.1 gX3_saidIn_X3_isStorm rfl rfl rfl (by decide +kernel) ⟨(Nat.le_of_ble_eq_true rfl), (Nat.le_of_ble_eq_true rfl)⟩) (va_recv C.2.2.2.2.2.2.2.1.1 hO.1 (ci := 3) (q0 := 0) rfl rfl) rfl hl.1 rfl (Nat.le_of_ble_eq_true rfl) dX3_saidIn_7 ⟨(Nat.le_of_ble_eq_true rfl), (Nat.le_of_ble_eq_true rfl)⟩ (fun H locs hO => ?_)
  refine lv_if_eq (tgt := 22) C.1 C.2.1 dX3_saidIn_10 (by decide) (fun c_1 => ?_) (fun c_1 => ?_)
  · exact absurd hok (bF c_1)
  · have hj9 := okNat (by omega) hok.1 hok.2
    have hl : lv_has ls 2 [(0, .ref (b 0)), (1, .int (nI (x.toNatClampNeg)))] := by rw [← hj9.2]; exact hl
    refine lv_aload_n C.1 C.2.1 dX3_saidIn_13 rfl (lv_at hl 0 rfl) ?_
    refine gGet (v := .ref (b 6)) (ref := RX3) (Cn := RX3) (T := TX3) (N := 19) C iX3 hO 0 rfl rfl 12 (by decide) w26 (fun _ h9 => h9) rfl dX3_saidIn_14 ?_
    refine lv_iload_n C.1 C.2.1 dX3_saidIn_17 rfl (lv_at hl 1 rfl) ?_
    refine gIald (v := (s_said S) x.toNatClampNeg) (j := x.toNatClampNeg) C hO 6 rfl (by omega) (by decide) rfl dX3_saidIn_18 ?_
    refine lv_goto (tgt := 27) C.1 C.2.1 dX3_saidIn_19 (by decide) ?_
    exact gRi C hO rfl rfl dX3_saidIn_27 (Nat.le_of_ble_eq_true rfl) (Nat.le_of_ble_eq_true rfl)

set_option maxHeartbeats 4000000 in
set_option maxRecDepth 100000 in
theorem c_X3_saidIn_no (l : Launch) (E : gE) (b : Nat → Nat) (S : St) (th : Int32) (mk : Nat → Int32) (F : va_W) (x : Int32) (hI : s_inv S) (hsr : s_srt S) (hok : ¬ okStorm S x) : gMi l E yX3_saidIn wsX3_saidIn ({ frames := 2, cells := 0, slots := 0, locals := 43 }) (mW E b S th mk ++ F) [.ref (b 0), .int x] 0 (mW E b S 1 mk ++ F) 0 0 := by
  refine gMi.of (cc := cX3_saidIn) (maxL := 2) (ty := .int) (by decide) rfl (Nat.le_of_ble_eq_true rfl) ?_
  intro p e s m args below meth c A C ls hl hO
  have hl : lv_has ls 2 [(0, .ref (b 0)), (1, .int x)] := hl
  have iX3 : ∀ w ∈ u_ws RX3 TX3 19, w ∈ wsX3_saidIn := by decide +kernel
  have w44 : Cond.fieldLink RX3 44 "ParrotLogModel" "thrown" "I" ∈ wsX3_saidIn := by decide +kernel
  obtain ⟨hn, hsh, hsc, hOn, hOb, hok9, hpc9, hp0⟩ := hI
  refine lv_aload_n C.1 C.2.1 dX3_saidIn_0 rfl (lv_at hl 0 rfl) ?_
  refine lv_iconst (v := 0) C.1 C.2.1 dX3_saidIn_1 (by decide) ?_
  refine gPut (ws' := (mW E b S 0 mk ++ F)) (ref := RX3) (Cn := RX3) (T := TX3) (N := 19) C iX3 tyX3 tyX3_ok nmX3 hO 0 rfl rfl 0 (by decide) w44 (fun _ h9 => h9) rfl (by decide +kernel) rfl rfl (Nat.le_of_ble_eq_true rfl) rfl dX3_saidIn_2 (fun H locs hO => ?_)
  refine lv_aload_n C.1 C.2.1 dX3_saidIn_5 rfl (lv_at hl 0 rfl) ?_
  refine lv_iload_n C.1 C.2.1 dX3_saidIn_6 rfl (lv_at hl 1 rfl) ?_
  refine gCall_i (As := [.int x]) (rest := []) C hO (c_X3_isStorm l E b S 0 mk F x (by omega)) (cwV 1 C.2.2.2.2.1 gX3_saidIn_X3_isStorm rfl rfl rfl (by decide +kernel) ⟨(Nat.le_of_ble_eq_true rfl), (Nat.le_of_ble_eq_true rfl)⟩) (va_recv C.2.2.2.2.2.2.2.1.1 hO.1 (ci := 3) (q0 := 0) rfl rfl) rfl hl.1 rfl (Nat.le_of_ble_eq_true rfl) dX3_saidIn_7 ⟨(Nat.le_of_ble_eq_true rfl), (Nat.le_of_ble_eq_true rfl)⟩ (fun H locs hO => ?_)
  refine lv_if_eq (tgt := 22) C.1 C.2.1 dX3_saidIn_10 (by decide) (fun c_1 => ?_) (fun c_1 => ?_)
  · refine lv_aload_n C.1 C.2.1 dX3_saidIn_22 rfl (lv_at hl 0 rfl) ?_
    refine lv_iconst (v := 1) C.1 C.2.1 dX3_saidIn_23 (by decide) ?_
    refine gCall_i (As := [.int 1]) (rest := []) C hO (c_X3_fail l E b S 0 mk F 1) (cwV 1 C.2.2.2.2.1 gX3_saidIn_X3_fail rfl rfl rfl (by decide +kernel) ⟨(Nat.le_of_ble_eq_true rfl), (Nat.le_of_ble_eq_true rfl)⟩) (va_recv C.2.2.2.2.2.2.2.1.1 hO.1 (ci := 3) (q0 := 0) rfl rfl) rfl hl.1 rfl (Nat.le_of_ble_eq_true rfl) dX3_saidIn_24 ⟨(Nat.le_of_ble_eq_true rfl), (Nat.le_of_ble_eq_true rfl)⟩ (fun H locs hO => ?_)
    have hO : gO E A s (mW E b S 1 mk ++ F) H locs := hO
    exact gRi C hO rfl rfl dX3_saidIn_27 (Nat.le_of_ble_eq_true rfl) (Nat.le_of_ble_eq_true rfl)
  · exact absurd (bT c_1) hok

set_option maxHeartbeats 4000000 in
set_option maxRecDepth 100000 in
theorem c_X3_keptOf_ok (l : Launch) (E : gE) (b : Nat → Nat) (S : St) (th : Int32) (mk : Nat → Int32) (F : va_W) (x : Int32) (hI : s_inv S) (hsr : s_srt S) (hok : okStorm S x) : gMi l E yX3_keptOf wsX3_keptOf ({ frames := 2, cells := 0, slots := 0, locals := 43 }) (mW E b S th mk ++ F) [.ref (b 0), .int x] (nI (cnt (s_sto S) x (s_n S))) (mW E b S 0 mk ++ F) 0 0 := by
  refine gMi.of (cc := cX3_keptOf) (maxL := 2) (ty := .int) (by decide) rfl (Nat.le_of_ble_eq_true rfl) ?_
  intro p e s m args below meth c A C ls hl hO
  have hl : lv_has ls 2 [(0, .ref (b 0)), (1, .int x)] := hl
  have iX3 : ∀ w ∈ u_ws RX3 TX3 19, w ∈ wsX3_keptOf := by decide +kernel
  have w44 : Cond.fieldLink RX3 44 "ParrotLogModel" "thrown" "I" ∈ wsX3_keptOf := by decide +kernel
  obtain ⟨hn, hsh, hsc, hOn, hOb, hok9, hpc9, hp0⟩ := hI
  refine lv_aload_n C.1 C.2.1 dX3_keptOf_0 rfl (lv_at hl 0 rfl) ?_
  refine lv_iconst (v := 0) C.1 C.2.1 dX3_keptOf_1 (by decide) ?_
  refine gPut (ws' := (mW E b S 0 mk ++ F)) (ref := RX3) (Cn := RX3) (T := TX3) (N := 19) C iX3 tyX3 tyX3_ok nmX3 hO 0 rfl rfl 0 (by decide) w44 (fun _ h9 => h9) rfl (by decide +kernel) rfl rfl (Nat.le_of_ble_eq_true rfl) rfl dX3_keptOf_2 (fun H locs hO => ?_)
  refine lv_aload_n C.1 C.2.1 dX3_keptOf_5 rfl (lv_at hl 0 rfl) ?_
  refine lv_iload_n C.1 C.2.1 dX3_keptOf_6 rfl (lv_at hl 1 rfl) ?_
  refine gCall_i (As := [.int x]) (rest := []) C hO (c_X3_isStorm l E b S 0 mk F x (by omega)) (cwV 1 C.2.2.2.2.1 gX3_keptOf_X3_isStorm rfl rfl rfl (by decide +kernel) ⟨(Nat.le_of_ble_eq_true rfl), (Nat.le_of_ble_eq_true rfl)⟩) (va_recv C.2.2.2.2.2.2.2.1.1 hO.1 (ci := 3) (q0 := 0) rfl rfl) rfl hl.1 rfl (Nat.le_of_ble_eq_true rfl) dX3_keptOf_7 ⟨(Nat.le_of_ble_eq_true rfl), (Nat.le_of_ble_eq_true rfl)⟩ (fun H locs hO => ?_)
  refine lv_if_eq (tgt := 21) C.1 C.2.1 dX3_keptOf_10 (by decide) (fun c_1 => ?_) (fun c_1 => ?_)
  · exact absurd hok (bF c_1)
  · refine lv_aload_n C.1 C.2.1 dX3_keptOf_13 rfl (lv_at hl 0 rfl) ?_
    refine lv_iload_n C.1 C.2.1 dX3_keptOf_14 rfl (lv_at hl 1 rfl) ?_
    refine gCall_i (As := [.int x]) (rest := []) C hO (c_X3_kept l E b S 0 mk F x (by omega)) (cwV 1 C.2.2.2.2.1 gX3_keptOf_X3_kept rfl rfl rfl (by decide +kernel) ⟨(Nat.le_of_ble_eq_true rfl), (Nat.le_of_ble_eq_true rfl)⟩) (va_recv C.2.2.2.2.2.2.2.1.1 hO.1 (ci := 3) (q0 := 0) rfl rfl) rfl hl.1 rfl (Nat.le_of_ble_eq_true rfl) dX3_keptOf_15 ⟨(Nat.le_of_ble_eq_true rfl), (Nat.le_of_ble_eq_true rfl)⟩ (fun H locs hO => ?_)
    refine lv_goto (tgt := 26) C.1 C.2.1 dX3_keptOf_18 (by decide) ?_
    exact gRi C hO rfl rfl dX3_keptOf_26 (Nat.le_of_ble_eq_true rfl) (Nat.le_of_ble_eq_true rfl)

set_option maxHeartbeats 4000000 in
set_option maxRecDepth 100000 in
theorem c_X3_keptOf_no (l : Launch) (E : gE) (b : Nat → Nat) (S : St) (th : Int32) (mk : Nat → Int32) (F : va_W) (x : Int32) (hI : s_inv S) (hsr : s_srt S) (hok : ¬ okStorm S x) : gMi l E yX3_keptOf wsX3_keptOf ({ frames := 2, cells := 0, slots := 0, locals := 43 }) (mW E b S th mk ++ F) [.ref (b 0), .int x] 0 (mW E b S 1 mk ++ F) 0 0 := by
  refine gMi.of (cc := cX3_keptOf) (maxL := 2) (ty := .int) (by decide) rfl (Nat.le_of_ble_eq_true rfl) ?_
  intro p e s m args below meth c A C ls hl hO
  have hl : lv_has ls 2 [(0, .ref (b 0)), (1, .int x)] := hl
  have iX3 : ∀ w ∈ u_ws RX3 TX3 19, w ∈ wsX3_keptOf := by decide +kernel
  have w44 : Cond.fieldLink RX3 44 "ParrotLogModel" "thrown" "I" ∈ wsX3_keptOf := by decide +kernel
  obtain ⟨hn, hsh, hsc, hOn, hOb, hok9, hpc9, hp0⟩ := hI
  refine lv_aload_n C.1 C.2.1 dX3_keptOf_0 rfl (lv_at hl 0 rfl) ?_
  refine lv_iconst (v := 0) C.1 C.2.1 dX3_keptOf_1 (by decide) ?_
  refine gPut (ws' := (mW E b S 0 mk ++ F)) (ref := RX3) (Cn := RX3) (T := TX3) (N := 19) C iX3 tyX3 tyX3_ok nmX3 hO 0 rfl rfl 0 (by decide) w44 (fun _ h9 => h9) rfl (by decide +kernel) rfl rfl (Nat.le_of_ble_eq_true rfl) rfl dX3_keptOf_2 (fun H locs hO => ?_)
  refine lv_aload_n C.1 C.2.1 dX3_keptOf_5 rfl (lv_at hl 0 rfl) ?_
  refine lv_iload_n C.1 C.2.1 dX3_keptOf_6 rfl (lv_at hl 1 rfl) ?_
  refine gCall_i (As := [.int x]) (rest := []) C hO (c_X3_isStorm l E b S 0 mk F x (by omega)) (cwV 1 C.2.2.2.2.1 gX3_keptOf_X3_isStorm rfl rfl rfl (by decide +kernel) ⟨(Nat.le_of_ble_eq_true rfl), (Nat.le_of_ble_eq_true rfl)⟩) (va_recv C.2.2.2.2.2.2.2.1.1 hO.1 (ci := 3) (q0 := 0) rfl rfl) rfl hl.1 rfl (Nat.le_of_ble_eq_true rfl) dX3_keptOf_7 ⟨(Nat.le_of_ble_eq_true rfl), (Nat.le_of_ble_eq_true rfl)⟩ (fun H locs hO => ?_)
  refine lv_if_eq (tgt := 21) C.1 C.2.1 dX3_keptOf_10 (by decide) (fun c_1 => ?_) (fun c_1 => ?_)
  · refine lv_aload_n C.1 C.2.1 dX3_keptOf_21 rfl (lv_at hl 0 rfl) ?_
    refine lv_iconst (v := 1) C.1 C.2.1 dX3_keptOf_22 (by decide) ?_
    refine gCall_i (As := [.int 1]) (rest := []) C hO (c_X3_fail l E b S 0 mk F 1) (cwV 1 C.2.2.2.2.1 gX3_keptOf_X3_fail rfl rfl rfl (by decide +kernel) ⟨(Nat.le_of_ble_eq_true rfl), (Nat.le_of_ble_eq_true rfl)⟩) (va_recv C.2.2.2.2.2.2.2.1.1 hO.1 (ci := 3) (q0 := 0) rfl rfl) rfl hl.1 rfl (Nat.le_of_ble_eq_true rfl) dX3_keptOf_23 ⟨(Nat.le_of_ble_eq_true rfl), (Nat.le_of_ble_eq_true rfl)⟩ (fun H locs hO => ?_)
    have hO : gO E A s (mW E b S 1 mk ++ F) H locs := hO
    exact gRi C hO rfl rfl dX3_keptOf_26 (Nat.le_of_ble_eq_true rfl) (Nat.le_of_ble_eq_true rfl)
  · exact absurd (bT c_1) hok

set_option maxHeartbeats 4000000 in
set_option maxRecDepth 100000 in
theorem c_X3_ship_ok (l : Launch) (E : gE) (b : Nat → Nat) (S : St) (th : Int32) (mk : Nat → Int32) (F : va_W) (x : Int32) (q9 r : Nat) (g : Nat → Int32) (hsh : s_sh S ≤ 6) (hok : okShip S x) (hq : (mW E b S 0 mk ++ F)[q9]? = some (r, .inl (eI E, 6, .inl g))) : gMi l E yX3_ship wsX3_ship ({ frames := 2, cells := 0, slots := 0, locals := 43 }) (mW E b S th mk ++ F) [.ref (b 0), .int x, .ref r] (g x.toNatClampNeg) (mW E b S 0 mk ++ F) 0 0 := by
  refine gMi.of (cc := cX3_ship) (maxL := 3) (ty := .int) (by decide) rfl (Nat.le_of_ble_eq_true rfl) ?_
  intro p e s m args below meth c A C ls hl hO
  have hl : lv_has ls 3 [(0, .ref (b 0)), (1, .int x), (2, .ref r)] := hl
  have iX3 : ∀ w ∈ u_ws RX3 TX3 19, w ∈ wsX3_ship := by decide +kernel
  have w44 : Cond.fieldLink RX3 44 "ParrotLogModel" "thrown" "I" ∈ wsX3_ship := by decide +kernel
  refine lv_aload_n C.1 C.2.1 dX3_ship_0 rfl (lv_at hl 0 rfl) ?_
  refine lv_iconst (v := 0) C.1 C.2.1 dX3_ship_1 (by decide) ?_
  refine gPut (ws' := (mW E b S 0 mk ++ F)) (ref := RX3) (Cn := RX3) (T := TX3) (N := 19) C iX3 tyX3 tyX3_ok nmX3 hO 0 rfl rfl 0 (by decide) w44 (fun _ h9 => h9) rfl (by decide +kernel) rfl rfl (Nat.le_of_ble_eq_true rfl) rfl dX3_ship_2 (fun H locs hO => ?_)
  refine lv_aload_n C.1 C.2.1 dX3_ship_5 rfl (lv_at hl 0 rfl) ?_
  refine lv_iload_n C.1 C.2.1 dX3_ship_6 rfl (lv_at hl 1 rfl) ?_
  refine gCall_i (As := [.int x]) (rest := []) C hO (c_X3_isShip l E b S 0 mk F x (by omega)) (cwV 1 C.2.2.2.2.1 gX3_ship_X3_isShip rfl rfl rfl (by decide +kernel) ⟨(Nat.le_of_ble_eq_true rfl), (Nat.le_of_ble_eq_true rfl)⟩) (va_recv C.2.2.2.2.2.2.2.1.1 hO.1 (ci := 3) (q0 := 0) rfl rfl) rfl hl.1 rfl (Nat.le_of_ble_eq_true rfl) dX3_ship_7 ⟨(Nat.le_of_ble_eq_true rfl), (Nat.le_of_ble_eq_true rfl)⟩ (fun H locs hO => ?_)
  refine lv_if_eq (tgt := 19) C.1 C.2.1 dX3_ship_10 (by decide) (fun c_1 => ?_) (fun c_1 => ?_)
  · exact absurd hok (bF c_1)
  · have hj9 := okNat (by omega) hok.1 hok.2
    have hl : lv_has ls 3 [(0, .ref (b 0)), (1, .int (nI (x.toNatClampNeg))), (2, .ref r)] := by rw [← hj9.2]; exact hl
    refine lv_aload_n C.1 C.2.1 dX3_ship_13 rfl (lv_at hl 2 rfl) ?_
    refine lv_iload_n C.1 C.2.1 dX3_ship_14 rfl (lv_at hl 1 rfl) ?_
    refine gIald (v := g x.toNatClampNeg) (j := x.toNatClampNeg) C hO q9 hq (by omega) (by decide) rfl dX3_ship_15 ?_
    refine lv_goto (tgt := 24) C.1 C.2.1 dX3_ship_16 (by decide) ?_
    exact gRi C hO rfl rfl dX3_ship_24 (Nat.le_of_ble_eq_true rfl) (Nat.le_of_ble_eq_true rfl)

set_option maxHeartbeats 4000000 in
set_option maxRecDepth 100000 in
theorem c_X3_ship_no (l : Launch) (E : gE) (b : Nat → Nat) (S : St) (th : Int32) (mk : Nat → Int32) (F : va_W) (x : Int32) (q9 r : Nat) (g : Nat → Int32) (hsh : s_sh S ≤ 6) (hok : ¬ okShip S x) (hq : (mW E b S 0 mk ++ F)[q9]? = some (r, .inl (eI E, 6, .inl g))) : gMi l E yX3_ship wsX3_ship ({ frames := 2, cells := 0, slots := 0, locals := 43 }) (mW E b S th mk ++ F) [.ref (b 0), .int x, .ref r] 0 (mW E b S 1 mk ++ F) 0 0 := by
  refine gMi.of (cc := cX3_ship) (maxL := 3) (ty := .int) (by decide) rfl (Nat.le_of_ble_eq_true rfl) ?_
  intro p e s m args below meth c A C ls hl hO
  have hl : lv_has ls 3 [(0, .ref (b 0)), (1, .int x), (2, .ref r)] := hl
  have iX3 : ∀ w ∈ u_ws RX3 TX3 19, w ∈ wsX3_ship := by decide +kernel
  have w44 : Cond.fieldLink RX3 44 "ParrotLogModel" "thrown" "I" ∈ wsX3_ship := by decide +kernel
  refine lv_aload_n C.1 C.2.1 dX3_ship_0 rfl (lv_at hl 0 rfl) ?_
  refine lv_iconst (v := 0) C.1 C.2.1 dX3_ship_1 (by decide) ?_
  refine gPut (ws' := (mW E b S 0 mk ++ F)) (ref := RX3) (Cn := RX3) (T := TX3) (N := 19) C iX3 tyX3 tyX3_ok nmX3 hO 0 rfl rfl 0 (by decide) w44 (fun _ h9 => h9) rfl (by decide +kernel) rfl rfl (Nat.le_of_ble_eq_true rfl) rfl dX3_ship_2 (fun H locs hO => ?_)
  refine lv_aload_n C.1 C.2.1 dX3_ship_5 rfl (lv_at hl 0 rfl) ?_
  refine lv_iload_n C.1 C.2.1 dX3_ship_6 rfl (lv_at hl 1 rfl) ?_
  refine gCall_i (As := [.int x]) (rest := []) C hO (c_X3_isShip l E b S 0 mk F x (by omega)) (cwV 1 C.2.2.2.2.1 gX3_ship_X3_isShip rfl rfl rfl (by decide +kernel) ⟨(Nat.le_of_ble_eq_true rfl), (Nat.le_of_ble_eq_true rfl)⟩) (va_recv C.2.2.2.2.2.2.2.1.1 hO.1 (ci := 3) (q0 := 0) rfl rfl) rfl hl.1 rfl (Nat.le_of_ble_eq_true rfl) dX3_ship_7 ⟨(Nat.le_of_ble_eq_true rfl), (Nat.le_of_ble_eq_true rfl)⟩ (fun H locs hO => ?_)
  refine lv_if_eq (tgt := 19) C.1 C.2.1 dX3_ship_10 (by decide) (fun c_1 => ?_) (fun c_1 => ?_)
  · refine lv_aload_n C.1 C.2.1 dX3_ship_19 rfl (lv_at hl 0 rfl) ?_
    refine lv_iconst (v := 1) C.1 C.2.1 dX3_ship_20 (by decide) ?_
    refine gCall_i (As := [.int 1]) (rest := []) C hO (c_X3_fail l E b S 0 mk F 1) (cwV 1 C.2.2.2.2.1 gX3_ship_X3_fail rfl rfl rfl (by decide +kernel) ⟨(Nat.le_of_ble_eq_true rfl), (Nat.le_of_ble_eq_true rfl)⟩) (va_recv C.2.2.2.2.2.2.2.1.1 hO.1 (ci := 3) (q0 := 0) rfl rfl) rfl hl.1 rfl (Nat.le_of_ble_eq_true rfl) dX3_ship_21 ⟨(Nat.le_of_ble_eq_true rfl), (Nat.le_of_ble_eq_true rfl)⟩ (fun H locs hO => ?_)
    have hO : gO E A s (mW E b S 1 mk ++ F) H locs := hO
    exact gRi C hO rfl rfl dX3_ship_24 (Nat.le_of_ble_eq_true rfl) (Nat.le_of_ble_eq_true rfl)
  · exact absurd (bT c_1) hok

set_option maxHeartbeats 4000000 in
set_option maxRecDepth 100000 in
theorem c_X3_offsetOf_ok (l : Launch) (E : gE) (b : Nat → Nat) (S : St) (th : Int32) (mk : Nat → Int32) (F : va_W) (x : Int32) (hI : s_inv S) (hsr : s_srt S) (hok : okShip S x) : gMi l E yX3_offsetOf wsX3_offsetOf ({ frames := 3, cells := 0, slots := 0, locals := 65 }) (mW E b S th mk ++ F) [.ref (b 0), .int x] (s_at S x.toNatClampNeg) (mW E b S 0 mk ++ F) 0 0 := by
  refine gMi.of (cc := cX3_offsetOf) (maxL := 2) (ty := .int) (by decide) rfl (Nat.le_of_ble_eq_true rfl) ?_
  intro p e s m args below meth c A C ls hl hO
  have hl : lv_has ls 2 [(0, .ref (b 0)), (1, .int x)] := hl
  have iX3 : ∀ w ∈ u_ws RX3 TX3 19, w ∈ wsX3_offsetOf := by decide +kernel
  have w32 : Cond.fieldLink RX3 32 "ParrotLogModel" "at" "[I" ∈ wsX3_offsetOf := by decide +kernel
  obtain ⟨hn, hsh, hsc, hOn, hOb, hok9, hpc9, hp0⟩ := hI
  refine lv_aload_n C.1 C.2.1 dX3_offsetOf_0 rfl (lv_at hl 0 rfl) ?_
  refine lv_iload_n C.1 C.2.1 dX3_offsetOf_1 rfl (lv_at hl 1 rfl) ?_
  refine lv_aload_n C.1 C.2.1 dX3_offsetOf_2 rfl (lv_at hl 0 rfl) ?_
  refine gGet (v := .ref (b 8)) (ref := RX3) (Cn := RX3) (T := TX3) (N := 19) C iX3 hO 0 rfl rfl 15 (by decide) w32 (fun _ h9 => h9) rfl dX3_offsetOf_3 ?_
  refine gCall_i (As := [.int x, .ref (b 8)]) (rest := []) C hO (c_X3_ship_ok l E b S th mk F x 8 (b 8) (s_at S) (by omega) hok rfl) (cwV 2 C.2.2.2.2.1 gX3_offsetOf_X3_ship rfl rfl rfl (by decide +kernel) ⟨(Nat.le_of_ble_eq_true rfl), (Nat.le_of_ble_eq_true rfl)⟩) (va_recv C.2.2.2.2.2.2.2.1.1 hO.1 (ci := 3) (q0 := 0) rfl rfl) rfl hl.1 rfl (Nat.le_of_ble_eq_true rfl) dX3_offsetOf_6 ⟨(Nat.le_of_ble_eq_true rfl), (Nat.le_of_ble_eq_true rfl)⟩ (fun H locs hO => ?_)
  have hO : gO E A s (mW E b S 0 mk ++ F) H locs := hO
  exact gRi C hO rfl rfl dX3_offsetOf_9 (Nat.le_of_ble_eq_true rfl) (Nat.le_of_ble_eq_true rfl)

set_option maxHeartbeats 4000000 in
set_option maxRecDepth 100000 in
theorem c_X3_offsetOf_no (l : Launch) (E : gE) (b : Nat → Nat) (S : St) (th : Int32) (mk : Nat → Int32) (F : va_W) (x : Int32) (hI : s_inv S) (hsr : s_srt S) (hok : ¬ okShip S x) : gMi l E yX3_offsetOf wsX3_offsetOf ({ frames := 3, cells := 0, slots := 0, locals := 65 }) (mW E b S th mk ++ F) [.ref (b 0), .int x] 0 (mW E b S 1 mk ++ F) 0 0 := by
  refine gMi.of (cc := cX3_offsetOf) (maxL := 2) (ty := .int) (by decide) rfl (Nat.le_of_ble_eq_true rfl) ?_
  intro p e s m args below meth c A C ls hl hO
  have hl : lv_has ls 2 [(0, .ref (b 0)), (1, .int x)] := hl
  have iX3 : ∀ w ∈ u_ws RX3 TX3 19, w ∈ wsX3_offsetOf := by decide +kernel
  have w32 : Cond.fieldLink RX3 32 "ParrotLogModel" "at" "[I" ∈ wsX3_offsetOf := by decide +kernel
  obtain ⟨hn, hsh, hsc, hOn, hOb, hok9, hpc9, hp0⟩ := hI
  refine lv_aload_n C.1 C.2.1 dX3_offsetOf_0 rfl (lv_at hl 0 rfl) ?_
  refine lv_iload_n C.1 C.2.1 dX3_offsetOf_1 rfl (lv_at hl 1 rfl) ?_
  refine lv_aload_n C.1 C.2.1 dX3_offsetOf_2 rfl (lv_at hl 0 rfl) ?_
  refine gGet (v := .ref (b 8)) (ref := RX3) (Cn := RX3) (T := TX3) (N := 19) C iX3 hO 0 rfl rfl 15 (by decide) w32 (fun _ h9 => h9) rfl dX3_offsetOf_3 ?_
  refine gCall_i (As := [.int x, .ref (b 8)]) (rest := []) C hO (c_X3_ship_no l E b S th mk F x 8 (b 8) (s_at S) (by omega) hok rfl) (cwV 2 C.2.2.2.2.1 gX3_offsetOf_X3_ship rfl rfl rfl (by decide +kernel) ⟨(Nat.le_of_ble_eq_true rfl), (Nat.le_of_ble_eq_true rfl)⟩) (va_recv C.2.2.2.2.2.2.2.1.1 hO.1 (ci := 3) (q0 := 0) rfl rfl) rfl hl.1 rfl (Nat.le_of_ble_eq_true rfl) dX3_offsetOf_6 ⟨(Nat.le_of_ble_eq_true rfl), (Nat.le_of_ble_eq_true rfl)⟩ (fun H locs hO => ?_)
  have hO : gO E A s (mW E b S 1 mk ++ F) H locs := hO
  exact gRi C hO rfl rfl dX3_offsetOf_9 (Nat.le_of_ble_eq_true rfl) (Nat.le_of_ble_eq_true rfl)

set_option maxHeartbeats 4000000 in
set_option maxRecDepth 100000 in
theorem c_X3_heardBy_ok (l : Launch) (E : gE) (b : Nat → Nat) (S : St) (th : Int32) (mk : Nat → Int32) (F : va_W) (x : Int32) (hI : s_inv S) (hsr : s_srt S) (hok : okShip S x) : gMi l E yX3_heardBy wsX3_heardBy ({ frames := 3, cells := 0, slots := 0, locals := 65 }) (mW E b S th mk ++ F) [.ref (b 0), .int x] (s_hd S x.toNatClampNeg) (mW E b S 0 mk ++ F) 0 0 := by
  refine gMi.of (cc := cX3_heardBy) (maxL := 2) (ty := .int) (by decide) rfl (Nat.le_of_ble_eq_true rfl) ?_
  intro p e s m args below meth c A C ls hl hO
  have hl : lv_has ls 2 [(0, .ref (b 0)), (1, .int x)] := hl
  have iX3 : ∀ w ∈ u_ws RX3 TX3 19, w ∈ wsX3_heardBy := by decide +kernel
  have w35 : Cond.fieldLink RX3 35 "ParrotLogModel" "heard" "[I" ∈ wsX3_heardBy := by decide +kernel
  obtain ⟨hn, hsh, hsc, hOn, hOb, hok9, hpc9, hp0⟩ := hI
  refine lv_aload_n C.1 C.2.1 dX3_heardBy_0 rfl (lv_at hl 0 rfl) ?_
  refine lv_iload_n C.1 C.2.1 dX3_heardBy_1 rfl (lv_at hl 1 rfl) ?_
  refine lv_aload_n C.1 C.2.1 dX3_heardBy_2 rfl (lv_at hl 0 rfl) ?_
  refine gGet (v := .ref (b 9)) (ref := RX3) (Cn := RX3) (T := TX3) (N := 19) C iX3 hO 0 rfl rfl 16 (by decide) w35 (fun _ h9 => h9) rfl dX3_heardBy_3 ?_
  refine gCall_i (As := [.int x, .ref (b 9)]) (rest := []) C hO (c_X3_ship_ok l E b S th mk F x 9 (b 9) (s_hd S) (by omega) hok rfl) (cwV 2 C.2.2.2.2.1 gX3_heardBy_X3_ship rfl rfl rfl (by decide +kernel) ⟨(Nat.le_of_ble_eq_true rfl), (Nat.le_of_ble_eq_true rfl)⟩) (va_recv C.2.2.2.2.2.2.2.1.1 hO.1 (ci := 3) (q0 := 0) rfl rfl) rfl hl.1 rfl (Nat.le_of_ble_eq_true rfl) dX3_heardBy_6 ⟨(Nat.le_of_ble_eq_true rfl), (Nat.le_of_ble_eq_true rfl)⟩ (fun H locs hO => ?_)
  have hO : gO E A s (mW E b S 0 mk ++ F) H locs := hO
  exact gRi C hO rfl rfl dX3_heardBy_9 (Nat.le_of_ble_eq_true rfl) (Nat.le_of_ble_eq_true rfl)

set_option maxHeartbeats 4000000 in
set_option maxRecDepth 100000 in
theorem c_X3_heardBy_no (l : Launch) (E : gE) (b : Nat → Nat) (S : St) (th : Int32) (mk : Nat → Int32) (F : va_W) (x : Int32) (hI : s_inv S) (hsr : s_srt S) (hok : ¬ okShip S x) : gMi l E yX3_heardBy wsX3_heardBy ({ frames := 3, cells := 0, slots := 0, locals := 65 }) (mW E b S th mk ++ F) [.ref (b 0), .int x] 0 (mW E b S 1 mk ++ F) 0 0 := by
  refine gMi.of (cc := cX3_heardBy) (maxL := 2) (ty := .int) (by decide) rfl (Nat.le_of_ble_eq_true rfl) ?_
  intro p e s m args below meth c A C ls hl hO
  have hl : lv_has ls 2 [(0, .ref (b 0)), (1, .int x)] := hl
  have iX3 : ∀ w ∈ u_ws RX3 TX3 19, w ∈ wsX3_heardBy := by decide +kernel
  have w35 : Cond.fieldLink RX3 35 "ParrotLogModel" "heard" "[I" ∈ wsX3_heardBy := by decide +kernel
  obtain ⟨hn, hsh, hsc, hOn, hOb, hok9, hpc9, hp0⟩ := hI
  refine lv_aload_n C.1 C.2.1 dX3_heardBy_0 rfl (lv_at hl 0 rfl) ?_
  refine lv_iload_n C.1 C.2.1 dX3_heardBy_1 rfl (lv_at hl 1 rfl) ?_
  refine lv_aload_n C.1 C.2.1 dX3_heardBy_2 rfl (lv_at hl 0 rfl) ?_
  refine gGet (v := .ref (b 9)) (ref := RX3) (Cn := RX3) (T := TX3) (N := 19) C iX3 hO 0 rfl rfl 16 (by decide) w35 (fun _ h9 => h9) rfl dX3_heardBy_3 ?_
  refine gCall_i (As := [.int x, .ref (b 9)]) (rest := []) C hO (c_X3_ship_no l E b S th mk F x 9 (b 9) (s_hd S) (by omega) hok rfl) (cwV 2 C.2.2.2.2.1 gX3_heardBy_X3_ship rfl rfl rfl (by decide +kernel) ⟨(Nat.le_of_ble_eq_true rfl), (Nat.le_of_ble_eq_true rfl)⟩) (va_recv C.2.2.2.2.2.2.2.1.1 hO.1 (ci := 3) (q0 := 0) rfl rfl) rfl hl.1 rfl (Nat.le_of_ble_eq_true rfl) dX3_heardBy_6 ⟨(Nat.le_of_ble_eq_true rfl), (Nat.le_of_ble_eq_true rfl)⟩ (fun H locs hO => ?_)
  have hO : gO E A s (mW E b S 1 mk ++ F) H locs := hO
  exact gRi C hO rfl rfl dX3_heardBy_9 (Nat.le_of_ble_eq_true rfl) (Nat.le_of_ble_eq_true rfl)

set_option maxHeartbeats 4000000 in
set_option maxRecDepth 100000 in
theorem c_X3_missedBy_ok (l : Launch) (E : gE) (b : Nat → Nat) (S : St) (th : Int32) (mk : Nat → Int32) (F : va_W) (x : Int32) (hI : s_inv S) (hsr : s_srt S) (hok : okShip S x) : gMi l E yX3_missedBy wsX3_missedBy ({ frames := 3, cells := 0, slots := 0, locals := 65 }) (mW E b S th mk ++ F) [.ref (b 0), .int x] (s_ms S x.toNatClampNeg) (mW E b S 0 mk ++ F) 0 0 := by
  refine gMi.of (cc := cX3_missedBy) (maxL := 2) (ty := .int) (by decide) rfl (Nat.le_of_ble_eq_true rfl) ?_
  intro p e s m args below meth c A C ls hl hO
  have hl : lv_has ls 2 [(0, .ref (b 0)), (1, .int x)] := hl
  have iX3 : ∀ w ∈ u_ws RX3 TX3 19, w ∈ wsX3_missedBy := by decide +kernel
  have w38 : Cond.fieldLink RX3 38 "ParrotLogModel" "missed" "[I" ∈ wsX3_missedBy := by decide +kernel
  obtain ⟨hn, hsh, hsc, hOn, hOb, hok9, hpc9, hp0⟩ := hI
  refine lv_aload_n C.1 C.2.1 dX3_missedBy_0 rfl (lv_at hl 0 rfl) ?_
  refine lv_iload_n C.1 C.2.1 dX3_missedBy_1 rfl (lv_at hl 1 rfl) ?_
  refine lv_aload_n C.1 C.2.1 dX3_missedBy_2 rfl (lv_at hl 0 rfl) ?_
  refine gGet (v := .ref (b 10)) (ref := RX3) (Cn := RX3) (T := TX3) (N := 19) C iX3 hO 0 rfl rfl 17 (by decide) w38 (fun _ h9 => h9) rfl dX3_missedBy_3 ?_
  refine gCall_i (As := [.int x, .ref (b 10)]) (rest := []) C hO (c_X3_ship_ok l E b S th mk F x 10 (b 10) (s_ms S) (by omega) hok rfl) (cwV 2 C.2.2.2.2.1 gX3_missedBy_X3_ship rfl rfl rfl (by decide +kernel) ⟨(Nat.le_of_ble_eq_true rfl), (Nat.le_of_ble_eq_true rfl)⟩) (va_recv C.2.2.2.2.2.2.2.1.1 hO.1 (ci := 3) (q0 := 0) rfl rfl) rfl hl.1 rfl (Nat.le_of_ble_eq_true rfl) dX3_missedBy_6 ⟨(Nat.le_of_ble_eq_true rfl), (Nat.le_of_ble_eq_true rfl)⟩ (fun H locs hO => ?_)
  have hO : gO E A s (mW E b S 0 mk ++ F) H locs := hO
  exact gRi C hO rfl rfl dX3_missedBy_9 (Nat.le_of_ble_eq_true rfl) (Nat.le_of_ble_eq_true rfl)

set_option maxHeartbeats 4000000 in
set_option maxRecDepth 100000 in
theorem c_X3_missedBy_no (l : Launch) (E : gE) (b : Nat → Nat) (S : St) (th : Int32) (mk : Nat → Int32) (F : va_W) (x : Int32) (hI : s_inv S) (hsr : s_srt S) (hok : ¬ okShip S x) : gMi l E yX3_missedBy wsX3_missedBy ({ frames := 3, cells := 0, slots := 0, locals := 65 }) (mW E b S th mk ++ F) [.ref (b 0), .int x] 0 (mW E b S 1 mk ++ F) 0 0 := by
  refine gMi.of (cc := cX3_missedBy) (maxL := 2) (ty := .int) (by decide) rfl (Nat.le_of_ble_eq_true rfl) ?_
  intro p e s m args below meth c A C ls hl hO
  have hl : lv_has ls 2 [(0, .ref (b 0)), (1, .int x)] := hl
  have iX3 : ∀ w ∈ u_ws RX3 TX3 19, w ∈ wsX3_missedBy := by decide +kernel
  have w38 : Cond.fieldLink RX3 38 "ParrotLogModel" "missed" "[I" ∈ wsX3_missedBy := by decide +kernel
  obtain ⟨hn, hsh, hsc, hOn, hOb, hok9, hpc9, hp0⟩ := hI
  refine lv_aload_n C.1 C.2.1 dX3_missedBy_0 rfl (lv_at hl 0 rfl) ?_
  refine lv_iload_n C.1 C.2.1 dX3_missedBy_1 rfl (lv_at hl 1 rfl) ?_
  refine lv_aload_n C.1 C.2.1 dX3_missedBy_2 rfl (lv_at hl 0 rfl) ?_
  refine gGet (v := .ref (b 10)) (ref := RX3) (Cn := RX3) (T := TX3) (N := 19) C iX3 hO 0 rfl rfl 17 (by decide) w38 (fun _ h9 => h9) rfl dX3_missedBy_3 ?_
  refine gCall_i (As := [.int x, .ref (b 10)]) (rest := []) C hO (c_X3_ship_no l E b S th mk F x 10 (b 10) (s_ms S) (by omega) hok rfl) (cwV 2 C.2.2.2.2.1 gX3_missedBy_X3_ship rfl rfl rfl (by decide +kernel) ⟨(Nat.le_of_ble_eq_true rfl), (Nat.le_of_ble_eq_true rfl)⟩) (va_recv C.2.2.2.2.2.2.2.1.1 hO.1 (ci := 3) (q0 := 0) rfl rfl) rfl hl.1 rfl (Nat.le_of_ble_eq_true rfl) dX3_missedBy_6 ⟨(Nat.le_of_ble_eq_true rfl), (Nat.le_of_ble_eq_true rfl)⟩ (fun H locs hO => ?_)
  have hO : gO E A s (mW E b S 1 mk ++ F) H locs := hO
  exact gRi C hO rfl rfl dX3_missedBy_9 (Nat.le_of_ble_eq_true rfl) (Nat.le_of_ble_eq_true rfl)

set_option maxHeartbeats 4000000 in
set_option maxRecDepth 100000 in
theorem c_X3_lagOf_ok (l : Launch) (E : gE) (b : Nat → Nat) (S : St) (th : Int32) (mk : Nat → Int32) (F : va_W) (x : Int32) (hI : s_inv S) (hsr : s_srt S) (hok : okShip S x) : gMi l E yX3_lagOf wsX3_lagOf ({ frames := 2, cells := 0, slots := 0, locals := 43 }) (mW E b S th mk ++ F) [.ref (b 0), .int x] (nI (s_lag S x.toNatClampNeg)) (mW E b S 0 mk ++ F) 0 0 := by
  refine gMi.of (cc := cX3_lagOf) (maxL := 2) (ty := .int) (by decide) rfl (Nat.le_of_ble_eq_true rfl) ?_
  intro p e s m args below meth c A C ls hl hO
  have hl : lv_has ls 2 [(0, .ref (b 0)), (1, .int x)] := hl
  have iX3 : ∀ w ∈ u_ws RX3 TX3 19, w ∈ wsX3_lagOf := by decide +kernel
  have w44 : Cond.fieldLink RX3 44 "ParrotLogModel" "thrown" "I" ∈ wsX3_lagOf := by decide +kernel
  obtain ⟨hn, hsh, hsc, hOn, hOb, hok9, hpc9, hp0⟩ := hI
  refine lv_aload_n C.1 C.2.1 dX3_lagOf_0 rfl (lv_at hl 0 rfl) ?_
  refine lv_iconst (v := 0) C.1 C.2.1 dX3_lagOf_1 (by decide) ?_
  refine gPut (ws' := (mW E b S 0 mk ++ F)) (ref := RX3) (Cn := RX3) (T := TX3) (N := 19) C iX3 tyX3 tyX3_ok nmX3 hO 0 rfl rfl 0 (by decide) w44 (fun _ h9 => h9) rfl (by decide +kernel) rfl rfl (Nat.le_of_ble_eq_true rfl) rfl dX3_lagOf_2 (fun H locs hO => ?_)
  refine lv_aload_n C.1 C.2.1 dX3_lagOf_5 rfl (lv_at hl 0 rfl) ?_
  refine lv_iload_n C.1 C.2.1 dX3_lagOf_6 rfl (lv_at hl 1 rfl) ?_
  refine gCall_i (As := [.int x]) (rest := []) C hO (c_X3_isShip l E b S 0 mk F x (by omega)) (cwV 1 C.2.2.2.2.1 gX3_lagOf_X3_isShip rfl rfl rfl (by decide +kernel) ⟨(Nat.le_of_ble_eq_true rfl), (Nat.le_of_ble_eq_true rfl)⟩) (va_recv C.2.2.2.2.2.2.2.1.1 hO.1 (ci := 3) (q0 := 0) rfl rfl) rfl hl.1 rfl (Nat.le_of_ble_eq_true rfl) dX3_lagOf_7 ⟨(Nat.le_of_ble_eq_true rfl), (Nat.le_of_ble_eq_true rfl)⟩ (fun H locs hO => ?_)
  refine lv_if_eq (tgt := 21) C.1 C.2.1 dX3_lagOf_10 (by decide) (fun c_1 => ?_) (fun c_1 => ?_)
  · exact absurd hok (bF c_1)
  · have hj9 := okNat (by omega) hok.1 hok.2
    have hi9 : x.toNatClampNeg < 6 := by omega
    have hl : lv_has ls 2 [(0, .ref (b 0)), (1, .int (nI (x.toNatClampNeg)))] := by rw [← hj9.2]; exact hl
    refine lv_aload_n C.1 C.2.1 dX3_lagOf_13 rfl (lv_at hl 0 rfl) ?_
    refine lv_iload_n C.1 C.2.1 dX3_lagOf_14 rfl (lv_at hl 1 rfl) ?_
    refine gCall_i (As := [.int (nI x.toNatClampNeg)]) (rest := []) C hO (c_X3_lag l E b S 0 mk F x.toNatClampNeg (by omega) (by omega)) (cwV 1 C.2.2.2.2.1 gX3_lagOf_X3_lag rfl rfl rfl (by decide +kernel) ⟨(Nat.le_of_ble_eq_true rfl), (Nat.le_of_ble_eq_true rfl)⟩) (va_recv C.2.2.2.2.2.2.2.1.1 hO.1 (ci := 3) (q0 := 0) rfl rfl) rfl hl.1 rfl (Nat.le_of_ble_eq_true rfl) dX3_lagOf_15 ⟨(Nat.le_of_ble_eq_true rfl), (Nat.le_of_ble_eq_true rfl)⟩ (fun H locs hO => ?_)
    refine lv_goto (tgt := 26) C.1 C.2.1 dX3_lagOf_18 (by decide) ?_
    exact gRi C hO rfl rfl dX3_lagOf_26 (Nat.le_of_ble_eq_true rfl) (Nat.le_of_ble_eq_true rfl)

set_option maxHeartbeats 4000000 in
set_option maxRecDepth 100000 in
theorem c_X3_lagOf_no (l : Launch) (E : gE) (b : Nat → Nat) (S : St) (th : Int32) (mk : Nat → Int32) (F : va_W) (x : Int32) (hI : s_inv S) (hsr : s_srt S) (hok : ¬ okShip S x) : gMi l E yX3_lagOf wsX3_lagOf ({ frames := 2, cells := 0, slots := 0, locals := 43 }) (mW E b S th mk ++ F) [.ref (b 0), .int x] 0 (mW E b S 1 mk ++ F) 0 0 := by
  refine gMi.of (cc := cX3_lagOf) (maxL := 2) (ty := .int) (by decide) rfl (Nat.le_of_ble_eq_true rfl) ?_
  intro p e s m args below meth c A C ls hl hO
  have hl : lv_has ls 2 [(0, .ref (b 0)), (1, .int x)] := hl
  have iX3 : ∀ w ∈ u_ws RX3 TX3 19, w ∈ wsX3_lagOf := by decide +kernel
  have w44 : Cond.fieldLink RX3 44 "ParrotLogModel" "thrown" "I" ∈ wsX3_lagOf := by decide +kernel
  obtain ⟨hn, hsh, hsc, hOn, hOb, hok9, hpc9, hp0⟩ := hI
  refine lv_aload_n C.1 C.2.1 dX3_lagOf_0 rfl (lv_at hl 0 rfl) ?_
  refine lv_iconst (v := 0) C.1 C.2.1 dX3_lagOf_1 (by decide) ?_
  refine gPut (ws' := (mW E b S 0 mk ++ F)) (ref := RX3) (Cn := RX3) (T := TX3) (N := 19) C iX3 tyX3 tyX3_ok nmX3 hO 0 rfl rfl 0 (by decide) w44 (fun _ h9 => h9) rfl (by decide +kernel) rfl rfl (Nat.le_of_ble_eq_true rfl) rfl dX3_lagOf_2 (fun H locs hO => ?_)
  refine lv_aload_n C.1 C.2.1 dX3_lagOf_5 rfl (lv_at hl 0 rfl) ?_
  refine lv_iload_n C.1 C.2.1 dX3_lagOf_6 rfl (lv_at hl 1 rfl) ?_
  refine gCall_i (As := [.int x]) (rest := []) C hO (c_X3_isShip l E b S 0 mk F x (by omega)) (cwV 1 C.2.2.2.2.1 gX3_lagOf_X3_isShip rfl rfl rfl (by decide +kernel) ⟨(Nat.le_of_ble_eq_true rfl), (Nat.le_of_ble_eq_true rfl)⟩) (va_recv C.2.2.2.2.2.2.2.1.1 hO.1 (ci := 3) (q0 := 0) rfl rfl) rfl hl.1 rfl (Nat.le_of_ble_eq_true rfl) dX3_lagOf_7 ⟨(Nat.le_of_ble_eq_true rfl), (Nat.le_of_ble_eq_true rfl)⟩ (fun H locs hO => ?_)
  refine lv_if_eq (tgt := 21) C.1 C.2.1 dX3_lagOf_10 (by decide) (fun c_1 => ?_) (fun c_1 => ?_)
  · refine lv_aload_n C.1 C.2.1 dX3_lagOf_21 rfl (lv_at hl 0 rfl) ?_
    refine lv_iconst (v := 1) C.1 C.2.1 dX3_lagOf_22 (by decide) ?_
    refine gCall_i (As := [.int 1]) (rest := []) C hO (c_X3_fail l E b S 0 mk F 1) (cwV 1 C.2.2.2.2.1 gX3_lagOf_X3_fail rfl rfl rfl (by decide +kernel) ⟨(Nat.le_of_ble_eq_true rfl), (Nat.le_of_ble_eq_true rfl)⟩) (va_recv C.2.2.2.2.2.2.2.1.1 hO.1 (ci := 3) (q0 := 0) rfl rfl) rfl hl.1 rfl (Nat.le_of_ble_eq_true rfl) dX3_lagOf_23 ⟨(Nat.le_of_ble_eq_true rfl), (Nat.le_of_ble_eq_true rfl)⟩ (fun H locs hO => ?_)
    have hO : gO E A s (mW E b S 1 mk ++ F) H locs := hO
    exact gRi C hO rfl rfl dX3_lagOf_26 (Nat.le_of_ble_eq_true rfl) (Nat.le_of_ble_eq_true rfl)
  · exact absurd (bT c_1) hok

set_option maxHeartbeats 4000000 in
set_option maxRecDepth 100000 in
theorem c_X3_knownBy_ok (l : Launch) (E : gE) (b : Nat → Nat) (S : St) (th : Int32) (mk : Nat → Int32) (F : va_W) (x k : Int32) (hI : s_inv S) (hsr : s_srt S) (hok : okShip S x ∧ okKey k) : gMi l E yX3_knownBy wsX3_knownBy ({ frames := 2, cells := 0, slots := 0, locals := 43 }) (mW E b S th mk ++ F) [.ref (b 0), .int x, .int k] (s_kn S x.toNatClampNeg k.toNatClampNeg) (mW E b S 0 mk ++ F) 0 0 := by
  refine gMi.of (cc := cX3_knownBy) (maxL := 3) (ty := .int) (by decide) rfl (Nat.le_of_ble_eq_true rfl) ?_
  intro p e s m args below meth c A C ls hl hO
  have hl : lv_has ls 3 [(0, .ref (b 0)), (1, .int x), (2, .int k)] := hl
  have iX3 : ∀ w ∈ u_ws RX3 TX3 19, w ∈ wsX3_knownBy := by decide +kernel
  have w44 : Cond.fieldLink RX3 44 "ParrotLogModel" "thrown" "I" ∈ wsX3_knownBy := by decide +kernel
  have w41 : Cond.fieldLink RX3 41 "ParrotLogModel" "known" "[I" ∈ wsX3_knownBy := by decide +kernel
  obtain ⟨hn, hsh, hsc, hOn, hOb, hok9, hpc9, hp0⟩ := hI
  refine lv_aload_n C.1 C.2.1 dX3_knownBy_0 rfl (lv_at hl 0 rfl) ?_
  refine lv_iconst (v := 0) C.1 C.2.1 dX3_knownBy_1 (by decide) ?_
  refine gPut (ws' := (mW E b S 0 mk ++ F)) (ref := RX3) (Cn := RX3) (T := TX3) (N := 19) C iX3 tyX3 tyX3_ok nmX3 hO 0 rfl rfl 0 (by decide) w44 (fun _ h9 => h9) rfl (by decide +kernel) rfl rfl (Nat.le_of_ble_eq_true rfl) rfl dX3_knownBy_2 (fun H locs hO => ?_)
  refine lv_aload_n C.1 C.2.1 dX3_knownBy_5 rfl (lv_at hl 0 rfl) ?_
  refine lv_iload_n C.1 C.2.1 dX3_knownBy_6 rfl (lv_at hl 1 rfl) ?_
  refine gCall_i (As := [.int x]) (rest := []) C hO (c_X3_isShip l E b S 0 mk F x (by omega)) (cwV 1 C.2.2.2.2.1 gX3_knownBy_X3_isShip rfl rfl rfl (by decide +kernel) ⟨(Nat.le_of_ble_eq_true rfl), (Nat.le_of_ble_eq_true rfl)⟩) (va_recv C.2.2.2.2.2.2.2.1.1 hO.1 (ci := 3) (q0 := 0) rfl rfl) rfl hl.1 rfl (Nat.le_of_ble_eq_true rfl) dX3_knownBy_7 ⟨(Nat.le_of_ble_eq_true rfl), (Nat.le_of_ble_eq_true rfl)⟩ (fun H locs hO => ?_)
  refine lv_if_eq (tgt := 34) C.1 C.2.1 dX3_knownBy_10 (by decide) (fun c_1 => ?_) (fun c_1 => ?_)
  · exact absurd hok.1 (bF c_1)
  · refine lv_iload_n C.1 C.2.1 dX3_knownBy_13 rfl (lv_at hl 2 rfl) ?_
    refine gCallS_i (As := [.int k]) (rest := []) C hO (c_X3_isKey l E b S 0 mk F k) (cwS 1 C.2.2.2.2.1 gX3_knownBy_X3_isKey rfl rfl rfl (by decide +kernel) ⟨(Nat.le_of_ble_eq_true rfl), (Nat.le_of_ble_eq_true rfl)⟩) rfl hl.1 rfl (Nat.le_of_ble_eq_true rfl) dX3_knownBy_14 ⟨(Nat.le_of_ble_eq_true rfl), (Nat.le_of_ble_eq_true rfl)⟩ (fun H locs hO => ?_)
    refine lv_if_eq (tgt := 34) C.1 C.2.1 dX3_knownBy_17 (by decide) (fun c_2 => ?_) (fun c_2 => ?_)
    · exact absurd hok.2 (bF c_2)
    · have hj9 := okNat (by omega) hok.1.1 hok.1.2
      have hi9 : x.toNatClampNeg < 6 := by omega
      have hkk9 := okKey_n hok.2
      have hl : lv_has ls 3 [(0, .ref (b 0)), (1, .int (nI (x.toNatClampNeg))), (2, .int (nI (k.toNatClampNeg)))] := by rw [← hj9.2, ← hkk9.2]; exact hl
      refine lv_aload_n C.1 C.2.1 dX3_knownBy_20 rfl (lv_at hl 0 rfl) ?_
      refine gGet (v := .ref (b 11)) (ref := RX3) (Cn := RX3) (T := TX3) (N := 19) C iX3 hO 0 rfl rfl 18 (by decide) w41 (fun _ h9 => h9) rfl dX3_knownBy_21 ?_
      refine lv_bipush (v := nI 10) C.1 C.2.1 dX3_knownBy_24 (by decide) ?_
      refine lv_iload_n C.1 C.2.1 dX3_knownBy_26 rfl (lv_at hl 1 rfl) ?_
      refine gMulN (x := 10) (y := x.toNatClampNeg) C.1 C.2.1 dX3_knownBy_27 ?_
      refine lv_iload_n C.1 C.2.1 dX3_knownBy_28 rfl (lv_at hl 2 rfl) ?_
      refine gAddN (x := (10 * x.toNatClampNeg)) (y := k.toNatClampNeg) C.1 C.2.1 dX3_knownBy_29 ?_
      refine gIald (v := (mKn (s_kn S)) ((10 * x.toNatClampNeg) + k.toNatClampNeg)) (j := ((10 * x.toNatClampNeg) + k.toNatClampNeg)) C hO 11 rfl (by omega) (by decide) rfl dX3_knownBy_30 ?_
      refine lv_goto (tgt := 39) C.1 C.2.1 dX3_knownBy_31 (by decide) ?_
      exact gRi C hO rfl (mKn_at hkk9.1) dX3_knownBy_39 (Nat.le_of_ble_eq_true rfl) (Nat.le_of_ble_eq_true rfl)

set_option maxHeartbeats 4000000 in
set_option maxRecDepth 100000 in
theorem c_X3_knownBy_no (l : Launch) (E : gE) (b : Nat → Nat) (S : St) (th : Int32) (mk : Nat → Int32) (F : va_W) (x k : Int32) (hI : s_inv S) (hsr : s_srt S) (hok : ¬ (okShip S x ∧ okKey k)) : gMi l E yX3_knownBy wsX3_knownBy ({ frames := 2, cells := 0, slots := 0, locals := 43 }) (mW E b S th mk ++ F) [.ref (b 0), .int x, .int k] 0 (mW E b S 1 mk ++ F) 0 0 := by
  refine gMi.of (cc := cX3_knownBy) (maxL := 3) (ty := .int) (by decide) rfl (Nat.le_of_ble_eq_true rfl) ?_
  intro p e s m args below meth c A C ls hl hO
  have hl : lv_has ls 3 [(0, .ref (b 0)), (1, .int x), (2, .int k)] := hl
  have iX3 : ∀ w ∈ u_ws RX3 TX3 19, w ∈ wsX3_knownBy := by decide +kernel
  have w44 : Cond.fieldLink RX3 44 "ParrotLogModel" "thrown" "I" ∈ wsX3_knownBy := by decide +kernel
  obtain ⟨hn, hsh, hsc, hOn, hOb, hok9, hpc9, hp0⟩ := hI
  refine lv_aload_n C.1 C.2.1 dX3_knownBy_0 rfl (lv_at hl 0 rfl) ?_
  refine lv_iconst (v := 0) C.1 C.2.1 dX3_knownBy_1 (by decide) ?_
  refine gPut (ws' := (mW E b S 0 mk ++ F)) (ref := RX3) (Cn := RX3) (T := TX3) (N := 19) C iX3 tyX3 tyX3_ok nmX3 hO 0 rfl rfl 0 (by decide) w44 (fun _ h9 => h9) rfl (by decide +kernel) rfl rfl (Nat.le_of_ble_eq_true rfl) rfl dX3_knownBy_2 (fun H locs hO => ?_)
  refine lv_aload_n C.1 C.2.1 dX3_knownBy_5 rfl (lv_at hl 0 rfl) ?_
  refine lv_iload_n C.1 C.2.1 dX3_knownBy_6 rfl (lv_at hl 1 rfl) ?_
  refine gCall_i (As := [.int x]) (rest := []) C hO (c_X3_isShip l E b S 0 mk F x (by omega)) (cwV 1 C.2.2.2.2.1 gX3_knownBy_X3_isShip rfl rfl rfl (by decide +kernel) ⟨(Nat.le_of_ble_eq_true rfl), (Nat.le_of_ble_eq_true rfl)⟩) (va_recv C.2.2.2.2.2.2.2.1.1 hO.1 (ci := 3) (q0 := 0) rfl rfl) rfl hl.1 rfl (Nat.le_of_ble_eq_true rfl) dX3_knownBy_7 ⟨(Nat.le_of_ble_eq_true rfl), (Nat.le_of_ble_eq_true rfl)⟩ (fun H locs hO => ?_)
  refine lv_if_eq (tgt := 34) C.1 C.2.1 dX3_knownBy_10 (by decide) (fun c_1 => ?_) (fun c_1 => ?_)
  · refine lv_aload_n C.1 C.2.1 dX3_knownBy_34 rfl (lv_at hl 0 rfl) ?_
    refine lv_iconst (v := 1) C.1 C.2.1 dX3_knownBy_35 (by decide) ?_
    refine gCall_i (As := [.int 1]) (rest := []) C hO (c_X3_fail l E b S 0 mk F 1) (cwV 1 C.2.2.2.2.1 gX3_knownBy_X3_fail rfl rfl rfl (by decide +kernel) ⟨(Nat.le_of_ble_eq_true rfl), (Nat.le_of_ble_eq_true rfl)⟩) (va_recv C.2.2.2.2.2.2.2.1.1 hO.1 (ci := 3) (q0 := 0) rfl rfl) rfl hl.1 rfl (Nat.le_of_ble_eq_true rfl) dX3_knownBy_36 ⟨(Nat.le_of_ble_eq_true rfl), (Nat.le_of_ble_eq_true rfl)⟩ (fun H locs hO => ?_)
    have hO : gO E A s (mW E b S 1 mk ++ F) H locs := hO
    exact gRi C hO rfl rfl dX3_knownBy_39 (Nat.le_of_ble_eq_true rfl) (Nat.le_of_ble_eq_true rfl)
  · have hz8 := bT c_1
    refine lv_iload_n C.1 C.2.1 dX3_knownBy_13 rfl (lv_at hl 2 rfl) ?_
    refine gCallS_i (As := [.int k]) (rest := []) C hO (c_X3_isKey l E b S 0 mk F k) (cwS 1 C.2.2.2.2.1 gX3_knownBy_X3_isKey rfl rfl rfl (by decide +kernel) ⟨(Nat.le_of_ble_eq_true rfl), (Nat.le_of_ble_eq_true rfl)⟩) rfl hl.1 rfl (Nat.le_of_ble_eq_true rfl) dX3_knownBy_14 ⟨(Nat.le_of_ble_eq_true rfl), (Nat.le_of_ble_eq_true rfl)⟩ (fun H locs hO => ?_)
    refine lv_if_eq (tgt := 34) C.1 C.2.1 dX3_knownBy_17 (by decide) (fun c_2 => ?_) (fun c_2 => ?_)
    · refine lv_aload_n C.1 C.2.1 dX3_knownBy_34 rfl (lv_at hl 0 rfl) ?_
      refine lv_iconst (v := 1) C.1 C.2.1 dX3_knownBy_35 (by decide) ?_
      refine gCall_i (As := [.int 1]) (rest := []) C hO (c_X3_fail l E b S 0 mk F 1) (cwV 1 C.2.2.2.2.1 gX3_knownBy_X3_fail rfl rfl rfl (by decide +kernel) ⟨(Nat.le_of_ble_eq_true rfl), (Nat.le_of_ble_eq_true rfl)⟩) (va_recv C.2.2.2.2.2.2.2.1.1 hO.1 (ci := 3) (q0 := 0) rfl rfl) rfl hl.1 rfl (Nat.le_of_ble_eq_true rfl) dX3_knownBy_36 ⟨(Nat.le_of_ble_eq_true rfl), (Nat.le_of_ble_eq_true rfl)⟩ (fun H locs hO => ?_)
      have hO : gO E A s (mW E b S 1 mk ++ F) H locs := hO
      exact gRi C hO rfl rfl dX3_knownBy_39 (Nat.le_of_ble_eq_true rfl) (Nat.le_of_ble_eq_true rfl)
    · exact absurd ⟨hz8, bT c_2⟩ hok

set_option maxHeartbeats 4000000 in
set_option maxRecDepth 100000 in
theorem c_X3_errors (l : Launch) (E : gE) (b : Nat → Nat) (S : St) (th : Int32) (mk : Nat → Int32) (F : va_W) (i q9 : Nat) (hn : s_n S ≤ 48) (hi : i < 6) (hok9 : s_ok S) (hq9 : q9 < 1000) : gMi l E yX3_errors wsX3_errors ({ frames := 2, cells := 1, slots := 10, locals := 43 }) (mW E b S th mk ++ F) [.ref (b 0), .int (nI i), .int (nI q9)] (nI (s_ea S i q9)) (mW E b S th mk ++ F) 1 10 := by
  refine gMi.of (cc := cX3_errors) (maxL := 7) (ty := .int) (by decide) rfl (Nat.le_of_ble_eq_true rfl) ?_
  intro p e s m args below meth c A C ls hl hO
  have hl : lv_has ls 7 [(0, .ref (b 0)), (1, .int (nI i)), (2, .int (nI q9))] := hl
  have iX3 : ∀ w ∈ u_ws RX3 TX3 19, w ∈ wsX3_errors := by decide +kernel
  have w32 : Cond.fieldLink RX3 32 "ParrotLogModel" "at" "[I" ∈ wsX3_errors := by decide +kernel
  have w58 : Cond.fieldLink RX3 58 "ParrotLogModel" "many" "I" ∈ wsX3_errors := by decide +kernel
  have w13 : Cond.fieldLink RX3 13 "ParrotLogModel" "key" "[I" ∈ wsX3_errors := by decide +kernel
  have w16 : Cond.fieldLink RX3 16 "ParrotLogModel" "value" "[I" ∈ wsX3_errors := by decide +kernel
  have w41 : Cond.fieldLink RX3 41 "ParrotLogModel" "known" "[I" ∈ wsX3_errors := by decide +kernel
  refine lv_bipush (v := nI 10) C.1 C.2.1 dX3_errors_0 (by decide) ?_
  refine gNewI (N9 := 10) C (C.2.2.2.2.1 (.arrayClass .int) (by decide +kernel)) hO (by decide) (Nat.le_of_ble_eq_true rfl) (Nat.le_of_ble_eq_true rfl) dX3_errors_2 (fun q_its H hO => ?_)
  refine lv_astore_n (lv' := [(3, .ref q_its), (0, .ref (b 0)), (1, .int (nI i)), (2, .int (nI q9))]) C.1 C.2.1 dX3_errors_4 rfl hl (by decide) rfl (fun ls hl => ?_)
  have hO : gO E A s (mW E b S th mk ++ ((q_its, .inl (eI E, 10, .inl (mkU (s_kn S i) (fun _ => 0) 0))) :: F)) H [] := by rw [mkU_0]; exact hO
  refine lv_iconst (v := 0) C.1 C.2.1 dX3_errors_5 (by decide) ?_
  refine lv_istore (lv' := [(4, .int 0), (3, .ref q_its), (0, .ref (b 0)), (1, .int (nI i)), (2, .int (nI q9))]) C.1 C.2.1 dX3_errors_6 hl (by decide) rfl (fun ls hl => ?_)
  have lp24 : ∀ (f : Nat) (k24 : Nat), (11 ≤ k24 + f) → (k24 ≤ 10) → ∀ (H : Heap) (locs : List Loc), gO E A s (mW E b S th mk ++ ((q_its, .inl (eI E, 10, .inl (mkU (s_kn S i) (fun _ => 0) k24))) :: F)) H locs → ∀ ls : Array Slot, lv_has ls 7 [(0, .ref (b 0)), (1, .int (nI i)), (2, .int (nI q9)), (3, .ref q_its), (4, .int (nI k24))] → W p l e ({ frames := 2, cells := 1, slots := 10, locals := 43 } : Room) s m args below meth c H locs 1 10 (MQ below (gQi E A (nI (s_ea S i q9)) (mW E b S th mk ++ F)) args s 1 10 A) (F0 m 8 ls []) := by
    intro f
    induction f with
    | zero =>
      intro k24 hf hk24
      exact absurd hf (by omega)
    | succ f ih_lp24 =>
      intro k24 hf hk24 H locs hO ls hl
      refine lv_iload C.1 C.2.1 dX3_errors_8 (lv_at hl 4 rfl) ?_
      refine lv_bipush (v := nI 10) C.1 C.2.1 dX3_errors_10 (by decide) ?_
      refine gGeN (x := k24) (y := 10) (tgt := 37) C.1 C.2.1 (by omega) (by omega) dX3_errors_12 (by decide) (fun c_2 => ?_) (fun c_2 => ?_)
      · have hke9 : k24 = 10 := by omega
        rw [hke9] at hO
        refine lv_aload_n C.1 C.2.1 dX3_errors_37 rfl (lv_at hl 0 rfl) ?_
        refine lv_aload_n C.1 C.2.1 dX3_errors_38 rfl (lv_at hl 0 rfl) ?_
        refine gGet (v := .ref (b 8)) (ref := RX3) (Cn := RX3) (T := TX3) (N := 19) C iX3 hO 0 rfl rfl 15 (by decide) w32 (fun _ h9 => h9) rfl dX3_errors_39 ?_
        refine lv_iload_n C.1 C.2.1 dX3_errors_42 rfl (lv_at hl 1 rfl) ?_
        refine gIald (v := (s_at S) i) (j := i) C hO 8 rfl (by omega) (by decide) rfl dX3_errors_43 ?_
        refine gCall_i (As := [.int ((s_at S) i)]) (rest := []) C hO (c_X3_from l E b S th mk ((q_its, .inl (eI E, 10, .inl (mkU (s_kn S i) (fun _ => 0) 10))) :: F) ((s_at S) i) (by omega)) (cwV 1 C.2.2.2.2.1 gX3_errors_X3_from rfl rfl rfl (by decide +kernel) ⟨(Nat.le_of_ble_eq_true rfl), (Nat.le_of_ble_eq_true rfl)⟩) (va_recv C.2.2.2.2.2.2.2.1.1 hO.1 (ci := 3) (q0 := 0) rfl rfl) rfl hl.1 rfl (Nat.le_of_ble_eq_true rfl) dX3_errors_44 ⟨(Nat.le_of_ble_eq_true rfl), (Nat.le_of_ble_eq_true rfl)⟩ (fun H locs hO => ?_)
        refine lv_istore (lv' := [(4, .int (nI (pf (s_off S) ((s_at S) i) (s_n S)))), (0, .ref (b 0)), (1, .int (nI i)), (2, .int (nI q9)), (3, .ref q_its)]) C.1 C.2.1 dX3_errors_47 hl (by decide) rfl (fun ls hl => ?_)
        have hpf9 := pf_le (s_off S) (s_at S i) (s_n S)
        have htl9 := s_to_le S i q9
        have hto9 : s_to S i q9 = min (s_n S) (pf (s_off S) (s_at S i) (s_n S) + q9) := rfl
        refine lv_iload C.1 C.2.1 dX3_errors_49 (lv_at hl 0 rfl) ?_
        refine lv_istore (lv' := [(5, .int (nI (pf (s_off S) ((s_at S) i) (s_n S)))), (4, .int (nI (pf (s_off S) ((s_at S) i) (s_n S)))), (0, .ref (b 0)), (1, .int (nI i)), (2, .int (nI q9)), (3, .ref q_its)]) C.1 C.2.1 dX3_errors_51 hl (by decide) rfl (fun ls hl => ?_)
        have lp25 : ∀ (f : Nat) (d9 : Nat), (s_to S i q9 + 1 ≤ pf (s_off S) (s_at S i) (s_n S) + d9 + f) → (pf (s_off S) (s_at S i) (s_n S) + d9 ≤ s_to S i q9) → ∀ (H : Heap) (locs : List Loc), gO E A s (mW E b S th mk ++ ((q_its, .inl (eI E, 10, .inl (hk (s_key S) (s_val S) (pf (s_off S) (s_at S i) (s_n S)) (mkU (s_kn S i) (fun _ => 0) 10) (d9)))) :: F)) H locs → ∀ ls : Array Slot, lv_has ls 7 [(0, .ref (b 0)), (2, .int (nI q9)), (3, .ref q_its), (4, .int (nI (pf (s_off S) (s_at S i) (s_n S)))), (5, .int (nI (pf (s_off S) (s_at S i) (s_n S) + d9)))] → W p l e ({ frames := 2, cells := 1, slots := 10, locals := 43 } : Room) s m args below meth c H locs 1 10 (MQ below (gQi E A (nI (s_ea S i q9)) (mW E b S th mk ++ F)) args s 1 10 A) (F0 m 53 ls []) := by
          intro f
          induction f with
          | zero =>
            intro d9 hf hd9
            exact absurd hf (by omega)
          | succ f ih_lp25 =>
            intro d9 hf hd9 H locs hO ls hl
            refine lv_iload C.1 C.2.1 dX3_errors_53 (lv_at hl 4 rfl) ?_
            refine lv_aload_n C.1 C.2.1 dX3_errors_55 rfl (lv_at hl 0 rfl) ?_
            refine gGet (v := .int (nI (s_n S))) (ref := RX3) (Cn := RX3) (T := TX3) (N := 19) C iX3 hO 0 rfl rfl 1 (by decide) w58 (fun _ h9 => h9) rfl dX3_errors_56 ?_
            refine gGeN (x := (pf (s_off S) (s_at S i) (s_n S) + d9)) (y := (s_n S)) (tgt := 93) C.1 C.2.1 (by omega) (by omega) dX3_errors_59 (by decide) (fun c_3 => ?_) (fun c_3 => ?_)
            · have hdd9 : d9 = s_to S i q9 - (pf (s_off S) (s_at S i) (s_n S)) := by omega
              rw [hdd9] at hO
              have hl := lv_sub hl [0, 2] rfl
              have hl : lv_has ls 7 [(0, .ref (b 0)), (3, .ref q_its)] := hl
              refine lv_iconst (v := 0) C.1 C.2.1 dX3_errors_93 (by decide) ?_
              refine lv_istore (lv' := [(5, .int 0), (0, .ref (b 0)), (3, .ref q_its)]) C.1 C.2.1 dX3_errors_94 hl (by decide) rfl (fun ls hl => ?_)
              refine lv_iconst (v := 0) C.1 C.2.1 dX3_errors_96 (by decide) ?_
              refine lv_istore (lv' := [(6, .int 0), (5, .int 0), (0, .ref (b 0)), (3, .ref q_its)]) C.1 C.2.1 dX3_errors_97 hl (by decide) rfl (fun ls hl => ?_)
              have lp26 : ∀ (f : Nat) (c9 : Nat) (e9 : Nat), (11 ≤ c9 + f) → (c9 ≤ 10) → (e9 = s_er S i (pf (s_off S) (s_at S i) (s_n S)) (s_to S i q9) c9) → ∀ (H : Heap) (locs : List Loc), gO E A s (mW E b S th mk ++ ((q_its, .inl (eI E, 10, .inl (hk (s_key S) (s_val S) (pf (s_off S) (s_at S i) (s_n S)) (mkU (s_kn S i) (fun _ => 0) 10) (s_to S i q9 - pf (s_off S) (s_at S i) (s_n S))))) :: F)) H locs → ∀ ls : Array Slot, lv_has ls 7 [(0, .ref (b 0)), (3, .ref q_its), (5, .int (nI e9)), (6, .int (nI c9))] → W p l e ({ frames := 2, cells := 1, slots := 10, locals := 43 } : Room) s m args below meth c H locs 1 10 (MQ below (gQi E A (nI (s_ea S i q9)) (mW E b S th mk ++ F)) args s 1 10 A) (F0 m 99 ls []) := by
                intro f
                induction f with
                | zero =>
                  intro c9 e9 hf hcc9 he9
                  exact absurd hf (by omega)
                | succ f ih_lp26 =>
                  intro c9 e9 hf hcc9 he9 H locs hO ls hl
                  refine lv_iload C.1 C.2.1 dX3_errors_99 (lv_at hl 3 rfl) ?_
                  refine lv_bipush (v := nI 10) C.1 C.2.1 dX3_errors_101 (by decide) ?_
                  refine gGeN (x := c9) (y := 10) (tgt := 135) C.1 C.2.1 (by omega) (by omega) dX3_errors_103 (by decide) (fun c_4 => ?_) (fun c_4 => ?_)
                  · refine lv_iload C.1 C.2.1 dX3_errors_135 (lv_at hl 2 rfl) ?_
                    exact gRi C (gO.drop (W0 := mW E b S th mk) hO) rfl (by rw [he9, show c9 = 10 by omega]) dX3_errors_137 (Nat.le_of_ble_eq_true rfl) (Nat.le_of_ble_eq_true rfl)
                  · refine lv_iload C.1 C.2.1 dX3_errors_106 (lv_at hl 2 rfl) ?_
                    refine lv_aload_n C.1 C.2.1 dX3_errors_108 rfl (lv_at hl 1 rfl) ?_
                    refine lv_iload C.1 C.2.1 dX3_errors_109 (lv_at hl 3 rfl) ?_
                    refine gIald (v := s_kv S i (pf (s_off S) (s_at S i) (s_n S)) (s_to S i q9) c9) (j := c9) C hO 12 rfl (by omega) (by decide) (by have e9 := hk_kv (S := S) (i := i) (fr := pf (s_off S) (s_at S i) (s_n S)) (c := c9) (k0 := mkU (s_kn S i) (fun _ => 0) 10) hok9 (by omega) (mkU_at (by omega)) (s_to S i q9 - pf (s_off S) (s_at S i) (s_n S)) (by omega); rw [show pf (s_off S) (s_at S i) (s_n S) + (s_to S i q9 - pf (s_off S) (s_at S i) (s_n S)) = s_to S i q9 by omega] at e9; exact e9) dX3_errors_111 ?_
                    refine lv_aload_n C.1 C.2.1 dX3_errors_112 rfl (lv_at hl 0 rfl) ?_
                    refine lv_iload C.1 C.2.1 dX3_errors_113 (lv_at hl 3 rfl) ?_
                    refine gCall_i (As := [.int (nI c9)]) (rest := [.int (s_kv S i (pf (s_off S) (s_at S i) (s_n S)) (s_to S i q9) c9), .int (nI e9)]) C hO (c_X3_worth l E b S th mk ((q_its, .inl (eI E, 10, .inl (hk (s_key S) (s_val S) (pf (s_off S) (s_at S i) (s_n S)) (mkU (s_kn S i) (fun _ => 0) 10) (s_to S i q9 - pf (s_off S) (s_at S i) (s_n S))))) :: F) (nI c9) (by omega)) (cwV 1 C.2.2.2.2.1 gX3_errors_X3_worth rfl rfl rfl (by decide +kernel) ⟨(Nat.le_of_ble_eq_true rfl), (Nat.le_of_ble_eq_true rfl)⟩) (va_recv C.2.2.2.2.2.2.2.1.1 hO.1 (ci := 3) (q0 := 0) rfl rfl) rfl hl.1 rfl (Nat.le_of_ble_eq_true rfl) dX3_errors_115 ⟨(Nat.le_of_ble_eq_true rfl), (Nat.le_of_ble_eq_true rfl)⟩ (fun H locs hO => ?_)
                    refine lv_icmp_ne (tgt := 125) C.1 C.2.1 dX3_errors_118 (by decide) (fun c_5 => ?_) (fun c_5 => ?_)
                    · have hz9 : ¬ s_kv S i (pf (s_off S) (s_at S i) (s_n S)) (s_to S i q9) c9 = s_wv S (nI c9) := c_5
                      refine lv_iconst (v := 1) C.1 C.2.1 dX3_errors_125 (by decide) ?_
                      refine gAddN (x := e9) (y := 1) C.1 C.2.1 dX3_errors_126 ?_
                      refine lv_istore (lv' := [(5, .int (nI (e9 + 1))), (0, .ref (b 0)), (3, .ref q_its), (6, .int (nI c9))]) C.1 C.2.1 dX3_errors_127 hl (by decide) rfl (fun ls hl => ?_)
                      refine gInc (j := c9) (k := 3) (lv' := [(6, .int (nI (c9 + 1))), (5, .int (nI (e9 + 1))), (0, .ref (b 0)), (3, .ref q_its)]) C.1 C.2.1 dX3_errors_129 hl rfl (by decide) rfl (fun ls hl => ?_)
                      refine lv_goto (tgt := 99) C.1 C.2.1 dX3_errors_132 (by decide) ?_
                      refine W.widen (k := 1) (n := 10) (by omega) (by omega) ?_
                      exact ih_lp26 (c9 + 1) (e9 + 1) (by omega) (by omega) (by first | (rw [he9, s_er_0 hz9]; done) | (rw [he9, s_er_1 hz9]; done) | (rw [he9, s_er_0 hz9]; rfl)) _ _ hO _ (lv_sub hl [2, 3, 1, 0] rfl)
                    · have hz9 : s_kv S i (pf (s_off S) (s_at S i) (s_n S)) (s_to S i q9) c9 = s_wv S (nI c9) := c_5
                      refine lv_iconst (v := 0) C.1 C.2.1 dX3_errors_121 (by decide) ?_
                      refine lv_goto (tgt := 126) C.1 C.2.1 dX3_errors_122 (by decide) ?_
                      refine gAddN (x := e9) (y := 0) C.1 C.2.1 dX3_errors_126 ?_
                      refine lv_istore (lv' := [(5, .int (nI (e9 + 0))), (0, .ref (b 0)), (3, .ref q_its), (6, .int (nI c9))]) C.1 C.2.1 dX3_errors_127 hl (by decide) rfl (fun ls hl => ?_)
                      refine gInc (j := c9) (k := 3) (lv' := [(6, .int (nI (c9 + 1))), (5, .int (nI (e9 + 0))), (0, .ref (b 0)), (3, .ref q_its)]) C.1 C.2.1 dX3_errors_129 hl rfl (by decide) rfl (fun ls hl => ?_)
                      refine lv_goto (tgt := 99) C.1 C.2.1 dX3_errors_132 (by decide) ?_
                      refine W.widen (k := 1) (n := 10) (by omega) (by omega) ?_
                      exact ih_lp26 (c9 + 1) (e9 + 0) (by omega) (by omega) (by first | (rw [he9, s_er_0 hz9]; done) | (rw [he9, s_er_1 hz9]; done) | (rw [he9, s_er_0 hz9]; rfl)) _ _ hO _ (lv_sub hl [2, 3, 1, 0] rfl)
              exact lp26 11 0 0 (by omega) (by omega) rfl _ _ hO _ (lv_sub hl [2, 3, 1, 0] rfl)
            · refine lv_iload C.1 C.2.1 dX3_errors_62 (lv_at hl 4 rfl) ?_
              refine lv_iload C.1 C.2.1 dX3_errors_64 (lv_at hl 3 rfl) ?_
              refine lv_iload_n C.1 C.2.1 dX3_errors_66 rfl (lv_at hl 1 rfl) ?_
              refine gAddN (x := (pf (s_off S) (s_at S i) (s_n S))) (y := q9) C.1 C.2.1 dX3_errors_67 ?_
              refine gGeN (x := (pf (s_off S) (s_at S i) (s_n S) + d9)) (y := ((pf (s_off S) (s_at S i) (s_n S)) + q9)) (tgt := 93) C.1 C.2.1 (by omega) (by omega) dX3_errors_68 (by decide) (fun c_6 => ?_) (fun c_6 => ?_)
              · have hdd9 : d9 = s_to S i q9 - (pf (s_off S) (s_at S i) (s_n S)) := by omega
                rw [hdd9] at hO
                have hl := lv_sub hl [0, 2] rfl
                have hl : lv_has ls 7 [(0, .ref (b 0)), (3, .ref q_its)] := hl
                refine lv_iconst (v := 0) C.1 C.2.1 dX3_errors_93 (by decide) ?_
                refine lv_istore (lv' := [(5, .int 0), (0, .ref (b 0)), (3, .ref q_its)]) C.1 C.2.1 dX3_errors_94 hl (by decide) rfl (fun ls hl => ?_)
                refine lv_iconst (v := 0) C.1 C.2.1 dX3_errors_96 (by decide) ?_
                refine lv_istore (lv' := [(6, .int 0), (5, .int 0), (0, .ref (b 0)), (3, .ref q_its)]) C.1 C.2.1 dX3_errors_97 hl (by decide) rfl (fun ls hl => ?_)
                have lp26 : ∀ (f : Nat) (c9 : Nat) (e9 : Nat), (11 ≤ c9 + f) → (c9 ≤ 10) → (e9 = s_er S i (pf (s_off S) (s_at S i) (s_n S)) (s_to S i q9) c9) → ∀ (H : Heap) (locs : List Loc), gO E A s (mW E b S th mk ++ ((q_its, .inl (eI E, 10, .inl (hk (s_key S) (s_val S) (pf (s_off S) (s_at S i) (s_n S)) (mkU (s_kn S i) (fun _ => 0) 10) (s_to S i q9 - pf (s_off S) (s_at S i) (s_n S))))) :: F)) H locs → ∀ ls : Array Slot, lv_has ls 7 [(0, .ref (b 0)), (3, .ref q_its), (5, .int (nI e9)), (6, .int (nI c9))] → W p l e ({ frames := 2, cells := 1, slots := 10, locals := 43 } : Room) s m args below meth c H locs 1 10 (MQ below (gQi E A (nI (s_ea S i q9)) (mW E b S th mk ++ F)) args s 1 10 A) (F0 m 99 ls []) := by
                  intro f
                  induction f with
                  | zero =>
                    intro c9 e9 hf hcc9 he9
                    exact absurd hf (by omega)
                  | succ f ih_lp26 =>
                    intro c9 e9 hf hcc9 he9 H locs hO ls hl
                    refine lv_iload C.1 C.2.1 dX3_errors_99 (lv_at hl 3 rfl) ?_
                    refine lv_bipush (v := nI 10) C.1 C.2.1 dX3_errors_101 (by decide) ?_
                    refine gGeN (x := c9) (y := 10) (tgt := 135) C.1 C.2.1 (by omega) (by omega) dX3_errors_103 (by decide) (fun c_7 => ?_) (fun c_7 => ?_)
                    · refine lv_iload C.1 C.2.1 dX3_errors_135 (lv_at hl 2 rfl) ?_
                      exact gRi C (gO.drop (W0 := mW E b S th mk) hO) rfl (by rw [he9, show c9 = 10 by omega]) dX3_errors_137 (Nat.le_of_ble_eq_true rfl) (Nat.le_of_ble_eq_true rfl)
                    · refine lv_iload C.1 C.2.1 dX3_errors_106 (lv_at hl 2 rfl) ?_
                      refine lv_aload_n C.1 C.2.1 dX3_errors_108 rfl (lv_at hl 1 rfl) ?_
                      refine lv_iload C.1 C.2.1 dX3_errors_109 (lv_at hl 3 rfl) ?_
                      refine gIald (v := s_kv S i (pf (s_off S) (s_at S i) (s_n S)) (s_to S i q9) c9) (j := c9) C hO 12 rfl (by omega) (by decide) (by have e9 := hk_kv (S := S) (i := i) (fr := pf (s_off S) (s_at S i) (s_n S)) (c := c9) (k0 := mkU (s_kn S i) (fun _ => 0) 10) hok9 (by omega) (mkU_at (by omega)) (s_to S i q9 - pf (s_off S) (s_at S i) (s_n S)) (by omega); rw [show pf (s_off S) (s_at S i) (s_n S) + (s_to S i q9 - pf (s_off S) (s_at S i) (s_n S)) = s_to S i q9 by omega] at e9; exact e9) dX3_errors_111 ?_
                      refine lv_aload_n C.1 C.2.1 dX3_errors_112 rfl (lv_at hl 0 rfl) ?_
                      refine lv_iload C.1 C.2.1 dX3_errors_113 (lv_at hl 3 rfl) ?_
                      refine gCall_i (As := [.int (nI c9)]) (rest := [.int (s_kv S i (pf (s_off S) (s_at S i) (s_n S)) (s_to S i q9) c9), .int (nI e9)]) C hO (c_X3_worth l E b S th mk ((q_its, .inl (eI E, 10, .inl (hk (s_key S) (s_val S) (pf (s_off S) (s_at S i) (s_n S)) (mkU (s_kn S i) (fun _ => 0) 10) (s_to S i q9 - pf (s_off S) (s_at S i) (s_n S))))) :: F) (nI c9) (by omega)) (cwV 1 C.2.2.2.2.1 gX3_errors_X3_worth rfl rfl rfl (by decide +kernel) ⟨(Nat.le_of_ble_eq_true rfl), (Nat.le_of_ble_eq_true rfl)⟩) (va_recv C.2.2.2.2.2.2.2.1.1 hO.1 (ci := 3) (q0 := 0) rfl rfl) rfl hl.1 rfl (Nat.le_of_ble_eq_true rfl) dX3_errors_115 ⟨(Nat.le_of_ble_eq_true rfl), (Nat.le_of_ble_eq_true rfl)⟩ (fun H locs hO => ?_)
                      refine lv_icmp_ne (tgt := 125) C.1 C.2.1 dX3_errors_118 (by decide) (fun c_8 => ?_) (fun c_8 => ?_)
                      · have hz9 : ¬ s_kv S i (pf (s_off S) (s_at S i) (s_n S)) (s_to S i q9) c9 = s_wv S (nI c9) := c_8
                        refine lv_iconst (v := 1) C.1 C.2.1 dX3_errors_125 (by decide) ?_
                        refine gAddN (x := e9) (y := 1) C.1 C.2.1 dX3_errors_126 ?_
                        refine lv_istore (lv' := [(5, .int (nI (e9 + 1))), (0, .ref (b 0)), (3, .ref q_its), (6, .int (nI c9))]) C.1 C.2.1 dX3_errors_127 hl (by decide) rfl (fun ls hl => ?_)
                        refine gInc (j := c9) (k := 3) (lv' := [(6, .int (nI (c9 + 1))), (5, .int (nI (e9 + 1))), (0, .ref (b 0)), (3, .ref q_its)]) C.1 C.2.1 dX3_errors_129 hl rfl (by decide) rfl (fun ls hl => ?_)
                        refine lv_goto (tgt := 99) C.1 C.2.1 dX3_errors_132 (by decide) ?_
                        refine W.widen (k := 1) (n := 10) (by omega) (by omega) ?_
                        exact ih_lp26 (c9 + 1) (e9 + 1) (by omega) (by omega) (by first | (rw [he9, s_er_0 hz9]; done) | (rw [he9, s_er_1 hz9]; done) | (rw [he9, s_er_0 hz9]; rfl)) _ _ hO _ (lv_sub hl [2, 3, 1, 0] rfl)
                      · have hz9 : s_kv S i (pf (s_off S) (s_at S i) (s_n S)) (s_to S i q9) c9 = s_wv S (nI c9) := c_8
                        refine lv_iconst (v := 0) C.1 C.2.1 dX3_errors_121 (by decide) ?_
                        refine lv_goto (tgt := 126) C.1 C.2.1 dX3_errors_122 (by decide) ?_
                        refine gAddN (x := e9) (y := 0) C.1 C.2.1 dX3_errors_126 ?_
                        refine lv_istore (lv' := [(5, .int (nI (e9 + 0))), (0, .ref (b 0)), (3, .ref q_its), (6, .int (nI c9))]) C.1 C.2.1 dX3_errors_127 hl (by decide) rfl (fun ls hl => ?_)
                        refine gInc (j := c9) (k := 3) (lv' := [(6, .int (nI (c9 + 1))), (5, .int (nI (e9 + 0))), (0, .ref (b 0)), (3, .ref q_its)]) C.1 C.2.1 dX3_errors_129 hl rfl (by decide) rfl (fun ls hl => ?_)
                        refine lv_goto (tgt := 99) C.1 C.2.1 dX3_errors_132 (by decide) ?_
                        refine W.widen (k := 1) (n := 10) (by omega) (by omega) ?_
                        exact ih_lp26 (c9 + 1) (e9 + 0) (by omega) (by omega) (by first | (rw [he9, s_er_0 hz9]; done) | (rw [he9, s_er_1 hz9]; done) | (rw [he9, s_er_0 hz9]; rfl)) _ _ hO _ (lv_sub hl [2, 3, 1, 0] rfl)
                exact lp26 11 0 0 (by omega) (by omega) rfl _ _ hO _ (lv_sub hl [2, 3, 1, 0] rfl)
              · have hkt9 := hok9 (pf (s_off S) (s_at S i) (s_n S) + d9) (by omega)
                refine lv_aload_n C.1 C.2.1 dX3_errors_71 rfl (lv_at hl 2 rfl) ?_
                refine lv_aload_n C.1 C.2.1 dX3_errors_72 rfl (lv_at hl 0 rfl) ?_
                refine gGet (v := .ref (b 2)) (ref := RX3) (Cn := RX3) (T := TX3) (N := 19) C iX3 hO 0 rfl rfl 3 (by decide) w13 (fun _ h9 => h9) rfl dX3_errors_73 ?_
                refine lv_iload C.1 C.2.1 dX3_errors_76 (lv_at hl 4 rfl) ?_
                refine gIald (v := (s_key S) (pf (s_off S) (s_at S i) (s_n S) + d9)) (j := (pf (s_off S) (s_at S i) (s_n S) + d9)) C hO 2 rfl (by omega) (by decide) rfl dX3_errors_78 ?_
                refine lv_eqi (y := nI ((s_key S (pf (s_off S) (s_at S i) (s_n S) + d9)).toNatClampNeg)) hkt9.2 ?_
                refine lv_aload_n C.1 C.2.1 dX3_errors_79 rfl (lv_at hl 0 rfl) ?_
                refine gGet (v := .ref (b 3)) (ref := RX3) (Cn := RX3) (T := TX3) (N := 19) C iX3 hO 0 rfl rfl 4 (by decide) w16 (fun _ h9 => h9) rfl dX3_errors_80 ?_
                refine lv_iload C.1 C.2.1 dX3_errors_83 (lv_at hl 4 rfl) ?_
                refine gIald (v := (s_val S) (pf (s_off S) (s_at S i) (s_n S) + d9)) (j := (pf (s_off S) (s_at S i) (s_n S) + d9)) C hO 3 rfl (by omega) (by decide) rfl dX3_errors_85 ?_
                refine gIast (j := ((s_key S (pf (s_off S) (s_at S i) (s_n S) + d9)).toNatClampNeg)) (ws' := (mW E b S th mk ++ ((q_its, .inl (eI E, 10, .inl (hk (s_key S) (s_val S) (pf (s_off S) (s_at S i) (s_n S)) (mkU (s_kn S i) (fun _ => 0) 10) (d9 + 1)))) :: F))) C hO 12 rfl hkt9.1 (by decide) rfl dX3_errors_86 (fun H locs hO => ?_)
                refine gInc (j := (pf (s_off S) (s_at S i) (s_n S) + d9)) (k := 4) (lv' := [(5, .int (nI ((pf (s_off S) (s_at S i) (s_n S) + d9) + 1))), (0, .ref (b 0)), (2, .int (nI q9)), (3, .ref q_its), (4, .int (nI (pf (s_off S) (s_at S i) (s_n S))))]) C.1 C.2.1 dX3_errors_87 hl rfl (by decide) rfl (fun ls hl => ?_)
                refine lv_goto (tgt := 53) C.1 C.2.1 dX3_errors_90 (by decide) ?_
                exact ih_lp25 (d9 + 1) (by omega) (by omega) _ _ hO _ (lv_sub hl [1, 2, 3, 4, 0] rfl)
        refine W.widen (k := 1) (n := 10) (by omega) (by omega) ?_
        exact lp25 (s_to S i q9 + 1) 0 (by omega) (s_to_ge S i q9) _ _ hO _ (lv_sub hl [2, 4, 5, 1, 0] rfl)
      · refine lv_aload_n C.1 C.2.1 dX3_errors_15 rfl (lv_at hl 3 rfl) ?_
        refine lv_iload C.1 C.2.1 dX3_errors_16 (lv_at hl 4 rfl) ?_
        refine lv_aload_n C.1 C.2.1 dX3_errors_18 rfl (lv_at hl 0 rfl) ?_
        refine gGet (v := .ref (b 11)) (ref := RX3) (Cn := RX3) (T := TX3) (N := 19) C iX3 hO 0 rfl rfl 18 (by decide) w41 (fun _ h9 => h9) rfl dX3_errors_19 ?_
        refine lv_bipush (v := nI 10) C.1 C.2.1 dX3_errors_22 (by decide) ?_
        refine lv_iload_n C.1 C.2.1 dX3_errors_24 rfl (lv_at hl 1 rfl) ?_
        refine gMulN (x := 10) (y := i) C.1 C.2.1 dX3_errors_25 ?_
        refine lv_iload C.1 C.2.1 dX3_errors_26 (lv_at hl 4 rfl) ?_
        refine gAddN (x := (10 * i)) (y := k24) C.1 C.2.1 dX3_errors_28 ?_
        refine gIald (v := s_kn S i k24) (j := ((10 * i) + k24)) C hO 11 rfl (by omega) (by decide) (mKn_at (by omega)) dX3_errors_29 ?_
        refine gIast (j := k24) (ws' := (mW E b S th mk ++ ((q_its, .inl (eI E, 10, .inl (mkU (s_kn S i) (fun _ => 0) (k24 + 1)))) :: F))) C hO 12 rfl (by omega) (by decide) (by rw [mkU_sv (g := s_kn S i) rfl]; rfl) dX3_errors_30 (fun H locs hO => ?_)
        refine gInc (j := k24) (k := 4) (lv' := [(4, .int (nI (k24 + 1))), (0, .ref (b 0)), (1, .int (nI i)), (2, .int (nI q9)), (3, .ref q_its)]) C.1 C.2.1 dX3_errors_31 hl rfl (by decide) rfl (fun ls hl => ?_)
        refine lv_goto (tgt := 8) C.1 C.2.1 dX3_errors_34 (by decide) ?_
        exact ih_lp24 (k24 + 1) (by omega) (by omega) _ _ hO _ (lv_sub hl [1, 2, 3, 4, 0] rfl)
  refine W.widen (k := 1) (n := 10) (by omega) (by omega) ?_
  exact lp24 11 0 (by omega) (by omega) _ _ hO _ (lv_sub hl [2, 3, 4, 1, 0] rfl)
