set_option maxHeartbeats 4000000 in
set_option maxRecDepth 100000 in
theorem c_X3_errorsOf_ok (l : Launch) (E : gE) (b : Nat → Nat) (S : St) (th : Int32) (mk : Nat → Int32) (F : va_W) (x : Int32) (hI : s_inv S) (hsr : s_srt S) (hok : okShip S x) : gMi l E yX3_errorsOf wsX3_errorsOf ({ frames := 3, cells := 1, slots := 10, locals := 69 }) (mW E b S th mk ++ F) [.ref (b 0), .int x] (nI (s_ea S x.toNatClampNeg 0)) (mW E b S 0 mk ++ F) 1 10 := by
  refine gMi.of (cc := cX3_errorsOf) (maxL := 2) (ty := .int) (by decide) rfl (Nat.le_of_ble_eq_true rfl) ?_
  intro p e s m args below meth c A C ls hl hO
  have hl : lv_has ls 2 [(0, .ref (b 0)), (1, .int x)] := hl
  have iX3 : ∀ w ∈ u_ws RX3 TX3 19, w ∈ wsX3_errorsOf := by decide +kernel
  have w44 : Cond.fieldLink RX3 44 "ParrotLogModel" "thrown" "I" ∈ wsX3_errorsOf := by decide +kernel
  obtain ⟨hn, hsh, hsc, hOn, hOb, hok9, hpc9, hp0⟩ := hI
  refine lv_aload_n C.1 C.2.1 dX3_errorsOf_0 rfl (lv_at hl 0 rfl) ?_
  refine lv_iconst (v := 0) C.1 C.2.1 dX3_errorsOf_1 (by decide) ?_
  refine gPut (ws' := (mW E b S 0 mk ++ F)) (ref := RX3) (Cn := RX3) (T := TX3) (N := 19) C iX3 tyX3 tyX3_ok nmX3 hO 0 rfl rfl 0 (by decide) w44 (fun _ h9 => h9) rfl (by decide +kernel) rfl rfl (Nat.le_of_ble_eq_true rfl) rfl dX3_errorsOf_2 (fun H locs hO => ?_)
  refine lv_aload_n C.1 C.2.1 dX3_errorsOf_5 rfl (lv_at hl 0 rfl) ?_
  refine lv_iload_n C.1 C.2.1 dX3_errorsOf_6 rfl (lv_at hl 1 rfl) ?_
  refine gCall_i (As := [.int x]) (rest := []) C hO (c_X3_isShip l E b S 0 mk F x (by omega)) (cwV 1 C.2.2.2.2.1 gX3_errorsOf_X3_isShip rfl rfl rfl (by decide +kernel) ⟨(Nat.le_of_ble_eq_true rfl), (Nat.le_of_ble_eq_true rfl)⟩) (va_recv C.2.2.2.2.2.2.2.1.1 hO.1 (ci := 3) (q0 := 0) rfl rfl) rfl hl.1 rfl (Nat.le_of_ble_eq_true rfl) dX3_errorsOf_7 ⟨(Nat.le_of_ble_eq_true rfl), (Nat.le_of_ble_eq_true rfl)⟩ (fun H locs hO => ?_)
  refine lv_if_eq (tgt := 22) C.1 C.2.1 dX3_errorsOf_10 (by decide) (fun c_1 => ?_) (fun c_1 => ?_)
  · exact absurd hok (bF c_1)
  · have hj9 := okNat (by omega) hok.1 hok.2
    have hi9 : x.toNatClampNeg < 6 := by omega
    have hl : lv_has ls 2 [(0, .ref (b 0)), (1, .int (nI (x.toNatClampNeg)))] := by rw [← hj9.2]; exact hl
    refine lv_aload_n C.1 C.2.1 dX3_errorsOf_13 rfl (lv_at hl 0 rfl) ?_
    refine lv_iload_n C.1 C.2.1 dX3_errorsOf_14 rfl (lv_at hl 1 rfl) ?_
    refine lv_iconst (v := 0) C.1 C.2.1 dX3_errorsOf_15 (by decide) ?_
    refine gCall_i (As := [.int (nI x.toNatClampNeg), .int 0]) (rest := []) C hO (c_X3_errors l E b S 0 mk F x.toNatClampNeg 0 (by omega) (by omega) hok9 (by omega)) (cwV 2 C.2.2.2.2.1 gX3_errorsOf_X3_errors rfl rfl rfl (by decide +kernel) ⟨(Nat.le_of_ble_eq_true rfl), (Nat.le_of_ble_eq_true rfl)⟩) (va_recv C.2.2.2.2.2.2.2.1.1 hO.1 (ci := 3) (q0 := 0) rfl rfl) rfl hl.1 rfl (Nat.le_of_ble_eq_true rfl) dX3_errorsOf_16 ⟨(Nat.le_of_ble_eq_true rfl), (Nat.le_of_ble_eq_true rfl)⟩ (fun H locs hO => ?_)
    refine lv_goto (tgt := 27) C.1 C.2.1 dX3_errorsOf_19 (by decide) ?_
    exact gRi C hO rfl rfl dX3_errorsOf_27 (Nat.le_of_ble_eq_true rfl) (Nat.le_of_ble_eq_true rfl)

set_option maxHeartbeats 4000000 in
set_option maxRecDepth 100000 in
theorem c_X3_errorsOf_no (l : Launch) (E : gE) (b : Nat → Nat) (S : St) (th : Int32) (mk : Nat → Int32) (F : va_W) (x : Int32) (hI : s_inv S) (hsr : s_srt S) (hok : ¬ okShip S x) : gMi l E yX3_errorsOf wsX3_errorsOf ({ frames := 2, cells := 0, slots := 0, locals := 43 }) (mW E b S th mk ++ F) [.ref (b 0), .int x] 0 (mW E b S 1 mk ++ F) 0 0 := by
  refine gMi.of (cc := cX3_errorsOf) (maxL := 2) (ty := .int) (by decide) rfl (Nat.le_of_ble_eq_true rfl) ?_
  intro p e s m args below meth c A C ls hl hO
  have hl : lv_has ls 2 [(0, .ref (b 0)), (1, .int x)] := hl
  have iX3 : ∀ w ∈ u_ws RX3 TX3 19, w ∈ wsX3_errorsOf := by decide +kernel
  have w44 : Cond.fieldLink RX3 44 "ParrotLogModel" "thrown" "I" ∈ wsX3_errorsOf := by decide +kernel
  obtain ⟨hn, hsh, hsc, hOn, hOb, hok9, hpc9, hp0⟩ := hI
  refine lv_aload_n C.1 C.2.1 dX3_errorsOf_0 rfl (lv_at hl 0 rfl) ?_
  refine lv_iconst (v := 0) C.1 C.2.1 dX3_errorsOf_1 (by decide) ?_
  refine gPut (ws' := (mW E b S 0 mk ++ F)) (ref := RX3) (Cn := RX3) (T := TX3) (N := 19) C iX3 tyX3 tyX3_ok nmX3 hO 0 rfl rfl 0 (by decide) w44 (fun _ h9 => h9) rfl (by decide +kernel) rfl rfl (Nat.le_of_ble_eq_true rfl) rfl dX3_errorsOf_2 (fun H locs hO => ?_)
  refine lv_aload_n C.1 C.2.1 dX3_errorsOf_5 rfl (lv_at hl 0 rfl) ?_
  refine lv_iload_n C.1 C.2.1 dX3_errorsOf_6 rfl (lv_at hl 1 rfl) ?_
  refine gCall_i (As := [.int x]) (rest := []) C hO (c_X3_isShip l E b S 0 mk F x (by omega)) (cwV 1 C.2.2.2.2.1 gX3_errorsOf_X3_isShip rfl rfl rfl (by decide +kernel) ⟨(Nat.le_of_ble_eq_true rfl), (Nat.le_of_ble_eq_true rfl)⟩) (va_recv C.2.2.2.2.2.2.2.1.1 hO.1 (ci := 3) (q0 := 0) rfl rfl) rfl hl.1 rfl (Nat.le_of_ble_eq_true rfl) dX3_errorsOf_7 ⟨(Nat.le_of_ble_eq_true rfl), (Nat.le_of_ble_eq_true rfl)⟩ (fun H locs hO => ?_)
  refine lv_if_eq (tgt := 22) C.1 C.2.1 dX3_errorsOf_10 (by decide) (fun c_1 => ?_) (fun c_1 => ?_)
  · refine lv_aload_n C.1 C.2.1 dX3_errorsOf_22 rfl (lv_at hl 0 rfl) ?_
    refine lv_iconst (v := 1) C.1 C.2.1 dX3_errorsOf_23 (by decide) ?_
    refine gCall_i (As := [.int 1]) (rest := []) C hO (c_X3_fail l E b S 0 mk F 1) (cwV 1 C.2.2.2.2.1 gX3_errorsOf_X3_fail rfl rfl rfl (by decide +kernel) ⟨(Nat.le_of_ble_eq_true rfl), (Nat.le_of_ble_eq_true rfl)⟩) (va_recv C.2.2.2.2.2.2.2.1.1 hO.1 (ci := 3) (q0 := 0) rfl rfl) rfl hl.1 rfl (Nat.le_of_ble_eq_true rfl) dX3_errorsOf_24 ⟨(Nat.le_of_ble_eq_true rfl), (Nat.le_of_ble_eq_true rfl)⟩ (fun H locs hO => ?_)
    have hO : gO E A s (mW E b S 1 mk ++ F) H locs := hO
    exact gRi C hO rfl rfl dX3_errorsOf_27 (Nat.le_of_ble_eq_true rfl) (Nat.le_of_ble_eq_true rfl)
  · exact absurd (bT c_1) hok

set_option maxHeartbeats 4000000 in
set_option maxRecDepth 100000 in
theorem c_X3_behind (l : Launch) (E : gE) (b : Nat → Nat) (S : St) (th : Int32) (mk : Nat → Int32) (F : va_W)  (hn : s_n S ≤ 48) (hsh : s_sh S ≤ 6) : gMi l E yX3_behind wsX3_behind ({ frames := 2, cells := 0, slots := 0, locals := 43 }) (mW E b S th mk ++ F) [.ref (b 0)] (oI (s_fb S (s_sh S))) (mW E b S th mk ++ F) 0 0 := by
  refine gMi.of (cc := cX3_behind) (maxL := 3) (ty := .int) (by decide) rfl (Nat.le_of_ble_eq_true rfl) ?_
  intro p e s m args below meth c A C ls hl hO
  have hl : lv_has ls 3 [(0, .ref (b 0))] := hl
  have iX3 : ∀ w ∈ u_ws RX3 TX3 19, w ∈ wsX3_behind := by decide +kernel
  have w48 : Cond.fieldLink RX3 48 "ParrotLogModel" "ships" "I" ∈ wsX3_behind := by decide +kernel
  refine lv_iconst (v := (-1)) C.1 C.2.1 dX3_behind_0 (by decide) ?_
  refine lv_istore_n (lv' := [(1, .int (-1)), (0, .ref (b 0))]) C.1 C.2.1 dX3_behind_1 rfl hl (by decide) rfl (fun ls hl => ?_)
  refine lv_iconst (v := 0) C.1 C.2.1 dX3_behind_2 (by decide) ?_
  refine lv_istore_n (lv' := [(2, .int 0), (1, .int (-1)), (0, .ref (b 0))]) C.1 C.2.1 dX3_behind_3 rfl hl (by decide) rfl (fun ls hl => ?_)
  have lp24 : ∀ (f : Nat) (k24 : Nat), (s_sh S + 1 ≤ k24 + f) → (k24 ≤ s_sh S) → ∀ (H : Heap) (locs : List Loc), gO E A s (mW E b S th mk ++ F) H locs → ∀ ls : Array Slot, lv_has ls 3 [(0, .ref (b 0)), (1, .int (oI (s_fb S k24))), (2, .int (nI k24))] → W p l e ({ frames := 2, cells := 0, slots := 0, locals := 43 } : Room) s m args below meth c H locs 0 0 (MQ below (gQi E A (oI (s_fb S (s_sh S))) (mW E b S th mk ++ F)) args s 0 0 A) (F0 m 4 ls []) := by
    intro f
    induction f with
    | zero =>
      intro k24 hf hk24
      exact absurd hf (by omega)
    | succ f ih_lp24 =>
      intro k24 hf hk24 H locs hO ls hl
      refine lv_iload_n C.1 C.2.1 dX3_behind_4 rfl (lv_at hl 2 rfl) ?_
      refine lv_aload_n C.1 C.2.1 dX3_behind_5 rfl (lv_at hl 0 rfl) ?_
      refine gGet (v := .int (nI (s_sh S))) (ref := RX3) (Cn := RX3) (T := TX3) (N := 19) C iX3 hO 0 rfl rfl 13 (by decide) w48 (fun _ h9 => h9) rfl dX3_behind_6 ?_
      refine gGeN (x := k24) (y := (s_sh S)) (tgt := 38) C.1 C.2.1 (by omega) (by omega) dX3_behind_9 (by decide) (fun c_1 => ?_) (fun c_1 => ?_)
      · refine lv_iload_n C.1 C.2.1 dX3_behind_38 rfl (lv_at hl 1 rfl) ?_
        exact gRi C hO rfl (by rw [show k24 = s_sh S by omega]) dX3_behind_39 (Nat.le_of_ble_eq_true rfl) (Nat.le_of_ble_eq_true rfl)
      · refine lv_iload_n C.1 C.2.1 dX3_behind_12 rfl (lv_at hl 1 rfl) ?_
        refine lv_iconst (v := (-1)) C.1 C.2.1 dX3_behind_13 (by decide) ?_
        refine lv_icmp_eq (tgt := 30) C.1 C.2.1 dX3_behind_14 (by decide) (fun c_2 => ?_) (fun c_2 => ?_)
        · have hz9 : s_fb S k24 = none := (oI_ne (fun i hi => by have := fb_m hi; omega)).mp c_2
          refine lv_iload_n C.1 C.2.1 dX3_behind_30 rfl (lv_at hl 2 rfl) ?_
          refine lv_istore_n (lv' := [(1, .int (nI k24)), (0, .ref (b 0)), (2, .int (nI k24))]) C.1 C.2.1 dX3_behind_31 rfl hl (by decide) rfl (fun ls hl => ?_)
          have hfb9 : s_fb S (k24 + 1) = some k24 := by first | exact fb_none hz9 | exact fb_1 hz9 hlt9
          have hl : lv_has ls 3 [(1, .int (oI (s_fb S (k24 + 1)))), (0, .ref (b 0)), (2, .int (nI k24))] := by rw [hfb9]; exact hl
          refine gInc (j := k24) (k := 2) (lv' := [(2, .int (nI (k24 + 1))), (1, .int (oI (s_fb S (k24 + 1)))), (0, .ref (b 0))]) C.1 C.2.1 dX3_behind_32 hl rfl (by decide) rfl (fun ls hl => ?_)
          refine lv_goto (tgt := 4) C.1 C.2.1 dX3_behind_35 (by decide) ?_
          exact ih_lp24 (k24 + 1) (by omega) (by omega) _ _ hO _ (lv_sub hl [2, 1, 0] rfl)
        · obtain ⟨z24, hz9⟩ : ∃ z24, s_fb S k24 = some z24 := by cases hb9 : s_fb S k24 with | none => exact absurd (by rw [hb9]; rfl) c_2 | some z24 => exact ⟨z24, rfl⟩
          have hzl9 := fb_m hz9
          have hla9 := s_lag_le S k24
          have hlb9 := s_lag_le S z24
          refine lv_aload_n C.1 C.2.1 dX3_behind_17 rfl (lv_at hl 0 rfl) ?_
          refine lv_iload_n C.1 C.2.1 dX3_behind_18 rfl (lv_at hl 2 rfl) ?_
          refine gCall_i (As := [.int (nI k24)]) (rest := []) C hO (c_X3_lag l E b S th mk F k24 (by omega) (by omega)) (cwV 1 C.2.2.2.2.1 gX3_behind_X3_lag rfl rfl rfl (by decide +kernel) ⟨(Nat.le_of_ble_eq_true rfl), (Nat.le_of_ble_eq_true rfl)⟩) (va_recv C.2.2.2.2.2.2.2.1.1 hO.1 (ci := 3) (q0 := 0) rfl rfl) rfl hl.1 rfl (Nat.le_of_ble_eq_true rfl) dX3_behind_19 ⟨(Nat.le_of_ble_eq_true rfl), (Nat.le_of_ble_eq_true rfl)⟩ (fun H locs hO => ?_)
          refine lv_aload_n C.1 C.2.1 dX3_behind_22 rfl (lv_at hl 0 rfl) ?_
          refine lv_iload_n C.1 C.2.1 dX3_behind_23 rfl (lv_at hl 1 rfl) ?_
          refine lv_eqi (y := nI z24) (by rw [hz9]; rfl) ?_
          refine gCall_i (As := [.int (nI z24)]) (rest := [.int (nI (s_lag S k24))]) C hO (c_X3_lag l E b S th mk F z24 (by omega) (by omega)) (cwV 1 C.2.2.2.2.1 gX3_behind_X3_lag rfl rfl rfl (by decide +kernel) ⟨(Nat.le_of_ble_eq_true rfl), (Nat.le_of_ble_eq_true rfl)⟩) (va_recv C.2.2.2.2.2.2.2.1.1 hO.1 (ci := 3) (q0 := 0) rfl rfl) rfl hl.1 rfl (Nat.le_of_ble_eq_true rfl) dX3_behind_24 ⟨(Nat.le_of_ble_eq_true rfl), (Nat.le_of_ble_eq_true rfl)⟩ (fun H locs hO => ?_)
          refine gLeN (x := (s_lag S k24)) (y := (s_lag S z24)) (tgt := 32) C.1 C.2.1 (by omega) (by omega) dX3_behind_27 (by decide) (fun c_3 => ?_) (fun c_3 => ?_)
          · have hlt9 : ¬ s_lag S z24 < s_lag S k24 := by omega
            have hfb9 : s_fb S (k24 + 1) = s_fb S k24 := fb_0 hz9 hlt9
            have hl : lv_has ls 3 [(0, .ref (b 0)), (1, .int (oI (s_fb S (k24 + 1)))), (2, .int (nI k24))] := by rw [hfb9]; exact hl
            refine gInc (j := k24) (k := 2) (lv' := [(2, .int (nI (k24 + 1))), (0, .ref (b 0)), (1, .int (oI (s_fb S (k24 + 1))))]) C.1 C.2.1 dX3_behind_32 hl rfl (by decide) rfl (fun ls hl => ?_)
            refine lv_goto (tgt := 4) C.1 C.2.1 dX3_behind_35 (by decide) ?_
            refine W.widen (k := 0) (n := 0) (by omega) (by omega) ?_
            exact ih_lp24 (k24 + 1) (by omega) (by omega) _ _ hO _ (lv_sub hl [1, 2, 0] rfl)
          · have hlt9 : s_lag S z24 < s_lag S k24 := c_3
            refine lv_iload_n C.1 C.2.1 dX3_behind_30 rfl (lv_at hl 2 rfl) ?_
            refine lv_istore_n (lv' := [(1, .int (nI k24)), (0, .ref (b 0)), (2, .int (nI k24))]) C.1 C.2.1 dX3_behind_31 rfl hl (by decide) rfl (fun ls hl => ?_)
            have hfb9 : s_fb S (k24 + 1) = some k24 := by first | exact fb_none hz9 | exact fb_1 hz9 hlt9
            have hl : lv_has ls 3 [(1, .int (oI (s_fb S (k24 + 1)))), (0, .ref (b 0)), (2, .int (nI k24))] := by rw [hfb9]; exact hl
            refine gInc (j := k24) (k := 2) (lv' := [(2, .int (nI (k24 + 1))), (1, .int (oI (s_fb S (k24 + 1)))), (0, .ref (b 0))]) C.1 C.2.1 dX3_behind_32 hl rfl (by decide) rfl (fun ls hl => ?_)
            refine lv_goto (tgt := 4) C.1 C.2.1 dX3_behind_35 (by decide) ?_
            refine W.widen (k := 0) (n := 0) (by omega) (by omega) ?_
            exact ih_lp24 (k24 + 1) (by omega) (by omega) _ _ hO _ (lv_sub hl [2, 1, 0] rfl)
  exact lp24 (s_sh S + 1) 0 (by omega) (Nat.zero_le _) _ _ hO _ (lv_sub hl [2, 1, 0] rfl)

set_option maxHeartbeats 4000000 in
set_option maxRecDepth 100000 in
theorem c_X3_farthestBehind (l : Launch) (E : gE) (b : Nat → Nat) (S : St) (th : Int32) (mk : Nat → Int32) (F : va_W)  (hI : s_inv S) (hsr : s_srt S) : gMi l E yX3_farthestBehind wsX3_farthestBehind ({ frames := 3, cells := 0, slots := 0, locals := 65 }) (mW E b S th mk ++ F) [.ref (b 0)] (oI (s_fb S (s_sh S))) (mW E b S 0 mk ++ F) 0 0 := by
  refine gMi.of (cc := cX3_farthestBehind) (maxL := 1) (ty := .int) (by decide) rfl (Nat.le_of_ble_eq_true rfl) ?_
  intro p e s m args below meth c A C ls hl hO
  have hl : lv_has ls 1 [(0, .ref (b 0))] := hl
  obtain ⟨hn, hsh, hsc, hOn, hOb, hok9, hpc9, hp0⟩ := hI
  refine lv_aload_n C.1 C.2.1 dX3_farthestBehind_0 rfl (lv_at hl 0 rfl) ?_
  refine lv_aload_n C.1 C.2.1 dX3_farthestBehind_1 rfl (lv_at hl 0 rfl) ?_
  refine gCall_i (As := []) (rest := [.ref (b 0)]) C hO (c_X3_behind l E b S th mk F (by omega) (by omega)) (cwV 0 C.2.2.2.2.1 gX3_farthestBehind_X3_behind rfl rfl rfl (by decide +kernel) ⟨(Nat.le_of_ble_eq_true rfl), (Nat.le_of_ble_eq_true rfl)⟩) (va_recv C.2.2.2.2.2.2.2.1.1 hO.1 (ci := 3) (q0 := 0) rfl rfl) rfl hl.1 rfl (Nat.le_of_ble_eq_true rfl) dX3_farthestBehind_2 ⟨(Nat.le_of_ble_eq_true rfl), (Nat.le_of_ble_eq_true rfl)⟩ (fun H locs hO => ?_)
  refine gCall_i (As := [.int (oI (s_fb S (s_sh S)))]) (rest := []) C hO (c_X3_told l E b S th mk F (oI (s_fb S (s_sh S)))) (cwV 1 C.2.2.2.2.1 gX3_farthestBehind_X3_told rfl rfl rfl (by decide +kernel) ⟨(Nat.le_of_ble_eq_true rfl), (Nat.le_of_ble_eq_true rfl)⟩) (va_recv C.2.2.2.2.2.2.2.1.1 hO.1 (ci := 3) (q0 := 0) rfl rfl) rfl hl.1 rfl (Nat.le_of_ble_eq_true rfl) dX3_farthestBehind_5 ⟨(Nat.le_of_ble_eq_true rfl), (Nat.le_of_ble_eq_true rfl)⟩ (fun H locs hO => ?_)
  have hO : gO E A s (mW E b S 0 mk ++ F) H locs := hO
  exact gRi C hO rfl rfl dX3_farthestBehind_8 (Nat.le_of_ble_eq_true rfl) (Nat.le_of_ble_eq_true rfl)

set_option maxHeartbeats 4000000 in
set_option maxRecDepth 100000 in
theorem c_X3_until (l : Launch) (E : gE) (b : Nat → Nat) (S : St) (th : Int32) (mk : Nat → Int32) (F : va_W) (i : Nat) (hn : s_n S ≤ 48) (hi : i < 6) (hpc9 : 1 ≤ pN S i ∧ pN S i ≤ 5 ∧ s_pc S i = nI (pN S i)) : gMi l E yX3_until wsX3_until ({ frames := 2, cells := 0, slots := 0, locals := 43 }) (mW E b S th mk ++ F) [.ref (b 0), .int (nI i)] (s_un S i) (mW E b S th mk ++ F) 0 0 := by
  refine gMi.of (cc := cX3_until) (maxL := 3) (ty := .int) (by decide) rfl (Nat.le_of_ble_eq_true rfl) ?_
  intro p e s m args below meth c A C ls hl hO
  have hl : lv_has ls 3 [(0, .ref (b 0)), (1, .int (nI i))] := hl
  have iX3 : ∀ w ∈ u_ws RX3 TX3 19, w ∈ wsX3_until := by decide +kernel
  have w29 : Cond.fieldLink RX3 29 "ParrotLogModel" "pace" "[I" ∈ wsX3_until := by decide +kernel
  have w71 : Cond.fieldLink RX3 71 "ParrotLogModel" "isOn" "Z" ∈ wsX3_until := by decide +kernel
  refine lv_aload_n C.1 C.2.1 dX3_until_0 rfl (lv_at hl 0 rfl) ?_
  refine lv_iload_n C.1 C.2.1 dX3_until_1 rfl (lv_at hl 1 rfl) ?_
  refine gCall_i (As := [.int (nI i)]) (rest := []) C hO (c_X3_lag l E b S th mk F i (by omega) (by omega)) (cwV 1 C.2.2.2.2.1 gX3_until_X3_lag rfl rfl rfl (by decide +kernel) ⟨(Nat.le_of_ble_eq_true rfl), (Nat.le_of_ble_eq_true rfl)⟩) (va_recv C.2.2.2.2.2.2.2.1.1 hO.1 (ci := 3) (q0 := 0) rfl rfl) rfl hl.1 rfl (Nat.le_of_ble_eq_true rfl) dX3_until_2 ⟨(Nat.le_of_ble_eq_true rfl), (Nat.le_of_ble_eq_true rfl)⟩ (fun H locs hO => ?_)
  refine lv_istore_n (lv' := [(2, .int (nI (s_lag S i))), (0, .ref (b 0)), (1, .int (nI i))]) C.1 C.2.1 dX3_until_5 rfl hl (by decide) rfl (fun ls hl => ?_)
  have hla9 := s_lag_le S i
  refine lv_iload_n C.1 C.2.1 dX3_until_6 rfl (lv_at hl 0 rfl) ?_
  refine gLe0 (tgt := 21) C.1 C.2.1 dX3_until_7 (by decide) (fun c_1 => ?_) (fun c_1 => ?_)
  · have hor9 : ¬ 0 < s_lag S i ∨ s_on S = 0 := Or.inl (fun g => c_1 (by rw [show (0 : Int32) = nI 0 from rfl]; exact (nI_ltI (by omega) (by omega)).mpr g))
    refine lv_iload_n C.1 C.2.1 dX3_until_21 rfl (lv_at hl 0 rfl) ?_
    refine lv_aload_n C.1 C.2.1 dX3_until_22 rfl (lv_at hl 1 rfl) ?_
    refine gGet (v := .ref (b 7)) (ref := RX3) (Cn := RX3) (T := TX3) (N := 19) C iX3 hO 0 rfl rfl 14 (by decide) w29 (fun _ h9 => h9) rfl dX3_until_23 ?_
    refine lv_iload_n C.1 C.2.1 dX3_until_26 rfl (lv_at hl 2 rfl) ?_
    refine gIald (v := (s_pc S) i) (j := i) C hO 7 rfl (by omega) (by decide) rfl dX3_until_27 ?_
    refine lv_eqi (y := nI (pN S i)) hpc9.2.2 ?_
    refine gAddN (x := (s_lag S i)) (y := (pN S i)) C.1 C.2.1 dX3_until_28 ?_
    refine lv_iconst (v := 1) C.1 C.2.1 dX3_until_29 (by decide) ?_
    refine gSubN (x := ((s_lag S i) + (pN S i))) (y := 1) C.1 C.2.1 (by omega) dX3_until_30 ?_
    refine lv_aload_n C.1 C.2.1 dX3_until_31 rfl (lv_at hl 1 rfl) ?_
    refine gGet (v := .ref (b 7)) (ref := RX3) (Cn := RX3) (T := TX3) (N := 19) C iX3 hO 0 rfl rfl 14 (by decide) w29 (fun _ h9 => h9) rfl dX3_until_32 ?_
    refine lv_iload_n C.1 C.2.1 dX3_until_35 rfl (lv_at hl 2 rfl) ?_
    refine gIald (v := (s_pc S) i) (j := i) C hO 7 rfl (by omega) (by decide) rfl dX3_until_36 ?_
    refine lv_eqi (y := nI (pN S i)) hpc9.2.2 ?_
    refine lv_idiv C.1 C.2.1 dX3_until_37 (nI_ne0 (by omega) (by omega)) ?_
    exact gRi C hO rfl (by first | (rw [pk_div (by omega) (by omega) (by omega), s_un_m1 hpc9.1 hor9]; done) | (rw [s_un_m0 hps9 hon9]; done)) dX3_until_38 (Nat.le_of_ble_eq_true rfl) (Nat.le_of_ble_eq_true rfl)
  · have hps9 : 0 < s_lag S i := (nI_ltI (by omega) (by omega)).mp (show nI 0 < nI (s_lag S i) from c_1)
    refine lv_aload_n C.1 C.2.1 dX3_until_10 rfl (lv_at hl 1 rfl) ?_
    refine gGet (v := .int (s_on S)) (ref := RX3) (Cn := RX3) (T := TX3) (N := 19) C iX3 hO 0 rfl rfl 11 (by decide) w71 (fun _ h9 => h9) rfl dX3_until_11 ?_
    refine lv_if_eq (tgt := 21) C.1 C.2.1 dX3_until_14 (by decide) (fun c_2 => ?_) (fun c_2 => ?_)
    · have hor9 : ¬ 0 < s_lag S i ∨ s_on S = 0 := Or.inr c_2
      refine lv_iload_n C.1 C.2.1 dX3_until_21 rfl (lv_at hl 0 rfl) ?_
      refine lv_aload_n C.1 C.2.1 dX3_until_22 rfl (lv_at hl 1 rfl) ?_
      refine gGet (v := .ref (b 7)) (ref := RX3) (Cn := RX3) (T := TX3) (N := 19) C iX3 hO 0 rfl rfl 14 (by decide) w29 (fun _ h9 => h9) rfl dX3_until_23 ?_
      refine lv_iload_n C.1 C.2.1 dX3_until_26 rfl (lv_at hl 2 rfl) ?_
      refine gIald (v := (s_pc S) i) (j := i) C hO 7 rfl (by omega) (by decide) rfl dX3_until_27 ?_
      refine lv_eqi (y := nI (pN S i)) hpc9.2.2 ?_
      refine gAddN (x := (s_lag S i)) (y := (pN S i)) C.1 C.2.1 dX3_until_28 ?_
      refine lv_iconst (v := 1) C.1 C.2.1 dX3_until_29 (by decide) ?_
      refine gSubN (x := ((s_lag S i) + (pN S i))) (y := 1) C.1 C.2.1 (by omega) dX3_until_30 ?_
      refine lv_aload_n C.1 C.2.1 dX3_until_31 rfl (lv_at hl 1 rfl) ?_
      refine gGet (v := .ref (b 7)) (ref := RX3) (Cn := RX3) (T := TX3) (N := 19) C iX3 hO 0 rfl rfl 14 (by decide) w29 (fun _ h9 => h9) rfl dX3_until_32 ?_
      refine lv_iload_n C.1 C.2.1 dX3_until_35 rfl (lv_at hl 2 rfl) ?_
      refine gIald (v := (s_pc S) i) (j := i) C hO 7 rfl (by omega) (by decide) rfl dX3_until_36 ?_
      refine lv_eqi (y := nI (pN S i)) hpc9.2.2 ?_
      refine lv_idiv C.1 C.2.1 dX3_until_37 (nI_ne0 (by omega) (by omega)) ?_
      exact gRi C hO rfl (by first | (rw [pk_div (by omega) (by omega) (by omega), s_un_m1 hpc9.1 hor9]; done) | (rw [s_un_m0 hps9 hon9]; done)) dX3_until_38 (Nat.le_of_ble_eq_true rfl) (Nat.le_of_ble_eq_true rfl)
    · have hon9 : ¬ s_on S = 0 := c_2
      refine lv_iconst (v := (-1)) C.1 C.2.1 dX3_until_17 (by decide) ?_
      refine lv_goto (tgt := 38) C.1 C.2.1 dX3_until_18 (by decide) ?_
      exact gRi C hO rfl (by first | (rw [pk_div (by omega) (by omega) (by omega), s_un_m1 hpc9.1 hor9]; done) | (rw [s_un_m0 hps9 hon9]; done)) dX3_until_38 (Nat.le_of_ble_eq_true rfl) (Nat.le_of_ble_eq_true rfl)

set_option maxHeartbeats 4000000 in
set_option maxRecDepth 100000 in
theorem c_X3_hoursUntilCaughtUp_ok (l : Launch) (E : gE) (b : Nat → Nat) (S : St) (th : Int32) (mk : Nat → Int32) (F : va_W) (x : Int32) (hI : s_inv S) (hsr : s_srt S) (hok : okShip S x) : gMi l E yX3_hoursUntilCaughtUp wsX3_hoursUntilCaughtUp ({ frames := 3, cells := 0, slots := 0, locals := 65 }) (mW E b S th mk ++ F) [.ref (b 0), .int x] (s_un S x.toNatClampNeg) (mW E b S 0 mk ++ F) 0 0 := by
  refine gMi.of (cc := cX3_hoursUntilCaughtUp) (maxL := 2) (ty := .int) (by decide) rfl (Nat.le_of_ble_eq_true rfl) ?_
  intro p e s m args below meth c A C ls hl hO
  have hl : lv_has ls 2 [(0, .ref (b 0)), (1, .int x)] := hl
  have iX3 : ∀ w ∈ u_ws RX3 TX3 19, w ∈ wsX3_hoursUntilCaughtUp := by decide +kernel
  have w44 : Cond.fieldLink RX3 44 "ParrotLogModel" "thrown" "I" ∈ wsX3_hoursUntilCaughtUp := by decide +kernel
  obtain ⟨hn, hsh, hsc, hOn, hOb, hok9, hpc9, hp0⟩ := hI
  refine lv_aload_n C.1 C.2.1 dX3_hoursUntilCaughtUp_0 rfl (lv_at hl 0 rfl) ?_
  refine lv_iconst (v := 0) C.1 C.2.1 dX3_hoursUntilCaughtUp_1 (by decide) ?_
  refine gPut (ws' := (mW E b S 0 mk ++ F)) (ref := RX3) (Cn := RX3) (T := TX3) (N := 19) C iX3 tyX3 tyX3_ok nmX3 hO 0 rfl rfl 0 (by decide) w44 (fun _ h9 => h9) rfl (by decide +kernel) rfl rfl (Nat.le_of_ble_eq_true rfl) rfl dX3_hoursUntilCaughtUp_2 (fun H locs hO => ?_)
  refine lv_aload_n C.1 C.2.1 dX3_hoursUntilCaughtUp_5 rfl (lv_at hl 0 rfl) ?_
  refine lv_iload_n C.1 C.2.1 dX3_hoursUntilCaughtUp_6 rfl (lv_at hl 1 rfl) ?_
  refine gCall_i (As := [.int x]) (rest := []) C hO (c_X3_isShip l E b S 0 mk F x (by omega)) (cwV 1 C.2.2.2.2.1 gX3_hoursUntilCaughtUp_X3_isShip rfl rfl rfl (by decide +kernel) ⟨(Nat.le_of_ble_eq_true rfl), (Nat.le_of_ble_eq_true rfl)⟩) (va_recv C.2.2.2.2.2.2.2.1.1 hO.1 (ci := 3) (q0 := 0) rfl rfl) rfl hl.1 rfl (Nat.le_of_ble_eq_true rfl) dX3_hoursUntilCaughtUp_7 ⟨(Nat.le_of_ble_eq_true rfl), (Nat.le_of_ble_eq_true rfl)⟩ (fun H locs hO => ?_)
  refine lv_if_eq (tgt := 21) C.1 C.2.1 dX3_hoursUntilCaughtUp_10 (by decide) (fun c_1 => ?_) (fun c_1 => ?_)
  · exact absurd hok (bF c_1)
  · have hj9 := okNat (by omega) hok.1 hok.2
    have hi9 : x.toNatClampNeg < 6 := by omega
    have hl : lv_has ls 2 [(0, .ref (b 0)), (1, .int (nI (x.toNatClampNeg)))] := by rw [← hj9.2]; exact hl
    refine lv_aload_n C.1 C.2.1 dX3_hoursUntilCaughtUp_13 rfl (lv_at hl 0 rfl) ?_
    refine lv_iload_n C.1 C.2.1 dX3_hoursUntilCaughtUp_14 rfl (lv_at hl 1 rfl) ?_
    refine gCall_i (As := [.int (nI x.toNatClampNeg)]) (rest := []) C hO (c_X3_until l E b S 0 mk F x.toNatClampNeg (by omega) (by omega) (hpc9 _ (by omega))) (cwV 1 C.2.2.2.2.1 gX3_hoursUntilCaughtUp_X3_until rfl rfl rfl (by decide +kernel) ⟨(Nat.le_of_ble_eq_true rfl), (Nat.le_of_ble_eq_true rfl)⟩) (va_recv C.2.2.2.2.2.2.2.1.1 hO.1 (ci := 3) (q0 := 0) rfl rfl) rfl hl.1 rfl (Nat.le_of_ble_eq_true rfl) dX3_hoursUntilCaughtUp_15 ⟨(Nat.le_of_ble_eq_true rfl), (Nat.le_of_ble_eq_true rfl)⟩ (fun H locs hO => ?_)
    refine lv_goto (tgt := 26) C.1 C.2.1 dX3_hoursUntilCaughtUp_18 (by decide) ?_
    exact gRi C hO rfl rfl dX3_hoursUntilCaughtUp_26 (Nat.le_of_ble_eq_true rfl) (Nat.le_of_ble_eq_true rfl)

set_option maxHeartbeats 4000000 in
set_option maxRecDepth 100000 in
theorem c_X3_hoursUntilCaughtUp_no (l : Launch) (E : gE) (b : Nat → Nat) (S : St) (th : Int32) (mk : Nat → Int32) (F : va_W) (x : Int32) (hI : s_inv S) (hsr : s_srt S) (hok : ¬ okShip S x) : gMi l E yX3_hoursUntilCaughtUp wsX3_hoursUntilCaughtUp ({ frames := 2, cells := 0, slots := 0, locals := 43 }) (mW E b S th mk ++ F) [.ref (b 0), .int x] 0 (mW E b S 1 mk ++ F) 0 0 := by
  refine gMi.of (cc := cX3_hoursUntilCaughtUp) (maxL := 2) (ty := .int) (by decide) rfl (Nat.le_of_ble_eq_true rfl) ?_
  intro p e s m args below meth c A C ls hl hO
  have hl : lv_has ls 2 [(0, .ref (b 0)), (1, .int x)] := hl
  have iX3 : ∀ w ∈ u_ws RX3 TX3 19, w ∈ wsX3_hoursUntilCaughtUp := by decide +kernel
  have w44 : Cond.fieldLink RX3 44 "ParrotLogModel" "thrown" "I" ∈ wsX3_hoursUntilCaughtUp := by decide +kernel
  obtain ⟨hn, hsh, hsc, hOn, hOb, hok9, hpc9, hp0⟩ := hI
  refine lv_aload_n C.1 C.2.1 dX3_hoursUntilCaughtUp_0 rfl (lv_at hl 0 rfl) ?_
  refine lv_iconst (v := 0) C.1 C.2.1 dX3_hoursUntilCaughtUp_1 (by decide) ?_
  refine gPut (ws' := (mW E b S 0 mk ++ F)) (ref := RX3) (Cn := RX3) (T := TX3) (N := 19) C iX3 tyX3 tyX3_ok nmX3 hO 0 rfl rfl 0 (by decide) w44 (fun _ h9 => h9) rfl (by decide +kernel) rfl rfl (Nat.le_of_ble_eq_true rfl) rfl dX3_hoursUntilCaughtUp_2 (fun H locs hO => ?_)
  refine lv_aload_n C.1 C.2.1 dX3_hoursUntilCaughtUp_5 rfl (lv_at hl 0 rfl) ?_
  refine lv_iload_n C.1 C.2.1 dX3_hoursUntilCaughtUp_6 rfl (lv_at hl 1 rfl) ?_
  refine gCall_i (As := [.int x]) (rest := []) C hO (c_X3_isShip l E b S 0 mk F x (by omega)) (cwV 1 C.2.2.2.2.1 gX3_hoursUntilCaughtUp_X3_isShip rfl rfl rfl (by decide +kernel) ⟨(Nat.le_of_ble_eq_true rfl), (Nat.le_of_ble_eq_true rfl)⟩) (va_recv C.2.2.2.2.2.2.2.1.1 hO.1 (ci := 3) (q0 := 0) rfl rfl) rfl hl.1 rfl (Nat.le_of_ble_eq_true rfl) dX3_hoursUntilCaughtUp_7 ⟨(Nat.le_of_ble_eq_true rfl), (Nat.le_of_ble_eq_true rfl)⟩ (fun H locs hO => ?_)
  refine lv_if_eq (tgt := 21) C.1 C.2.1 dX3_hoursUntilCaughtUp_10 (by decide) (fun c_1 => ?_) (fun c_1 => ?_)
  · refine lv_aload_n C.1 C.2.1 dX3_hoursUntilCaughtUp_21 rfl (lv_at hl 0 rfl) ?_
    refine lv_iconst (v := 1) C.1 C.2.1 dX3_hoursUntilCaughtUp_22 (by decide) ?_
    refine gCall_i (As := [.int 1]) (rest := []) C hO (c_X3_fail l E b S 0 mk F 1) (cwV 1 C.2.2.2.2.1 gX3_hoursUntilCaughtUp_X3_fail rfl rfl rfl (by decide +kernel) ⟨(Nat.le_of_ble_eq_true rfl), (Nat.le_of_ble_eq_true rfl)⟩) (va_recv C.2.2.2.2.2.2.2.1.1 hO.1 (ci := 3) (q0 := 0) rfl rfl) rfl hl.1 rfl (Nat.le_of_ble_eq_true rfl) dX3_hoursUntilCaughtUp_23 ⟨(Nat.le_of_ble_eq_true rfl), (Nat.le_of_ble_eq_true rfl)⟩ (fun H locs hO => ?_)
    have hO : gO E A s (mW E b S 1 mk ++ F) H locs := hO
    exact gRi C hO rfl rfl dX3_hoursUntilCaughtUp_26 (Nat.le_of_ble_eq_true rfl) (Nat.le_of_ble_eq_true rfl)
  · exact absurd (bT c_1) hok

set_option maxHeartbeats 4000000 in
set_option maxRecDepth 100000 in
theorem c_X3_errorsIn_ok (l : Launch) (E : gE) (b : Nat → Nat) (S : St) (th : Int32) (mk : Nat → Int32) (F : va_W) (x h : Int32) (hI : s_inv S) (hsr : s_srt S) (hok : okShip S x ∧ okHours h) : gMi l E yX3_errorsIn wsX3_errorsIn ({ frames := 3, cells := 1, slots := 10, locals := 69 }) (mW E b S th mk ++ F) [.ref (b 0), .int x, .int h] (nI (s_ea S x.toNatClampNeg (mhN S h.toNatClampNeg (pN S x.toNatClampNeg)))) (mW E b S 0 mk ++ F) 1 10 := by
  refine gMi.of (cc := cX3_errorsIn) (maxL := 3) (ty := .int) (by decide) rfl (Nat.le_of_ble_eq_true rfl) ?_
  intro p e s m args below meth c A C ls hl hO
  have hl : lv_has ls 3 [(0, .ref (b 0)), (1, .int x), (2, .int h)] := hl
  have iX3 : ∀ w ∈ u_ws RX3 TX3 19, w ∈ wsX3_errorsIn := by decide +kernel
  have w44 : Cond.fieldLink RX3 44 "ParrotLogModel" "thrown" "I" ∈ wsX3_errorsIn := by decide +kernel
  have w71 : Cond.fieldLink RX3 71 "ParrotLogModel" "isOn" "Z" ∈ wsX3_errorsIn := by decide +kernel
  have w29 : Cond.fieldLink RX3 29 "ParrotLogModel" "pace" "[I" ∈ wsX3_errorsIn := by decide +kernel
  obtain ⟨hn, hsh, hsc, hOn, hOb, hok9, hpc9, hp0⟩ := hI
  refine lv_aload_n C.1 C.2.1 dX3_errorsIn_0 rfl (lv_at hl 0 rfl) ?_
  refine lv_iconst (v := 0) C.1 C.2.1 dX3_errorsIn_1 (by decide) ?_
  refine gPut (ws' := (mW E b S 0 mk ++ F)) (ref := RX3) (Cn := RX3) (T := TX3) (N := 19) C iX3 tyX3 tyX3_ok nmX3 hO 0 rfl rfl 0 (by decide) w44 (fun _ h9 => h9) rfl (by decide +kernel) rfl rfl (Nat.le_of_ble_eq_true rfl) rfl dX3_errorsIn_2 (fun H locs hO => ?_)
  refine lv_aload_n C.1 C.2.1 dX3_errorsIn_5 rfl (lv_at hl 0 rfl) ?_
  refine lv_iload_n C.1 C.2.1 dX3_errorsIn_6 rfl (lv_at hl 1 rfl) ?_
  refine gCall_i (As := [.int x]) (rest := []) C hO (c_X3_isShip l E b S 0 mk F x (by omega)) (cwV 1 C.2.2.2.2.1 gX3_errorsIn_X3_isShip rfl rfl rfl (by decide +kernel) ⟨(Nat.le_of_ble_eq_true rfl), (Nat.le_of_ble_eq_true rfl)⟩) (va_recv C.2.2.2.2.2.2.2.1.1 hO.1 (ci := 3) (q0 := 0) rfl rfl) rfl hl.1 rfl (Nat.le_of_ble_eq_true rfl) dX3_errorsIn_7 ⟨(Nat.le_of_ble_eq_true rfl), (Nat.le_of_ble_eq_true rfl)⟩ (fun H locs hO => ?_)
  refine lv_if_ne (tgt := 19) C.1 C.2.1 dX3_errorsIn_10 (by decide) (fun c_1 => ?_) (fun c_1 => ?_)
  · refine lv_iload_n C.1 C.2.1 dX3_errorsIn_19 rfl (lv_at hl 2 rfl) ?_
    refine lv_iconst (v := 1) C.1 C.2.1 dX3_errorsIn_20 (by decide) ?_
    refine lv_bipush (v := nI 60) C.1 C.2.1 dX3_errorsIn_21 (by decide) ?_
    refine gCallS_i (As := [.int h, .int 1, .int (nI 60)]) (rest := []) C hO (c_X3_isIn l E b S 0 mk F h 1 (nI 60)) (cwS 3 C.2.2.2.2.1 gX3_errorsIn_X3_isIn rfl rfl rfl (by decide +kernel) ⟨(Nat.le_of_ble_eq_true rfl), (Nat.le_of_ble_eq_true rfl)⟩) rfl hl.1 rfl (Nat.le_of_ble_eq_true rfl) dX3_errorsIn_23 ⟨(Nat.le_of_ble_eq_true rfl), (Nat.le_of_ble_eq_true rfl)⟩ (fun H locs hO => ?_)
    refine lv_if_eq (tgt := 56) C.1 C.2.1 dX3_errorsIn_26 (by decide) (fun c_2 => ?_) (fun c_2 => ?_)
    · exact absurd hok.2 (bF c_2)
    · have hj9 := okNat (by omega) hok.1.1 hok.1.2
      have hi9 : x.toNatClampNeg < 6 := by omega
      have hhn9 := okHours_n hok.2
      have hpp9 := hpc9 x.toNatClampNeg hj9.1
      have hmh9 := mh_le (S := S) hhn9.2.1 hpp9.2.1
      have hl : lv_has ls 3 [(0, .ref (b 0)), (1, .int (nI (x.toNatClampNeg))), (2, .int (nI (h.toNatClampNeg)))] := by rw [← hj9.2, ← hhn9.2.2]; exact hl
      refine lv_aload_n C.1 C.2.1 dX3_errorsIn_29 rfl (lv_at hl 0 rfl) ?_
      refine lv_iload_n C.1 C.2.1 dX3_errorsIn_30 rfl (lv_at hl 1 rfl) ?_
      refine lv_aload_n C.1 C.2.1 dX3_errorsIn_31 rfl (lv_at hl 0 rfl) ?_
      refine gGet (v := .int (s_on S)) (ref := RX3) (Cn := RX3) (T := TX3) (N := 19) C iX3 hO 0 rfl rfl 11 (by decide) w71 (fun _ h9 => h9) rfl dX3_errorsIn_32 ?_
      refine lv_if_eq (tgt := 42) C.1 C.2.1 dX3_errorsIn_35 (by decide) (fun c_3 => ?_) (fun c_3 => ?_)
      · have hon9 : s_on S = 0 := c_3
        refine lv_iload_n C.1 C.2.1 dX3_errorsIn_42 rfl (lv_at hl 2 rfl) ?_
        refine lv_aload_n C.1 C.2.1 dX3_errorsIn_43 rfl (lv_at hl 0 rfl) ?_
        refine gGet (v := .ref (b 7)) (ref := RX3) (Cn := RX3) (T := TX3) (N := 19) C iX3 hO 0 rfl rfl 14 (by decide) w29 (fun _ h9 => h9) rfl dX3_errorsIn_44 ?_
        refine lv_iload_n C.1 C.2.1 dX3_errorsIn_47 rfl (lv_at hl 1 rfl) ?_
        refine gIald (v := (s_pc S) x.toNatClampNeg) (j := x.toNatClampNeg) C hO 7 rfl hi9 (by decide) rfl dX3_errorsIn_48 ?_
        refine lv_eqi (y := nI (pN S x.toNatClampNeg)) hpp9.2.2 ?_
        refine gMulN (x := h.toNatClampNeg) (y := (pN S x.toNatClampNeg)) C.1 C.2.1 dX3_errorsIn_49 ?_
        refine lv_eqi (y := nI (mhN S h.toNatClampNeg (pN S x.toNatClampNeg))) (by unfold mhN; first | (rw [if_pos hon9]; done) | (rw [if_neg hon9]; rfl)) ?_
        refine gCall_i (As := [.int (nI x.toNatClampNeg), .int (nI (mhN S h.toNatClampNeg (pN S x.toNatClampNeg)))]) (rest := []) C hO (c_X3_errors l E b S 0 mk F x.toNatClampNeg (mhN S h.toNatClampNeg (pN S x.toNatClampNeg)) (by omega) (by omega) hok9 (by omega)) (cwV 2 C.2.2.2.2.1 gX3_errorsIn_X3_errors rfl rfl rfl (by decide +kernel) ⟨(Nat.le_of_ble_eq_true rfl), (Nat.le_of_ble_eq_true rfl)⟩) (va_recv C.2.2.2.2.2.2.2.1.1 hO.1 (ci := 3) (q0 := 0) rfl rfl) rfl hl.1 rfl (Nat.le_of_ble_eq_true rfl) dX3_errorsIn_50 ⟨(Nat.le_of_ble_eq_true rfl), (Nat.le_of_ble_eq_true rfl)⟩ (fun H locs hO => ?_)
        refine lv_goto (tgt := 61) C.1 C.2.1 dX3_errorsIn_53 (by decide) ?_
        exact gRi C hO rfl rfl dX3_errorsIn_61 (Nat.le_of_ble_eq_true rfl) (Nat.le_of_ble_eq_true rfl)
      · have hon9 : ¬ s_on S = 0 := c_3
        refine lv_iconst (v := 0) C.1 C.2.1 dX3_errorsIn_38 (by decide) ?_
        refine lv_goto (tgt := 50) C.1 C.2.1 dX3_errorsIn_39 (by decide) ?_
        refine lv_eqi (y := nI (mhN S h.toNatClampNeg (pN S x.toNatClampNeg))) (by unfold mhN; first | (rw [if_pos hon9]; done) | (rw [if_neg hon9]; rfl)) ?_
        refine gCall_i (As := [.int (nI x.toNatClampNeg), .int (nI (mhN S h.toNatClampNeg (pN S x.toNatClampNeg)))]) (rest := []) C hO (c_X3_errors l E b S 0 mk F x.toNatClampNeg (mhN S h.toNatClampNeg (pN S x.toNatClampNeg)) (by omega) (by omega) hok9 (by omega)) (cwV 2 C.2.2.2.2.1 gX3_errorsIn_X3_errors rfl rfl rfl (by decide +kernel) ⟨(Nat.le_of_ble_eq_true rfl), (Nat.le_of_ble_eq_true rfl)⟩) (va_recv C.2.2.2.2.2.2.2.1.1 hO.1 (ci := 3) (q0 := 0) rfl rfl) rfl hl.1 rfl (Nat.le_of_ble_eq_true rfl) dX3_errorsIn_50 ⟨(Nat.le_of_ble_eq_true rfl), (Nat.le_of_ble_eq_true rfl)⟩ (fun H locs hO => ?_)
        refine lv_goto (tgt := 61) C.1 C.2.1 dX3_errorsIn_53 (by decide) ?_
        exact gRi C hO rfl rfl dX3_errorsIn_61 (Nat.le_of_ble_eq_true rfl) (Nat.le_of_ble_eq_true rfl)
  · exact absurd hok.1 (bF c_1)

set_option maxHeartbeats 4000000 in
set_option maxRecDepth 100000 in
theorem c_X3_errorsIn_no (l : Launch) (E : gE) (b : Nat → Nat) (S : St) (th : Int32) (mk : Nat → Int32) (F : va_W) (x h : Int32) (hI : s_inv S) (hsr : s_srt S) (hok : ¬ okShip S x) : gMi l E yX3_errorsIn wsX3_errorsIn ({ frames := 2, cells := 0, slots := 0, locals := 43 }) (mW E b S th mk ++ F) [.ref (b 0), .int x, .int h] 0 (mW E b S 1 mk ++ F) 0 0 := by
  refine gMi.of (cc := cX3_errorsIn) (maxL := 3) (ty := .int) (by decide) rfl (Nat.le_of_ble_eq_true rfl) ?_
  intro p e s m args below meth c A C ls hl hO
  have hl : lv_has ls 3 [(0, .ref (b 0)), (1, .int x), (2, .int h)] := hl
  have iX3 : ∀ w ∈ u_ws RX3 TX3 19, w ∈ wsX3_errorsIn := by decide +kernel
  have w44 : Cond.fieldLink RX3 44 "ParrotLogModel" "thrown" "I" ∈ wsX3_errorsIn := by decide +kernel
  obtain ⟨hn, hsh, hsc, hOn, hOb, hok9, hpc9, hp0⟩ := hI
  refine lv_aload_n C.1 C.2.1 dX3_errorsIn_0 rfl (lv_at hl 0 rfl) ?_
  refine lv_iconst (v := 0) C.1 C.2.1 dX3_errorsIn_1 (by decide) ?_
  refine gPut (ws' := (mW E b S 0 mk ++ F)) (ref := RX3) (Cn := RX3) (T := TX3) (N := 19) C iX3 tyX3 tyX3_ok nmX3 hO 0 rfl rfl 0 (by decide) w44 (fun _ h9 => h9) rfl (by decide +kernel) rfl rfl (Nat.le_of_ble_eq_true rfl) rfl dX3_errorsIn_2 (fun H locs hO => ?_)
  refine lv_aload_n C.1 C.2.1 dX3_errorsIn_5 rfl (lv_at hl 0 rfl) ?_
  refine lv_iload_n C.1 C.2.1 dX3_errorsIn_6 rfl (lv_at hl 1 rfl) ?_
  refine gCall_i (As := [.int x]) (rest := []) C hO (c_X3_isShip l E b S 0 mk F x (by omega)) (cwV 1 C.2.2.2.2.1 gX3_errorsIn_X3_isShip rfl rfl rfl (by decide +kernel) ⟨(Nat.le_of_ble_eq_true rfl), (Nat.le_of_ble_eq_true rfl)⟩) (va_recv C.2.2.2.2.2.2.2.1.1 hO.1 (ci := 3) (q0 := 0) rfl rfl) rfl hl.1 rfl (Nat.le_of_ble_eq_true rfl) dX3_errorsIn_7 ⟨(Nat.le_of_ble_eq_true rfl), (Nat.le_of_ble_eq_true rfl)⟩ (fun H locs hO => ?_)
  refine lv_if_ne (tgt := 19) C.1 C.2.1 dX3_errorsIn_10 (by decide) (fun c_1 => ?_) (fun c_1 => ?_)
  · exact absurd (bT c_1) hok
  · refine lv_aload_n C.1 C.2.1 dX3_errorsIn_13 rfl (lv_at hl 0 rfl) ?_
    refine lv_iconst (v := 1) C.1 C.2.1 dX3_errorsIn_14 (by decide) ?_
    refine gCall_i (As := [.int 1]) (rest := []) C hO (c_X3_fail l E b S 0 mk F 1) (cwV 1 C.2.2.2.2.1 gX3_errorsIn_X3_fail rfl rfl rfl (by decide +kernel) ⟨(Nat.le_of_ble_eq_true rfl), (Nat.le_of_ble_eq_true rfl)⟩) (va_recv C.2.2.2.2.2.2.2.1.1 hO.1 (ci := 3) (q0 := 0) rfl rfl) rfl hl.1 rfl (Nat.le_of_ble_eq_true rfl) dX3_errorsIn_15 ⟨(Nat.le_of_ble_eq_true rfl), (Nat.le_of_ble_eq_true rfl)⟩ (fun H locs hO => ?_)
    have hO : gO E A s (mW E b S 1 mk ++ F) H locs := hO
    exact gRi C hO rfl rfl dX3_errorsIn_18 (Nat.le_of_ble_eq_true rfl) (Nat.le_of_ble_eq_true rfl)

set_option maxHeartbeats 4000000 in
set_option maxRecDepth 100000 in
theorem c_X3_errorsIn_no2 (l : Launch) (E : gE) (b : Nat → Nat) (S : St) (th : Int32) (mk : Nat → Int32) (F : va_W) (x h : Int32) (hI : s_inv S) (hsr : s_srt S) (hok : okShip S x ∧ ¬ okHours h) : gMi l E yX3_errorsIn wsX3_errorsIn ({ frames := 2, cells := 0, slots := 0, locals := 43 }) (mW E b S th mk ++ F) [.ref (b 0), .int x, .int h] 0 (mW E b S 2 mk ++ F) 0 0 := by
  refine gMi.of (cc := cX3_errorsIn) (maxL := 3) (ty := .int) (by decide) rfl (Nat.le_of_ble_eq_true rfl) ?_
  intro p e s m args below meth c A C ls hl hO
  have hl : lv_has ls 3 [(0, .ref (b 0)), (1, .int x), (2, .int h)] := hl
  have iX3 : ∀ w ∈ u_ws RX3 TX3 19, w ∈ wsX3_errorsIn := by decide +kernel
  have w44 : Cond.fieldLink RX3 44 "ParrotLogModel" "thrown" "I" ∈ wsX3_errorsIn := by decide +kernel
  obtain ⟨hn, hsh, hsc, hOn, hOb, hok9, hpc9, hp0⟩ := hI
  refine lv_aload_n C.1 C.2.1 dX3_errorsIn_0 rfl (lv_at hl 0 rfl) ?_
  refine lv_iconst (v := 0) C.1 C.2.1 dX3_errorsIn_1 (by decide) ?_
  refine gPut (ws' := (mW E b S 0 mk ++ F)) (ref := RX3) (Cn := RX3) (T := TX3) (N := 19) C iX3 tyX3 tyX3_ok nmX3 hO 0 rfl rfl 0 (by decide) w44 (fun _ h9 => h9) rfl (by decide +kernel) rfl rfl (Nat.le_of_ble_eq_true rfl) rfl dX3_errorsIn_2 (fun H locs hO => ?_)
  refine lv_aload_n C.1 C.2.1 dX3_errorsIn_5 rfl (lv_at hl 0 rfl) ?_
  refine lv_iload_n C.1 C.2.1 dX3_errorsIn_6 rfl (lv_at hl 1 rfl) ?_
  refine gCall_i (As := [.int x]) (rest := []) C hO (c_X3_isShip l E b S 0 mk F x (by omega)) (cwV 1 C.2.2.2.2.1 gX3_errorsIn_X3_isShip rfl rfl rfl (by decide +kernel) ⟨(Nat.le_of_ble_eq_true rfl), (Nat.le_of_ble_eq_true rfl)⟩) (va_recv C.2.2.2.2.2.2.2.1.1 hO.1 (ci := 3) (q0 := 0) rfl rfl) rfl hl.1 rfl (Nat.le_of_ble_eq_true rfl) dX3_errorsIn_7 ⟨(Nat.le_of_ble_eq_true rfl), (Nat.le_of_ble_eq_true rfl)⟩ (fun H locs hO => ?_)
  refine lv_if_ne (tgt := 19) C.1 C.2.1 dX3_errorsIn_10 (by decide) (fun c_1 => ?_) (fun c_1 => ?_)
  · refine lv_iload_n C.1 C.2.1 dX3_errorsIn_19 rfl (lv_at hl 2 rfl) ?_
    refine lv_iconst (v := 1) C.1 C.2.1 dX3_errorsIn_20 (by decide) ?_
    refine lv_bipush (v := nI 60) C.1 C.2.1 dX3_errorsIn_21 (by decide) ?_
    refine gCallS_i (As := [.int h, .int 1, .int (nI 60)]) (rest := []) C hO (c_X3_isIn l E b S 0 mk F h 1 (nI 60)) (cwS 3 C.2.2.2.2.1 gX3_errorsIn_X3_isIn rfl rfl rfl (by decide +kernel) ⟨(Nat.le_of_ble_eq_true rfl), (Nat.le_of_ble_eq_true rfl)⟩) rfl hl.1 rfl (Nat.le_of_ble_eq_true rfl) dX3_errorsIn_23 ⟨(Nat.le_of_ble_eq_true rfl), (Nat.le_of_ble_eq_true rfl)⟩ (fun H locs hO => ?_)
    refine lv_if_eq (tgt := 56) C.1 C.2.1 dX3_errorsIn_26 (by decide) (fun c_2 => ?_) (fun c_2 => ?_)
    · refine lv_aload_n C.1 C.2.1 dX3_errorsIn_56 rfl (lv_at hl 0 rfl) ?_
      refine lv_iconst (v := nI 2) C.1 C.2.1 dX3_errorsIn_57 (by decide) ?_
      refine gCall_i (As := [.int (nI 2)]) (rest := []) C hO (c_X3_fail l E b S 0 mk F (nI 2)) (cwV 1 C.2.2.2.2.1 gX3_errorsIn_X3_fail rfl rfl rfl (by decide +kernel) ⟨(Nat.le_of_ble_eq_true rfl), (Nat.le_of_ble_eq_true rfl)⟩) (va_recv C.2.2.2.2.2.2.2.1.1 hO.1 (ci := 3) (q0 := 0) rfl rfl) rfl hl.1 rfl (Nat.le_of_ble_eq_true rfl) dX3_errorsIn_58 ⟨(Nat.le_of_ble_eq_true rfl), (Nat.le_of_ble_eq_true rfl)⟩ (fun H locs hO => ?_)
      have hO : gO E A s (mW E b S (nI 2) mk ++ F) H locs := hO
      exact gRi C hO rfl rfl dX3_errorsIn_61 (Nat.le_of_ble_eq_true rfl) (Nat.le_of_ble_eq_true rfl)
    · exact absurd (bT c_2) hok.2
  · exact absurd hok.1 (bF c_1)

set_option maxHeartbeats 4000000 in
set_option maxRecDepth 100000 in
theorem c_X3_paceWanted_ok (l : Launch) (E : gE) (b : Nat → Nat) (S : St) (th : Int32) (mk : Nat → Int32) (F : va_W) (x h : Int32) (hI : s_inv S) (hsr : s_srt S) (hok : okShip S x ∧ okHours h) : gMi l E yX3_paceWanted wsX3_paceWanted ({ frames := 2, cells := 0, slots := 0, locals := 43 }) (mW E b S th mk ++ F) [.ref (b 0), .int x, .int h] (s_pw S x.toNatClampNeg h.toNatClampNeg) (mW E b S 0 mk ++ F) 0 0 := by
  refine gMi.of (cc := cX3_paceWanted) (maxL := 5) (ty := .int) (by decide) rfl (Nat.le_of_ble_eq_true rfl) ?_
  intro p e s m args below meth c A C ls hl hO
  have hl : lv_has ls 5 [(0, .ref (b 0)), (1, .int x), (2, .int h)] := hl
  have iX3 : ∀ w ∈ u_ws RX3 TX3 19, w ∈ wsX3_paceWanted := by decide +kernel
  have w44 : Cond.fieldLink RX3 44 "ParrotLogModel" "thrown" "I" ∈ wsX3_paceWanted := by decide +kernel
  have w71 : Cond.fieldLink RX3 71 "ParrotLogModel" "isOn" "Z" ∈ wsX3_paceWanted := by decide +kernel
  obtain ⟨hn, hsh, hsc, hOn, hOb, hok9, hpc9, hp0⟩ := hI
  refine lv_aload_n C.1 C.2.1 dX3_paceWanted_0 rfl (lv_at hl 0 rfl) ?_
  refine lv_iconst (v := 0) C.1 C.2.1 dX3_paceWanted_1 (by decide) ?_
  refine gPut (ws' := (mW E b S 0 mk ++ F)) (ref := RX3) (Cn := RX3) (T := TX3) (N := 19) C iX3 tyX3 tyX3_ok nmX3 hO 0 rfl rfl 0 (by decide) w44 (fun _ h9 => h9) rfl (by decide +kernel) rfl rfl (Nat.le_of_ble_eq_true rfl) rfl dX3_paceWanted_2 (fun H locs hO => ?_)
  refine lv_aload_n C.1 C.2.1 dX3_paceWanted_5 rfl (lv_at hl 0 rfl) ?_
  refine lv_iload_n C.1 C.2.1 dX3_paceWanted_6 rfl (lv_at hl 1 rfl) ?_
  refine gCall_i (As := [.int x]) (rest := []) C hO (c_X3_isShip l E b S 0 mk F x (by omega)) (cwV 1 C.2.2.2.2.1 gX3_paceWanted_X3_isShip rfl rfl rfl (by decide +kernel) ⟨(Nat.le_of_ble_eq_true rfl), (Nat.le_of_ble_eq_true rfl)⟩) (va_recv C.2.2.2.2.2.2.2.1.1 hO.1 (ci := 3) (q0 := 0) rfl rfl) rfl hl.1 rfl (Nat.le_of_ble_eq_true rfl) dX3_paceWanted_7 ⟨(Nat.le_of_ble_eq_true rfl), (Nat.le_of_ble_eq_true rfl)⟩ (fun H locs hO => ?_)
  refine lv_if_ne (tgt := 19) C.1 C.2.1 dX3_paceWanted_10 (by decide) (fun c_1 => ?_) (fun c_1 => ?_)
  · refine lv_iload_n C.1 C.2.1 dX3_paceWanted_19 rfl (lv_at hl 2 rfl) ?_
    refine lv_iconst (v := 1) C.1 C.2.1 dX3_paceWanted_20 (by decide) ?_
    refine lv_bipush (v := nI 60) C.1 C.2.1 dX3_paceWanted_21 (by decide) ?_
    refine gCallS_i (As := [.int h, .int 1, .int (nI 60)]) (rest := []) C hO (c_X3_isIn l E b S 0 mk F h 1 (nI 60)) (cwS 3 C.2.2.2.2.1 gX3_paceWanted_X3_isIn rfl rfl rfl (by decide +kernel) ⟨(Nat.le_of_ble_eq_true rfl), (Nat.le_of_ble_eq_true rfl)⟩) rfl hl.1 rfl (Nat.le_of_ble_eq_true rfl) dX3_paceWanted_23 ⟨(Nat.le_of_ble_eq_true rfl), (Nat.le_of_ble_eq_true rfl)⟩ (fun H locs hO => ?_)
    refine lv_if_ne (tgt := 35) C.1 C.2.1 dX3_paceWanted_26 (by decide) (fun c_2 => ?_) (fun c_2 => ?_)
    · have hj9 := okNat (by omega) hok.1.1 hok.1.2
      have hi9 : x.toNatClampNeg < 6 := by omega
      have hhn9 := okHours_n hok.2
      have hpp9 := hpc9 x.toNatClampNeg hj9.1
      have hmh9 := mh_le (S := S) hhn9.2.1 hpp9.2.1
      have hl : lv_has ls 5 [(0, .ref (b 0)), (1, .int (nI (x.toNatClampNeg))), (2, .int (nI (h.toNatClampNeg)))] := by rw [← hj9.2, ← hhn9.2.2]; exact hl
      refine lv_aload_n C.1 C.2.1 dX3_paceWanted_35 rfl (lv_at hl 0 rfl) ?_
      refine lv_iload_n C.1 C.2.1 dX3_paceWanted_36 rfl (lv_at hl 1 rfl) ?_
      refine gCall_i (As := [.int (nI x.toNatClampNeg)]) (rest := []) C hO (c_X3_lag l E b S 0 mk F x.toNatClampNeg (by omega) (by omega)) (cwV 1 C.2.2.2.2.1 gX3_paceWanted_X3_lag rfl rfl rfl (by decide +kernel) ⟨(Nat.le_of_ble_eq_true rfl), (Nat.le_of_ble_eq_true rfl)⟩) (va_recv C.2.2.2.2.2.2.2.1.1 hO.1 (ci := 3) (q0 := 0) rfl rfl) rfl hl.1 rfl (Nat.le_of_ble_eq_true rfl) dX3_paceWanted_37 ⟨(Nat.le_of_ble_eq_true rfl), (Nat.le_of_ble_eq_true rfl)⟩ (fun H locs hO => ?_)
      refine lv_istore_n (lv' := [(3, .int (nI (s_lag S x.toNatClampNeg))), (0, .ref (b 0)), (1, .int (nI x.toNatClampNeg)), (2, .int (nI h.toNatClampNeg))]) C.1 C.2.1 dX3_paceWanted_40 rfl hl (by decide) rfl (fun ls hl => ?_)
      have hla9 := s_lag_le S x.toNatClampNeg
      have hqv9 : (s_lag S x.toNatClampNeg + h.toNatClampNeg - 1) / h.toNatClampNeg ≤ 108 := Nat.le_trans (Nat.div_le_self _ _) (by omega)
      refine lv_iconst (v := 1) C.1 C.2.1 dX3_paceWanted_41 (by decide) ?_
      refine lv_iload_n C.1 C.2.1 dX3_paceWanted_42 rfl (lv_at hl 0 rfl) ?_
      refine lv_iload_n C.1 C.2.1 dX3_paceWanted_43 rfl (lv_at hl 3 rfl) ?_
      refine gAddN (x := (s_lag S x.toNatClampNeg)) (y := h.toNatClampNeg) C.1 C.2.1 dX3_paceWanted_44 ?_
      refine lv_iconst (v := 1) C.1 C.2.1 dX3_paceWanted_45 (by decide) ?_
      refine gSubN (x := ((s_lag S x.toNatClampNeg) + h.toNatClampNeg)) (y := 1) C.1 C.2.1 (by omega) dX3_paceWanted_46 ?_
      refine lv_iload_n C.1 C.2.1 dX3_paceWanted_47 rfl (lv_at hl 3 rfl) ?_
      refine lv_idiv C.1 C.2.1 dX3_paceWanted_48 (nI_ne0 (by omega) (by omega)) ?_
      refine lv_eqi (y := nI ((s_lag S x.toNatClampNeg + h.toNatClampNeg - 1) / h.toNatClampNeg)) (pk_div (by omega) (by omega) (by omega)) ?_
      refine va_mmax C.1 C.2.1 (by rw [C.2.2.1]; exact hl.1.symm) C.2.2.2.1 (C.2.2.2.2.1 (.methodLink RX3 151 Lib.Math.max.name) (by decide +kernel)) (C.2.2.2.2.1 (.static Lib.Math.max.name) (by decide +kernel)) (C.2.2.2.2.1 (.initialized "java/lang/Math") (by decide +kernel)) (C.2.2.2.2.1 (.code Lib.Math.max.name Lib.Math.max.code 2 (some .int)) (by decide +kernel)) (Nat.le_of_ble_eq_true rfl) (Nat.le_of_ble_eq_true rfl) (Nat.le_of_ble_eq_true rfl) (Nat.le_of_ble_eq_true rfl) dX3_paceWanted_49 ?_
      refine lv_eqi (y := nI (max 1 ((s_lag S x.toNatClampNeg + h.toNatClampNeg - 1) / h.toNatClampNeg))) (nI_max (x := 1) (y := (s_lag S x.toNatClampNeg + h.toNatClampNeg - 1) / h.toNatClampNeg) (by omega) (by omega)) ?_
      refine lv_istore (lv' := [(4, .int (nI (max 1 ((s_lag S x.toNatClampNeg + h.toNatClampNeg - 1) / h.toNatClampNeg)))), (3, .int (nI (s_lag S x.toNatClampNeg))), (0, .ref (b 0)), (1, .int (nI x.toNatClampNeg)), (2, .int (nI h.toNatClampNeg))]) C.1 C.2.1 dX3_paceWanted_52 hl (by decide) rfl (fun ls hl => ?_)
      refine lv_iload_n C.1 C.2.1 dX3_paceWanted_54 rfl (lv_at hl 1 rfl) ?_
      refine gLe0 (tgt := 65) C.1 C.2.1 dX3_paceWanted_55 (by decide) (fun c_3 => ?_) (fun c_3 => ?_)
      · have hor9 : ¬ 0 < s_lag S x.toNatClampNeg ∨ s_on S = 0 := Or.inl (fun g => c_3 (by rw [show (0 : Int32) = nI 0 from rfl]; exact (nI_ltI (by omega) (by omega)).mpr g))
        refine lv_iload C.1 C.2.1 dX3_paceWanted_65 (lv_at hl 0 rfl) ?_
        refine lv_iconst (v := nI 5) C.1 C.2.1 dX3_paceWanted_67 (by decide) ?_
        refine gLeN (x := (max 1 ((s_lag S x.toNatClampNeg + h.toNatClampNeg - 1) / h.toNatClampNeg))) (y := 5) (tgt := 75) C.1 C.2.1 (by omega) (by omega) dX3_paceWanted_68 (by decide) (fun c_4 => ?_) (fun c_4 => ?_)
        · have hle9 : max 1 ((s_lag S x.toNatClampNeg + h.toNatClampNeg - 1) / h.toNatClampNeg) ≤ 5 := c_4
          refine lv_iload C.1 C.2.1 dX3_paceWanted_75 (lv_at hl 0 rfl) ?_
          exact gRi C hO rfl (by first | exact (s_pw_m hhn9.1 hor9 hle9) | exact (s_pw_m5 hhn9.1 hor9 hle9) | exact (s_pw_m0 hps9 hon9)) dX3_paceWanted_77 (Nat.le_of_ble_eq_true rfl) (Nat.le_of_ble_eq_true rfl)
        · have hle9 : ¬ max 1 ((s_lag S x.toNatClampNeg + h.toNatClampNeg - 1) / h.toNatClampNeg) ≤ 5 := by omega
          refine lv_iconst (v := (-1)) C.1 C.2.1 dX3_paceWanted_71 (by decide) ?_
          refine lv_goto (tgt := 77) C.1 C.2.1 dX3_paceWanted_72 (by decide) ?_
          exact gRi C hO rfl (by first | exact (s_pw_m hhn9.1 hor9 hle9) | exact (s_pw_m5 hhn9.1 hor9 hle9) | exact (s_pw_m0 hps9 hon9)) dX3_paceWanted_77 (Nat.le_of_ble_eq_true rfl) (Nat.le_of_ble_eq_true rfl)
      · have hps9 : 0 < s_lag S x.toNatClampNeg := (nI_ltI (by omega) (by omega)).mp (show nI 0 < nI (s_lag S x.toNatClampNeg) from c_3)
        refine lv_aload_n C.1 C.2.1 dX3_paceWanted_58 rfl (lv_at hl 2 rfl) ?_
        refine gGet (v := .int (s_on S)) (ref := RX3) (Cn := RX3) (T := TX3) (N := 19) C iX3 hO 0 rfl rfl 11 (by decide) w71 (fun _ h9 => h9) rfl dX3_paceWanted_59 ?_
        refine lv_if_ne (tgt := 71) C.1 C.2.1 dX3_paceWanted_62 (by decide) (fun c_5 => ?_) (fun c_5 => ?_)
        · have hon9 : ¬ s_on S = 0 := c_5
          refine lv_iconst (v := (-1)) C.1 C.2.1 dX3_paceWanted_71 (by decide) ?_
          refine lv_goto (tgt := 77) C.1 C.2.1 dX3_paceWanted_72 (by decide) ?_
          exact gRi C hO rfl (by first | exact (s_pw_m hhn9.1 hor9 hle9) | exact (s_pw_m5 hhn9.1 hor9 hle9) | exact (s_pw_m0 hps9 hon9)) dX3_paceWanted_77 (Nat.le_of_ble_eq_true rfl) (Nat.le_of_ble_eq_true rfl)
        · have hor9 : ¬ 0 < s_lag S x.toNatClampNeg ∨ s_on S = 0 := Or.inr c_5
          refine lv_iload C.1 C.2.1 dX3_paceWanted_65 (lv_at hl 0 rfl) ?_
          refine lv_iconst (v := nI 5) C.1 C.2.1 dX3_paceWanted_67 (by decide) ?_
          refine gLeN (x := (max 1 ((s_lag S x.toNatClampNeg + h.toNatClampNeg - 1) / h.toNatClampNeg))) (y := 5) (tgt := 75) C.1 C.2.1 (by omega) (by omega) dX3_paceWanted_68 (by decide) (fun c_6 => ?_) (fun c_6 => ?_)
          · have hle9 : max 1 ((s_lag S x.toNatClampNeg + h.toNatClampNeg - 1) / h.toNatClampNeg) ≤ 5 := c_6
            refine lv_iload C.1 C.2.1 dX3_paceWanted_75 (lv_at hl 0 rfl) ?_
            exact gRi C hO rfl (by first | exact (s_pw_m hhn9.1 hor9 hle9) | exact (s_pw_m5 hhn9.1 hor9 hle9) | exact (s_pw_m0 hps9 hon9)) dX3_paceWanted_77 (Nat.le_of_ble_eq_true rfl) (Nat.le_of_ble_eq_true rfl)
          · have hle9 : ¬ max 1 ((s_lag S x.toNatClampNeg + h.toNatClampNeg - 1) / h.toNatClampNeg) ≤ 5 := by omega
            refine lv_iconst (v := (-1)) C.1 C.2.1 dX3_paceWanted_71 (by decide) ?_
            refine lv_goto (tgt := 77) C.1 C.2.1 dX3_paceWanted_72 (by decide) ?_
            exact gRi C hO rfl (by first | exact (s_pw_m hhn9.1 hor9 hle9) | exact (s_pw_m5 hhn9.1 hor9 hle9) | exact (s_pw_m0 hps9 hon9)) dX3_paceWanted_77 (Nat.le_of_ble_eq_true rfl) (Nat.le_of_ble_eq_true rfl)
    · exact absurd hok.2 (bF c_2)
  · exact absurd hok.1 (bF c_1)

set_option maxHeartbeats 4000000 in
set_option maxRecDepth 100000 in
theorem c_X3_paceWanted_no (l : Launch) (E : gE) (b : Nat → Nat) (S : St) (th : Int32) (mk : Nat → Int32) (F : va_W) (x h : Int32) (hI : s_inv S) (hsr : s_srt S) (hok : ¬ okShip S x) : gMi l E yX3_paceWanted wsX3_paceWanted ({ frames := 2, cells := 0, slots := 0, locals := 43 }) (mW E b S th mk ++ F) [.ref (b 0), .int x, .int h] 0 (mW E b S 1 mk ++ F) 0 0 := by
  refine gMi.of (cc := cX3_paceWanted) (maxL := 5) (ty := .int) (by decide) rfl (Nat.le_of_ble_eq_true rfl) ?_
  intro p e s m args below meth c A C ls hl hO
  have hl : lv_has ls 5 [(0, .ref (b 0)), (1, .int x), (2, .int h)] := hl
  have iX3 : ∀ w ∈ u_ws RX3 TX3 19, w ∈ wsX3_paceWanted := by decide +kernel
  have w44 : Cond.fieldLink RX3 44 "ParrotLogModel" "thrown" "I" ∈ wsX3_paceWanted := by decide +kernel
  obtain ⟨hn, hsh, hsc, hOn, hOb, hok9, hpc9, hp0⟩ := hI
  refine lv_aload_n C.1 C.2.1 dX3_paceWanted_0 rfl (lv_at hl 0 rfl) ?_
  refine lv_iconst (v := 0) C.1 C.2.1 dX3_paceWanted_1 (by decide) ?_
  refine gPut (ws' := (mW E b S 0 mk ++ F)) (ref := RX3) (Cn := RX3) (T := TX3) (N := 19) C iX3 tyX3 tyX3_ok nmX3 hO 0 rfl rfl 0 (by decide) w44 (fun _ h9 => h9) rfl (by decide +kernel) rfl rfl (Nat.le_of_ble_eq_true rfl) rfl dX3_paceWanted_2 (fun H locs hO => ?_)
  refine lv_aload_n C.1 C.2.1 dX3_paceWanted_5 rfl (lv_at hl 0 rfl) ?_
  refine lv_iload_n C.1 C.2.1 dX3_paceWanted_6 rfl (lv_at hl 1 rfl) ?_
  refine gCall_i (As := [.int x]) (rest := []) C hO (c_X3_isShip l E b S 0 mk F x (by omega)) (cwV 1 C.2.2.2.2.1 gX3_paceWanted_X3_isShip rfl rfl rfl (by decide +kernel) ⟨(Nat.le_of_ble_eq_true rfl), (Nat.le_of_ble_eq_true rfl)⟩) (va_recv C.2.2.2.2.2.2.2.1.1 hO.1 (ci := 3) (q0 := 0) rfl rfl) rfl hl.1 rfl (Nat.le_of_ble_eq_true rfl) dX3_paceWanted_7 ⟨(Nat.le_of_ble_eq_true rfl), (Nat.le_of_ble_eq_true rfl)⟩ (fun H locs hO => ?_)
  refine lv_if_ne (tgt := 19) C.1 C.2.1 dX3_paceWanted_10 (by decide) (fun c_1 => ?_) (fun c_1 => ?_)
  · exact absurd (bT c_1) hok
  · refine lv_aload_n C.1 C.2.1 dX3_paceWanted_13 rfl (lv_at hl 0 rfl) ?_
    refine lv_iconst (v := 1) C.1 C.2.1 dX3_paceWanted_14 (by decide) ?_
    refine gCall_i (As := [.int 1]) (rest := []) C hO (c_X3_fail l E b S 0 mk F 1) (cwV 1 C.2.2.2.2.1 gX3_paceWanted_X3_fail rfl rfl rfl (by decide +kernel) ⟨(Nat.le_of_ble_eq_true rfl), (Nat.le_of_ble_eq_true rfl)⟩) (va_recv C.2.2.2.2.2.2.2.1.1 hO.1 (ci := 3) (q0 := 0) rfl rfl) rfl hl.1 rfl (Nat.le_of_ble_eq_true rfl) dX3_paceWanted_15 ⟨(Nat.le_of_ble_eq_true rfl), (Nat.le_of_ble_eq_true rfl)⟩ (fun H locs hO => ?_)
    have hO : gO E A s (mW E b S 1 mk ++ F) H locs := hO
    exact gRi C hO rfl rfl dX3_paceWanted_18 (Nat.le_of_ble_eq_true rfl) (Nat.le_of_ble_eq_true rfl)

set_option maxHeartbeats 4000000 in
set_option maxRecDepth 100000 in
theorem c_X3_paceWanted_no2 (l : Launch) (E : gE) (b : Nat → Nat) (S : St) (th : Int32) (mk : Nat → Int32) (F : va_W) (x h : Int32) (hI : s_inv S) (hsr : s_srt S) (hok : okShip S x ∧ ¬ okHours h) : gMi l E yX3_paceWanted wsX3_paceWanted ({ frames := 2, cells := 0, slots := 0, locals := 43 }) (mW E b S th mk ++ F) [.ref (b 0), .int x, .int h] 0 (mW E b S 2 mk ++ F) 0 0 := by
  refine gMi.of (cc := cX3_paceWanted) (maxL := 5) (ty := .int) (by decide) rfl (Nat.le_of_ble_eq_true rfl) ?_
  intro p e s m args below meth c A C ls hl hO
  have hl : lv_has ls 5 [(0, .ref (b 0)), (1, .int x), (2, .int h)] := hl
  have iX3 : ∀ w ∈ u_ws RX3 TX3 19, w ∈ wsX3_paceWanted := by decide +kernel
  have w44 : Cond.fieldLink RX3 44 "ParrotLogModel" "thrown" "I" ∈ wsX3_paceWanted := by decide +kernel
  obtain ⟨hn, hsh, hsc, hOn, hOb, hok9, hpc9, hp0⟩ := hI
  refine lv_aload_n C.1 C.2.1 dX3_paceWanted_0 rfl (lv_at hl 0 rfl) ?_
  refine lv_iconst (v := 0) C.1 C.2.1 dX3_paceWanted_1 (by decide) ?_
  refine gPut (ws' := (mW E b S 0 mk ++ F)) (ref := RX3) (Cn := RX3) (T := TX3) (N := 19) C iX3 tyX3 tyX3_ok nmX3 hO 0 rfl rfl 0 (by decide) w44 (fun _ h9 => h9) rfl (by decide +kernel) rfl rfl (Nat.le_of_ble_eq_true rfl) rfl dX3_paceWanted_2 (fun H locs hO => ?_)
  refine lv_aload_n C.1 C.2.1 dX3_paceWanted_5 rfl (lv_at hl 0 rfl) ?_
  refine lv_iload_n C.1 C.2.1 dX3_paceWanted_6 rfl (lv_at hl 1 rfl) ?_
  refine gCall_i (As := [.int x]) (rest := []) C hO (c_X3_isShip l E b S 0 mk F x (by omega)) (cwV 1 C.2.2.2.2.1 gX3_paceWanted_X3_isShip rfl rfl rfl (by decide +kernel) ⟨(Nat.le_of_ble_eq_true rfl), (Nat.le_of_ble_eq_true rfl)⟩) (va_recv C.2.2.2.2.2.2.2.1.1 hO.1 (ci := 3) (q0 := 0) rfl rfl) rfl hl.1 rfl (Nat.le_of_ble_eq_true rfl) dX3_paceWanted_7 ⟨(Nat.le_of_ble_eq_true rfl), (Nat.le_of_ble_eq_true rfl)⟩ (fun H locs hO => ?_)
  refine lv_if_ne (tgt := 19) C.1 C.2.1 dX3_paceWanted_10 (by decide) (fun c_1 => ?_) (fun c_1 => ?_)
  · refine lv_iload_n C.1 C.2.1 dX3_paceWanted_19 rfl (lv_at hl 2 rfl) ?_
    refine lv_iconst (v := 1) C.1 C.2.1 dX3_paceWanted_20 (by decide) ?_
    refine lv_bipush (v := nI 60) C.1 C.2.1 dX3_paceWanted_21 (by decide) ?_
    refine gCallS_i (As := [.int h, .int 1, .int (nI 60)]) (rest := []) C hO (c_X3_isIn l E b S 0 mk F h 1 (nI 60)) (cwS 3 C.2.2.2.2.1 gX3_paceWanted_X3_isIn rfl rfl rfl (by decide +kernel) ⟨(Nat.le_of_ble_eq_true rfl), (Nat.le_of_ble_eq_true rfl)⟩) rfl hl.1 rfl (Nat.le_of_ble_eq_true rfl) dX3_paceWanted_23 ⟨(Nat.le_of_ble_eq_true rfl), (Nat.le_of_ble_eq_true rfl)⟩ (fun H locs hO => ?_)
    refine lv_if_ne (tgt := 35) C.1 C.2.1 dX3_paceWanted_26 (by decide) (fun c_2 => ?_) (fun c_2 => ?_)
    · exact absurd (bT c_2) hok.2
    · refine lv_aload_n C.1 C.2.1 dX3_paceWanted_29 rfl (lv_at hl 0 rfl) ?_
      refine lv_iconst (v := nI 2) C.1 C.2.1 dX3_paceWanted_30 (by decide) ?_
      refine gCall_i (As := [.int (nI 2)]) (rest := []) C hO (c_X3_fail l E b S 0 mk F (nI 2)) (cwV 1 C.2.2.2.2.1 gX3_paceWanted_X3_fail rfl rfl rfl (by decide +kernel) ⟨(Nat.le_of_ble_eq_true rfl), (Nat.le_of_ble_eq_true rfl)⟩) (va_recv C.2.2.2.2.2.2.2.1.1 hO.1 (ci := 3) (q0 := 0) rfl rfl) rfl hl.1 rfl (Nat.le_of_ble_eq_true rfl) dX3_paceWanted_31 ⟨(Nat.le_of_ble_eq_true rfl), (Nat.le_of_ble_eq_true rfl)⟩ (fun H locs hO => ?_)
      have hO : gO E A s (mW E b S (nI 2) mk ++ F) H locs := hO
      exact gRi C hO rfl rfl dX3_paceWanted_34 (Nat.le_of_ble_eq_true rfl) (Nat.le_of_ble_eq_true rfl)
  · exact absurd hok.1 (bF c_1)

set_option maxHeartbeats 4000000 in
set_option maxRecDepth 100000 in
theorem c_X3_misses (l : Launch) (E : gE) (b : Nat → Nat) (S : St) (th : Int32) (mk : Nat → Int32) (F : va_W) (i : Nat) (hn : s_n S ≤ 48) (hsh : s_sh S ≤ 6) (hi : i < 6) (hok9 : s_ok S) : gMi l E yX3_misses wsX3_misses ({ frames := 2, cells := 1, slots := 10, locals := 37 }) (mW E b S th mk ++ F) [.ref (b 0), .int (nI i)] (nI (s_wm S i)) (mW E b S th (mkU (s_cm S) mk (s_n S)) ++ F) 1 10 := by
  refine gMi.of (cc := cX3_misses) (maxL := 4) (ty := .int) (by decide) rfl (Nat.le_of_ble_eq_true rfl) ?_
  intro p e s m args below meth c A C ls hl hO
  have hl : lv_has ls 4 [(0, .ref (b 0)), (1, .int (nI i))] := hl
  have iX3 : ∀ w ∈ u_ws RX3 TX3 19, w ∈ wsX3_misses := by decide +kernel
  have w32 : Cond.fieldLink RX3 32 "ParrotLogModel" "at" "[I" ∈ wsX3_misses := by decide +kernel
  have w58 : Cond.fieldLink RX3 58 "ParrotLogModel" "many" "I" ∈ wsX3_misses := by decide +kernel
  have w22 : Cond.fieldLink RX3 22 "ParrotLogModel" "goes" "[Z" ∈ wsX3_misses := by decide +kernel
  refine lv_aload_n C.1 C.2.1 dX3_misses_0 rfl (lv_at hl 0 rfl) ?_
  refine gCall_i (As := []) (rest := []) C hO (c_X3_mark l E b S th mk F (by omega) (by omega) hok9) (cwV 0 C.2.2.2.2.1 gX3_misses_X3_mark rfl rfl rfl (by decide +kernel) ⟨(Nat.le_of_ble_eq_true rfl), (Nat.le_of_ble_eq_true rfl)⟩) (va_recv C.2.2.2.2.2.2.2.1.1 hO.1 (ci := 3) (q0 := 0) rfl rfl) rfl hl.1 rfl (Nat.le_of_ble_eq_true rfl) dX3_misses_1 ⟨(Nat.le_of_ble_eq_true rfl), (Nat.le_of_ble_eq_true rfl)⟩ (fun H locs hO => ?_)
  have hO : gO E A s (mW E b S th (mkU (s_cm S) mk (s_n S)) ++ F) H locs := hO
  refine lv_pop C.1 C.2.1 dX3_misses_4 rfl ?_
  refine lv_iconst (v := 0) C.1 C.2.1 dX3_misses_5 (by decide) ?_
  refine lv_istore_n (lv' := [(2, .int 0), (0, .ref (b 0)), (1, .int (nI i))]) C.1 C.2.1 dX3_misses_6 rfl hl (by decide) rfl (fun ls hl => ?_)
  refine lv_aload_n C.1 C.2.1 dX3_misses_7 rfl (lv_at hl 1 rfl) ?_
  refine lv_aload_n C.1 C.2.1 dX3_misses_8 rfl (lv_at hl 1 rfl) ?_
  refine gGet (v := .ref (b 8)) (ref := RX3) (Cn := RX3) (T := TX3) (N := 19) C iX3 hO 0 rfl rfl 15 (by decide) w32 (fun _ h9 => h9) rfl dX3_misses_9 ?_
  refine lv_iload_n C.1 C.2.1 dX3_misses_12 rfl (lv_at hl 2 rfl) ?_
  refine gIald (v := (s_at S) i) (j := i) C hO 8 rfl (by omega) (by decide) rfl dX3_misses_13 ?_
  refine gCall_i (As := [.int ((s_at S) i)]) (rest := []) C hO (c_X3_from l E b S th (mkU (s_cm S) mk (s_n S)) F ((s_at S) i) (by omega)) (cwV 1 C.2.2.2.2.1 gX3_misses_X3_from rfl rfl rfl (by decide +kernel) ⟨(Nat.le_of_ble_eq_true rfl), (Nat.le_of_ble_eq_true rfl)⟩) (va_recv C.2.2.2.2.2.2.2.1.1 hO.1 (ci := 3) (q0 := 0) rfl rfl) rfl hl.1 rfl (Nat.le_of_ble_eq_true rfl) dX3_misses_14 ⟨(Nat.le_of_ble_eq_true rfl), (Nat.le_of_ble_eq_true rfl)⟩ (fun H locs hO => ?_)
  refine lv_istore_n (lv' := [(3, .int (nI (pf (s_off S) ((s_at S) i) (s_n S)))), (2, .int 0), (0, .ref (b 0)), (1, .int (nI i))]) C.1 C.2.1 dX3_misses_17 rfl hl (by decide) rfl (fun ls hl => ?_)
  have lp24 : ∀ (f : Nat) (k24 : Nat) (c2 : Nat), (s_n S + 1 ≤ k24 + f) → (k24 ≤ s_n S) → (pf (s_off S) (s_at S i) (s_n S) ≤ k24) → (c2 = cm (mkU (s_cm S) mk (s_n S)) (pf (s_off S) (s_at S i) (s_n S)) k24) → ∀ (H : Heap) (locs : List Loc), gO E A s (mW E b S th (mkU (s_cm S) mk (s_n S)) ++ F) H locs → ∀ ls : Array Slot, lv_has ls 4 [(0, .ref (b 0)), (1, .int (nI i)), (2, .int (nI c2)), (3, .int (nI k24))] → W p l e ({ frames := 2, cells := 1, slots := 10, locals := 37 } : Room) s m args below meth c H locs 1 10 (MQ below (gQi E A (nI (s_wm S i)) (mW E b S th (mkU (s_cm S) mk (s_n S)) ++ F)) args s 1 10 A) (F0 m 18 ls []) := by
    intro f
    induction f with
    | zero =>
      intro k24 c2 hf hk24 hfr9 hc24
      exact absurd hf (by omega)
    | succ f ih_lp24 =>
      intro k24 c2 hf hk24 hfr9 hc24 H locs hO ls hl
      refine lv_iload_n C.1 C.2.1 dX3_misses_18 rfl (lv_at hl 3 rfl) ?_
      refine lv_aload_n C.1 C.2.1 dX3_misses_19 rfl (lv_at hl 0 rfl) ?_
      refine gGet (v := .int (nI (s_n S))) (ref := RX3) (Cn := RX3) (T := TX3) (N := 19) C iX3 hO 0 rfl rfl 1 (by decide) w58 (fun _ h9 => h9) rfl dX3_misses_20 ?_
      refine gGeN (x := k24) (y := (s_n S)) (tgt := 49) C.1 C.2.1 (by omega) (by omega) dX3_misses_23 (by decide) (fun c_1 => ?_) (fun c_1 => ?_)
      · refine lv_iload_n C.1 C.2.1 dX3_misses_49 rfl (lv_at hl 2 rfl) ?_
        exact gRi C hO rfl (by rw [hc24, show k24 = s_n S by omega, cm_mkU]; rfl) dX3_misses_50 (Nat.le_of_ble_eq_true rfl) (Nat.le_of_ble_eq_true rfl)
      · refine lv_iload_n C.1 C.2.1 dX3_misses_26 rfl (lv_at hl 2 rfl) ?_
        refine lv_aload_n C.1 C.2.1 dX3_misses_27 rfl (lv_at hl 0 rfl) ?_
        refine gGet (v := .ref (b 5)) (ref := RX3) (Cn := RX3) (T := TX3) (N := 19) C iX3 hO 0 rfl rfl 6 (by decide) w22 (fun _ h9 => h9) rfl dX3_misses_28 ?_
        refine lv_iload_n C.1 C.2.1 dX3_misses_31 rfl (lv_at hl 3 rfl) ?_
        refine gZald (v := (mkU (s_cm S) mk (s_n S)) k24) (j := k24) C hO 5 rfl (by omega) (by decide) rfl dX3_misses_32 ?_
        refine lv_if_eq (tgt := 40) C.1 C.2.1 dX3_misses_33 (by decide) (fun c_2 => ?_) (fun c_2 => ?_)
        · have hz9 : (mkU (s_cm S) mk (s_n S)) k24 = 0 := c_2
          refine lv_iconst (v := 0) C.1 C.2.1 dX3_misses_40 (by decide) ?_
          refine gAddN (x := c2) (y := 0) C.1 C.2.1 dX3_misses_41 ?_
          refine lv_istore_n (lv' := [(2, .int (nI (c2 + 0))), (0, .ref (b 0)), (1, .int (nI i)), (3, .int (nI k24))]) C.1 C.2.1 dX3_misses_42 rfl hl (by decide) rfl (fun ls hl => ?_)
          refine gInc (j := k24) (k := 3) (lv' := [(3, .int (nI (k24 + 1))), (2, .int (nI (c2 + 0))), (0, .ref (b 0)), (1, .int (nI i))]) C.1 C.2.1 dX3_misses_43 hl rfl (by decide) rfl (fun ls hl => ?_)
          refine lv_goto (tgt := 18) C.1 C.2.1 dX3_misses_46 (by decide) ?_
          exact ih_lp24 (k24 + 1) (c2 + 0) (by omega) (by omega) (by omega) (by first | (rw [hc24, cm_s0 hz9]; done) | (rw [hc24, cm_s1 hfr9 hz9]; done) | (rw [hc24, cm_s0 hz9]; rfl)) _ _ hO _ (lv_sub hl [2, 3, 1, 0] rfl)
        · have hz9 : ¬ (mkU (s_cm S) mk (s_n S)) k24 = 0 := c_2
          refine lv_iconst (v := 1) C.1 C.2.1 dX3_misses_36 (by decide) ?_
          refine lv_goto (tgt := 41) C.1 C.2.1 dX3_misses_37 (by decide) ?_
          refine gAddN (x := c2) (y := 1) C.1 C.2.1 dX3_misses_41 ?_
          refine lv_istore_n (lv' := [(2, .int (nI (c2 + 1))), (0, .ref (b 0)), (1, .int (nI i)), (3, .int (nI k24))]) C.1 C.2.1 dX3_misses_42 rfl hl (by decide) rfl (fun ls hl => ?_)
          refine gInc (j := k24) (k := 3) (lv' := [(3, .int (nI (k24 + 1))), (2, .int (nI (c2 + 1))), (0, .ref (b 0)), (1, .int (nI i))]) C.1 C.2.1 dX3_misses_43 hl rfl (by decide) rfl (fun ls hl => ?_)
          refine lv_goto (tgt := 18) C.1 C.2.1 dX3_misses_46 (by decide) ?_
          exact ih_lp24 (k24 + 1) (c2 + 1) (by omega) (by omega) (by omega) (by first | (rw [hc24, cm_s0 hz9]; done) | (rw [hc24, cm_s1 hfr9 hz9]; done) | (rw [hc24, cm_s0 hz9]; rfl)) _ _ hO _ (lv_sub hl [2, 3, 1, 0] rfl)
  refine W.widen (k := 1) (n := 10) (by omega) (by omega) ?_
  exact lp24 (s_n S + 1) (pf (s_off S) (s_at S i) (s_n S)) 0 (by omega) (pf_le _ _ _) (Nat.le_refl _) ((cm_fr _ _ _ (Nat.le_refl _)).symm) _ _ hO _ (lv_sub hl [2, 3, 1, 0] rfl)

set_option maxHeartbeats 4000000 in
set_option maxRecDepth 100000 in
theorem c_X3_wouldCompact (l : Launch) (E : gE) (b : Nat → Nat) (S : St) (th : Int32) (mk : Nat → Int32) (F : va_W)  (hI : s_inv S) (hsr : s_srt S) : gMi l E yX3_wouldCompact wsX3_wouldCompact ({ frames := 2, cells := 1, slots := 10, locals := 37 }) (mW E b S th mk ++ F) [.ref (b 0)] (nI (s_wc S)) (mW E b S 0 (mkU (s_cm S) mk (s_n S)) ++ F) 1 10 := by
  refine gMi.of (cc := cX3_wouldCompact) (maxL := 1) (ty := .int) (by decide) rfl (Nat.le_of_ble_eq_true rfl) ?_
  intro p e s m args below meth c A C ls hl hO
  have hl : lv_has ls 1 [(0, .ref (b 0))] := hl
  have iX3 : ∀ w ∈ u_ws RX3 TX3 19, w ∈ wsX3_wouldCompact := by decide +kernel
  have w44 : Cond.fieldLink RX3 44 "ParrotLogModel" "thrown" "I" ∈ wsX3_wouldCompact := by decide +kernel
  obtain ⟨hn, hsh, hsc, hOn, hOb, hok9, hpc9, hp0⟩ := hI
  refine lv_aload_n C.1 C.2.1 dX3_wouldCompact_0 rfl (lv_at hl 0 rfl) ?_
  refine lv_iconst (v := 0) C.1 C.2.1 dX3_wouldCompact_1 (by decide) ?_
  refine gPut (ws' := (mW E b S 0 mk ++ F)) (ref := RX3) (Cn := RX3) (T := TX3) (N := 19) C iX3 tyX3 tyX3_ok nmX3 hO 0 rfl rfl 0 (by decide) w44 (fun _ h9 => h9) rfl (by decide +kernel) rfl rfl (Nat.le_of_ble_eq_true rfl) rfl dX3_wouldCompact_2 (fun H locs hO => ?_)
  refine lv_aload_n C.1 C.2.1 dX3_wouldCompact_5 rfl (lv_at hl 0 rfl) ?_
  refine gCall_i (As := []) (rest := []) C hO (c_X3_mark l E b S 0 mk F (by omega) (by omega) hok9) (cwV 0 C.2.2.2.2.1 gX3_wouldCompact_X3_mark rfl rfl rfl (by decide +kernel) ⟨(Nat.le_of_ble_eq_true rfl), (Nat.le_of_ble_eq_true rfl)⟩) (va_recv C.2.2.2.2.2.2.2.1.1 hO.1 (ci := 3) (q0 := 0) rfl rfl) rfl hl.1 rfl (Nat.le_of_ble_eq_true rfl) dX3_wouldCompact_6 ⟨(Nat.le_of_ble_eq_true rfl), (Nat.le_of_ble_eq_true rfl)⟩ (fun H locs hO => ?_)
  have hO : gO E A s (mW E b S 0 (mkU (s_cm S) mk (s_n S)) ++ F) H locs := hO
  exact gRi C hO rfl rfl dX3_wouldCompact_9 (Nat.le_of_ble_eq_true rfl) (Nat.le_of_ble_eq_true rfl)

set_option maxHeartbeats 4000000 in
set_option maxRecDepth 100000 in
theorem c_X3_wouldMiss_ok (l : Launch) (E : gE) (b : Nat → Nat) (S : St) (th : Int32) (mk : Nat → Int32) (F : va_W) (x : Int32) (hI : s_inv S) (hsr : s_srt S) (hok : okShip S x) : gMi l E yX3_wouldMiss wsX3_wouldMiss ({ frames := 3, cells := 1, slots := 10, locals := 60 }) (mW E b S th mk ++ F) [.ref (b 0), .int x] (nI (s_wm S x.toNatClampNeg)) (mW E b S 0 (mkU (s_cm S) mk (s_n S)) ++ F) 1 10 := by
  refine gMi.of (cc := cX3_wouldMiss) (maxL := 2) (ty := .int) (by decide) rfl (Nat.le_of_ble_eq_true rfl) ?_
  intro p e s m args below meth c A C ls hl hO
  have hl : lv_has ls 2 [(0, .ref (b 0)), (1, .int x)] := hl
  have iX3 : ∀ w ∈ u_ws RX3 TX3 19, w ∈ wsX3_wouldMiss := by decide +kernel
  have w44 : Cond.fieldLink RX3 44 "ParrotLogModel" "thrown" "I" ∈ wsX3_wouldMiss := by decide +kernel
  obtain ⟨hn, hsh, hsc, hOn, hOb, hok9, hpc9, hp0⟩ := hI
  refine lv_aload_n C.1 C.2.1 dX3_wouldMiss_0 rfl (lv_at hl 0 rfl) ?_
  refine lv_iconst (v := 0) C.1 C.2.1 dX3_wouldMiss_1 (by decide) ?_
  refine gPut (ws' := (mW E b S 0 mk ++ F)) (ref := RX3) (Cn := RX3) (T := TX3) (N := 19) C iX3 tyX3 tyX3_ok nmX3 hO 0 rfl rfl 0 (by decide) w44 (fun _ h9 => h9) rfl (by decide +kernel) rfl rfl (Nat.le_of_ble_eq_true rfl) rfl dX3_wouldMiss_2 (fun H locs hO => ?_)
  refine lv_aload_n C.1 C.2.1 dX3_wouldMiss_5 rfl (lv_at hl 0 rfl) ?_
  refine lv_iload_n C.1 C.2.1 dX3_wouldMiss_6 rfl (lv_at hl 1 rfl) ?_
  refine gCall_i (As := [.int x]) (rest := []) C hO (c_X3_isShip l E b S 0 mk F x (by omega)) (cwV 1 C.2.2.2.2.1 gX3_wouldMiss_X3_isShip rfl rfl rfl (by decide +kernel) ⟨(Nat.le_of_ble_eq_true rfl), (Nat.le_of_ble_eq_true rfl)⟩) (va_recv C.2.2.2.2.2.2.2.1.1 hO.1 (ci := 3) (q0 := 0) rfl rfl) rfl hl.1 rfl (Nat.le_of_ble_eq_true rfl) dX3_wouldMiss_7 ⟨(Nat.le_of_ble_eq_true rfl), (Nat.le_of_ble_eq_true rfl)⟩ (fun H locs hO => ?_)
  refine lv_if_eq (tgt := 21) C.1 C.2.1 dX3_wouldMiss_10 (by decide) (fun c_1 => ?_) (fun c_1 => ?_)
  · exact absurd hok (bF c_1)
  · have hj9 := okNat (by omega) hok.1 hok.2
    have hi9 : x.toNatClampNeg < 6 := by omega
    have hl : lv_has ls 2 [(0, .ref (b 0)), (1, .int (nI (x.toNatClampNeg)))] := by rw [← hj9.2]; exact hl
    refine lv_aload_n C.1 C.2.1 dX3_wouldMiss_13 rfl (lv_at hl 0 rfl) ?_
    refine lv_iload_n C.1 C.2.1 dX3_wouldMiss_14 rfl (lv_at hl 1 rfl) ?_
    refine gCall_i (As := [.int (nI x.toNatClampNeg)]) (rest := []) C hO (c_X3_misses l E b S 0 mk F x.toNatClampNeg (by omega) (by omega) (by omega) hok9) (cwV 1 C.2.2.2.2.1 gX3_wouldMiss_X3_misses rfl rfl rfl (by decide +kernel) ⟨(Nat.le_of_ble_eq_true rfl), (Nat.le_of_ble_eq_true rfl)⟩) (va_recv C.2.2.2.2.2.2.2.1.1 hO.1 (ci := 3) (q0 := 0) rfl rfl) rfl hl.1 rfl (Nat.le_of_ble_eq_true rfl) dX3_wouldMiss_15 ⟨(Nat.le_of_ble_eq_true rfl), (Nat.le_of_ble_eq_true rfl)⟩ (fun H locs hO => ?_)
    have hO : gO E A s (mW E b S 0 (mkU (s_cm S) mk (s_n S)) ++ F) H locs := hO
    refine lv_goto (tgt := 26) C.1 C.2.1 dX3_wouldMiss_18 (by decide) ?_
    exact gRi C hO rfl rfl dX3_wouldMiss_26 (Nat.le_of_ble_eq_true rfl) (Nat.le_of_ble_eq_true rfl)

set_option maxHeartbeats 4000000 in
set_option maxRecDepth 100000 in
theorem c_X3_wouldMiss_no (l : Launch) (E : gE) (b : Nat → Nat) (S : St) (th : Int32) (mk : Nat → Int32) (F : va_W) (x : Int32) (hI : s_inv S) (hsr : s_srt S) (hok : ¬ okShip S x) : gMi l E yX3_wouldMiss wsX3_wouldMiss ({ frames := 2, cells := 0, slots := 0, locals := 43 }) (mW E b S th mk ++ F) [.ref (b 0), .int x] 0 (mW E b S 1 mk ++ F) 0 0 := by
  refine gMi.of (cc := cX3_wouldMiss) (maxL := 2) (ty := .int) (by decide) rfl (Nat.le_of_ble_eq_true rfl) ?_
  intro p e s m args below meth c A C ls hl hO
  have hl : lv_has ls 2 [(0, .ref (b 0)), (1, .int x)] := hl
  have iX3 : ∀ w ∈ u_ws RX3 TX3 19, w ∈ wsX3_wouldMiss := by decide +kernel
  have w44 : Cond.fieldLink RX3 44 "ParrotLogModel" "thrown" "I" ∈ wsX3_wouldMiss := by decide +kernel
  obtain ⟨hn, hsh, hsc, hOn, hOb, hok9, hpc9, hp0⟩ := hI
  refine lv_aload_n C.1 C.2.1 dX3_wouldMiss_0 rfl (lv_at hl 0 rfl) ?_
  refine lv_iconst (v := 0) C.1 C.2.1 dX3_wouldMiss_1 (by decide) ?_
  refine gPut (ws' := (mW E b S 0 mk ++ F)) (ref := RX3) (Cn := RX3) (T := TX3) (N := 19) C iX3 tyX3 tyX3_ok nmX3 hO 0 rfl rfl 0 (by decide) w44 (fun _ h9 => h9) rfl (by decide +kernel) rfl rfl (Nat.le_of_ble_eq_true rfl) rfl dX3_wouldMiss_2 (fun H locs hO => ?_)
  refine lv_aload_n C.1 C.2.1 dX3_wouldMiss_5 rfl (lv_at hl 0 rfl) ?_
  refine lv_iload_n C.1 C.2.1 dX3_wouldMiss_6 rfl (lv_at hl 1 rfl) ?_
  refine gCall_i (As := [.int x]) (rest := []) C hO (c_X3_isShip l E b S 0 mk F x (by omega)) (cwV 1 C.2.2.2.2.1 gX3_wouldMiss_X3_isShip rfl rfl rfl (by decide +kernel) ⟨(Nat.le_of_ble_eq_true rfl), (Nat.le_of_ble_eq_true rfl)⟩) (va_recv C.2.2.2.2.2.2.2.1.1 hO.1 (ci := 3) (q0 := 0) rfl rfl) rfl hl.1 rfl (Nat.le_of_ble_eq_true rfl) dX3_wouldMiss_7 ⟨(Nat.le_of_ble_eq_true rfl), (Nat.le_of_ble_eq_true rfl)⟩ (fun H locs hO => ?_)
  refine lv_if_eq (tgt := 21) C.1 C.2.1 dX3_wouldMiss_10 (by decide) (fun c_1 => ?_) (fun c_1 => ?_)
  · refine lv_aload_n C.1 C.2.1 dX3_wouldMiss_21 rfl (lv_at hl 0 rfl) ?_
    refine lv_iconst (v := 1) C.1 C.2.1 dX3_wouldMiss_22 (by decide) ?_
    refine gCall_i (As := [.int 1]) (rest := []) C hO (c_X3_fail l E b S 0 mk F 1) (cwV 1 C.2.2.2.2.1 gX3_wouldMiss_X3_fail rfl rfl rfl (by decide +kernel) ⟨(Nat.le_of_ble_eq_true rfl), (Nat.le_of_ble_eq_true rfl)⟩) (va_recv C.2.2.2.2.2.2.2.1.1 hO.1 (ci := 3) (q0 := 0) rfl rfl) rfl hl.1 rfl (Nat.le_of_ble_eq_true rfl) dX3_wouldMiss_23 ⟨(Nat.le_of_ble_eq_true rfl), (Nat.le_of_ble_eq_true rfl)⟩ (fun H locs hO => ?_)
    have hO : gO E A s (mW E b S 1 mk ++ F) H locs := hO
    exact gRi C hO rfl rfl dX3_wouldMiss_26 (Nat.le_of_ble_eq_true rfl) (Nat.le_of_ble_eq_true rfl)
  · exact absurd (bT c_1) hok

set_option maxHeartbeats 4000000 in
set_option maxRecDepth 100000 in
theorem c_X3_meanLag (l : Launch) (E : gE) (b : Nat → Nat) (S : St) (th : Int32) (mk : Nat → Int32) (F : va_W)  (hI : s_inv S) (hsr : s_srt S) : gMd l E yX3_meanLag wsX3_meanLag ({ frames := 2, cells := 0, slots := 0, locals := 43 }) (mW E b S th mk ++ F) [.ref (b 0)] (s_ml S) (mW E b S 0 mk ++ F) 0 0 := by
  refine gMd.of (cc := cX3_meanLag) (maxL := 3) (by decide) rfl (Nat.le_of_ble_eq_true rfl) ?_
  intro p e s m args below meth c A C ls hl hO
  have hl : lv_has ls 3 [(0, .ref (b 0))] := hl
  have iX3 : ∀ w ∈ u_ws RX3 TX3 19, w ∈ wsX3_meanLag := by decide +kernel
  have w44 : Cond.fieldLink RX3 44 "ParrotLogModel" "thrown" "I" ∈ wsX3_meanLag := by decide +kernel
  have w48 : Cond.fieldLink RX3 48 "ParrotLogModel" "ships" "I" ∈ wsX3_meanLag := by decide +kernel
  obtain ⟨hn, hsh, hsc, hOn, hOb, hok9, hpc9, hp0⟩ := hI
  refine lv_aload_n C.1 C.2.1 dX3_meanLag_0 rfl (lv_at hl 0 rfl) ?_
  refine lv_iconst (v := 0) C.1 C.2.1 dX3_meanLag_1 (by decide) ?_
  refine gPut (ws' := (mW E b S 0 mk ++ F)) (ref := RX3) (Cn := RX3) (T := TX3) (N := 19) C iX3 tyX3 tyX3_ok nmX3 hO 0 rfl rfl 0 (by decide) w44 (fun _ h9 => h9) rfl (by decide +kernel) rfl rfl (Nat.le_of_ble_eq_true rfl) rfl dX3_meanLag_2 (fun H locs hO => ?_)
  refine lv_iconst (v := 0) C.1 C.2.1 dX3_meanLag_5 (by decide) ?_
  refine lv_istore_n (lv' := [(1, .int 0), (0, .ref (b 0))]) C.1 C.2.1 dX3_meanLag_6 rfl hl (by decide) rfl (fun ls hl => ?_)
  refine lv_iconst (v := 0) C.1 C.2.1 dX3_meanLag_7 (by decide) ?_
  refine lv_istore_n (lv' := [(2, .int 0), (1, .int 0), (0, .ref (b 0))]) C.1 C.2.1 dX3_meanLag_8 rfl hl (by decide) rfl (fun ls hl => ?_)
  have lp24 : ∀ (f : Nat) (k24 : Nat), (s_sh S + 1 ≤ k24 + f) → (k24 ≤ s_sh S) → ∀ (H : Heap) (locs : List Loc), gO E A s (mW E b S 0 mk ++ F) H locs → ∀ ls : Array Slot, lv_has ls 3 [(0, .ref (b 0)), (1, .int (nI (s_sl S k24))), (2, .int (nI k24))] → W p l e ({ frames := 2, cells := 0, slots := 0, locals := 43 } : Room) s m args below meth c H locs 0 0 (MQ below (gQd E A (s_ml S) (mW E b S 0 mk ++ F)) args s 0 0 A) (F0 m 9 ls []) := by
    intro f
    induction f with
    | zero =>
      intro k24 hf hk24
      exact absurd hf (by omega)
    | succ f ih_lp24 =>
      intro k24 hf hk24 H locs hO ls hl
      refine lv_iload_n C.1 C.2.1 dX3_meanLag_9 rfl (lv_at hl 2 rfl) ?_
      refine lv_aload_n C.1 C.2.1 dX3_meanLag_10 rfl (lv_at hl 0 rfl) ?_
      refine gGet (v := .int (nI (s_sh S))) (ref := RX3) (Cn := RX3) (T := TX3) (N := 19) C iX3 hO 0 rfl rfl 13 (by decide) w48 (fun _ h9 => h9) rfl dX3_meanLag_11 ?_
      refine gGeN (x := k24) (y := (s_sh S)) (tgt := 31) C.1 C.2.1 (by omega) (by omega) dX3_meanLag_14 (by decide) (fun c_1 => ?_) (fun c_1 => ?_)
      · have hke9 : k24 = s_sh S := by omega
        have hsl9 := s_sl_le hn (s_sh S)
        rw [hke9] at hl
        refine lv_aload_n C.1 C.2.1 dX3_meanLag_31 rfl (lv_at hl 0 rfl) ?_
        refine gGet (v := .int (nI (s_sh S))) (ref := RX3) (Cn := RX3) (T := TX3) (N := 19) C iX3 hO 0 rfl rfl 13 (by decide) w48 (fun _ h9 => h9) rfl dX3_meanLag_32 ?_
        refine lv_if_ne (tgt := 42) C.1 C.2.1 dX3_meanLag_35 (by decide) (fun c_2 => ?_) (fun c_2 => ?_)
        · have hz : ¬ s_sh S = 0 := fun g => c_2 (by rw [g]; rfl)
          refine lv_iload_n C.1 C.2.1 dX3_meanLag_42 rfl (lv_at hl 1 rfl) ?_
          refine lv_i2d C.1 C.2.1 dX3_meanLag_43 ?_
          refine lv_aload_n C.1 C.2.1 dX3_meanLag_44 rfl (lv_at hl 0 rfl) ?_
          refine gGet (v := .int (nI (s_sh S))) (ref := RX3) (Cn := RX3) (T := TX3) (N := 19) C iX3 hO 0 rfl rfl 13 (by decide) w48 (fun _ h9 => h9) rfl dX3_meanLag_45 ?_
          refine lv_i2d C.1 C.2.1 dX3_meanLag_48 ?_
          refine lv_ddiv C.1 C.2.1 dX3_meanLag_49 (ml_nan _ _ (by omega) (by omega) (by omega)) ?_
          exact gRd C hO (by first | exact ((if_pos hz).symm) | exact ((if_neg hz).symm)) dX3_meanLag_50 (Nat.le_of_ble_eq_true rfl) (Nat.le_of_ble_eq_true rfl)
        · have hz : s_sh S = 0 := nI_z (by omega) c_2
          refine lv_dconst0 C.1 C.2.1 dX3_meanLag_38 ?_
          refine lv_goto (tgt := 50) C.1 C.2.1 dX3_meanLag_39 (by decide) ?_
          exact gRd C hO (by first | exact ((if_pos hz).symm) | exact ((if_neg hz).symm)) dX3_meanLag_50 (Nat.le_of_ble_eq_true rfl) (Nat.le_of_ble_eq_true rfl)
      · refine lv_iload_n C.1 C.2.1 dX3_meanLag_17 rfl (lv_at hl 1 rfl) ?_
        refine lv_aload_n C.1 C.2.1 dX3_meanLag_18 rfl (lv_at hl 0 rfl) ?_
        refine lv_iload_n C.1 C.2.1 dX3_meanLag_19 rfl (lv_at hl 2 rfl) ?_
        refine gCall_i (As := [.int (nI k24)]) (rest := [.int (nI (s_sl S k24))]) C hO (c_X3_lag l E b S 0 mk F k24 (by omega) (by omega)) (cwV 1 C.2.2.2.2.1 gX3_meanLag_X3_lag rfl rfl rfl (by decide +kernel) ⟨(Nat.le_of_ble_eq_true rfl), (Nat.le_of_ble_eq_true rfl)⟩) (va_recv C.2.2.2.2.2.2.2.1.1 hO.1 (ci := 3) (q0 := 0) rfl rfl) rfl hl.1 rfl (Nat.le_of_ble_eq_true rfl) dX3_meanLag_20 ⟨(Nat.le_of_ble_eq_true rfl), (Nat.le_of_ble_eq_true rfl)⟩ (fun H locs hO => ?_)
        refine gAddN (x := (s_sl S k24)) (y := (s_lag S k24)) C.1 C.2.1 dX3_meanLag_23 ?_
        refine lv_istore_n (lv' := [(1, .int (nI ((s_sl S k24) + (s_lag S k24)))), (0, .ref (b 0)), (2, .int (nI k24))]) C.1 C.2.1 dX3_meanLag_24 rfl hl (by decide) rfl (fun ls hl => ?_)
        refine gInc (j := k24) (k := 2) (lv' := [(2, .int (nI (k24 + 1))), (1, .int (nI ((s_sl S k24) + (s_lag S k24)))), (0, .ref (b 0))]) C.1 C.2.1 dX3_meanLag_25 hl rfl (by decide) rfl (fun ls hl => ?_)
        refine lv_goto (tgt := 9) C.1 C.2.1 dX3_meanLag_28 (by decide) ?_
        refine W.widen (k := 0) (n := 0) (by omega) (by omega) ?_
        exact ih_lp24 (k24 + 1) (by omega) (by omega) _ _ hO _ (lv_sub hl [2, 1, 0] rfl)
  exact lp24 (s_sh S + 1) 0 (by omega) (Nat.zero_le _) _ _ hO _ (lv_sub hl [2, 1, 0] rfl)
