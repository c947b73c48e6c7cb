set_option maxHeartbeats 4000000 in
set_option maxRecDepth 100000 in
theorem c_X3_isIn (l : Launch) (E : gE) (b : Nat → Nat) (S : St) (th : Int32) (mk : Nat → Int32) (F : va_W) (v lo hi : Int32) : gMi l E yX3_isIn wsX3_isIn ({ frames := 0, cells := 0, slots := 0, locals := 0 }) (mW E b S th mk ++ F) [.int v, .int lo, .int hi] (if ¬ v < lo ∧ ¬ hi < v then 1 else 0) (mW E b S th mk ++ F) 0 0 := by
  refine gMi.of (cc := cX3_isIn) (maxL := 3) (ty := .boolean) (by decide) rfl (Nat.le_of_ble_eq_true rfl) ?_
  intro p e s m args below meth c A C ls hl hO
  have hl : lv_has ls 3 [(0, .int v), (1, .int lo), (2, .int hi)] := hl
  refine lv_iload_n C.1 C.2.1 dX3_isIn_0 rfl (lv_at hl 0 rfl) ?_
  refine lv_iload_n C.1 C.2.1 dX3_isIn_1 rfl (lv_at hl 1 rfl) ?_
  refine lv_icmp_lt (tgt := 14) C.1 C.2.1 dX3_isIn_2 (by decide) (fun c_1 => ?_) (fun c_1 => ?_)
  · have hz9 : ¬ (¬ v < lo ∧ ¬ hi < v) := fun g => g.1 c_1
    refine lv_iconst (v := 0) C.1 C.2.1 dX3_isIn_14 (by decide) ?_
    exact gRi C hO rfl (by first | exact ((if_pos hz9).symm) | exact ((if_neg hz9).symm)) dX3_isIn_15 (Nat.le_of_ble_eq_true rfl) (Nat.le_of_ble_eq_true rfl)
  · refine lv_iload_n C.1 C.2.1 dX3_isIn_5 rfl (lv_at hl 0 rfl) ?_
    refine lv_iload_n C.1 C.2.1 dX3_isIn_6 rfl (lv_at hl 2 rfl) ?_
    refine lv_icmp_gt (tgt := 14) C.1 C.2.1 dX3_isIn_7 (by decide) (fun c_2 => ?_) (fun c_2 => ?_)
    · have hz9 : ¬ (¬ v < lo ∧ ¬ hi < v) := fun g => g.2 c_2
      refine lv_iconst (v := 0) C.1 C.2.1 dX3_isIn_14 (by decide) ?_
      exact gRi C hO rfl (by first | exact ((if_pos hz9).symm) | exact ((if_neg hz9).symm)) dX3_isIn_15 (Nat.le_of_ble_eq_true rfl) (Nat.le_of_ble_eq_true rfl)
    · have hz9 : ¬ v < lo ∧ ¬ hi < v := ⟨c_1, c_2⟩
      refine lv_iconst (v := 1) C.1 C.2.1 dX3_isIn_10 (by decide) ?_
      refine lv_goto (tgt := 15) C.1 C.2.1 dX3_isIn_11 (by decide) ?_
      exact gRi C hO rfl (by first | exact ((if_pos hz9).symm) | exact ((if_neg hz9).symm)) dX3_isIn_15 (Nat.le_of_ble_eq_true rfl) (Nat.le_of_ble_eq_true rfl)

set_option maxHeartbeats 4000000 in
set_option maxRecDepth 100000 in
theorem c_X3_isKey (l : Launch) (E : gE) (b : Nat → Nat) (S : St) (th : Int32) (mk : Nat → Int32) (F : va_W) (k : Int32) : gMi l E yX3_isKey wsX3_isKey ({ frames := 1, cells := 0, slots := 0, locals := 22 }) (mW E b S th mk ++ F) [.int k] (if okKey k then 1 else 0) (mW E b S th mk ++ F) 0 0 := by
  refine gMi.of (cc := cX3_isKey) (maxL := 1) (ty := .boolean) (by decide) rfl (Nat.le_of_ble_eq_true rfl) ?_
  intro p e s m args below meth c A C ls hl hO
  have hl : lv_has ls 1 [(0, .int k)] := hl
  refine lv_iload_n C.1 C.2.1 dX3_isKey_0 rfl (lv_at hl 0 rfl) ?_
  refine lv_iconst (v := 0) C.1 C.2.1 dX3_isKey_1 (by decide) ?_
  refine lv_bipush (v := nI 9) C.1 C.2.1 dX3_isKey_2 (by decide) ?_
  refine gCallS_i (As := [.int k, .int 0, .int (nI 9)]) (rest := []) C hO (c_X3_isIn l E b S th mk F k 0 (nI 9)) (cwS 3 C.2.2.2.2.1 gX3_isKey_X3_isIn rfl rfl rfl (by decide +kernel) ⟨(Nat.le_of_ble_eq_true rfl), (Nat.le_of_ble_eq_true rfl)⟩) rfl hl.1 rfl (Nat.le_of_ble_eq_true rfl) dX3_isKey_4 ⟨(Nat.le_of_ble_eq_true rfl), (Nat.le_of_ble_eq_true rfl)⟩ (fun H locs hO => ?_)
  exact gRi C hO bNar (bIf in_key) dX3_isKey_7 (Nat.le_of_ble_eq_true rfl) (Nat.le_of_ble_eq_true rfl)

set_option maxHeartbeats 4000000 in
set_option maxRecDepth 100000 in
theorem c_X3_isShip (l : Launch) (E : gE) (b : Nat → Nat) (S : St) (th : Int32) (mk : Nat → Int32) (F : va_W) (i : Int32) (hsh : s_sh S ≤ 6) : gMi l E yX3_isShip wsX3_isShip ({ frames := 1, cells := 0, slots := 0, locals := 22 }) (mW E b S th mk ++ F) [.ref (b 0), .int i] (if okShip S i then 1 else 0) (mW E b S th mk ++ F) 0 0 := by
  refine gMi.of (cc := cX3_isShip) (maxL := 2) (ty := .boolean) (by decide) rfl (Nat.le_of_ble_eq_true rfl) ?_
  intro p e s m args below meth c A C ls hl hO
  have hl : lv_has ls 2 [(0, .ref (b 0)), (1, .int i)] := hl
  have iX3 : ∀ w ∈ u_ws RX3 TX3 19, w ∈ wsX3_isShip := by decide +kernel
  have w48 : Cond.fieldLink RX3 48 "ParrotLogModel" "ships" "I" ∈ wsX3_isShip := by decide +kernel
  refine lv_iload_n C.1 C.2.1 dX3_isShip_0 rfl (lv_at hl 1 rfl) ?_
  refine lv_iconst (v := 0) C.1 C.2.1 dX3_isShip_1 (by decide) ?_
  refine lv_aload_n C.1 C.2.1 dX3_isShip_2 rfl (lv_at hl 0 rfl) ?_
  refine gGet (v := .int (nI (s_sh S))) (ref := RX3) (Cn := RX3) (T := TX3) (N := 19) C iX3 hO 0 rfl rfl 13 (by decide) w48 (fun _ h9 => h9) rfl dX3_isShip_3 ?_
  refine lv_iconst (v := 1) C.1 C.2.1 dX3_isShip_6 (by decide) ?_
  refine lv_isub C.1 C.2.1 dX3_isShip_7 ?_
  refine gCallS_i (As := [.int i, .int 0, .int ((nI (s_sh S)) - (nI 1))]) (rest := []) C hO (c_X3_isIn l E b S th mk F i 0 ((nI (s_sh S)) - (nI 1))) (cwS 3 C.2.2.2.2.1 gX3_isShip_X3_isIn rfl rfl rfl (by decide +kernel) ⟨(Nat.le_of_ble_eq_true rfl), (Nat.le_of_ble_eq_true rfl)⟩) rfl hl.1 rfl (Nat.le_of_ble_eq_true rfl) dX3_isShip_8 ⟨(Nat.le_of_ble_eq_true rfl), (Nat.le_of_ble_eq_true rfl)⟩ (fun H locs hO => ?_)
  exact gRi C hO bNar (bIf (in_ship hsh)) dX3_isShip_11 (Nat.le_of_ble_eq_true rfl) (Nat.le_of_ble_eq_true rfl)

set_option maxHeartbeats 4000000 in
set_option maxRecDepth 100000 in
theorem c_X3_isStorm (l : Launch) (E : gE) (b : Nat → Nat) (S : St) (th : Int32) (mk : Nat → Int32) (F : va_W) (i : Int32) (hsc : s_sc S ≤ 8) : gMi l E yX3_isStorm wsX3_isStorm ({ frames := 1, cells := 0, slots := 0, locals := 22 }) (mW E b S th mk ++ F) [.ref (b 0), .int i] (if okStorm S i then 1 else 0) (mW E b S th mk ++ F) 0 0 := by
  refine gMi.of (cc := cX3_isStorm) (maxL := 2) (ty := .boolean) (by decide) rfl (Nat.le_of_ble_eq_true rfl) ?_
  intro p e s m args below meth c A C ls hl hO
  have hl : lv_has ls 2 [(0, .ref (b 0)), (1, .int i)] := hl
  have iX3 : ∀ w ∈ u_ws RX3 TX3 19, w ∈ wsX3_isStorm := by decide +kernel
  have w55 : Cond.fieldLink RX3 55 "ParrotLogModel" "storms" "I" ∈ wsX3_isStorm := by decide +kernel
  refine lv_iload_n C.1 C.2.1 dX3_isStorm_0 rfl (lv_at hl 1 rfl) ?_
  refine lv_iconst (v := 0) C.1 C.2.1 dX3_isStorm_1 (by decide) ?_
  refine lv_aload_n C.1 C.2.1 dX3_isStorm_2 rfl (lv_at hl 0 rfl) ?_
  refine gGet (v := .int (nI (s_sc S))) (ref := RX3) (Cn := RX3) (T := TX3) (N := 19) C iX3 hO 0 rfl rfl 10 (by decide) w55 (fun _ h9 => h9) rfl dX3_isStorm_3 ?_
  refine lv_iconst (v := 1) C.1 C.2.1 dX3_isStorm_6 (by decide) ?_
  refine lv_isub C.1 C.2.1 dX3_isStorm_7 ?_
  refine gCallS_i (As := [.int i, .int 0, .int ((nI (s_sc S)) - (nI 1))]) (rest := []) C hO (c_X3_isIn l E b S th mk F i 0 ((nI (s_sc S)) - (nI 1))) (cwS 3 C.2.2.2.2.1 gX3_isStorm_X3_isIn rfl rfl rfl (by decide +kernel) ⟨(Nat.le_of_ble_eq_true rfl), (Nat.le_of_ble_eq_true rfl)⟩) rfl hl.1 rfl (Nat.le_of_ble_eq_true rfl) dX3_isStorm_8 ⟨(Nat.le_of_ble_eq_true rfl), (Nat.le_of_ble_eq_true rfl)⟩ (fun H locs hO => ?_)
  exact gRi C hO bNar (bIf (in_storm hsc)) dX3_isStorm_11 (Nat.le_of_ble_eq_true rfl) (Nat.le_of_ble_eq_true rfl)

set_option maxHeartbeats 4000000 in
set_option maxRecDepth 100000 in
theorem c_X3_fail (l : Launch) (E : gE) (b : Nat → Nat) (S : St) (th : Int32) (mk : Nat → Int32) (F : va_W) (x : Int32) : gMi l E yX3_fail wsX3_fail ({ frames := 0, cells := 0, slots := 0, locals := 0 }) (mW E b S th mk ++ F) [.ref (b 0), .int x] 0 (mW E b S x mk ++ F) 0 0 := by
  refine gMi.of (cc := cX3_fail) (maxL := 2) (ty := .int) (by decide) rfl (Nat.le_of_ble_eq_true rfl) ?_
  intro p e s m args below meth c A C ls hl hO
  have hl : lv_has ls 2 [(0, .ref (b 0)), (1, .int x)] := hl
  have iX3 : ∀ w ∈ u_ws RX3 TX3 19, w ∈ wsX3_fail := by decide +kernel
  have w44 : Cond.fieldLink RX3 44 "ParrotLogModel" "thrown" "I" ∈ wsX3_fail := by decide +kernel
  refine lv_aload_n C.1 C.2.1 dX3_fail_0 rfl (lv_at hl 0 rfl) ?_
  refine lv_iload_n C.1 C.2.1 dX3_fail_1 rfl (lv_at hl 1 rfl) ?_
  refine gPut (ws' := (mW E b S x mk ++ F)) (ref := RX3) (Cn := RX3) (T := TX3) (N := 19) C iX3 tyX3 tyX3_ok nmX3 hO 0 rfl rfl 0 (by decide) w44 (fun _ h9 => h9) rfl (by decide +kernel) rfl rfl (Nat.le_of_ble_eq_true rfl) rfl dX3_fail_2 (fun H locs hO => ?_)
  refine lv_iconst (v := 0) C.1 C.2.1 dX3_fail_5 (by decide) ?_
  exact gRi C hO rfl rfl dX3_fail_6 (Nat.le_of_ble_eq_true rfl) (Nat.le_of_ble_eq_true rfl)

set_option maxHeartbeats 4000000 in
set_option maxRecDepth 100000 in
theorem c_X3_told (l : Launch) (E : gE) (b : Nat → Nat) (S : St) (th : Int32) (mk : Nat → Int32) (F : va_W) (x : Int32) : gMi l E yX3_told wsX3_told ({ frames := 0, cells := 0, slots := 0, locals := 0 }) (mW E b S th mk ++ F) [.ref (b 0), .int x] x (mW E b S 0 mk ++ F) 0 0 := by
  refine gMi.of (cc := cX3_told) (maxL := 2) (ty := .int) (by decide) rfl (Nat.le_of_ble_eq_true rfl) ?_
  intro p e s m args below meth c A C ls hl hO
  have hl : lv_has ls 2 [(0, .ref (b 0)), (1, .int x)] := hl
  have iX3 : ∀ w ∈ u_ws RX3 TX3 19, w ∈ wsX3_told := by decide +kernel
  have w44 : Cond.fieldLink RX3 44 "ParrotLogModel" "thrown" "I" ∈ wsX3_told := by decide +kernel
  refine lv_aload_n C.1 C.2.1 dX3_told_0 rfl (lv_at hl 0 rfl) ?_
  refine lv_iconst (v := 0) C.1 C.2.1 dX3_told_1 (by decide) ?_
  refine gPut (ws' := (mW E b S 0 mk ++ F)) (ref := RX3) (Cn := RX3) (T := TX3) (N := 19) C iX3 tyX3 tyX3_ok nmX3 hO 0 rfl rfl 0 (by decide) w44 (fun _ h9 => h9) rfl (by decide +kernel) rfl rfl (Nat.le_of_ble_eq_true rfl) rfl dX3_told_2 (fun H locs hO => ?_)
  refine lv_iload_n C.1 C.2.1 dX3_told_5 rfl (lv_at hl 1 rfl) ?_
  exact gRi C hO rfl rfl dX3_told_6 (Nat.le_of_ble_eq_true rfl) (Nat.le_of_ble_eq_true rfl)

set_option maxHeartbeats 4000000 in
set_option maxRecDepth 100000 in
theorem c_X3_thrown (l : Launch) (E : gE) (b : Nat → Nat) (S : St) (th : Int32) (mk : Nat → Int32) (F : va_W)  : gMi l E yX3_thrown wsX3_thrown ({ frames := 0, cells := 0, slots := 0, locals := 0 }) (mW E b S th mk ++ F) [.ref (b 0)] th (mW E b S th mk ++ F) 0 0 := by
  refine gMi.of (cc := cX3_thrown) (maxL := 1) (ty := .int) (by decide) rfl (Nat.le_of_ble_eq_true rfl) ?_
  intro p e s m args below meth c A C ls hl hO
  have hl : lv_has ls 1 [(0, .ref (b 0))] := hl
  have iX3 : ∀ w ∈ u_ws RX3 TX3 19, w ∈ wsX3_thrown := by decide +kernel
  have w44 : Cond.fieldLink RX3 44 "ParrotLogModel" "thrown" "I" ∈ wsX3_thrown := by decide +kernel
  refine lv_aload_n C.1 C.2.1 dX3_thrown_0 rfl (lv_at hl 0 rfl) ?_
  refine gGet (v := .int th) (ref := RX3) (Cn := RX3) (T := TX3) (N := 19) C iX3 hO 0 rfl rfl 0 (by decide) w44 (fun _ h9 => h9) rfl dX3_thrown_1 ?_
  exact gRi C hO rfl rfl dX3_thrown_4 (Nat.le_of_ble_eq_true rfl) (Nat.le_of_ble_eq_true rfl)

set_option maxHeartbeats 4000000 in
set_option maxRecDepth 100000 in
theorem c_X3_from (l : Launch) (E : gE) (b : Nat → Nat) (S : St) (th : Int32) (mk : Nat → Int32) (F : va_W) (o : Int32) (hn : s_n S ≤ 48) : gMi l E yX3_from wsX3_from ({ frames := 0, cells := 0, slots := 0, locals := 0 }) (mW E b S th mk ++ F) [.ref (b 0), .int o] (nI (pf (s_off S) o (s_n S))) (mW E b S th mk ++ F) 0 0 := by
  refine gMi.of (cc := cX3_from) (maxL := 3) (ty := .int) (by decide) rfl (Nat.le_of_ble_eq_true rfl) ?_
  intro p e s m args below meth c A C ls hl hO
  have hl : lv_has ls 3 [(0, .ref (b 0)), (1, .int o)] := hl
  have iX3 : ∀ w ∈ u_ws RX3 TX3 19, w ∈ wsX3_from := by decide +kernel
  have w58 : Cond.fieldLink RX3 58 "ParrotLogModel" "many" "I" ∈ wsX3_from := by decide +kernel
  have w9 : Cond.fieldLink RX3 9 "ParrotLogModel" "offset" "[I" ∈ wsX3_from := by decide +kernel
  refine lv_iconst (v := 0) C.1 C.2.1 dX3_from_0 (by decide) ?_
  refine lv_istore_n (lv' := [(2, .int 0), (0, .ref (b 0)), (1, .int o)]) C.1 C.2.1 dX3_from_1 rfl hl (by decide) rfl (fun ls hl => ?_)
  have lp24 : ∀ (f : Nat) (k : Nat), (s_n S + 1 ≤ k + f) → (k ≤ s_n S) → (pfA (s_off S) o (s_n S - k) k = pf (s_off S) o (s_n S)) → ∀ (H : Heap) (locs : List Loc), gO E A s (mW E b S th mk ++ F) H locs → ∀ ls : Array Slot, lv_has ls 3 [(0, .ref (b 0)), (1, .int o), (2, .int (nI k))] → W p l e ({ frames := 0, cells := 0, slots := 0, locals := 0 } : Room) s m args below meth c H locs 0 0 (MQ below (gQi E A (nI (pf (s_off S) o (s_n S))) (mW E b S th mk ++ F)) args s 0 0 A) (F0 m 2 ls []) := by
    intro f
    induction f with
    | zero =>
      intro k hf hk hR
      exact absurd hf (by omega)
    | succ f ih_lp24 =>
      intro k hf hk hR H locs hO ls hl
      refine lv_iload_n C.1 C.2.1 dX3_from_2 rfl (lv_at hl 2 rfl) ?_
      refine lv_aload_n C.1 C.2.1 dX3_from_3 rfl (lv_at hl 0 rfl) ?_
      refine gGet (v := .int (nI (s_n S))) (ref := RX3) (Cn := RX3) (T := TX3) (N := 19) C iX3 hO 0 rfl rfl 1 (by decide) w58 (fun _ h9 => h9) rfl dX3_from_4 ?_
      refine gGeN (x := k) (y := (s_n S)) (tgt := 26) C.1 C.2.1 (by omega) (by omega) dX3_from_7 (by decide) (fun c_1 => ?_) (fun c_1 => ?_)
      · refine lv_iload_n C.1 C.2.1 dX3_from_26 rfl (lv_at hl 2 rfl) ?_
        exact gRi C hO rfl (by first | (rw [← hR, show s_n S - k = 0 by omega, pfA]; done) | (rw [← hR, show s_n S - k = s_n S - (k + 1) + 1 by omega, pfA, if_neg c_2]; done)) dX3_from_27 (Nat.le_of_ble_eq_true rfl) (Nat.le_of_ble_eq_true rfl)
      · refine lv_aload_n C.1 C.2.1 dX3_from_10 rfl (lv_at hl 0 rfl) ?_
        refine gGet (v := .ref (b 1)) (ref := RX3) (Cn := RX3) (T := TX3) (N := 19) C iX3 hO 0 rfl rfl 2 (by decide) w9 (fun _ h9 => h9) rfl dX3_from_11 ?_
        refine lv_iload_n C.1 C.2.1 dX3_from_14 rfl (lv_at hl 2 rfl) ?_
        refine gIald (v := (s_off S) k) (j := k) C hO 1 rfl (by omega) (by decide) rfl dX3_from_15 ?_
        refine lv_iload_n C.1 C.2.1 dX3_from_16 rfl (lv_at hl 1 rfl) ?_
        refine gGeI (tgt := 26) C.1 C.2.1 dX3_from_17 (by decide) (fun c_2 => ?_) (fun c_2 => ?_)
        · refine lv_iload_n C.1 C.2.1 dX3_from_26 rfl (lv_at hl 2 rfl) ?_
          exact gRi C hO rfl (by first | (rw [← hR, show s_n S - k = 0 by omega, pfA]; done) | (rw [← hR, show s_n S - k = s_n S - (k + 1) + 1 by omega, pfA, if_neg c_2]; done)) dX3_from_27 (Nat.le_of_ble_eq_true rfl) (Nat.le_of_ble_eq_true rfl)
        · refine gInc (j := k) (k := 2) (lv' := [(2, .int (nI (k + 1))), (0, .ref (b 0)), (1, .int o)]) C.1 C.2.1 dX3_from_20 hl rfl (by decide) rfl (fun ls hl => ?_)
          refine lv_goto (tgt := 2) C.1 C.2.1 dX3_from_23 (by decide) ?_
          exact ih_lp24 (k + 1) (by omega) (by omega) (by rw [← hR, show s_n S - k = s_n S - (k + 1) + 1 by omega, pfA, if_pos c_2]) _ _ hO _ (lv_sub hl [1, 2, 0] rfl)
  exact lp24 (s_n S + 1) 0 (by omega) (Nat.zero_le _) rfl _ _ hO _ (lv_sub hl [1, 2, 0] rfl)

set_option maxHeartbeats 4000000 in
set_option maxRecDepth 100000 in
theorem c_X3_place (l : Launch) (E : gE) (b : Nat → Nat) (S : St) (th : Int32) (mk : Nat → Int32) (F : va_W) (o : Int32) (hn : s_n S ≤ 48) : gMi l E yX3_place wsX3_place ({ frames := 1, cells := 0, slots := 0, locals := 22 }) (mW E b S th mk ++ F) [.ref (b 0), .int o] (oI (s_po S o)) (mW E b S th mk ++ F) 0 0 := by
  refine gMi.of (cc := cX3_place) (maxL := 3) (ty := .int) (by decide) rfl (Nat.le_of_ble_eq_true rfl) ?_
  intro p e s m args below meth c A C ls hl hO
  have hl : lv_has ls 3 [(0, .ref (b 0)), (1, .int o)] := hl
  have iX3 : ∀ w ∈ u_ws RX3 TX3 19, w ∈ wsX3_place := by decide +kernel
  have w58 : Cond.fieldLink RX3 58 "ParrotLogModel" "many" "I" ∈ wsX3_place := by decide +kernel
  have w9 : Cond.fieldLink RX3 9 "ParrotLogModel" "offset" "[I" ∈ wsX3_place := by decide +kernel
  refine lv_aload_n C.1 C.2.1 dX3_place_0 rfl (lv_at hl 0 rfl) ?_
  refine lv_iload_n C.1 C.2.1 dX3_place_1 rfl (lv_at hl 1 rfl) ?_
  refine gCall_i (As := [.int o]) (rest := []) C hO (c_X3_from l E b S th mk F o (by omega)) (cwV 1 C.2.2.2.2.1 gX3_place_X3_from rfl rfl rfl (by decide +kernel) ⟨(Nat.le_of_ble_eq_true rfl), (Nat.le_of_ble_eq_true rfl)⟩) (va_recv C.2.2.2.2.2.2.2.1.1 hO.1 (ci := 3) (q0 := 0) rfl rfl) rfl hl.1 rfl (Nat.le_of_ble_eq_true rfl) dX3_place_2 ⟨(Nat.le_of_ble_eq_true rfl), (Nat.le_of_ble_eq_true rfl)⟩ (fun H locs hO => ?_)
  refine lv_istore_n (lv' := [(2, .int (nI (pf (s_off S) o (s_n S)))), (0, .ref (b 0)), (1, .int o)]) C.1 C.2.1 dX3_place_5 rfl hl (by decide) rfl (fun ls hl => ?_)
  have hle := pf_le (s_off S) o (s_n S)
  refine lv_iload_n C.1 C.2.1 dX3_place_6 rfl (lv_at hl 0 rfl) ?_
  refine lv_aload_n C.1 C.2.1 dX3_place_7 rfl (lv_at hl 1 rfl) ?_
  refine gGet (v := .int (nI (s_n S))) (ref := RX3) (Cn := RX3) (T := TX3) (N := 19) C iX3 hO 0 rfl rfl 1 (by decide) w58 (fun _ h9 => h9) rfl dX3_place_8 ?_
  refine gGeN (x := (pf (s_off S) o (s_n S))) (y := (s_n S)) (tgt := 28) C.1 C.2.1 (by omega) (by omega) dX3_place_11 (by decide) (fun c_1 => ?_) (fun c_1 => ?_)
  · have hz : s_po S o = none := s_po_0 (fun g => by have := g.1; omega)
    refine lv_iconst (v := (-1)) C.1 C.2.1 dX3_place_28 (by decide) ?_
    exact gRi C hO rfl (by rw [hz]; rfl) dX3_place_29 (Nat.le_of_ble_eq_true rfl) (Nat.le_of_ble_eq_true rfl)
  · refine lv_aload_n C.1 C.2.1 dX3_place_14 rfl (lv_at hl 1 rfl) ?_
    refine gGet (v := .ref (b 1)) (ref := RX3) (Cn := RX3) (T := TX3) (N := 19) C iX3 hO 0 rfl rfl 2 (by decide) w9 (fun _ h9 => h9) rfl dX3_place_15 ?_
    refine lv_iload_n C.1 C.2.1 dX3_place_18 rfl (lv_at hl 0 rfl) ?_
    refine gIald (v := (s_off S) (pf (s_off S) o (s_n S))) (j := (pf (s_off S) o (s_n S))) C hO 1 rfl (by omega) (by decide) rfl dX3_place_19 ?_
    refine lv_iload_n C.1 C.2.1 dX3_place_20 rfl (lv_at hl 2 rfl) ?_
    refine lv_icmp_ne (tgt := 28) C.1 C.2.1 dX3_place_21 (by decide) (fun c_2 => ?_) (fun c_2 => ?_)
    · have hz : s_po S o = none := s_po_0 (fun g => c_2 g.2)
      refine lv_iconst (v := (-1)) C.1 C.2.1 dX3_place_28 (by decide) ?_
      exact gRi C hO rfl (by rw [hz]; rfl) dX3_place_29 (Nat.le_of_ble_eq_true rfl) (Nat.le_of_ble_eq_true rfl)
    · have hz : s_po S o = some (pf (s_off S) o (s_n S)) := s_po_1 (by omega) c_2
      refine lv_iload_n C.1 C.2.1 dX3_place_24 rfl (lv_at hl 0 rfl) ?_
      refine lv_goto (tgt := 29) C.1 C.2.1 dX3_place_25 (by decide) ?_
      exact gRi C hO rfl (by rw [hz]; rfl) dX3_place_29 (Nat.le_of_ble_eq_true rfl) (Nat.le_of_ble_eq_true rfl)

set_option maxHeartbeats 4000000 in
set_option maxRecDepth 100000 in
theorem c_X3_last (l : Launch) (E : gE) (b : Nat → Nat) (S : St) (th : Int32) (mk : Nat → Int32) (F : va_W) (k : Int32) (hn : s_n S ≤ 48) : gMi l E yX3_last wsX3_last ({ frames := 0, cells := 0, slots := 0, locals := 0 }) (mW E b S th mk ++ F) [.ref (b 0), .int k] (oI (lpO (s_key S) k 0 (s_n S))) (mW E b S th mk ++ F) 0 0 := by
  refine gMi.of (cc := cX3_last) (maxL := 3) (ty := .int) (by decide) rfl (Nat.le_of_ble_eq_true rfl) ?_
  intro p e s m args below meth c A C ls hl hO
  have hl : lv_has ls 3 [(0, .ref (b 0)), (1, .int k)] := hl
  have iX3 : ∀ w ∈ u_ws RX3 TX3 19, w ∈ wsX3_last := by decide +kernel
  have w58 : Cond.fieldLink RX3 58 "ParrotLogModel" "many" "I" ∈ wsX3_last := by decide +kernel
  have w13 : Cond.fieldLink RX3 13 "ParrotLogModel" "key" "[I" ∈ wsX3_last := by decide +kernel
  refine lv_aload_n C.1 C.2.1 dX3_last_0 rfl (lv_at hl 0 rfl) ?_
  refine gGet (v := .int (nI (s_n S))) (ref := RX3) (Cn := RX3) (T := TX3) (N := 19) C iX3 hO 0 rfl rfl 1 (by decide) w58 (fun _ h9 => h9) rfl dX3_last_1 ?_
  refine lv_iconst (v := 1) C.1 C.2.1 dX3_last_4 (by decide) ?_
  refine lv_isub C.1 C.2.1 dX3_last_5 ?_
  refine lv_istore_n (lv' := [(2, .int ((nI (s_n S)) - (nI 1))), (0, .ref (b 0)), (1, .int k)]) C.1 C.2.1 dX3_last_6 rfl hl (by decide) rfl (fun ls hl => ?_)
  have lp24 : ∀ (f : Nat) (t : Nat), (t + 1 ≤ f) → (t ≤ s_n S) → (lpO (s_key S) k 0 t = lpO (s_key S) k 0 (s_n S)) → ∀ (H : Heap) (locs : List Loc), gO E A s (mW E b S th mk ++ F) H locs → ∀ ls : Array Slot, lv_has ls 3 [(0, .ref (b 0)), (1, .int k), (2, .int (nI t - 1))] → W p l e ({ frames := 0, cells := 0, slots := 0, locals := 0 } : Room) s m args below meth c H locs 0 0 (MQ below (gQi E A (oI (lpO (s_key S) k 0 (s_n S))) (mW E b S th mk ++ F)) args s 0 0 A) (F0 m 7 ls []) := by
    intro f
    induction f with
    | zero =>
      intro t hf ht hR
      exact absurd hf (by omega)
    | succ f ih_lp24 =>
      intro t hf ht hR H locs hO ls hl
      refine lv_iload_n C.1 C.2.1 dX3_last_7 rfl (lv_at hl 2 rfl) ?_
      refine lv_if_lt (tgt := 27) C.1 C.2.1 dX3_last_8 (by decide) (fun c_1 => ?_) (fun c_1 => ?_)
      · have hge : t = 0 := (nI_m1neg (by omega)).mp c_1
        refine lv_iload_n C.1 C.2.1 dX3_last_27 rfl (lv_at hl 2 rfl) ?_
        exact gRi C hO rfl (by first | (rw [← hR, hge]; rfl; done) | (rw [nI_p (by omega), ← hR, lpO_s hlt, if_pos c_2]; rfl; done)) dX3_last_28 (Nat.le_of_ble_eq_true rfl) (Nat.le_of_ble_eq_true rfl)
      · have hlt : 0 < t := by rw [nI_m1neg (by omega)] at c_1; omega
        refine lv_aload_n C.1 C.2.1 dX3_last_11 rfl (lv_at hl 0 rfl) ?_
        refine gGet (v := .ref (b 2)) (ref := RX3) (Cn := RX3) (T := TX3) (N := 19) C iX3 hO 0 rfl rfl 3 (by decide) w13 (fun _ h9 => h9) rfl dX3_last_12 ?_
        refine lv_iload_n C.1 C.2.1 dX3_last_15 rfl (lv_at hl 2 rfl) ?_
        refine lv_eqi (y := nI (t - 1)) (nI_p (by omega)) ?_
        refine gIald (v := (s_key S) (t - 1)) (j := (t - 1)) C hO 2 rfl (by omega) (by decide) rfl dX3_last_16 ?_
        refine lv_iload_n C.1 C.2.1 dX3_last_17 rfl (lv_at hl 1 rfl) ?_
        refine lv_icmp_eq (tgt := 27) C.1 C.2.1 dX3_last_18 (by decide) (fun c_2 => ?_) (fun c_2 => ?_)
        · refine lv_iload_n C.1 C.2.1 dX3_last_27 rfl (lv_at hl 2 rfl) ?_
          exact gRi C hO rfl (by first | (rw [← hR, hge]; rfl; done) | (rw [nI_p (by omega), ← hR, lpO_s hlt, if_pos c_2]; rfl; done)) dX3_last_28 (Nat.le_of_ble_eq_true rfl) (Nat.le_of_ble_eq_true rfl)
        · refine lv_iinc (v := nI (t - 1) - 1) (lv' := [(2, .int (nI (t - 1) - 1)), (0, .ref (b 0)), (1, .int k)]) C.1 C.2.1 dX3_last_21 hl (k := 2) rfl (by rw [iDec, nI_p (by omega)]) (by decide) rfl (fun ls hl => ?_)
          refine lv_goto (tgt := 7) C.1 C.2.1 dX3_last_24 (by decide) ?_
          exact ih_lp24 (t - 1) (by omega) (by omega) (by rw [← hR, lpO_s hlt, if_neg c_2]) _ _ hO _ (lv_sub hl [1, 2, 0] rfl)
  exact lp24 (s_n S + 1) (s_n S) (by omega) (Nat.le_refl _) rfl _ _ hO _ (lv_sub hl [1, 2, 0] rfl)

set_option maxHeartbeats 4000000 in
set_option maxRecDepth 100000 in
theorem c_X3_latest (l : Launch) (E : gE) (b : Nat → Nat) (S : St) (th : Int32) (mk : Nat → Int32) (F : va_W) (k : Int32) (hn : s_n S ≤ 48) : gMi l E yX3_latest wsX3_latest ({ frames := 1, cells := 0, slots := 0, locals := 22 }) (mW E b S th mk ++ F) [.ref (b 0), .int k] (s_lo S k) (mW E b S th mk ++ F) 0 0 := by
  refine gMi.of (cc := cX3_latest) (maxL := 2) (ty := .int) (by decide) rfl (Nat.le_of_ble_eq_true rfl) ?_
  intro p e s m args below meth c A C ls hl hO
  have hl : lv_has ls 2 [(0, .ref (b 0)), (1, .int k)] := hl
  have iX3 : ∀ w ∈ u_ws RX3 TX3 19, w ∈ wsX3_latest := by decide +kernel
  have w9 : Cond.fieldLink RX3 9 "ParrotLogModel" "offset" "[I" ∈ wsX3_latest := by decide +kernel
  refine lv_aload_n C.1 C.2.1 dX3_latest_0 rfl (lv_at hl 0 rfl) ?_
  refine lv_iload_n C.1 C.2.1 dX3_latest_1 rfl (lv_at hl 1 rfl) ?_
  refine gCall_i (As := [.int k]) (rest := []) C hO (c_X3_last l E b S th mk F k (by omega)) (cwV 1 C.2.2.2.2.1 gX3_latest_X3_last rfl rfl rfl (by decide +kernel) ⟨(Nat.le_of_ble_eq_true rfl), (Nat.le_of_ble_eq_true rfl)⟩) (va_recv C.2.2.2.2.2.2.2.1.1 hO.1 (ci := 3) (q0 := 0) rfl rfl) rfl hl.1 rfl (Nat.le_of_ble_eq_true rfl) dX3_latest_2 ⟨(Nat.le_of_ble_eq_true rfl), (Nat.le_of_ble_eq_true rfl)⟩ (fun H locs hO => ?_)
  refine gGe0 (tgt := 12) C.1 C.2.1 dX3_latest_5 (by decide) (fun c_1 => ?_) (fun c_1 => ?_)
  · obtain ⟨i24, hz, hi1, hi2, hi3⟩ := lpO_nn (by omega) c_1
    refine lv_aload_n C.1 C.2.1 dX3_latest_12 rfl (lv_at hl 0 rfl) ?_
    refine gGet (v := .ref (b 1)) (ref := RX3) (Cn := RX3) (T := TX3) (N := 19) C iX3 hO 0 rfl rfl 2 (by decide) w9 (fun _ h9 => h9) rfl dX3_latest_13 ?_
    refine lv_aload_n C.1 C.2.1 dX3_latest_16 rfl (lv_at hl 0 rfl) ?_
    refine lv_iload_n C.1 C.2.1 dX3_latest_17 rfl (lv_at hl 1 rfl) ?_
    refine gCall_i (As := [.int k]) (rest := [.ref (b 1)]) C hO (c_X3_last l E b S th mk F k (by omega)) (cwV 1 C.2.2.2.2.1 gX3_latest_X3_last rfl rfl rfl (by decide +kernel) ⟨(Nat.le_of_ble_eq_true rfl), (Nat.le_of_ble_eq_true rfl)⟩) (va_recv C.2.2.2.2.2.2.2.1.1 hO.1 (ci := 3) (q0 := 0) rfl rfl) rfl hl.1 rfl (Nat.le_of_ble_eq_true rfl) dX3_latest_18 ⟨(Nat.le_of_ble_eq_true rfl), (Nat.le_of_ble_eq_true rfl)⟩ (fun H locs hO => ?_)
    refine lv_eqi (y := nI i24) (by rw [hz]; rfl) ?_
    refine gIald (v := (s_off S) i24) (j := i24) C hO 1 rfl (by omega) (by decide) rfl dX3_latest_21 ?_
    exact gRi C hO rfl (by simp only [s_lo, hz]) dX3_latest_22 (Nat.le_of_ble_eq_true rfl) (Nat.le_of_ble_eq_true rfl)
  · have hz : lpO (s_key S) k 0 (s_n S) = none := (lpO_lt0 (by omega)).mp c_1
    refine lv_iconst (v := (-1)) C.1 C.2.1 dX3_latest_8 (by decide) ?_
    refine lv_goto (tgt := 22) C.1 C.2.1 dX3_latest_9 (by decide) ?_
    exact gRi C hO rfl (by simp only [s_lo, hz]) dX3_latest_22 (Nat.le_of_ble_eq_true rfl) (Nat.le_of_ble_eq_true rfl)

set_option maxHeartbeats 4000000 in
set_option maxRecDepth 100000 in
theorem c_X3_worth (l : Launch) (E : gE) (b : Nat → Nat) (S : St) (th : Int32) (mk : Nat → Int32) (F : va_W) (k : Int32) (hn : s_n S ≤ 48) : gMi l E yX3_worth wsX3_worth ({ frames := 1, cells := 0, slots := 0, locals := 22 }) (mW E b S th mk ++ F) [.ref (b 0), .int k] (s_wv S k) (mW E b S th mk ++ F) 0 0 := by
  refine gMi.of (cc := cX3_worth) (maxL := 2) (ty := .int) (by decide) rfl (Nat.le_of_ble_eq_true rfl) ?_
  intro p e s m args below meth c A C ls hl hO
  have hl : lv_has ls 2 [(0, .ref (b 0)), (1, .int k)] := hl
  have iX3 : ∀ w ∈ u_ws RX3 TX3 19, w ∈ wsX3_worth := by decide +kernel
  have w16 : Cond.fieldLink RX3 16 "ParrotLogModel" "value" "[I" ∈ wsX3_worth := by decide +kernel
  refine lv_aload_n C.1 C.2.1 dX3_worth_0 rfl (lv_at hl 0 rfl) ?_
  refine lv_iload_n C.1 C.2.1 dX3_worth_1 rfl (lv_at hl 1 rfl) ?_
  refine gCall_i (As := [.int k]) (rest := []) C hO (c_X3_last l E b S th mk F k (by omega)) (cwV 1 C.2.2.2.2.1 gX3_worth_X3_last rfl rfl rfl (by decide +kernel) ⟨(Nat.le_of_ble_eq_true rfl), (Nat.le_of_ble_eq_true rfl)⟩) (va_recv C.2.2.2.2.2.2.2.1.1 hO.1 (ci := 3) (q0 := 0) rfl rfl) rfl hl.1 rfl (Nat.le_of_ble_eq_true rfl) dX3_worth_2 ⟨(Nat.le_of_ble_eq_true rfl), (Nat.le_of_ble_eq_true rfl)⟩ (fun H locs hO => ?_)
  refine gGe0 (tgt := 12) C.1 C.2.1 dX3_worth_5 (by decide) (fun c_1 => ?_) (fun c_1 => ?_)
  · obtain ⟨i24, hz, hi1, hi2, hi3⟩ := lpO_nn (by omega) c_1
    refine lv_aload_n C.1 C.2.1 dX3_worth_12 rfl (lv_at hl 0 rfl) ?_
    refine gGet (v := .ref (b 3)) (ref := RX3) (Cn := RX3) (T := TX3) (N := 19) C iX3 hO 0 rfl rfl 4 (by decide) w16 (fun _ h9 => h9) rfl dX3_worth_13 ?_
    refine lv_aload_n C.1 C.2.1 dX3_worth_16 rfl (lv_at hl 0 rfl) ?_
    refine lv_iload_n C.1 C.2.1 dX3_worth_17 rfl (lv_at hl 1 rfl) ?_
    refine gCall_i (As := [.int k]) (rest := [.ref (b 3)]) C hO (c_X3_last l E b S th mk F k (by omega)) (cwV 1 C.2.2.2.2.1 gX3_worth_X3_last rfl rfl rfl (by decide +kernel) ⟨(Nat.le_of_ble_eq_true rfl), (Nat.le_of_ble_eq_true rfl)⟩) (va_recv C.2.2.2.2.2.2.2.1.1 hO.1 (ci := 3) (q0 := 0) rfl rfl) rfl hl.1 rfl (Nat.le_of_ble_eq_true rfl) dX3_worth_18 ⟨(Nat.le_of_ble_eq_true rfl), (Nat.le_of_ble_eq_true rfl)⟩ (fun H locs hO => ?_)
    refine lv_eqi (y := nI i24) (by rw [hz]; rfl) ?_
    refine gIald (v := (s_val S) i24) (j := i24) C hO 3 rfl (by omega) (by decide) rfl dX3_worth_21 ?_
    exact gRi C hO rfl (by simp only [s_wv, hz]) dX3_worth_22 (Nat.le_of_ble_eq_true rfl) (Nat.le_of_ble_eq_true rfl)
  · have hz : lpO (s_key S) k 0 (s_n S) = none := (lpO_lt0 (by omega)).mp c_1
    refine lv_iconst (v := 0) C.1 C.2.1 dX3_worth_8 (by decide) ?_
    refine lv_goto (tgt := 22) C.1 C.2.1 dX3_worth_9 (by decide) ?_
    exact gRi C hO rfl (by simp only [s_wv, hz]) dX3_worth_22 (Nat.le_of_ble_eq_true rfl) (Nat.le_of_ble_eq_true rfl)

set_option maxHeartbeats 4000000 in
set_option maxRecDepth 100000 in
theorem c_X3_count (l : Launch) (E : gE) (b : Nat → Nat) (S : St) (th : Int32) (mk : Nat → Int32) (F : va_W) (x : Int32) (hn : s_n S ≤ 48) : gMi l E yX3_count wsX3_count ({ frames := 0, cells := 0, slots := 0, locals := 0 }) (mW E b S th mk ++ F) [.ref (b 0), .int x] (nI (cnt (s_key S) x (s_n S))) (mW E b S th mk ++ F) 0 0 := by
  refine gMi.of (cc := cX3_count) (maxL := 4) (ty := .int) (by decide) rfl (Nat.le_of_ble_eq_true rfl) ?_
  intro p e s m args below meth c A C ls hl hO
  have hl : lv_has ls 4 [(0, .ref (b 0)), (1, .int x)] := hl
  have iX3 : ∀ w ∈ u_ws RX3 TX3 19, w ∈ wsX3_count := by decide +kernel
  have w58 : Cond.fieldLink RX3 58 "ParrotLogModel" "many" "I" ∈ wsX3_count := by decide +kernel
  have w13 : Cond.fieldLink RX3 13 "ParrotLogModel" "key" "[I" ∈ wsX3_count := by decide +kernel
  refine lv_iconst (v := 0) C.1 C.2.1 dX3_count_0 (by decide) ?_
  refine lv_istore_n (lv' := [(2, .int 0), (0, .ref (b 0)), (1, .int x)]) C.1 C.2.1 dX3_count_1 rfl hl (by decide) rfl (fun ls hl => ?_)
  refine lv_iconst (v := 0) C.1 C.2.1 dX3_count_2 (by decide) ?_
  refine lv_istore_n (lv' := [(3, .int 0), (2, .int 0), (0, .ref (b 0)), (1, .int x)]) C.1 C.2.1 dX3_count_3 rfl hl (by decide) rfl (fun ls hl => ?_)
  have lp24 : ∀ (f : Nat) (k : Nat) (c2 : Nat), (s_n S + 1 ≤ k + f) → (k ≤ s_n S) → (c2 = cnt (s_key S) x k) → ∀ (H : Heap) (locs : List Loc), gO E A s (mW E b S th mk ++ F) H locs → ∀ ls : Array Slot, lv_has ls 4 [(0, .ref (b 0)), (1, .int x), (2, .int (nI c2)), (3, .int (nI k))] → W p l e ({ frames := 0, cells := 0, slots := 0, locals := 0 } : Room) s m args below meth c H locs 0 0 (MQ below (gQi E A (nI (cnt (s_key S) x (s_n S))) (mW E b S th mk ++ F)) args s 0 0 A) (F0 m 4 ls []) := by
    intro f
    induction f with
    | zero =>
      intro k c2 hf hk hc24
      exact absurd hf (by omega)
    | succ f ih_lp24 =>
      intro k c2 hf hk hc24 H locs hO ls hl
      refine lv_iload_n C.1 C.2.1 dX3_count_4 rfl (lv_at hl 3 rfl) ?_
      refine lv_aload_n C.1 C.2.1 dX3_count_5 rfl (lv_at hl 0 rfl) ?_
      refine gGet (v := .int (nI (s_n S))) (ref := RX3) (Cn := RX3) (T := TX3) (N := 19) C iX3 hO 0 rfl rfl 1 (by decide) w58 (fun _ h9 => h9) rfl dX3_count_6 ?_
      refine gGeN (x := k) (y := (s_n S)) (tgt := 36) C.1 C.2.1 (by omega) (by omega) dX3_count_9 (by decide) (fun c_1 => ?_) (fun c_1 => ?_)
      · refine lv_iload_n C.1 C.2.1 dX3_count_36 rfl (lv_at hl 2 rfl) ?_
        exact gRi C hO rfl (by rw [hc24, show k = s_n S by omega]) dX3_count_37 (Nat.le_of_ble_eq_true rfl) (Nat.le_of_ble_eq_true rfl)
      · refine lv_iload_n C.1 C.2.1 dX3_count_12 rfl (lv_at hl 2 rfl) ?_
        refine lv_aload_n C.1 C.2.1 dX3_count_13 rfl (lv_at hl 0 rfl) ?_
        refine gGet (v := .ref (b 2)) (ref := RX3) (Cn := RX3) (T := TX3) (N := 19) C iX3 hO 0 rfl rfl 3 (by decide) w13 (fun _ h9 => h9) rfl dX3_count_14 ?_
        refine lv_iload_n C.1 C.2.1 dX3_count_17 rfl (lv_at hl 3 rfl) ?_
        refine gIald (v := (s_key S) k) (j := k) C hO 2 rfl (by omega) (by decide) rfl dX3_count_18 ?_
        refine lv_iload_n C.1 C.2.1 dX3_count_19 rfl (lv_at hl 1 rfl) ?_
        refine lv_icmp_ne (tgt := 27) C.1 C.2.1 dX3_count_20 (by decide) (fun c_2 => ?_) (fun c_2 => ?_)
        · have hz : ¬ s_key S k = x := c_2
          refine lv_iconst (v := 0) C.1 C.2.1 dX3_count_27 (by decide) ?_
          refine gAddN (x := c2) (y := 0) C.1 C.2.1 dX3_count_28 ?_
          refine lv_istore_n (lv' := [(2, .int (nI (c2 + 0))), (0, .ref (b 0)), (1, .int x), (3, .int (nI k))]) C.1 C.2.1 dX3_count_29 rfl hl (by decide) rfl (fun ls hl => ?_)
          refine gInc (j := k) (k := 3) (lv' := [(3, .int (nI (k + 1))), (2, .int (nI (c2 + 0))), (0, .ref (b 0)), (1, .int x)]) C.1 C.2.1 dX3_count_30 hl rfl (by decide) rfl (fun ls hl => ?_)
          refine lv_goto (tgt := 4) C.1 C.2.1 dX3_count_33 (by decide) ?_
          exact ih_lp24 (k + 1) (c2 + 0) (by omega) (by omega) (by first | (rw [hc24, cnt_s0 hz]; done) | (rw [hc24, cnt_s1 hz]; done) | (rw [hc24, cnt_s0 hz]; rfl)) _ _ hO _ (lv_sub hl [2, 3, 1, 0] rfl)
        · have hz : s_key S k = x := c_2
          refine lv_iconst (v := 1) C.1 C.2.1 dX3_count_23 (by decide) ?_
          refine lv_goto (tgt := 28) C.1 C.2.1 dX3_count_24 (by decide) ?_
          refine gAddN (x := c2) (y := 1) C.1 C.2.1 dX3_count_28 ?_
          refine lv_istore_n (lv' := [(2, .int (nI (c2 + 1))), (0, .ref (b 0)), (1, .int x), (3, .int (nI k))]) C.1 C.2.1 dX3_count_29 rfl hl (by decide) rfl (fun ls hl => ?_)
          refine gInc (j := k) (k := 3) (lv' := [(3, .int (nI (k + 1))), (2, .int (nI (c2 + 1))), (0, .ref (b 0)), (1, .int x)]) C.1 C.2.1 dX3_count_30 hl rfl (by decide) rfl (fun ls hl => ?_)
          refine lv_goto (tgt := 4) C.1 C.2.1 dX3_count_33 (by decide) ?_
          exact ih_lp24 (k + 1) (c2 + 1) (by omega) (by omega) (by first | (rw [hc24, cnt_s0 hz]; done) | (rw [hc24, cnt_s1 hz]; done) | (rw [hc24, cnt_s0 hz]; rfl)) _ _ hO _ (lv_sub hl [2, 3, 1, 0] rfl)
  exact lp24 (s_n S + 1) 0 0 (by omega) (Nat.zero_le _) rfl _ _ hO _ (lv_sub hl [2, 3, 1, 0] rfl)

set_option maxHeartbeats 4000000 in
set_option maxRecDepth 100000 in
theorem c_X3_kept (l : Launch) (E : gE) (b : Nat → Nat) (S : St) (th : Int32) (mk : Nat → Int32) (F : va_W) (x : Int32) (hn : s_n S ≤ 48) : gMi l E yX3_kept wsX3_kept ({ frames := 0, cells := 0, slots := 0, locals := 0 }) (mW E b S th mk ++ F) [.ref (b 0), .int x] (nI (cnt (s_sto S) x (s_n S))) (mW E b S th mk ++ F) 0 0 := by
  refine gMi.of (cc := cX3_kept) (maxL := 4) (ty := .int) (by decide) rfl (Nat.le_of_ble_eq_true rfl) ?_
  intro p e s m args below meth c A C ls hl hO
  have hl : lv_has ls 4 [(0, .ref (b 0)), (1, .int x)] := hl
  have iX3 : ∀ w ∈ u_ws RX3 TX3 19, w ∈ wsX3_kept := by decide +kernel
  have w58 : Cond.fieldLink RX3 58 "ParrotLogModel" "many" "I" ∈ wsX3_kept := by decide +kernel
  have w19 : Cond.fieldLink RX3 19 "ParrotLogModel" "storm" "[I" ∈ wsX3_kept := by decide +kernel
  refine lv_iconst (v := 0) C.1 C.2.1 dX3_kept_0 (by decide) ?_
  refine lv_istore_n (lv' := [(2, .int 0), (0, .ref (b 0)), (1, .int x)]) C.1 C.2.1 dX3_kept_1 rfl hl (by decide) rfl (fun ls hl => ?_)
  refine lv_iconst (v := 0) C.1 C.2.1 dX3_kept_2 (by decide) ?_
  refine lv_istore_n (lv' := [(3, .int 0), (2, .int 0), (0, .ref (b 0)), (1, .int x)]) C.1 C.2.1 dX3_kept_3 rfl hl (by decide) rfl (fun ls hl => ?_)
  have lp24 : ∀ (f : Nat) (k : Nat) (c2 : Nat), (s_n S + 1 ≤ k + f) → (k ≤ s_n S) → (c2 = cnt (s_sto S) x k) → ∀ (H : Heap) (locs : List Loc), gO E A s (mW E b S th mk ++ F) H locs → ∀ ls : Array Slot, lv_has ls 4 [(0, .ref (b 0)), (1, .int x), (2, .int (nI c2)), (3, .int (nI k))] → W p l e ({ frames := 0, cells := 0, slots := 0, locals := 0 } : Room) s m args below meth c H locs 0 0 (MQ below (gQi E A (nI (cnt (s_sto S) x (s_n S))) (mW E b S th mk ++ F)) args s 0 0 A) (F0 m 4 ls []) := by
    intro f
    induction f with
    | zero =>
      intro k c2 hf hk hc24
      exact absurd hf (by omega)
    | succ f ih_lp24 =>
      intro k c2 hf hk hc24 H locs hO ls hl
      refine lv_iload_n C.1 C.2.1 dX3_kept_4 rfl (lv_at hl 3 rfl) ?_
      refine lv_aload_n C.1 C.2.1 dX3_kept_5 rfl (lv_at hl 0 rfl) ?_
      refine gGet (v := .int (nI (s_n S))) (ref := RX3) (Cn := RX3) (T := TX3) (N := 19) C iX3 hO 0 rfl rfl 1 (by decide) w58 (fun _ h9 => h9) rfl dX3_kept_6 ?_
      refine gGeN (x := k) (y := (s_n S)) (tgt := 36) C.1 C.2.1 (by omega) (by omega) dX3_kept_9 (by decide) (fun c_1 => ?_) (fun c_1 => ?_)
      · refine lv_iload_n C.1 C.2.1 dX3_kept_36 rfl (lv_at hl 2 rfl) ?_
        exact gRi C hO rfl (by rw [hc24, show k = s_n S by omega]) dX3_kept_37 (Nat.le_of_ble_eq_true rfl) (Nat.le_of_ble_eq_true rfl)
      · refine lv_iload_n C.1 C.2.1 dX3_kept_12 rfl (lv_at hl 2 rfl) ?_
        refine lv_aload_n C.1 C.2.1 dX3_kept_13 rfl (lv_at hl 0 rfl) ?_
        refine gGet (v := .ref (b 4)) (ref := RX3) (Cn := RX3) (T := TX3) (N := 19) C iX3 hO 0 rfl rfl 5 (by decide) w19 (fun _ h9 => h9) rfl dX3_kept_14 ?_
        refine lv_iload_n C.1 C.2.1 dX3_kept_17 rfl (lv_at hl 3 rfl) ?_
        refine gIald (v := (s_sto S) k) (j := k) C hO 4 rfl (by omega) (by decide) rfl dX3_kept_18 ?_
        refine lv_iload_n C.1 C.2.1 dX3_kept_19 rfl (lv_at hl 1 rfl) ?_
        refine lv_icmp_ne (tgt := 27) C.1 C.2.1 dX3_kept_20 (by decide) (fun c_2 => ?_) (fun c_2 => ?_)
        · have hz : ¬ s_sto S k = x := c_2
          refine lv_iconst (v := 0) C.1 C.2.1 dX3_kept_27 (by decide) ?_
          refine gAddN (x := c2) (y := 0) C.1 C.2.1 dX3_kept_28 ?_
          refine lv_istore_n (lv' := [(2, .int (nI (c2 + 0))), (0, .ref (b 0)), (1, .int x), (3, .int (nI k))]) C.1 C.2.1 dX3_kept_29 rfl hl (by decide) rfl (fun ls hl => ?_)
          refine gInc (j := k) (k := 3) (lv' := [(3, .int (nI (k + 1))), (2, .int (nI (c2 + 0))), (0, .ref (b 0)), (1, .int x)]) C.1 C.2.1 dX3_kept_30 hl rfl (by decide) rfl (fun ls hl => ?_)
          refine lv_goto (tgt := 4) C.1 C.2.1 dX3_kept_33 (by decide) ?_
          exact ih_lp24 (k + 1) (c2 + 0) (by omega) (by omega) (by first | (rw [hc24, cnt_s0 hz]; done) | (rw [hc24, cnt_s1 hz]; done) | (rw [hc24, cnt_s0 hz]; rfl)) _ _ hO _ (lv_sub hl [2, 3, 1, 0] rfl)
        · have hz : s_sto S k = x := c_2
          refine lv_iconst (v := 1) C.1 C.2.1 dX3_kept_23 (by decide) ?_
          refine lv_goto (tgt := 28) C.1 C.2.1 dX3_kept_24 (by decide) ?_
          refine gAddN (x := c2) (y := 1) C.1 C.2.1 dX3_kept_28 ?_
          refine lv_istore_n (lv' := [(2, .int (nI (c2 + 1))), (0, .ref (b 0)), (1, .int x), (3, .int (nI k))]) C.1 C.2.1 dX3_kept_29 rfl hl (by decide) rfl (fun ls hl => ?_)
          refine gInc (j := k) (k := 3) (lv' := [(3, .int (nI (k + 1))), (2, .int (nI (c2 + 1))), (0, .ref (b 0)), (1, .int x)]) C.1 C.2.1 dX3_kept_30 hl rfl (by decide) rfl (fun ls hl => ?_)
          refine lv_goto (tgt := 4) C.1 C.2.1 dX3_kept_33 (by decide) ?_
          exact ih_lp24 (k + 1) (c2 + 1) (by omega) (by omega) (by first | (rw [hc24, cnt_s0 hz]; done) | (rw [hc24, cnt_s1 hz]; done) | (rw [hc24, cnt_s0 hz]; rfl)) _ _ hO _ (lv_sub hl [2, 3, 1, 0] rfl)
  exact lp24 (s_n S + 1) 0 0 (by omega) (Nat.zero_le _) rfl _ _ hO _ (lv_sub hl [2, 3, 1, 0] rfl)

set_option maxHeartbeats 4000000 in
set_option maxRecDepth 100000 in
theorem c_X3_first (l : Launch) (E : gE) (b : Nat → Nat) (S : St) (th : Int32) (mk : Nat → Int32) (F : va_W)  (hn : s_n S ≤ 48) : gMi l E yX3_first wsX3_first ({ frames := 0, cells := 0, slots := 0, locals := 0 }) (mW E b S th mk ++ F) [.ref (b 0)] (s_first S) (mW E b S th mk ++ F) 0 0 := by
  refine gMi.of (cc := cX3_first) (maxL := 1) (ty := .int) (by decide) rfl (Nat.le_of_ble_eq_true rfl) ?_
  intro p e s m args below meth c A C ls hl hO
  have hl : lv_has ls 1 [(0, .ref (b 0))] := hl
  have iX3 : ∀ w ∈ u_ws RX3 TX3 19, w ∈ wsX3_first := by decide +kernel
  have w58 : Cond.fieldLink RX3 58 "ParrotLogModel" "many" "I" ∈ wsX3_first := by decide +kernel
  have w9 : Cond.fieldLink RX3 9 "ParrotLogModel" "offset" "[I" ∈ wsX3_first := by decide +kernel
  refine lv_aload_n C.1 C.2.1 dX3_first_0 rfl (lv_at hl 0 rfl) ?_
  refine gGet (v := .int (nI (s_n S))) (ref := RX3) (Cn := RX3) (T := TX3) (N := 19) C iX3 hO 0 rfl rfl 1 (by decide) w58 (fun _ h9 => h9) rfl dX3_first_1 ?_
  refine lv_if_ne (tgt := 11) C.1 C.2.1 dX3_first_4 (by decide) (fun c_1 => ?_) (fun c_1 => ?_)
  · have hz : ¬ s_n S = 0 := fun g => c_1 (by rw [g]; rfl)
    refine lv_aload_n C.1 C.2.1 dX3_first_11 rfl (lv_at hl 0 rfl) ?_
    refine gGet (v := .ref (b 1)) (ref := RX3) (Cn := RX3) (T := TX3) (N := 19) C iX3 hO 0 rfl rfl 2 (by decide) w9 (fun _ h9 => h9) rfl dX3_first_12 ?_
    refine lv_iconst (v := 0) C.1 C.2.1 dX3_first_15 (by decide) ?_
    refine gIald (v := (s_off S) 0) (j := 0) C hO 1 rfl (by omega) (by decide) rfl dX3_first_16 ?_
    exact gRi C hO rfl (by first | exact ((if_pos hz).symm) | exact ((if_neg hz).symm)) dX3_first_17 (Nat.le_of_ble_eq_true rfl) (Nat.le_of_ble_eq_true rfl)
  · have hz : s_n S = 0 := nI_z (by omega) c_1
    refine lv_iconst (v := (-1)) C.1 C.2.1 dX3_first_7 (by decide) ?_
    refine lv_goto (tgt := 17) C.1 C.2.1 dX3_first_8 (by decide) ?_
    exact gRi C hO rfl (by first | exact ((if_pos hz).symm) | exact ((if_neg hz).symm)) dX3_first_17 (Nat.le_of_ble_eq_true rfl) (Nat.le_of_ble_eq_true rfl)

set_option maxHeartbeats 4000000 in
set_option maxRecDepth 100000 in
theorem c_X3_lag (l : Launch) (E : gE) (b : Nat → Nat) (S : St) (th : Int32) (mk : Nat → Int32) (F : va_W) (i : Nat) (hn : s_n S ≤ 48) (hi : i < 6) : gMi l E yX3_lag wsX3_lag ({ frames := 1, cells := 0, slots := 0, locals := 22 }) (mW E b S th mk ++ F) [.ref (b 0), .int (nI i)] (nI (s_lag S i)) (mW E b S th mk ++ F) 0 0 := by
  refine gMi.of (cc := cX3_lag) (maxL := 2) (ty := .int) (by decide) rfl (Nat.le_of_ble_eq_true rfl) ?_
  intro p e s m args below meth c A C ls hl hO
  have hl : lv_has ls 2 [(0, .ref (b 0)), (1, .int (nI i))] := hl
  have iX3 : ∀ w ∈ u_ws RX3 TX3 19, w ∈ wsX3_lag := by decide +kernel
  have w58 : Cond.fieldLink RX3 58 "ParrotLogModel" "many" "I" ∈ wsX3_lag := by decide +kernel
  have w32 : Cond.fieldLink RX3 32 "ParrotLogModel" "at" "[I" ∈ wsX3_lag := by decide +kernel
  refine lv_aload_n C.1 C.2.1 dX3_lag_0 rfl (lv_at hl 0 rfl) ?_
  refine gGet (v := .int (nI (s_n S))) (ref := RX3) (Cn := RX3) (T := TX3) (N := 19) C iX3 hO 0 rfl rfl 1 (by decide) w58 (fun _ h9 => h9) rfl dX3_lag_1 ?_
  refine lv_aload_n C.1 C.2.1 dX3_lag_4 rfl (lv_at hl 0 rfl) ?_
  refine lv_aload_n C.1 C.2.1 dX3_lag_5 rfl (lv_at hl 0 rfl) ?_
  refine gGet (v := .ref (b 8)) (ref := RX3) (Cn := RX3) (T := TX3) (N := 19) C iX3 hO 0 rfl rfl 15 (by decide) w32 (fun _ h9 => h9) rfl dX3_lag_6 ?_
  refine lv_iload_n C.1 C.2.1 dX3_lag_9 rfl (lv_at hl 1 rfl) ?_
  refine gIald (v := (s_at S) i) (j := i) C hO 8 rfl (by omega) (by decide) rfl dX3_lag_10 ?_
  refine gCall_i (As := [.int ((s_at S) i)]) (rest := [.int (nI (s_n S))]) C hO (c_X3_from l E b S th mk F ((s_at S) i) (by omega)) (cwV 1 C.2.2.2.2.1 gX3_lag_X3_from rfl rfl rfl (by decide +kernel) ⟨(Nat.le_of_ble_eq_true rfl), (Nat.le_of_ble_eq_true rfl)⟩) (va_recv C.2.2.2.2.2.2.2.1.1 hO.1 (ci := 3) (q0 := 0) rfl rfl) rfl hl.1 rfl (Nat.le_of_ble_eq_true rfl) dX3_lag_11 ⟨(Nat.le_of_ble_eq_true rfl), (Nat.le_of_ble_eq_true rfl)⟩ (fun H locs hO => ?_)
  refine gSubN (x := (s_n S)) (y := (pf (s_off S) ((s_at S) i) (s_n S))) C.1 C.2.1 (pf_le _ _ _) dX3_lag_14 ?_
  exact gRi C hO rfl rfl dX3_lag_15 (Nat.le_of_ble_eq_true rfl) (Nat.le_of_ble_eq_true rfl)
