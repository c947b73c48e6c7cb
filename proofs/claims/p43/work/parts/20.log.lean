set_option maxHeartbeats 4000000 in
set_option maxRecDepth 100000 in
theorem c_X0_append (l : Launch) (E : gE) (a : Nat → Nat) (S : St) (mk rk rv : Nat → Int32) (F : va_W) (k v t : Int32) (hn : s_n S < 48) : gMi l E yX0_append wsX0_append ({ frames := 0, cells := 0, slots := 0, locals := 0 }) (xW E a S mk rk rv ++ F) [.ref (a 1), .int k, .int v, .int t] (s_nx S) (xW E a (S_app S k v t) mk rk rv ++ F) 0 0 := by
  refine gMi.of (cc := cX0_append) (maxL := 4) (ty := .int) (by decide) rfl (Nat.le_of_ble_eq_true rfl) ?_
  intro p e s m args below meth c A C ls hl hO
  have hl : lv_has ls 4 [(0, .ref (a 1)), (1, .int k), (2, .int v), (3, .int t)] := hl
  have iX0 : ∀ w ∈ u_ws RX0 TX0 8, w ∈ wsX0_append := by decide +kernel
  have w9 : Cond.fieldLink RX0 9 "ParrotLog$Log" "offsets" "[I" ∈ wsX0_append := by decide +kernel
  have w28 : Cond.fieldLink RX0 28 "ParrotLog$Log" "size" "I" ∈ wsX0_append := by decide +kernel
  have w32 : Cond.fieldLink RX0 32 "ParrotLog$Log" "next" "I" ∈ wsX0_append := by decide +kernel
  have w15 : Cond.fieldLink RX0 15 "ParrotLog$Log" "keys" "[I" ∈ wsX0_append := by decide +kernel
  have w18 : Cond.fieldLink RX0 18 "ParrotLog$Log" "values" "[I" ∈ wsX0_append := by decide +kernel
  have w21 : Cond.fieldLink RX0 21 "ParrotLog$Log" "stormNumbers" "[I" ∈ wsX0_append := by decide +kernel
  refine lv_aload_n C.1 C.2.1 dX0_append_0 rfl (lv_at hl 0 rfl) ?_
  refine gGet (v := .ref (a 2)) (ref := RX0) (Cn := RX0) (T := TX0) (N := 8) C iX0 hO 1 rfl rfl 0 (by decide) w9 (fun _ h9 => h9) rfl dX0_append_1 ?_
  refine lv_aload_n C.1 C.2.1 dX0_append_4 rfl (lv_at hl 0 rfl) ?_
  refine gGet (v := .int (nI (s_n S))) (ref := RX0) (Cn := RX0) (T := TX0) (N := 8) C iX0 hO 1 rfl rfl 5 (by decide) w28 (fun _ h9 => h9) rfl dX0_append_5 ?_
  refine lv_aload_n C.1 C.2.1 dX0_append_8 rfl (lv_at hl 0 rfl) ?_
  refine gGet (v := .int (s_nx S)) (ref := RX0) (Cn := RX0) (T := TX0) (N := 8) C iX0 hO 1 rfl rfl 6 (by decide) w32 (fun _ h9 => h9) rfl dX0_append_9 ?_
  refine gIast (j := (s_n S)) (ws' := (xW E a (mkS (upd (s_off S) (s_n S) (s_nx S)) (s_key S) (s_val S) (s_sto S) (s_n S) (s_nx S) (s_dr S) (s_hr S) (s_sc S) (s_on S) (s_said S) (s_sh S) (s_pc S) (s_at S) (s_hd S) (s_ms S) (s_kn S)) mk rk rv ++ F)) C hO 2 rfl (by omega) (by decide) rfl dX0_append_12 (fun H locs hO => ?_)
  refine lv_aload_n C.1 C.2.1 dX0_append_13 rfl (lv_at hl 0 rfl) ?_
  refine gGet (v := .ref (a 3)) (ref := RX0) (Cn := RX0) (T := TX0) (N := 8) C iX0 hO 1 rfl rfl 1 (by decide) w15 (fun _ h9 => h9) rfl dX0_append_14 ?_
  refine lv_aload_n C.1 C.2.1 dX0_append_17 rfl (lv_at hl 0 rfl) ?_
  refine gGet (v := .int (nI (s_n S))) (ref := RX0) (Cn := RX0) (T := TX0) (N := 8) C iX0 hO 1 rfl rfl 5 (by decide) w28 (fun _ h9 => h9) rfl dX0_append_18 ?_
  refine lv_iload_n C.1 C.2.1 dX0_append_21 rfl (lv_at hl 1 rfl) ?_
  refine gIast (j := (s_n S)) (ws' := (xW E a (mkS (upd (s_off S) (s_n S) (s_nx S)) (upd (s_key S) (s_n S) k) (s_val S) (s_sto S) (s_n S) (s_nx S) (s_dr S) (s_hr S) (s_sc S) (s_on S) (s_said S) (s_sh S) (s_pc S) (s_at S) (s_hd S) (s_ms S) (s_kn S)) mk rk rv ++ F)) C hO 3 rfl (by omega) (by decide) rfl dX0_append_22 (fun H locs hO => ?_)
  refine lv_aload_n C.1 C.2.1 dX0_append_23 rfl (lv_at hl 0 rfl) ?_
  refine gGet (v := .ref (a 4)) (ref := RX0) (Cn := RX0) (T := TX0) (N := 8) C iX0 hO 1 rfl rfl 2 (by decide) w18 (fun _ h9 => h9) rfl dX0_append_24 ?_
  refine lv_aload_n C.1 C.2.1 dX0_append_27 rfl (lv_at hl 0 rfl) ?_
  refine gGet (v := .int (nI (s_n S))) (ref := RX0) (Cn := RX0) (T := TX0) (N := 8) C iX0 hO 1 rfl rfl 5 (by decide) w28 (fun _ h9 => h9) rfl dX0_append_28 ?_
  refine lv_iload_n C.1 C.2.1 dX0_append_31 rfl (lv_at hl 2 rfl) ?_
  refine gIast (j := (s_n S)) (ws' := (xW E a (mkS (upd (s_off S) (s_n S) (s_nx S)) (upd (s_key S) (s_n S) k) (upd (s_val S) (s_n S) v) (s_sto S) (s_n S) (s_nx S) (s_dr S) (s_hr S) (s_sc S) (s_on S) (s_said S) (s_sh S) (s_pc S) (s_at S) (s_hd S) (s_ms S) (s_kn S)) mk rk rv ++ F)) C hO 4 rfl (by omega) (by decide) rfl dX0_append_32 (fun H locs hO => ?_)
  refine lv_aload_n C.1 C.2.1 dX0_append_33 rfl (lv_at hl 0 rfl) ?_
  refine gGet (v := .ref (a 5)) (ref := RX0) (Cn := RX0) (T := TX0) (N := 8) C iX0 hO 1 rfl rfl 3 (by decide) w21 (fun _ h9 => h9) rfl dX0_append_34 ?_
  refine lv_aload_n C.1 C.2.1 dX0_append_37 rfl (lv_at hl 0 rfl) ?_
  refine gGet (v := .int (nI (s_n S))) (ref := RX0) (Cn := RX0) (T := TX0) (N := 8) C iX0 hO 1 rfl rfl 5 (by decide) w28 (fun _ h9 => h9) rfl dX0_append_38 ?_
  refine lv_iload_n C.1 C.2.1 dX0_append_41 rfl (lv_at hl 3 rfl) ?_
  refine gIast (j := (s_n S)) (ws' := (xW E a (mkS (upd (s_off S) (s_n S) (s_nx S)) (upd (s_key S) (s_n S) k) (upd (s_val S) (s_n S) v) (upd (s_sto S) (s_n S) t) (s_n S) (s_nx S) (s_dr S) (s_hr S) (s_sc S) (s_on S) (s_said S) (s_sh S) (s_pc S) (s_at S) (s_hd S) (s_ms S) (s_kn S)) mk rk rv ++ F)) C hO 5 rfl (by omega) (by decide) rfl dX0_append_42 (fun H locs hO => ?_)
  refine lv_aload_n C.1 C.2.1 dX0_append_43 rfl (lv_at hl 0 rfl) ?_
  refine lv_dup C.1 C.2.1 dX0_append_44 rfl ?_
  refine gGet (v := .int (nI (s_n S))) (ref := RX0) (Cn := RX0) (T := TX0) (N := 8) C iX0 hO 1 rfl rfl 5 (by decide) w28 (fun _ h9 => h9) rfl dX0_append_45 ?_
  refine lv_iconst (v := 1) C.1 C.2.1 dX0_append_48 (by decide) ?_
  refine gAddN (x := (s_n S)) (y := 1) C.1 C.2.1 dX0_append_49 ?_
  refine gPut (ws' := (xW E a (mkS (upd (s_off S) (s_n S) (s_nx S)) (upd (s_key S) (s_n S) k) (upd (s_val S) (s_n S) v) (upd (s_sto S) (s_n S) t) ((s_n S) + 1) (s_nx S) (s_dr S) (s_hr S) (s_sc S) (s_on S) (s_said S) (s_sh S) (s_pc S) (s_at S) (s_hd S) (s_ms S) (s_kn S)) mk rk rv ++ F)) (ref := RX0) (Cn := RX0) (T := TX0) (N := 8) C iX0 tyX0 tyX0_ok nmX0 hO 1 rfl rfl 5 (by decide) w28 (fun _ h9 => h9) rfl (by decide +kernel) rfl rfl (Nat.le_of_ble_eq_true rfl) rfl dX0_append_50 (fun H locs hO => ?_)
  refine lv_aload_n C.1 C.2.1 dX0_append_53 rfl (lv_at hl 0 rfl) ?_
  refine lv_dup C.1 C.2.1 dX0_append_54 rfl ?_
  refine gGet (v := .int (s_nx S)) (ref := RX0) (Cn := RX0) (T := TX0) (N := 8) C iX0 hO 1 rfl rfl 6 (by decide) w32 (fun _ h9 => h9) rfl dX0_append_55 ?_
  refine lv_iconst (v := 1) C.1 C.2.1 dX0_append_58 (by decide) ?_
  refine lv_iadd C.1 C.2.1 dX0_append_59 ?_
  refine gPut (ws' := (xW E a (mkS (upd (s_off S) (s_n S) (s_nx S)) (upd (s_key S) (s_n S) k) (upd (s_val S) (s_n S) v) (upd (s_sto S) (s_n S) t) ((s_n S) + 1) ((s_nx S) + 1) (s_dr S) (s_hr S) (s_sc S) (s_on S) (s_said S) (s_sh S) (s_pc S) (s_at S) (s_hd S) (s_ms S) (s_kn S)) mk rk rv ++ F)) (ref := RX0) (Cn := RX0) (T := TX0) (N := 8) C iX0 tyX0 tyX0_ok nmX0 hO 1 rfl rfl 6 (by decide) w32 (fun _ h9 => h9) rfl (by decide +kernel) rfl rfl (Nat.le_of_ble_eq_true rfl) rfl dX0_append_60 (fun H locs hO => ?_)
  refine lv_aload_n C.1 C.2.1 dX0_append_63 rfl (lv_at hl 0 rfl) ?_
  refine gGet (v := .int ((s_nx S) + 1)) (ref := RX0) (Cn := RX0) (T := TX0) (N := 8) C iX0 hO 1 rfl rfl 6 (by decide) w32 (fun _ h9 => h9) rfl dX0_append_64 ?_
  refine lv_iconst (v := 1) C.1 C.2.1 dX0_append_67 (by decide) ?_
  refine lv_isub C.1 C.2.1 dX0_append_68 ?_
  exact gRi C hO rfl (by rw [Int32.add_sub_cancel]) dX0_append_69 (Nat.le_of_ble_eq_true rfl) (Nat.le_of_ble_eq_true rfl)

set_option maxHeartbeats 4000000 in
set_option maxRecDepth 100000 in
theorem c_X0_positionFrom (l : Launch) (E : gE) (a : Nat → Nat) (S : St) (mk rk rv : Nat → Int32) (F : va_W) (o : Int32) (hn : s_n S ≤ 48) : gMi l E yX0_positionFrom wsX0_positionFrom ({ frames := 0, cells := 0, slots := 0, locals := 0 }) (xW E a S mk rk rv ++ F) [.ref (a 1), .int o] (nI (pf (s_off S) o (s_n S))) (xW E a S mk rk rv ++ F) 0 0 := by
  refine gMi.of (cc := cX0_positionFrom) (maxL := 3) (ty := .int) (by decide) rfl (Nat.le_of_ble_eq_true rfl) ?_
  intro p e s m args below meth c A C ls hl hO
  have hl : lv_has ls 3 [(0, .ref (a 1)), (1, .int o)] := hl
  have iX0 : ∀ w ∈ u_ws RX0 TX0 8, w ∈ wsX0_positionFrom := by decide +kernel
  have w28 : Cond.fieldLink RX0 28 "ParrotLog$Log" "size" "I" ∈ wsX0_positionFrom := by decide +kernel
  have w9 : Cond.fieldLink RX0 9 "ParrotLog$Log" "offsets" "[I" ∈ wsX0_positionFrom := by decide +kernel
  refine lv_iconst (v := 0) C.1 C.2.1 dX0_positionFrom_0 (by decide) ?_
  refine lv_istore_n (lv' := [(2, .int 0), (0, .ref (a 1)), (1, .int o)]) C.1 C.2.1 dX0_positionFrom_1 rfl hl (by decide) rfl (fun ls hl => ?_)
  have lp24 : ∀ (f : Nat) (k : Nat), (s_n S + 1 ≤ k + f) → (k ≤ s_n S) → (pfA (s_off S) o (s_n S - k) k = pf (s_off S) o (s_n S)) → ∀ (H : Heap) (locs : List Loc), gO E A s (xW E a S mk rk rv ++ F) H locs → ∀ ls : Array Slot, lv_has ls 3 [(0, .ref (a 1)), (1, .int o), (2, .int (nI k))] → W p l e ({ frames := 0, cells := 0, slots := 0, locals := 0 } : Room) s m args below meth c H locs 0 0 (MQ below (gQi E A (nI (pf (s_off S) o (s_n S))) (xW E a S mk rk rv ++ F)) args s 0 0 A) (F0 m 2 ls []) := by
    intro f
    induction f with
    | zero =>
      intro k hf hk hR
      exact absurd hf (by omega)
    | succ f ih_lp24 =>
      intro k hf hk hR H locs hO ls hl
      refine lv_iload_n C.1 C.2.1 dX0_positionFrom_2 rfl (lv_at hl 2 rfl) ?_
      refine lv_aload_n C.1 C.2.1 dX0_positionFrom_3 rfl (lv_at hl 0 rfl) ?_
      refine gGet (v := .int (nI (s_n S))) (ref := RX0) (Cn := RX0) (T := TX0) (N := 8) C iX0 hO 1 rfl rfl 5 (by decide) w28 (fun _ h9 => h9) rfl dX0_positionFrom_4 ?_
      refine gGeN (x := k) (y := (s_n S)) (tgt := 26) C.1 C.2.1 (by omega) (by omega) dX0_positionFrom_7 (by decide) (fun c_1 => ?_) (fun c_1 => ?_)
      · refine lv_iload_n C.1 C.2.1 dX0_positionFrom_26 rfl (lv_at hl 2 rfl) ?_
        exact gRi C hO rfl (by first | (rw [← hR, show s_n S - k = 0 by omega, pfA]; done) | (rw [← hR, show s_n S - k = s_n S - (k + 1) + 1 by omega, pfA, if_neg c_2]; done)) dX0_positionFrom_27 (Nat.le_of_ble_eq_true rfl) (Nat.le_of_ble_eq_true rfl)
      · refine lv_aload_n C.1 C.2.1 dX0_positionFrom_10 rfl (lv_at hl 0 rfl) ?_
        refine gGet (v := .ref (a 2)) (ref := RX0) (Cn := RX0) (T := TX0) (N := 8) C iX0 hO 1 rfl rfl 0 (by decide) w9 (fun _ h9 => h9) rfl dX0_positionFrom_11 ?_
        refine lv_iload_n C.1 C.2.1 dX0_positionFrom_14 rfl (lv_at hl 2 rfl) ?_
        refine gIald (v := (s_off S) k) (j := k) C hO 2 rfl (by omega) (by decide) rfl dX0_positionFrom_15 ?_
        refine lv_iload_n C.1 C.2.1 dX0_positionFrom_16 rfl (lv_at hl 1 rfl) ?_
        refine gGeI (tgt := 26) C.1 C.2.1 dX0_positionFrom_17 (by decide) (fun c_2 => ?_) (fun c_2 => ?_)
        · refine lv_iload_n C.1 C.2.1 dX0_positionFrom_26 rfl (lv_at hl 2 rfl) ?_
          exact gRi C hO rfl (by first | (rw [← hR, show s_n S - k = 0 by omega, pfA]; done) | (rw [← hR, show s_n S - k = s_n S - (k + 1) + 1 by omega, pfA, if_neg c_2]; done)) dX0_positionFrom_27 (Nat.le_of_ble_eq_true rfl) (Nat.le_of_ble_eq_true rfl)
        · refine gInc (j := k) (k := 2) (lv' := [(2, .int (nI (k + 1))), (0, .ref (a 1)), (1, .int o)]) C.1 C.2.1 dX0_positionFrom_20 hl rfl (by decide) rfl (fun ls hl => ?_)
          refine lv_goto (tgt := 2) C.1 C.2.1 dX0_positionFrom_23 (by decide) ?_
          exact ih_lp24 (k + 1) (by omega) (by omega) (by rw [← hR, show s_n S - k = s_n S - (k + 1) + 1 by omega, pfA, if_pos c_2]) _ _ hO _ (lv_sub hl [1, 2, 0] rfl)
  exact lp24 (s_n S + 1) 0 (by omega) (Nat.zero_le _) rfl _ _ hO _ (lv_sub hl [1, 2, 0] rfl)

set_option maxHeartbeats 4000000 in
set_option maxRecDepth 100000 in
theorem c_X0_markFirst (l : Launch) (E : gE) (a : Nat → Nat) (S : St) (mk rk rv : Nat → Int32) (F : va_W)  (hn : s_n S ≤ 48) : gMv l E yX0_markFirst wsX0_markFirst ({ frames := 0, cells := 0, slots := 0, locals := 0 }) (xW E a S mk rk rv ++ F) [.ref (a 1)] (xW E a S (mkU gFirst mk (s_n S)) rk rv ++ F) 0 0 := by
  refine gMv.of (cc := cX0_markFirst) (maxL := 2) (by decide) rfl (Nat.le_of_ble_eq_true rfl) ?_
  intro p e s m args below meth c A C ls hl hO
  have hl : lv_has ls 2 [(0, .ref (a 1))] := hl
  have iX0 : ∀ w ∈ u_ws RX0 TX0 8, w ∈ wsX0_markFirst := by decide +kernel
  have w28 : Cond.fieldLink RX0 28 "ParrotLog$Log" "size" "I" ∈ wsX0_markFirst := by decide +kernel
  have w24 : Cond.fieldLink RX0 24 "ParrotLog$Log" "marked" "[Z" ∈ wsX0_markFirst := by decide +kernel
  have hO : gO E A s (xW E a S (mkU gFirst mk 0) rk rv ++ F) s.heap [] := by rw [mkU_0]; exact hO
  refine lv_iconst (v := 0) C.1 C.2.1 dX0_markFirst_0 (by decide) ?_
  refine lv_istore_n (lv' := [(1, .int 0), (0, .ref (a 1))]) C.1 C.2.1 dX0_markFirst_1 rfl hl (by decide) rfl (fun ls hl => ?_)
  have lp24 : ∀ (f : Nat) (k : Nat), (s_n S + 1 ≤ k + f) → (k ≤ s_n S) → ∀ (H : Heap) (locs : List Loc), gO E A s (xW E a S (mkU gFirst mk k) rk rv ++ F) H locs → ∀ ls : Array Slot, lv_has ls 2 [(0, .ref (a 1)), (1, .int (nI k))] → W p l e ({ frames := 0, cells := 0, slots := 0, locals := 0 } : Room) s m args below meth c H locs 0 0 (MQ below (gQv E A (xW E a S (mkU gFirst mk (s_n S)) rk rv ++ F)) args s 0 0 A) (F0 m 2 ls []) := by
    intro f
    induction f with
    | zero =>
      intro k hf hk
      exact absurd hf (by omega)
    | succ f ih_lp24 =>
      intro k hf hk H locs hO ls hl
      refine lv_iload_n C.1 C.2.1 dX0_markFirst_2 rfl (lv_at hl 1 rfl) ?_
      refine lv_aload_n C.1 C.2.1 dX0_markFirst_3 rfl (lv_at hl 0 rfl) ?_
      refine gGet (v := .int (nI (s_n S))) (ref := RX0) (Cn := RX0) (T := TX0) (N := 8) C iX0 hO 1 rfl rfl 5 (by decide) w28 (fun _ h9 => h9) rfl dX0_markFirst_4 ?_
      refine gGeN (x := k) (y := (s_n S)) (tgt := 31) C.1 C.2.1 (by omega) (by omega) dX0_markFirst_7 (by decide) (fun c_1 => ?_) (fun c_1 => ?_)
      · exact gRv C ((show k = s_n S by omega) ▸ hO) dX0_markFirst_31 (Nat.le_of_ble_eq_true rfl) (Nat.le_of_ble_eq_true rfl)
      · refine lv_aload_n C.1 C.2.1 dX0_markFirst_10 rfl (lv_at hl 0 rfl) ?_
        refine gGet (v := .ref (a 6)) (ref := RX0) (Cn := RX0) (T := TX0) (N := 8) C iX0 hO 1 rfl rfl 4 (by decide) w24 (fun _ h9 => h9) rfl dX0_markFirst_11 ?_
        refine lv_iload_n C.1 C.2.1 dX0_markFirst_14 rfl (lv_at hl 1 rfl) ?_
        refine lv_iload_n C.1 C.2.1 dX0_markFirst_15 rfl (lv_at hl 1 rfl) ?_
        refine lv_if_ne (tgt := 23) C.1 C.2.1 dX0_markFirst_16 (by decide) (fun c_2 => ?_) (fun c_2 => ?_)
        · have hz : gFirst k = 0 := if_neg (fun h => c_2 (by rw [h]; rfl))
          refine lv_iconst (v := 0) C.1 C.2.1 dX0_markFirst_23 (by decide) ?_
          refine gZast (j := k) (ws' := (xW E a S (mkU gFirst mk (k + 1)) rk rv ++ F)) C hO 6 rfl (by omega) (by decide) rfl (by rw [mkU_sv hz]; rfl) dX0_markFirst_24 (fun H locs hO => ?_)
          refine gInc (j := k) (k := 1) (lv' := [(1, .int (nI (k + 1))), (0, .ref (a 1))]) C.1 C.2.1 dX0_markFirst_25 hl rfl (by decide) rfl (fun ls hl => ?_)
          refine lv_goto (tgt := 2) C.1 C.2.1 dX0_markFirst_28 (by decide) ?_
          exact ih_lp24 (k + 1) (by omega) (by omega) _ _ hO _ (lv_sub hl [1, 0] rfl)
        · have hz : gFirst k = 1 := if_pos (nI_z (by omega) c_2)
          refine lv_iconst (v := 1) C.1 C.2.1 dX0_markFirst_19 (by decide) ?_
          refine lv_goto (tgt := 24) C.1 C.2.1 dX0_markFirst_20 (by decide) ?_
          refine gZast (j := k) (ws' := (xW E a S (mkU gFirst mk (k + 1)) rk rv ++ F)) C hO 6 rfl (by omega) (by decide) rfl (by rw [mkU_sv hz]; rfl) dX0_markFirst_24 (fun H locs hO => ?_)
          refine gInc (j := k) (k := 1) (lv' := [(1, .int (nI (k + 1))), (0, .ref (a 1))]) C.1 C.2.1 dX0_markFirst_25 hl rfl (by decide) rfl (fun ls hl => ?_)
          refine lv_goto (tgt := 2) C.1 C.2.1 dX0_markFirst_28 (by decide) ?_
          exact ih_lp24 (k + 1) (by omega) (by omega) _ _ hO _ (lv_sub hl [1, 0] rfl)
  exact lp24 (s_n S + 1) 0 (by omega) (Nat.zero_le _) _ _ hO _ (lv_sub hl [1, 0] rfl)

set_option maxHeartbeats 4000000 in
set_option maxRecDepth 100000 in
theorem c_X0_markAhead (l : Launch) (E : gE) (a : Nat → Nat) (S : St) (mk rk rv : Nat → Int32) (F : va_W) (o : Int32) (hn : s_n S ≤ 48) : gMv l E yX0_markAhead wsX0_markAhead ({ frames := 0, cells := 0, slots := 0, locals := 0 }) (xW E a S mk rk rv ++ F) [.ref (a 1), .int o] (xW E a S (mkU (gAhead (s_off S) o) mk (s_n S)) rk rv ++ F) 0 0 := by
  refine gMv.of (cc := cX0_markAhead) (maxL := 3) (by decide) rfl (Nat.le_of_ble_eq_true rfl) ?_
  intro p e s m args below meth c A C ls hl hO
  have hl : lv_has ls 3 [(0, .ref (a 1)), (1, .int o)] := hl
  have iX0 : ∀ w ∈ u_ws RX0 TX0 8, w ∈ wsX0_markAhead := by decide +kernel
  have w28 : Cond.fieldLink RX0 28 "ParrotLog$Log" "size" "I" ∈ wsX0_markAhead := by decide +kernel
  have w24 : Cond.fieldLink RX0 24 "ParrotLog$Log" "marked" "[Z" ∈ wsX0_markAhead := by decide +kernel
  have w9 : Cond.fieldLink RX0 9 "ParrotLog$Log" "offsets" "[I" ∈ wsX0_markAhead := by decide +kernel
  have hO : gO E A s (xW E a S (mkU (gAhead (s_off S) o) mk 0) rk rv ++ F) s.heap [] := by rw [mkU_0]; exact hO
  refine lv_iconst (v := 0) C.1 C.2.1 dX0_markAhead_0 (by decide) ?_
  refine lv_istore_n (lv' := [(2, .int 0), (0, .ref (a 1)), (1, .int o)]) C.1 C.2.1 dX0_markAhead_1 rfl hl (by decide) rfl (fun ls hl => ?_)
  have lp24 : ∀ (f : Nat) (k : Nat), (s_n S + 1 ≤ k + f) → (k ≤ s_n S) → ∀ (H : Heap) (locs : List Loc), gO E A s (xW E a S (mkU (gAhead (s_off S) o) mk k) rk rv ++ F) H locs → ∀ ls : Array Slot, lv_has ls 3 [(0, .ref (a 1)), (1, .int o), (2, .int (nI k))] → W p l e ({ frames := 0, cells := 0, slots := 0, locals := 0 } : Room) s m args below meth c H locs 0 0 (MQ below (gQv E A (xW E a S (mkU (gAhead (s_off S) o) mk (s_n S)) rk rv ++ F)) args s 0 0 A) (F0 m 2 ls []) := by
    intro f
    induction f with
    | zero =>
      intro k hf hk
      exact absurd hf (by omega)
    | succ f ih_lp24 =>
      intro k hf hk H locs hO ls hl
      refine lv_iload_n C.1 C.2.1 dX0_markAhead_2 rfl (lv_at hl 2 rfl) ?_
      refine lv_aload_n C.1 C.2.1 dX0_markAhead_3 rfl (lv_at hl 0 rfl) ?_
      refine gGet (v := .int (nI (s_n S))) (ref := RX0) (Cn := RX0) (T := TX0) (N := 8) C iX0 hO 1 rfl rfl 5 (by decide) w28 (fun _ h9 => h9) rfl dX0_markAhead_4 ?_
      refine gGeN (x := k) (y := (s_n S)) (tgt := 37) C.1 C.2.1 (by omega) (by omega) dX0_markAhead_7 (by decide) (fun c_1 => ?_) (fun c_1 => ?_)
      · exact gRv C ((show k = s_n S by omega) ▸ hO) dX0_markAhead_37 (Nat.le_of_ble_eq_true rfl) (Nat.le_of_ble_eq_true rfl)
      · refine lv_aload_n C.1 C.2.1 dX0_markAhead_10 rfl (lv_at hl 0 rfl) ?_
        refine gGet (v := .ref (a 6)) (ref := RX0) (Cn := RX0) (T := TX0) (N := 8) C iX0 hO 1 rfl rfl 4 (by decide) w24 (fun _ h9 => h9) rfl dX0_markAhead_11 ?_
        refine lv_iload_n C.1 C.2.1 dX0_markAhead_14 rfl (lv_at hl 2 rfl) ?_
        refine lv_aload_n C.1 C.2.1 dX0_markAhead_15 rfl (lv_at hl 0 rfl) ?_
        refine gGet (v := .ref (a 2)) (ref := RX0) (Cn := RX0) (T := TX0) (N := 8) C iX0 hO 1 rfl rfl 0 (by decide) w9 (fun _ h9 => h9) rfl dX0_markAhead_16 ?_
        refine lv_iload_n C.1 C.2.1 dX0_markAhead_19 rfl (lv_at hl 2 rfl) ?_
        refine gIald (v := (s_off S) k) (j := k) C hO 2 rfl (by omega) (by decide) rfl dX0_markAhead_20 ?_
        refine lv_iload_n C.1 C.2.1 dX0_markAhead_21 rfl (lv_at hl 1 rfl) ?_
        refine gGeI (tgt := 29) C.1 C.2.1 dX0_markAhead_22 (by decide) (fun c_2 => ?_) (fun c_2 => ?_)
        · have hz : gAhead (s_off S) o k = 0 := if_neg c_2
          refine lv_iconst (v := 0) C.1 C.2.1 dX0_markAhead_29 (by decide) ?_
          refine gZast (j := k) (ws' := (xW E a S (mkU (gAhead (s_off S) o) mk (k + 1)) rk rv ++ F)) C hO 6 rfl (by omega) (by decide) rfl (by rw [mkU_sv hz]; rfl) dX0_markAhead_30 (fun H locs hO => ?_)
          refine gInc (j := k) (k := 2) (lv' := [(2, .int (nI (k + 1))), (0, .ref (a 1)), (1, .int o)]) C.1 C.2.1 dX0_markAhead_31 hl rfl (by decide) rfl (fun ls hl => ?_)
          refine lv_goto (tgt := 2) C.1 C.2.1 dX0_markAhead_34 (by decide) ?_
          exact ih_lp24 (k + 1) (by omega) (by omega) _ _ hO _ (lv_sub hl [1, 2, 0] rfl)
        · have hz : gAhead (s_off S) o k = 1 := if_pos c_2
          refine lv_iconst (v := 1) C.1 C.2.1 dX0_markAhead_25 (by decide) ?_
          refine lv_goto (tgt := 30) C.1 C.2.1 dX0_markAhead_26 (by decide) ?_
          refine gZast (j := k) (ws' := (xW E a S (mkU (gAhead (s_off S) o) mk (k + 1)) rk rv ++ F)) C hO 6 rfl (by omega) (by decide) rfl (by rw [mkU_sv hz]; rfl) dX0_markAhead_30 (fun H locs hO => ?_)
          refine gInc (j := k) (k := 2) (lv' := [(2, .int (nI (k + 1))), (0, .ref (a 1)), (1, .int o)]) C.1 C.2.1 dX0_markAhead_31 hl rfl (by decide) rfl (fun ls hl => ?_)
          refine lv_goto (tgt := 2) C.1 C.2.1 dX0_markAhead_34 (by decide) ?_
          exact ih_lp24 (k + 1) (by omega) (by omega) _ _ hO _ (lv_sub hl [1, 2, 0] rfl)
  exact lp24 (s_n S + 1) 0 (by omega) (Nat.zero_le _) _ _ hO _ (lv_sub hl [1, 2, 0] rfl)

set_option maxHeartbeats 4000000 in
set_option maxRecDepth 100000 in
theorem c_X0_latestPosition (l : Launch) (E : gE) (a : Nat → Nat) (S : St) (mk rk rv : Nat → Int32) (F : va_W) (k : Int32) (fr t0 : Nat) (hfr : fr < 1000) (ht0 : t0 ≤ 48) : gMi l E yX0_latestPosition wsX0_latestPosition ({ frames := 0, cells := 0, slots := 0, locals := 0 }) (xW E a S mk rk rv ++ F) [.ref (a 1), .int k, .int (nI fr), .int (nI t0)] (oI (lpO (s_key S) k fr t0)) (xW E a S mk rk rv ++ F) 0 0 := by
  refine gMi.of (cc := cX0_latestPosition) (maxL := 5) (ty := .int) (by decide) rfl (Nat.le_of_ble_eq_true rfl) ?_
  intro p e s m args below meth c A C ls hl hO
  have hl : lv_has ls 5 [(0, .ref (a 1)), (1, .int k), (2, .int (nI fr)), (3, .int (nI t0))] := hl
  have iX0 : ∀ w ∈ u_ws RX0 TX0 8, w ∈ wsX0_latestPosition := by decide +kernel
  have w15 : Cond.fieldLink RX0 15 "ParrotLog$Log" "keys" "[I" ∈ wsX0_latestPosition := by decide +kernel
  refine lv_iload_n C.1 C.2.1 dX0_latestPosition_0 rfl (lv_at hl 3 rfl) ?_
  refine lv_iconst (v := 1) C.1 C.2.1 dX0_latestPosition_1 (by decide) ?_
  refine lv_isub C.1 C.2.1 dX0_latestPosition_2 ?_
  refine lv_istore (lv' := [(4, .int ((nI t0) - (nI 1))), (0, .ref (a 1)), (1, .int k), (2, .int (nI fr)), (3, .int (nI t0))]) C.1 C.2.1 dX0_latestPosition_3 hl (by decide) rfl (fun ls hl => ?_)
  have lp24 : ∀ (f : Nat) (t : Nat), (t + 1 ≤ f) → (t ≤ t0) → (lpO (s_key S) k fr t = lpO (s_key S) k fr t0) → ∀ (H : Heap) (locs : List Loc), gO E A s (xW E a S mk rk rv ++ F) H locs → ∀ ls : Array Slot, lv_has ls 5 [(0, .ref (a 1)), (1, .int k), (2, .int (nI fr)), (4, .int (nI t - 1))] → W p l e ({ frames := 0, cells := 0, slots := 0, locals := 0 } : Room) s m args below meth c H locs 0 0 (MQ below (gQi E A (oI (lpO (s_key S) k fr t0)) (xW E a S mk rk rv ++ F)) args s 0 0 A) (F0 m 5 ls []) := by
    intro f
    induction f with
    | zero =>
      intro t hf ht hR
      exact absurd hf (by omega)
    | succ f ih_lp24 =>
      intro t hf ht hR H locs hO ls hl
      refine lv_iload C.1 C.2.1 dX0_latestPosition_5 (lv_at hl 3 rfl) ?_
      refine lv_iload_n C.1 C.2.1 dX0_latestPosition_7 rfl (lv_at hl 2 rfl) ?_
      refine lv_icmp_lt (tgt := 31) C.1 C.2.1 dX0_latestPosition_8 (by decide) (fun c_1 => ?_) (fun c_1 => ?_)
      · have hge : t ≤ fr := (lpO_ls (key := s_key S) (k := k) (by omega) (by omega)).mp c_1
        refine lv_iconst (v := (-1)) C.1 C.2.1 dX0_latestPosition_31 (by decide) ?_
        exact gRi C hO rfl (by rw [← hR, lpO_ge hge]; rfl) dX0_latestPosition_32 (Nat.le_of_ble_eq_true rfl) (Nat.le_of_ble_eq_true rfl)
      · have hlt : fr < t := by rw [lpO_ls (key := s_key S) (k := k) (by omega) (by omega)] at c_1; omega
        refine lv_aload_n C.1 C.2.1 dX0_latestPosition_11 rfl (lv_at hl 0 rfl) ?_
        refine gGet (v := .ref (a 3)) (ref := RX0) (Cn := RX0) (T := TX0) (N := 8) C iX0 hO 1 rfl rfl 1 (by decide) w15 (fun _ h9 => h9) rfl dX0_latestPosition_12 ?_
        refine lv_iload C.1 C.2.1 dX0_latestPosition_15 (lv_at hl 3 rfl) ?_
        refine lv_eqi (y := nI (t - 1)) (nI_p (by omega)) ?_
        refine gIald (v := (s_key S) (t - 1)) (j := (t - 1)) C hO 3 rfl (by omega) (by decide) rfl dX0_latestPosition_17 ?_
        refine lv_iload_n C.1 C.2.1 dX0_latestPosition_18 rfl (lv_at hl 1 rfl) ?_
        refine lv_icmp_ne (tgt := 25) C.1 C.2.1 dX0_latestPosition_19 (by decide) (fun c_2 => ?_) (fun c_2 => ?_)
        · refine lv_iinc (v := nI (t - 1) - 1) (lv' := [(4, .int (nI (t - 1) - 1)), (0, .ref (a 1)), (1, .int k), (2, .int (nI fr))]) C.1 C.2.1 dX0_latestPosition_25 hl (k := 3) rfl (by rw [iDec, nI_p (by omega)]) (by decide) rfl (fun ls hl => ?_)
          refine lv_goto (tgt := 5) C.1 C.2.1 dX0_latestPosition_28 (by decide) ?_
          exact ih_lp24 (t - 1) (by omega) (by omega) (by rw [← hR, lpO_s hlt, if_neg c_2]) _ _ hO _ (lv_sub hl [1, 2, 3, 0] rfl)
        · refine lv_iload C.1 C.2.1 dX0_latestPosition_22 (lv_at hl 3 rfl) ?_
          exact gRi C hO rfl (by rw [nI_p (by omega), ← hR, lpO_s hlt, if_pos c_2]; rfl) dX0_latestPosition_24 (Nat.le_of_ble_eq_true rfl) (Nat.le_of_ble_eq_true rfl)
  exact lp24 (t0 + 1) t0 (by omega) (Nat.le_refl _) rfl _ _ hO _ (lv_sub hl [1, 2, 3, 0] rfl)

set_option maxHeartbeats 4000000 in
set_option maxRecDepth 100000 in
theorem c_X0_markCompacted (l : Launch) (E : gE) (a : Nat → Nat) (S : St) (mk rk rv : Nat → Int32) (F : va_W) (q : Int32) (hn : s_n S ≤ 48) : gMv l E yX0_markCompacted wsX0_markCompacted ({ frames := 1, cells := 0, slots := 0, locals := 24 }) (xW E a S mk rk rv ++ F) [.ref (a 1), .int q] (xW E a S (mkU (gComp (s_off S) (s_key S) (s_val S) (s_n S) q) mk (s_n S)) rk rv ++ F) 0 0 := by
  refine gMv.of (cc := cX0_markCompacted) (maxL := 5) (by decide) rfl (Nat.le_of_ble_eq_true rfl) ?_
  intro p e s m args below meth c A C ls hl hO
  have hl : lv_has ls 5 [(0, .ref (a 1)), (1, .int q)] := hl
  have iX0 : ∀ w ∈ u_ws RX0 TX0 8, w ∈ wsX0_markCompacted := by decide +kernel
  have w28 : Cond.fieldLink RX0 28 "ParrotLog$Log" "size" "I" ∈ wsX0_markCompacted := by decide +kernel
  have w15 : Cond.fieldLink RX0 15 "ParrotLog$Log" "keys" "[I" ∈ wsX0_markCompacted := by decide +kernel
  have w18 : Cond.fieldLink RX0 18 "ParrotLog$Log" "values" "[I" ∈ wsX0_markCompacted := by decide +kernel
  have w24 : Cond.fieldLink RX0 24 "ParrotLog$Log" "marked" "[Z" ∈ wsX0_markCompacted := by decide +kernel
  have w9 : Cond.fieldLink RX0 9 "ParrotLog$Log" "offsets" "[I" ∈ wsX0_markCompacted := by decide +kernel
  have hO : gO E A s (xW E a S (mkU (gComp (s_off S) (s_key S) (s_val S) (s_n S) q) mk 0) rk rv ++ F) s.heap [] := by rw [mkU_0]; exact hO
  refine lv_iconst (v := 0) C.1 C.2.1 dX0_markCompacted_0 (by decide) ?_
  refine lv_istore_n (lv' := [(2, .int 0), (0, .ref (a 1)), (1, .int q)]) C.1 C.2.1 dX0_markCompacted_1 rfl hl (by decide) rfl (fun ls hl => ?_)
  have lp24 : ∀ (f : Nat) (k : Nat), (s_n S + 1 ≤ k + f) → (k ≤ s_n S) → ∀ (H : Heap) (locs : List Loc), gO E A s (xW E a S (mkU (gComp (s_off S) (s_key S) (s_val S) (s_n S) q) mk k) rk rv ++ F) H locs → ∀ ls : Array Slot, lv_has ls 5 [(0, .ref (a 1)), (1, .int q), (2, .int (nI k))] → W p l e ({ frames := 1, cells := 0, slots := 0, locals := 24 } : Room) s m args below meth c H locs 0 0 (MQ below (gQv E A (xW E a S (mkU (gComp (s_off S) (s_key S) (s_val S) (s_n S) q) mk (s_n S)) rk rv ++ F)) args s 0 0 A) (F0 m 2 ls []) := by
    intro f
    induction f with
    | zero =>
      intro k hf hk
      exact absurd hf (by omega)
    | succ f ih_lp24 =>
      intro k hf hk H locs hO ls hl
      refine lv_iload_n C.1 C.2.1 dX0_markCompacted_2 rfl (lv_at hl 2 rfl) ?_
      refine lv_aload_n C.1 C.2.1 dX0_markCompacted_3 rfl (lv_at hl 0 rfl) ?_
      refine gGet (v := .int (nI (s_n S))) (ref := RX0) (Cn := RX0) (T := TX0) (N := 8) C iX0 hO 1 rfl rfl 5 (by decide) w28 (fun _ h9 => h9) rfl dX0_markCompacted_4 ?_
      refine gGeN (x := k) (y := (s_n S)) (tgt := 89) C.1 C.2.1 (by omega) (by omega) dX0_markCompacted_7 (by decide) (fun c_1 => ?_) (fun c_1 => ?_)
      · exact gRv C ((show k = s_n S by omega) ▸ hO) dX0_markCompacted_89 (Nat.le_of_ble_eq_true rfl) (Nat.le_of_ble_eq_true rfl)
      · refine lv_aload_n C.1 C.2.1 dX0_markCompacted_10 rfl (lv_at hl 0 rfl) ?_
        refine lv_aload_n C.1 C.2.1 dX0_markCompacted_11 rfl (lv_at hl 0 rfl) ?_
        refine gGet (v := .ref (a 3)) (ref := RX0) (Cn := RX0) (T := TX0) (N := 8) C iX0 hO 1 rfl rfl 1 (by decide) w15 (fun _ h9 => h9) rfl dX0_markCompacted_12 ?_
        refine lv_iload_n C.1 C.2.1 dX0_markCompacted_15 rfl (lv_at hl 2 rfl) ?_
        refine gIald (v := (s_key S) k) (j := k) C hO 3 rfl (by omega) (by decide) rfl dX0_markCompacted_16 ?_
        refine lv_iload_n C.1 C.2.1 dX0_markCompacted_17 rfl (lv_at hl 2 rfl) ?_
        refine lv_iconst (v := 1) C.1 C.2.1 dX0_markCompacted_18 (by decide) ?_
        refine gAddN (x := k) (y := 1) C.1 C.2.1 dX0_markCompacted_19 ?_
        refine lv_aload_n C.1 C.2.1 dX0_markCompacted_20 rfl (lv_at hl 0 rfl) ?_
        refine gGet (v := .int (nI (s_n S))) (ref := RX0) (Cn := RX0) (T := TX0) (N := 8) C iX0 hO 1 rfl rfl 5 (by decide) w28 (fun _ h9 => h9) rfl dX0_markCompacted_21 ?_
        refine gCall_i (As := [.int ((s_key S) k), .int (nI (k + 1)), .int (nI (s_n S))]) (rest := []) C hO (c_X0_latestPosition l E a S (mkU (gComp (s_off S) (s_key S) (s_val S) (s_n S) q) mk k) rk rv F ((s_key S) k) (k + 1) (s_n S) (by omega) (by omega)) (cwV 3 C.2.2.2.2.1 gX0_markCompacted_X0_latestPosition rfl rfl rfl (by decide +kernel) ⟨(Nat.le_of_ble_eq_true rfl), (Nat.le_of_ble_eq_true rfl)⟩) (va_recv C.2.2.2.2.2.2.2.1.1 hO.1 (ci := 0) (q0 := 1) rfl rfl) rfl hl.1 rfl (Nat.le_of_ble_eq_true rfl) dX0_markCompacted_24 ⟨(Nat.le_of_ble_eq_true rfl), (Nat.le_of_ble_eq_true rfl)⟩ (fun H locs hO => ?_)
        refine lv_iconst (v := (-1)) C.1 C.2.1 dX0_markCompacted_27 (by decide) ?_
        refine lv_icmp_eq (tgt := 35) C.1 C.2.1 dX0_markCompacted_28 (by decide) (fun c_2 => ?_) (fun c_2 => ?_)
        · have h1 : lpO (s_key S) (s_key S k) (k + 1) (s_n S) = none := lpO_m1 (by omega) c_2
          refine lv_iconst (v := 0) C.1 C.2.1 dX0_markCompacted_35 (by decide) ?_
          refine lv_istore_n (lv' := [(3, .int 0), (0, .ref (a 1)), (1, .int q), (2, .int (nI k))]) C.1 C.2.1 dX0_markCompacted_36 rfl hl (by decide) rfl (fun ls hl => ?_)
          refine lv_aload_n C.1 C.2.1 dX0_markCompacted_37 rfl (lv_at hl 1 rfl) ?_
          refine gGet (v := .ref (a 4)) (ref := RX0) (Cn := RX0) (T := TX0) (N := 8) C iX0 hO 1 rfl rfl 2 (by decide) w18 (fun _ h9 => h9) rfl dX0_markCompacted_38 ?_
          refine lv_iload_n C.1 C.2.1 dX0_markCompacted_41 rfl (lv_at hl 3 rfl) ?_
          refine gIald (v := (s_val S) k) (j := k) C hO 4 rfl (by omega) (by decide) rfl dX0_markCompacted_42 ?_
          refine lv_if_ne (tgt := 60) C.1 C.2.1 dX0_markCompacted_43 (by decide) (fun c_3 => ?_) (fun c_3 => ?_)
          · have hv : ¬ s_val S k = 0 := c_3
            refine lv_iconst (v := 0) C.1 C.2.1 dX0_markCompacted_60 (by decide) ?_
            refine lv_istore (lv' := [(4, .int 0), (3, .int 0), (0, .ref (a 1)), (1, .int q), (2, .int (nI k))]) C.1 C.2.1 dX0_markCompacted_61 hl (by decide) rfl (fun ls hl => ?_)
            refine lv_aload_n C.1 C.2.1 dX0_markCompacted_63 rfl (lv_at hl 2 rfl) ?_
            refine gGet (v := .ref (a 6)) (ref := RX0) (Cn := RX0) (T := TX0) (N := 8) C iX0 hO 1 rfl rfl 4 (by decide) w24 (fun _ h9 => h9) rfl dX0_markCompacted_64 ?_
            refine lv_iload_n C.1 C.2.1 dX0_markCompacted_67 rfl (lv_at hl 4 rfl) ?_
            refine lv_iload_n C.1 C.2.1 dX0_markCompacted_68 rfl (lv_at hl 1 rfl) ?_
            refine lv_if_ne (tgt := 77) C.1 C.2.1 dX0_markCompacted_69 (by decide) (fun c_4 => ?_) (fun c_4 => ?_)
            · exact absurd rfl c_4
            · refine lv_iload C.1 C.2.1 dX0_markCompacted_72 (lv_at hl 0 rfl) ?_
              refine lv_if_eq (tgt := 81) C.1 C.2.1 dX0_markCompacted_74 (by decide) (fun c_5 => ?_) (fun c_5 => ?_)
              · refine lv_iconst (v := 0) C.1 C.2.1 dX0_markCompacted_81 (by decide) ?_
                refine gZast (j := k) (ws' := (xW E a S (mkU (gComp (s_off S) (s_key S) (s_val S) (s_n S) q) mk (k + 1)) rk rv ++ F)) C hO 6 rfl (by omega) (by decide) rfl (by rw [mkU_sv (g := gComp (s_off S) (s_key S) (s_val S) (s_n S) q) (mk := mk) (n := k) (x := 0) (by first | exact gComp_0 (fun h => h.elim (fun g => g h1) (fun g => hv g.1)) | exact gComp_0 (fun h => h.elim (fun g => g h1) (fun g => ho g.2)))]; rfl) dX0_markCompacted_82 (fun H locs hO => ?_)
                refine gInc (j := k) (k := 4) (lv' := [(2, .int (nI (k + 1))), (4, .int 0), (3, .int 0), (0, .ref (a 1)), (1, .int q)]) C.1 C.2.1 dX0_markCompacted_83 hl rfl (by decide) rfl (fun ls hl => ?_)
                refine lv_goto (tgt := 2) C.1 C.2.1 dX0_markCompacted_86 (by decide) ?_
                refine W.widen (k := 0) (n := 0) (by omega) (by omega) ?_
                exact ih_lp24 (k + 1) (by omega) (by omega) _ _ hO _ (lv_sub hl [3, 4, 0] rfl)
              · exact absurd rfl c_5
          · have hv : s_val S k = 0 := c_3
            refine lv_aload_n C.1 C.2.1 dX0_markCompacted_46 rfl (lv_at hl 1 rfl) ?_
            refine gGet (v := .ref (a 2)) (ref := RX0) (Cn := RX0) (T := TX0) (N := 8) C iX0 hO 1 rfl rfl 0 (by decide) w9 (fun _ h9 => h9) rfl dX0_markCompacted_47 ?_
            refine lv_iload_n C.1 C.2.1 dX0_markCompacted_50 rfl (lv_at hl 3 rfl) ?_
            refine gIald (v := (s_off S) k) (j := k) C hO 2 rfl (by omega) (by decide) rfl dX0_markCompacted_51 ?_
            refine lv_iload_n C.1 C.2.1 dX0_markCompacted_52 rfl (lv_at hl 2 rfl) ?_
            refine gGeI (tgt := 60) C.1 C.2.1 dX0_markCompacted_53 (by decide) (fun c_6 => ?_) (fun c_6 => ?_)
            · have ho : ¬ s_off S k < q := c_6
              refine lv_iconst (v := 0) C.1 C.2.1 dX0_markCompacted_60 (by decide) ?_
              refine lv_istore (lv' := [(4, .int 0), (3, .int 0), (0, .ref (a 1)), (1, .int q), (2, .int (nI k))]) C.1 C.2.1 dX0_markCompacted_61 hl (by decide) rfl (fun ls hl => ?_)
              refine lv_aload_n C.1 C.2.1 dX0_markCompacted_63 rfl (lv_at hl 2 rfl) ?_
              refine gGet (v := .ref (a 6)) (ref := RX0) (Cn := RX0) (T := TX0) (N := 8) C iX0 hO 1 rfl rfl 4 (by decide) w24 (fun _ h9 => h9) rfl dX0_markCompacted_64 ?_
              refine lv_iload_n C.1 C.2.1 dX0_markCompacted_67 rfl (lv_at hl 4 rfl) ?_
              refine lv_iload_n C.1 C.2.1 dX0_markCompacted_68 rfl (lv_at hl 1 rfl) ?_
              refine lv_if_ne (tgt := 77) C.1 C.2.1 dX0_markCompacted_69 (by decide) (fun c_7 => ?_) (fun c_7 => ?_)
              · exact absurd rfl c_7
              · refine lv_iload C.1 C.2.1 dX0_markCompacted_72 (lv_at hl 0 rfl) ?_
                refine lv_if_eq (tgt := 81) C.1 C.2.1 dX0_markCompacted_74 (by decide) (fun c_8 => ?_) (fun c_8 => ?_)
                · refine lv_iconst (v := 0) C.1 C.2.1 dX0_markCompacted_81 (by decide) ?_
                  refine gZast (j := k) (ws' := (xW E a S (mkU (gComp (s_off S) (s_key S) (s_val S) (s_n S) q) mk (k + 1)) rk rv ++ F)) C hO 6 rfl (by omega) (by decide) rfl (by rw [mkU_sv (g := gComp (s_off S) (s_key S) (s_val S) (s_n S) q) (mk := mk) (n := k) (x := 0) (by first | exact gComp_0 (fun h => h.elim (fun g => g h1) (fun g => hv g.1)) | exact gComp_0 (fun h => h.elim (fun g => g h1) (fun g => ho g.2)))]; rfl) dX0_markCompacted_82 (fun H locs hO => ?_)
                  refine gInc (j := k) (k := 4) (lv' := [(2, .int (nI (k + 1))), (4, .int 0), (3, .int 0), (0, .ref (a 1)), (1, .int q)]) C.1 C.2.1 dX0_markCompacted_83 hl rfl (by decide) rfl (fun ls hl => ?_)
                  refine lv_goto (tgt := 2) C.1 C.2.1 dX0_markCompacted_86 (by decide) ?_
                  refine W.widen (k := 0) (n := 0) (by omega) (by omega) ?_
                  exact ih_lp24 (k + 1) (by omega) (by omega) _ _ hO _ (lv_sub hl [3, 4, 0] rfl)
                · exact absurd rfl c_8
            · have ho : s_off S k < q := c_6
              refine lv_iconst (v := 1) C.1 C.2.1 dX0_markCompacted_56 (by decide) ?_
              refine lv_goto (tgt := 61) C.1 C.2.1 dX0_markCompacted_57 (by decide) ?_
              refine lv_istore (lv' := [(4, .int 1), (3, .int 0), (0, .ref (a 1)), (1, .int q), (2, .int (nI k))]) C.1 C.2.1 dX0_markCompacted_61 hl (by decide) rfl (fun ls hl => ?_)
              refine lv_aload_n C.1 C.2.1 dX0_markCompacted_63 rfl (lv_at hl 2 rfl) ?_
              refine gGet (v := .ref (a 6)) (ref := RX0) (Cn := RX0) (T := TX0) (N := 8) C iX0 hO 1 rfl rfl 4 (by decide) w24 (fun _ h9 => h9) rfl dX0_markCompacted_64 ?_
              refine lv_iload_n C.1 C.2.1 dX0_markCompacted_67 rfl (lv_at hl 4 rfl) ?_
              refine lv_iload_n C.1 C.2.1 dX0_markCompacted_68 rfl (lv_at hl 1 rfl) ?_
              refine lv_if_ne (tgt := 77) C.1 C.2.1 dX0_markCompacted_69 (by decide) (fun c_9 => ?_) (fun c_9 => ?_)
              · exact absurd rfl c_9
              · refine lv_iload C.1 C.2.1 dX0_markCompacted_72 (lv_at hl 0 rfl) ?_
                refine lv_if_eq (tgt := 81) C.1 C.2.1 dX0_markCompacted_74 (by decide) (fun c_10 => ?_) (fun c_10 => ?_)
                · exact absurd c_10 (by decide)
                · refine lv_iconst (v := 1) C.1 C.2.1 dX0_markCompacted_77 (by decide) ?_
                  refine lv_goto (tgt := 82) C.1 C.2.1 dX0_markCompacted_78 (by decide) ?_
                  refine gZast (j := k) (ws' := (xW E a S (mkU (gComp (s_off S) (s_key S) (s_val S) (s_n S) q) mk (k + 1)) rk rv ++ F)) C hO 6 rfl (by omega) (by decide) rfl (by rw [mkU_sv (g := gComp (s_off S) (s_key S) (s_val S) (s_n S) q) (mk := mk) (n := k) (x := 1) (by first | exact gComp_1 (Or.inl h1) | exact gComp_1 (Or.inr ⟨hv, ho⟩))]; rfl) dX0_markCompacted_82 (fun H locs hO => ?_)
                  refine gInc (j := k) (k := 4) (lv' := [(2, .int (nI (k + 1))), (4, .int 1), (3, .int 0), (0, .ref (a 1)), (1, .int q)]) C.1 C.2.1 dX0_markCompacted_83 hl rfl (by decide) rfl (fun ls hl => ?_)
                  refine lv_goto (tgt := 2) C.1 C.2.1 dX0_markCompacted_86 (by decide) ?_
                  refine W.widen (k := 0) (n := 0) (by omega) (by omega) ?_
                  exact ih_lp24 (k + 1) (by omega) (by omega) _ _ hO _ (lv_sub hl [3, 4, 0] rfl)
        · have h1 : lpO (s_key S) (s_key S k) (k + 1) (s_n S) ≠ none := fun g => c_2 (by rw [g]; rfl)
          refine lv_iconst (v := 1) C.1 C.2.1 dX0_markCompacted_31 (by decide) ?_
          refine lv_goto (tgt := 36) C.1 C.2.1 dX0_markCompacted_32 (by decide) ?_
          refine lv_istore_n (lv' := [(3, .int 1), (0, .ref (a 1)), (1, .int q), (2, .int (nI k))]) C.1 C.2.1 dX0_markCompacted_36 rfl hl (by decide) rfl (fun ls hl => ?_)
          refine lv_aload_n C.1 C.2.1 dX0_markCompacted_37 rfl (lv_at hl 1 rfl) ?_
          refine gGet (v := .ref (a 4)) (ref := RX0) (Cn := RX0) (T := TX0) (N := 8) C iX0 hO 1 rfl rfl 2 (by decide) w18 (fun _ h9 => h9) rfl dX0_markCompacted_38 ?_
          refine lv_iload_n C.1 C.2.1 dX0_markCompacted_41 rfl (lv_at hl 3 rfl) ?_
          refine gIald (v := (s_val S) k) (j := k) C hO 4 rfl (by omega) (by decide) rfl dX0_markCompacted_42 ?_
          refine lv_if_ne (tgt := 60) C.1 C.2.1 dX0_markCompacted_43 (by decide) (fun c_11 => ?_) (fun c_11 => ?_)
          · have hv : ¬ s_val S k = 0 := c_11
            refine lv_iconst (v := 0) C.1 C.2.1 dX0_markCompacted_60 (by decide) ?_
            refine lv_istore (lv' := [(4, .int 0), (3, .int 1), (0, .ref (a 1)), (1, .int q), (2, .int (nI k))]) C.1 C.2.1 dX0_markCompacted_61 hl (by decide) rfl (fun ls hl => ?_)
            refine lv_aload_n C.1 C.2.1 dX0_markCompacted_63 rfl (lv_at hl 2 rfl) ?_
            refine gGet (v := .ref (a 6)) (ref := RX0) (Cn := RX0) (T := TX0) (N := 8) C iX0 hO 1 rfl rfl 4 (by decide) w24 (fun _ h9 => h9) rfl dX0_markCompacted_64 ?_
            refine lv_iload_n C.1 C.2.1 dX0_markCompacted_67 rfl (lv_at hl 4 rfl) ?_
            refine lv_iload_n C.1 C.2.1 dX0_markCompacted_68 rfl (lv_at hl 1 rfl) ?_
            refine lv_if_ne (tgt := 77) C.1 C.2.1 dX0_markCompacted_69 (by decide) (fun c_12 => ?_) (fun c_12 => ?_)
            · refine lv_iconst (v := 1) C.1 C.2.1 dX0_markCompacted_77 (by decide) ?_
              refine lv_goto (tgt := 82) C.1 C.2.1 dX0_markCompacted_78 (by decide) ?_
              refine gZast (j := k) (ws' := (xW E a S (mkU (gComp (s_off S) (s_key S) (s_val S) (s_n S) q) mk (k + 1)) rk rv ++ F)) C hO 6 rfl (by omega) (by decide) rfl (by rw [mkU_sv (g := gComp (s_off S) (s_key S) (s_val S) (s_n S) q) (mk := mk) (n := k) (x := 1) (by first | exact gComp_1 (Or.inl h1) | exact gComp_1 (Or.inr ⟨hv, ho⟩))]; rfl) dX0_markCompacted_82 (fun H locs hO => ?_)
              refine gInc (j := k) (k := 4) (lv' := [(2, .int (nI (k + 1))), (4, .int 0), (3, .int 1), (0, .ref (a 1)), (1, .int q)]) C.1 C.2.1 dX0_markCompacted_83 hl rfl (by decide) rfl (fun ls hl => ?_)
              refine lv_goto (tgt := 2) C.1 C.2.1 dX0_markCompacted_86 (by decide) ?_
              refine W.widen (k := 0) (n := 0) (by omega) (by omega) ?_
              exact ih_lp24 (k + 1) (by omega) (by omega) _ _ hO _ (lv_sub hl [3, 4, 0] rfl)
            · exact absurd c_12 (by decide)
          · have hv : s_val S k = 0 := c_11
            refine lv_aload_n C.1 C.2.1 dX0_markCompacted_46 rfl (lv_at hl 1 rfl) ?_
            refine gGet (v := .ref (a 2)) (ref := RX0) (Cn := RX0) (T := TX0) (N := 8) C iX0 hO 1 rfl rfl 0 (by decide) w9 (fun _ h9 => h9) rfl dX0_markCompacted_47 ?_
            refine lv_iload_n C.1 C.2.1 dX0_markCompacted_50 rfl (lv_at hl 3 rfl) ?_
            refine gIald (v := (s_off S) k) (j := k) C hO 2 rfl (by omega) (by decide) rfl dX0_markCompacted_51 ?_
            refine lv_iload_n C.1 C.2.1 dX0_markCompacted_52 rfl (lv_at hl 2 rfl) ?_
            refine gGeI (tgt := 60) C.1 C.2.1 dX0_markCompacted_53 (by decide) (fun c_13 => ?_) (fun c_13 => ?_)
            · have ho : ¬ s_off S k < q := c_13
              refine lv_iconst (v := 0) C.1 C.2.1 dX0_markCompacted_60 (by decide) ?_
              refine lv_istore (lv' := [(4, .int 0), (3, .int 1), (0, .ref (a 1)), (1, .int q), (2, .int (nI k))]) C.1 C.2.1 dX0_markCompacted_61 hl (by decide) rfl (fun ls hl => ?_)
              refine lv_aload_n C.1 C.2.1 dX0_markCompacted_63 rfl (lv_at hl 2 rfl) ?_
              refine gGet (v := .ref (a 6)) (ref := RX0) (Cn := RX0) (T := TX0) (N := 8) C iX0 hO 1 rfl rfl 4 (by decide) w24 (fun _ h9 => h9) rfl dX0_markCompacted_64 ?_
              refine lv_iload_n C.1 C.2.1 dX0_markCompacted_67 rfl (lv_at hl 4 rfl) ?_
              refine lv_iload_n C.1 C.2.1 dX0_markCompacted_68 rfl (lv_at hl 1 rfl) ?_
              refine lv_if_ne (tgt := 77) C.1 C.2.1 dX0_markCompacted_69 (by decide) (fun c_14 => ?_) (fun c_14 => ?_)
              · refine lv_iconst (v := 1) C.1 C.2.1 dX0_markCompacted_77 (by decide) ?_
                refine lv_goto (tgt := 82) C.1 C.2.1 dX0_markCompacted_78 (by decide) ?_
                refine gZast (j := k) (ws' := (xW E a S (mkU (gComp (s_off S) (s_key S) (s_val S) (s_n S) q) mk (k + 1)) rk rv ++ F)) C hO 6 rfl (by omega) (by decide) rfl (by rw [mkU_sv (g := gComp (s_off S) (s_key S) (s_val S) (s_n S) q) (mk := mk) (n := k) (x := 1) (by first | exact gComp_1 (Or.inl h1) | exact gComp_1 (Or.inr ⟨hv, ho⟩))]; rfl) dX0_markCompacted_82 (fun H locs hO => ?_)
                refine gInc (j := k) (k := 4) (lv' := [(2, .int (nI (k + 1))), (4, .int 0), (3, .int 1), (0, .ref (a 1)), (1, .int q)]) C.1 C.2.1 dX0_markCompacted_83 hl rfl (by decide) rfl (fun ls hl => ?_)
                refine lv_goto (tgt := 2) C.1 C.2.1 dX0_markCompacted_86 (by decide) ?_
                refine W.widen (k := 0) (n := 0) (by omega) (by omega) ?_
                exact ih_lp24 (k + 1) (by omega) (by omega) _ _ hO _ (lv_sub hl [3, 4, 0] rfl)
              · exact absurd c_14 (by decide)
            · have ho : s_off S k < q := c_13
              refine lv_iconst (v := 1) C.1 C.2.1 dX0_markCompacted_56 (by decide) ?_
              refine lv_goto (tgt := 61) C.1 C.2.1 dX0_markCompacted_57 (by decide) ?_
              refine lv_istore (lv' := [(4, .int 1), (3, .int 1), (0, .ref (a 1)), (1, .int q), (2, .int (nI k))]) C.1 C.2.1 dX0_markCompacted_61 hl (by decide) rfl (fun ls hl => ?_)
              refine lv_aload_n C.1 C.2.1 dX0_markCompacted_63 rfl (lv_at hl 2 rfl) ?_
              refine gGet (v := .ref (a 6)) (ref := RX0) (Cn := RX0) (T := TX0) (N := 8) C iX0 hO 1 rfl rfl 4 (by decide) w24 (fun _ h9 => h9) rfl dX0_markCompacted_64 ?_
              refine lv_iload_n C.1 C.2.1 dX0_markCompacted_67 rfl (lv_at hl 4 rfl) ?_
              refine lv_iload_n C.1 C.2.1 dX0_markCompacted_68 rfl (lv_at hl 1 rfl) ?_
              refine lv_if_ne (tgt := 77) C.1 C.2.1 dX0_markCompacted_69 (by decide) (fun c_15 => ?_) (fun c_15 => ?_)
              · refine lv_iconst (v := 1) C.1 C.2.1 dX0_markCompacted_77 (by decide) ?_
                refine lv_goto (tgt := 82) C.1 C.2.1 dX0_markCompacted_78 (by decide) ?_
                refine gZast (j := k) (ws' := (xW E a S (mkU (gComp (s_off S) (s_key S) (s_val S) (s_n S) q) mk (k + 1)) rk rv ++ F)) C hO 6 rfl (by omega) (by decide) rfl (by rw [mkU_sv (g := gComp (s_off S) (s_key S) (s_val S) (s_n S) q) (mk := mk) (n := k) (x := 1) (by first | exact gComp_1 (Or.inl h1) | exact gComp_1 (Or.inr ⟨hv, ho⟩))]; rfl) dX0_markCompacted_82 (fun H locs hO => ?_)
                refine gInc (j := k) (k := 4) (lv' := [(2, .int (nI (k + 1))), (4, .int 1), (3, .int 1), (0, .ref (a 1)), (1, .int q)]) C.1 C.2.1 dX0_markCompacted_83 hl rfl (by decide) rfl (fun ls hl => ?_)
                refine lv_goto (tgt := 2) C.1 C.2.1 dX0_markCompacted_86 (by decide) ?_
                refine W.widen (k := 0) (n := 0) (by omega) (by omega) ?_
                exact ih_lp24 (k + 1) (by omega) (by omega) _ _ hO _ (lv_sub hl [3, 4, 0] rfl)
              · exact absurd c_15 (by decide)
  exact lp24 (s_n S + 1) 0 (by omega) (Nat.zero_le _) _ _ hO _ (lv_sub hl [1, 2, 0] rfl)

set_option maxHeartbeats 4000000 in
set_option maxRecDepth 100000 in
theorem c_X0_countMarkedFrom (l : Launch) (E : gE) (a : Nat → Nat) (S : St) (mk rk rv : Nat → Int32) (F : va_W) (o : Int32) (hn : s_n S ≤ 48) : gMi l E yX0_countMarkedFrom wsX0_countMarkedFrom ({ frames := 1, cells := 0, slots := 0, locals := 22 }) (xW E a S mk rk rv ++ F) [.ref (a 1), .int o] (nI (cm mk (pf (s_off S) o (s_n S)) (s_n S))) (xW E a S mk rk rv ++ F) 0 0 := by
  refine gMi.of (cc := cX0_countMarkedFrom) (maxL := 4) (ty := .int) (by decide) rfl (Nat.le_of_ble_eq_true rfl) ?_
  intro p e s m args below meth c A C ls hl hO
  have hl : lv_has ls 4 [(0, .ref (a 1)), (1, .int o)] := hl
  have iX0 : ∀ w ∈ u_ws RX0 TX0 8, w ∈ wsX0_countMarkedFrom := by decide +kernel
  have w28 : Cond.fieldLink RX0 28 "ParrotLog$Log" "size" "I" ∈ wsX0_countMarkedFrom := by decide +kernel
  have w24 : Cond.fieldLink RX0 24 "ParrotLog$Log" "marked" "[Z" ∈ wsX0_countMarkedFrom := by decide +kernel
  refine lv_iconst (v := 0) C.1 C.2.1 dX0_countMarkedFrom_0 (by decide) ?_
  refine lv_istore_n (lv' := [(2, .int 0), (0, .ref (a 1)), (1, .int o)]) C.1 C.2.1 dX0_countMarkedFrom_1 rfl hl (by decide) rfl (fun ls hl => ?_)
  refine lv_aload_n C.1 C.2.1 dX0_countMarkedFrom_2 rfl (lv_at hl 1 rfl) ?_
  refine lv_iload_n C.1 C.2.1 dX0_countMarkedFrom_3 rfl (lv_at hl 2 rfl) ?_
  refine gCall_i (As := [.int o]) (rest := []) C hO (c_X0_positionFrom l E a S mk rk rv F o (by omega)) (cwV 1 C.2.2.2.2.1 gX0_countMarkedFrom_X0_positionFrom rfl rfl rfl (by decide +kernel) ⟨(Nat.le_of_ble_eq_true rfl), (Nat.le_of_ble_eq_true rfl)⟩) (va_recv C.2.2.2.2.2.2.2.1.1 hO.1 (ci := 0) (q0 := 1) rfl rfl) rfl hl.1 rfl (Nat.le_of_ble_eq_true rfl) dX0_countMarkedFrom_4 ⟨(Nat.le_of_ble_eq_true rfl), (Nat.le_of_ble_eq_true rfl)⟩ (fun H locs hO => ?_)
  refine lv_istore_n (lv' := [(3, .int (nI (pf (s_off S) o (s_n S)))), (2, .int 0), (0, .ref (a 1)), (1, .int o)]) C.1 C.2.1 dX0_countMarkedFrom_7 rfl hl (by decide) rfl (fun ls hl => ?_)
  have lp24 : ∀ (f : Nat) (k : Nat) (c2 : Nat), (s_n S + 1 ≤ k + f) → (k ≤ s_n S) → (pf (s_off S) o (s_n S) ≤ k) → (c2 = cm mk (pf (s_off S) o (s_n S)) k) → ∀ (H : Heap) (locs : List Loc), gO E A s (xW E a S mk rk rv ++ F) H locs → ∀ ls : Array Slot, lv_has ls 4 [(0, .ref (a 1)), (1, .int o), (2, .int (nI c2)), (3, .int (nI k))] → W p l e ({ frames := 1, cells := 0, slots := 0, locals := 22 } : Room) s m args below meth c H locs 0 0 (MQ below (gQi E A (nI (cm mk (pf (s_off S) o (s_n S)) (s_n S))) (xW E a S mk rk rv ++ F)) args s 0 0 A) (F0 m 8 ls []) := by
    intro f
    induction f with
    | zero =>
      intro k c2 hf hk hfr hc24
      exact absurd hf (by omega)
    | succ f ih_lp24 =>
      intro k c2 hf hk hfr hc24 H locs hO ls hl
      refine lv_iload_n C.1 C.2.1 dX0_countMarkedFrom_8 rfl (lv_at hl 3 rfl) ?_
      refine lv_aload_n C.1 C.2.1 dX0_countMarkedFrom_9 rfl (lv_at hl 0 rfl) ?_
      refine gGet (v := .int (nI (s_n S))) (ref := RX0) (Cn := RX0) (T := TX0) (N := 8) C iX0 hO 1 rfl rfl 5 (by decide) w28 (fun _ h9 => h9) rfl dX0_countMarkedFrom_10 ?_
      refine gGeN (x := k) (y := (s_n S)) (tgt := 34) C.1 C.2.1 (by omega) (by omega) dX0_countMarkedFrom_13 (by decide) (fun c_1 => ?_) (fun c_1 => ?_)
      · refine lv_iload_n C.1 C.2.1 dX0_countMarkedFrom_34 rfl (lv_at hl 2 rfl) ?_
        exact gRi C hO rfl (by rw [hc24, show k = s_n S by omega]) dX0_countMarkedFrom_35 (Nat.le_of_ble_eq_true rfl) (Nat.le_of_ble_eq_true rfl)
      · refine lv_aload_n C.1 C.2.1 dX0_countMarkedFrom_16 rfl (lv_at hl 0 rfl) ?_
        refine gGet (v := .ref (a 6)) (ref := RX0) (Cn := RX0) (T := TX0) (N := 8) C iX0 hO 1 rfl rfl 4 (by decide) w24 (fun _ h9 => h9) rfl dX0_countMarkedFrom_17 ?_
        refine lv_iload_n C.1 C.2.1 dX0_countMarkedFrom_20 rfl (lv_at hl 3 rfl) ?_
        refine gZald (v := mk k) (j := k) C hO 6 rfl (by omega) (by decide) rfl dX0_countMarkedFrom_21 ?_
        refine lv_if_eq (tgt := 28) C.1 C.2.1 dX0_countMarkedFrom_22 (by decide) (fun c_2 => ?_) (fun c_2 => ?_)
        · have hz : mk k = 0 := c_2
          refine gInc (j := k) (k := 3) (lv' := [(3, .int (nI (k + 1))), (0, .ref (a 1)), (1, .int o), (2, .int (nI c2))]) C.1 C.2.1 dX0_countMarkedFrom_28 hl rfl (by decide) rfl (fun ls hl => ?_)
          refine lv_goto (tgt := 8) C.1 C.2.1 dX0_countMarkedFrom_31 (by decide) ?_
          exact ih_lp24 (k + 1) c2 (by omega) (by omega) (by omega) (by first | exact by rw [hc24, cm_s0 hz] | exact by rw [hc24, cm_s1 hfr hz]) _ _ hO _ (lv_sub hl [1, 2, 3, 0] rfl)
        · have hz : ¬ mk k = 0 := c_2
          refine gInc (j := c2) (k := 2) (lv' := [(2, .int (nI (c2 + 1))), (0, .ref (a 1)), (1, .int o), (3, .int (nI k))]) C.1 C.2.1 dX0_countMarkedFrom_25 hl rfl (by decide) rfl (fun ls hl => ?_)
          refine gInc (j := k) (k := 3) (lv' := [(3, .int (nI (k + 1))), (2, .int (nI (c2 + 1))), (0, .ref (a 1)), (1, .int o)]) C.1 C.2.1 dX0_countMarkedFrom_28 hl rfl (by decide) rfl (fun ls hl => ?_)
          refine lv_goto (tgt := 8) C.1 C.2.1 dX0_countMarkedFrom_31 (by decide) ?_
          exact ih_lp24 (k + 1) (c2 + 1) (by omega) (by omega) (by omega) (by first | exact by rw [hc24, cm_s0 hz] | exact by rw [hc24, cm_s1 hfr hz]) _ _ hO _ (lv_sub hl [2, 3, 1, 0] rfl)
  refine W.widen (k := 0) (n := 0) (by omega) (by omega) ?_
  exact lp24 (s_n S + 1) (pf (s_off S) o (s_n S)) 0 (by omega) (pf_le _ _ _) (Nat.le_refl _) ((cm_fr _ _ _ (Nat.le_refl _)).symm) _ _ hO _ (lv_sub hl [2, 3, 1, 0] rfl)

set_option maxHeartbeats 4000000 in
set_option maxRecDepth 100000 in
theorem c_X0_countMarked (l : Launch) (E : gE) (a : Nat → Nat) (S : St) (mk rk rv : Nat → Int32) (F : va_W)  (hn : s_n S ≤ 48) : gMi l E yX0_countMarked wsX0_countMarked ({ frames := 2, cells := 0, slots := 0, locals := 45 }) (xW E a S mk rk rv ++ F) [.ref (a 1)] (nI (cm mk (pf (s_off S) 0 (s_n S)) (s_n S))) (xW E a S mk rk rv ++ F) 0 0 := by
  refine gMi.of (cc := cX0_countMarked) (maxL := 1) (ty := .int) (by decide) rfl (Nat.le_of_ble_eq_true rfl) ?_
  intro p e s m args below meth c A C ls hl hO
  have hl : lv_has ls 1 [(0, .ref (a 1))] := hl
  refine lv_aload_n C.1 C.2.1 dX0_countMarked_0 rfl (lv_at hl 0 rfl) ?_
  refine lv_iconst (v := 0) C.1 C.2.1 dX0_countMarked_1 (by decide) ?_
  refine gCall_i (As := [.int 0]) (rest := []) C hO (c_X0_countMarkedFrom l E a S mk rk rv F 0 (by omega)) (cwV 1 C.2.2.2.2.1 gX0_countMarked_X0_countMarkedFrom rfl rfl rfl (by decide +kernel) ⟨(Nat.le_of_ble_eq_true rfl), (Nat.le_of_ble_eq_true rfl)⟩) (va_recv C.2.2.2.2.2.2.2.1.1 hO.1 (ci := 0) (q0 := 1) rfl rfl) rfl hl.1 rfl (Nat.le_of_ble_eq_true rfl) dX0_countMarked_2 ⟨(Nat.le_of_ble_eq_true rfl), (Nat.le_of_ble_eq_true rfl)⟩ (fun H locs hO => ?_)
  exact gRi C hO rfl rfl dX0_countMarked_5 (Nat.le_of_ble_eq_true rfl) (Nat.le_of_ble_eq_true rfl)

set_option maxHeartbeats 4000000 in
set_option maxRecDepth 100000 in
theorem c_X0_removeMarked (l : Launch) (E : gE) (a : Nat → Nat) (S : St) (mk rk rv : Nat → Int32) (F : va_W)  (hn : s_n S ≤ 48) : gMi l E yX0_removeMarked wsX0_removeMarked ({ frames := 0, cells := 0, slots := 0, locals := 0 }) (xW E a S mk rk rv ++ F) [.ref (a 1)] (nI (s_n S - cpN mk (s_n S))) (xW E a (S_rem S mk) mk rk rv ++ F) 0 0 := by
  refine gMi.of (cc := cX0_removeMarked) (maxL := 3) (ty := .int) (by decide) rfl (Nat.le_of_ble_eq_true rfl) ?_
  intro p e s m args below meth c A C ls hl hO
  have hl : lv_has ls 3 [(0, .ref (a 1))] := hl
  have iX0 : ∀ w ∈ u_ws RX0 TX0 8, w ∈ wsX0_removeMarked := by decide +kernel
  have w28 : Cond.fieldLink RX0 28 "ParrotLog$Log" "size" "I" ∈ wsX0_removeMarked := by decide +kernel
  have w46 : Cond.fieldLink RX0 46 "ParrotLog$Log" "droppedInAll" "I" ∈ wsX0_removeMarked := by decide +kernel
  have w24 : Cond.fieldLink RX0 24 "ParrotLog$Log" "marked" "[Z" ∈ wsX0_removeMarked := by decide +kernel
  have w9 : Cond.fieldLink RX0 9 "ParrotLog$Log" "offsets" "[I" ∈ wsX0_removeMarked := by decide +kernel
  have w15 : Cond.fieldLink RX0 15 "ParrotLog$Log" "keys" "[I" ∈ wsX0_removeMarked := by decide +kernel
  have w18 : Cond.fieldLink RX0 18 "ParrotLog$Log" "values" "[I" ∈ wsX0_removeMarked := by decide +kernel
  have w21 : Cond.fieldLink RX0 21 "ParrotLog$Log" "stormNumbers" "[I" ∈ wsX0_removeMarked := by decide +kernel
  refine lv_iconst (v := 0) C.1 C.2.1 dX0_removeMarked_0 (by decide) ?_
  refine lv_istore_n (lv' := [(1, .int 0), (0, .ref (a 1))]) C.1 C.2.1 dX0_removeMarked_1 rfl hl (by decide) rfl (fun ls hl => ?_)
  refine lv_iconst (v := 0) C.1 C.2.1 dX0_removeMarked_2 (by decide) ?_
  refine lv_istore_n (lv' := [(2, .int 0), (1, .int 0), (0, .ref (a 1))]) C.1 C.2.1 dX0_removeMarked_3 rfl hl (by decide) rfl (fun ls hl => ?_)
  have lp24 : ∀ (f : Nat) (k : Nat), (s_n S + 1 ≤ k + f) → (k ≤ s_n S) → ∀ (H : Heap) (locs : List Loc), gO E A s (xW E a (mkS (cpF mk (s_off S) (k)) (cpF mk (s_key S) (k)) (cpF mk (s_val S) (k)) (cpF mk (s_sto S) (k)) (s_n S) (s_nx S) (s_dr S) (s_hr S) (s_sc S) (s_on S) (s_said S) (s_sh S) (s_pc S) (s_at S) (s_hd S) (s_ms S) (s_kn S)) mk rk rv ++ F) H locs → ∀ ls : Array Slot, lv_has ls 3 [(0, .ref (a 1)), (1, .int (nI (cpN mk k))), (2, .int (nI k))] → W p l e ({ frames := 0, cells := 0, slots := 0, locals := 0 } : Room) s m args below meth c H locs 0 0 (MQ below (gQi E A (nI (s_n S - cpN mk (s_n S))) (xW E a (S_rem S mk) mk rk rv ++ F)) args s 0 0 A) (F0 m 4 ls []) := by
    intro f
    induction f with
    | zero =>
      intro k hf hk
      exact absurd hf (by omega)
    | succ f ih_lp24 =>
      intro k hf hk H locs hO ls hl
      refine lv_iload_n C.1 C.2.1 dX0_removeMarked_4 rfl (lv_at hl 2 rfl) ?_
      refine lv_aload_n C.1 C.2.1 dX0_removeMarked_5 rfl (lv_at hl 0 rfl) ?_
      refine gGet (v := .int (nI (s_n S))) (ref := RX0) (Cn := RX0) (T := TX0) (N := 8) C iX0 hO 1 rfl rfl 5 (by decide) w28 (fun _ h9 => h9) rfl dX0_removeMarked_6 ?_
      refine gGeN (x := k) (y := (s_n S)) (tgt := 78) C.1 C.2.1 (by omega) (by omega) dX0_removeMarked_9 (by decide) (fun c_1 => ?_) (fun c_1 => ?_)
      · have hk9 : k = s_n S := by omega
        rw [hk9] at hO hl
        have hl := lv_sub hl [0, 1] rfl
        have hl : lv_has ls 3 [(0, .ref (a 1)), (1, .int (nI (cpN mk (s_n S))))] := hl
        have hle := cpN_le mk (s_n S)
        refine lv_aload_n C.1 C.2.1 dX0_removeMarked_78 rfl (lv_at hl 0 rfl) ?_
        refine gGet (v := .int (nI (s_n S))) (ref := RX0) (Cn := RX0) (T := TX0) (N := 8) C iX0 hO 1 rfl rfl 5 (by decide) w28 (fun _ h9 => h9) rfl dX0_removeMarked_79 ?_
        refine lv_iload_n C.1 C.2.1 dX0_removeMarked_82 rfl (lv_at hl 1 rfl) ?_
        refine gSubN (x := (s_n S)) (y := (cpN mk (s_n S))) C.1 C.2.1 hle dX0_removeMarked_83 ?_
        refine lv_istore_n (lv' := [(2, .int (nI ((s_n S) - (cpN mk (s_n S))))), (0, .ref (a 1)), (1, .int (nI (cpN mk (s_n S))))]) C.1 C.2.1 dX0_removeMarked_84 rfl hl (by decide) rfl (fun ls hl => ?_)
        refine lv_aload_n C.1 C.2.1 dX0_removeMarked_85 rfl (lv_at hl 1 rfl) ?_
        refine lv_iload_n C.1 C.2.1 dX0_removeMarked_86 rfl (lv_at hl 2 rfl) ?_
        refine gPut (ws' := (xW E a (mkS (cpF mk (s_off S) (s_n S)) (cpF mk (s_key S) (s_n S)) (cpF mk (s_val S) (s_n S)) (cpF mk (s_sto S) (s_n S)) (cpN mk (s_n S)) (s_nx S) (s_dr S) (s_hr S) (s_sc S) (s_on S) (s_said S) (s_sh S) (s_pc S) (s_at S) (s_hd S) (s_ms S) (s_kn S)) mk rk rv ++ F)) (ref := RX0) (Cn := RX0) (T := TX0) (N := 8) C iX0 tyX0 tyX0_ok nmX0 hO 1 rfl rfl 5 (by decide) w28 (fun _ h9 => h9) rfl (by decide +kernel) rfl rfl (Nat.le_of_ble_eq_true rfl) rfl dX0_removeMarked_87 (fun H locs hO => ?_)
        refine lv_aload_n C.1 C.2.1 dX0_removeMarked_90 rfl (lv_at hl 1 rfl) ?_
        refine lv_dup C.1 C.2.1 dX0_removeMarked_91 rfl ?_
        refine gGet (v := .int (s_dr S)) (ref := RX0) (Cn := RX0) (T := TX0) (N := 8) C iX0 hO 1 rfl rfl 7 (by decide) w46 (fun _ h9 => h9) rfl dX0_removeMarked_92 ?_
        refine lv_iload_n C.1 C.2.1 dX0_removeMarked_95 rfl (lv_at hl 0 rfl) ?_
        refine lv_iadd C.1 C.2.1 dX0_removeMarked_96 ?_
        refine gPut (ws' := (xW E a (mkS (cpF mk (s_off S) (s_n S)) (cpF mk (s_key S) (s_n S)) (cpF mk (s_val S) (s_n S)) (cpF mk (s_sto S) (s_n S)) (cpN mk (s_n S)) (s_nx S) ((s_dr S) + (nI ((s_n S) - (cpN mk (s_n S))))) (s_hr S) (s_sc S) (s_on S) (s_said S) (s_sh S) (s_pc S) (s_at S) (s_hd S) (s_ms S) (s_kn S)) mk rk rv ++ F)) (ref := RX0) (Cn := RX0) (T := TX0) (N := 8) C iX0 tyX0 tyX0_ok nmX0 hO 1 rfl rfl 7 (by decide) w46 (fun _ h9 => h9) rfl (by decide +kernel) rfl rfl (Nat.le_of_ble_eq_true rfl) rfl dX0_removeMarked_97 (fun H locs hO => ?_)
        refine lv_iload_n C.1 C.2.1 dX0_removeMarked_100 rfl (lv_at hl 0 rfl) ?_
        exact gRi C hO rfl rfl dX0_removeMarked_101 (Nat.le_of_ble_eq_true rfl) (Nat.le_of_ble_eq_true rfl)
      · have hle := cpN_le mk k
        refine lv_aload_n C.1 C.2.1 dX0_removeMarked_12 rfl (lv_at hl 0 rfl) ?_
        refine gGet (v := .ref (a 6)) (ref := RX0) (Cn := RX0) (T := TX0) (N := 8) C iX0 hO 1 rfl rfl 4 (by decide) w24 (fun _ h9 => h9) rfl dX0_removeMarked_13 ?_
        refine lv_iload_n C.1 C.2.1 dX0_removeMarked_16 rfl (lv_at hl 2 rfl) ?_
        refine gZald (v := mk k) (j := k) C hO 6 rfl (by omega) (by decide) rfl dX0_removeMarked_17 ?_
        refine lv_if_ne (tgt := 72) C.1 C.2.1 dX0_removeMarked_18 (by decide) (fun c_2 => ?_) (fun c_2 => ?_)
        · have hz : ¬ mk k = 0 := c_2
          have hO : gO E A s (xW E a (mkS (cpF mk (s_off S) (k + 1)) (cpF mk (s_key S) (k + 1)) (cpF mk (s_val S) (k + 1)) (cpF mk (s_sto S) (k + 1)) (s_n S) (s_nx S) (s_dr S) (s_hr S) (s_sc S) (s_on S) (s_said S) (s_sh S) (s_pc S) (s_at S) (s_hd S) (s_ms S) (s_kn S)) mk rk rv ++ F) H locs := by rw [cf_s0 hz, cf_s0 hz, cf_s0 hz, cf_s0 hz]; exact hO
          have hl : lv_has ls 3 [(0, .ref (a 1)), (1, .int (nI (cpN mk (k + 1)))), (2, .int (nI k))] := by rw [cp_s0 hz]; exact hl
          refine gInc (j := k) (k := 2) (lv' := [(2, .int (nI (k + 1))), (0, .ref (a 1)), (1, .int (nI (cpN mk (k + 1))))]) C.1 C.2.1 dX0_removeMarked_72 hl rfl (by decide) rfl (fun ls hl => ?_)
          refine lv_goto (tgt := 4) C.1 C.2.1 dX0_removeMarked_75 (by decide) ?_
          exact ih_lp24 (k + 1) (by omega) (by omega) _ _ hO _ (lv_sub hl [1, 2, 0] rfl)
        · have hz : mk k = 0 := c_2
          refine lv_aload_n C.1 C.2.1 dX0_removeMarked_21 rfl (lv_at hl 0 rfl) ?_
          refine gGet (v := .ref (a 2)) (ref := RX0) (Cn := RX0) (T := TX0) (N := 8) C iX0 hO 1 rfl rfl 0 (by decide) w9 (fun _ h9 => h9) rfl dX0_removeMarked_22 ?_
          refine lv_iload_n C.1 C.2.1 dX0_removeMarked_25 rfl (lv_at hl 1 rfl) ?_
          refine lv_aload_n C.1 C.2.1 dX0_removeMarked_26 rfl (lv_at hl 0 rfl) ?_
          refine gGet (v := .ref (a 2)) (ref := RX0) (Cn := RX0) (T := TX0) (N := 8) C iX0 hO 1 rfl rfl 0 (by decide) w9 (fun _ h9 => h9) rfl dX0_removeMarked_27 ?_
          refine lv_iload_n C.1 C.2.1 dX0_removeMarked_30 rfl (lv_at hl 2 rfl) ?_
          refine gIald (v := (cpF mk (s_off S) (k)) k) (j := k) C hO 2 rfl (by omega) (by decide) rfl dX0_removeMarked_31 ?_
          refine gIast (j := (cpN mk k)) (ws' := (xW E a (mkS (upd (cpF mk (s_off S) (k)) (cpN mk k) ((cpF mk (s_off S) (k)) k)) (cpF mk (s_key S) (k)) (cpF mk (s_val S) (k)) (cpF mk (s_sto S) (k)) (s_n S) (s_nx S) (s_dr S) (s_hr S) (s_sc S) (s_on S) (s_said S) (s_sh S) (s_pc S) (s_at S) (s_hd S) (s_ms S) (s_kn S)) mk rk rv ++ F)) C hO 2 rfl (by omega) (by decide) rfl dX0_removeMarked_32 (fun H locs hO => ?_)
          refine lv_aload_n C.1 C.2.1 dX0_removeMarked_33 rfl (lv_at hl 0 rfl) ?_
          refine gGet (v := .ref (a 3)) (ref := RX0) (Cn := RX0) (T := TX0) (N := 8) C iX0 hO 1 rfl rfl 1 (by decide) w15 (fun _ h9 => h9) rfl dX0_removeMarked_34 ?_
          refine lv_iload_n C.1 C.2.1 dX0_removeMarked_37 rfl (lv_at hl 1 rfl) ?_
          refine lv_aload_n C.1 C.2.1 dX0_removeMarked_38 rfl (lv_at hl 0 rfl) ?_
          refine gGet (v := .ref (a 3)) (ref := RX0) (Cn := RX0) (T := TX0) (N := 8) C iX0 hO 1 rfl rfl 1 (by decide) w15 (fun _ h9 => h9) rfl dX0_removeMarked_39 ?_
          refine lv_iload_n C.1 C.2.1 dX0_removeMarked_42 rfl (lv_at hl 2 rfl) ?_
          refine gIald (v := (cpF mk (s_key S) (k)) k) (j := k) C hO 3 rfl (by omega) (by decide) rfl dX0_removeMarked_43 ?_
          refine gIast (j := (cpN mk k)) (ws' := (xW E a (mkS (upd (cpF mk (s_off S) (k)) (cpN mk k) ((cpF mk (s_off S) (k)) k)) (upd (cpF mk (s_key S) (k)) (cpN mk k) ((cpF mk (s_key S) (k)) k)) (cpF mk (s_val S) (k)) (cpF mk (s_sto S) (k)) (s_n S) (s_nx S) (s_dr S) (s_hr S) (s_sc S) (s_on S) (s_said S) (s_sh S) (s_pc S) (s_at S) (s_hd S) (s_ms S) (s_kn S)) mk rk rv ++ F)) C hO 3 rfl (by omega) (by decide) rfl dX0_removeMarked_44 (fun H locs hO => ?_)
          refine lv_aload_n C.1 C.2.1 dX0_removeMarked_45 rfl (lv_at hl 0 rfl) ?_
          refine gGet (v := .ref (a 4)) (ref := RX0) (Cn := RX0) (T := TX0) (N := 8) C iX0 hO 1 rfl rfl 2 (by decide) w18 (fun _ h9 => h9) rfl dX0_removeMarked_46 ?_
          refine lv_iload_n C.1 C.2.1 dX0_removeMarked_49 rfl (lv_at hl 1 rfl) ?_
          refine lv_aload_n C.1 C.2.1 dX0_removeMarked_50 rfl (lv_at hl 0 rfl) ?_
          refine gGet (v := .ref (a 4)) (ref := RX0) (Cn := RX0) (T := TX0) (N := 8) C iX0 hO 1 rfl rfl 2 (by decide) w18 (fun _ h9 => h9) rfl dX0_removeMarked_51 ?_
          refine lv_iload_n C.1 C.2.1 dX0_removeMarked_54 rfl (lv_at hl 2 rfl) ?_
          refine gIald (v := (cpF mk (s_val S) (k)) k) (j := k) C hO 4 rfl (by omega) (by decide) rfl dX0_removeMarked_55 ?_
          refine gIast (j := (cpN mk k)) (ws' := (xW E a (mkS (upd (cpF mk (s_off S) (k)) (cpN mk k) ((cpF mk (s_off S) (k)) k)) (upd (cpF mk (s_key S) (k)) (cpN mk k) ((cpF mk (s_key S) (k)) k)) (upd (cpF mk (s_val S) (k)) (cpN mk k) ((cpF mk (s_val S) (k)) k)) (cpF mk (s_sto S) (k)) (s_n S) (s_nx S) (s_dr S) (s_hr S) (s_sc S) (s_on S) (s_said S) (s_sh S) (s_pc S) (s_at S) (s_hd S) (s_ms S) (s_kn S)) mk rk rv ++ F)) C hO 4 rfl (by omega) (by decide) rfl dX0_removeMarked_56 (fun H locs hO => ?_)
          refine lv_aload_n C.1 C.2.1 dX0_removeMarked_57 rfl (lv_at hl 0 rfl) ?_
          refine gGet (v := .ref (a 5)) (ref := RX0) (Cn := RX0) (T := TX0) (N := 8) C iX0 hO 1 rfl rfl 3 (by decide) w21 (fun _ h9 => h9) rfl dX0_removeMarked_58 ?_
          refine lv_iload_n C.1 C.2.1 dX0_removeMarked_61 rfl (lv_at hl 1 rfl) ?_
          refine lv_aload_n C.1 C.2.1 dX0_removeMarked_62 rfl (lv_at hl 0 rfl) ?_
          refine gGet (v := .ref (a 5)) (ref := RX0) (Cn := RX0) (T := TX0) (N := 8) C iX0 hO 1 rfl rfl 3 (by decide) w21 (fun _ h9 => h9) rfl dX0_removeMarked_63 ?_
          refine lv_iload_n C.1 C.2.1 dX0_removeMarked_66 rfl (lv_at hl 2 rfl) ?_
          refine gIald (v := (cpF mk (s_sto S) (k)) k) (j := k) C hO 5 rfl (by omega) (by decide) rfl dX0_removeMarked_67 ?_
          refine gIast (j := (cpN mk k)) (ws' := (xW E a (mkS (upd (cpF mk (s_off S) (k)) (cpN mk k) ((cpF mk (s_off S) (k)) k)) (upd (cpF mk (s_key S) (k)) (cpN mk k) ((cpF mk (s_key S) (k)) k)) (upd (cpF mk (s_val S) (k)) (cpN mk k) ((cpF mk (s_val S) (k)) k)) (upd (cpF mk (s_sto S) (k)) (cpN mk k) ((cpF mk (s_sto S) (k)) k)) (s_n S) (s_nx S) (s_dr S) (s_hr S) (s_sc S) (s_on S) (s_said S) (s_sh S) (s_pc S) (s_at S) (s_hd S) (s_ms S) (s_kn S)) mk rk rv ++ F)) C hO 5 rfl (by omega) (by decide) rfl dX0_removeMarked_68 (fun H locs hO => ?_)
          refine gInc (j := (cpN mk k)) (k := 1) (lv' := [(1, .int (nI ((cpN mk k) + 1))), (0, .ref (a 1)), (2, .int (nI k))]) C.1 C.2.1 dX0_removeMarked_69 hl rfl (by decide) rfl (fun ls hl => ?_)
          have hO : gO E A s (xW E a (mkS (cpF mk (s_off S) (k + 1)) (cpF mk (s_key S) (k + 1)) (cpF mk (s_val S) (k + 1)) (cpF mk (s_sto S) (k + 1)) (s_n S) (s_nx S) (s_dr S) (s_hr S) (s_sc S) (s_on S) (s_said S) (s_sh S) (s_pc S) (s_at S) (s_hd S) (s_ms S) (s_kn S)) mk rk rv ++ F) H locs := by rw [cf_s1 hz, cf_s1 hz, cf_s1 hz, cf_s1 hz]; exact hO
          have hl : lv_has ls 3 [(1, .int (nI (cpN mk (k + 1)))), (0, .ref (a 1)), (2, .int (nI k))] := by rw [cp_s1 hz]; exact hl
          refine gInc (j := k) (k := 2) (lv' := [(2, .int (nI (k + 1))), (1, .int (nI (cpN mk (k + 1)))), (0, .ref (a 1))]) C.1 C.2.1 dX0_removeMarked_72 hl rfl (by decide) rfl (fun ls hl => ?_)
          refine lv_goto (tgt := 4) C.1 C.2.1 dX0_removeMarked_75 (by decide) ?_
          exact ih_lp24 (k + 1) (by omega) (by omega) _ _ hO _ (lv_sub hl [2, 1, 0] rfl)
  exact lp24 (s_n S + 1) 0 (by omega) (Nat.zero_le _) _ _ hO _ (lv_sub hl [2, 1, 0] rfl)

set_option maxHeartbeats 4000000 in
set_option maxRecDepth 100000 in
theorem c_X0_positionOf (l : Launch) (E : gE) (a : Nat → Nat) (S : St) (mk rk rv : Nat → Int32) (F : va_W) (o : Int32) (hn : s_n S ≤ 48) : gMi l E yX0_positionOf wsX0_positionOf ({ frames := 1, cells := 0, slots := 0, locals := 22 }) (xW E a S mk rk rv ++ F) [.ref (a 1), .int o] (oI (s_po S o)) (xW E a S mk rk rv ++ F) 0 0 := by
  refine gMi.of (cc := cX0_positionOf) (maxL := 3) (ty := .int) (by decide) rfl (Nat.le_of_ble_eq_true rfl) ?_
  intro p e s m args below meth c A C ls hl hO
  have hl : lv_has ls 3 [(0, .ref (a 1)), (1, .int o)] := hl
  have iX0 : ∀ w ∈ u_ws RX0 TX0 8, w ∈ wsX0_positionOf := by decide +kernel
  have w28 : Cond.fieldLink RX0 28 "ParrotLog$Log" "size" "I" ∈ wsX0_positionOf := by decide +kernel
  have w9 : Cond.fieldLink RX0 9 "ParrotLog$Log" "offsets" "[I" ∈ wsX0_positionOf := by decide +kernel
  refine lv_aload_n C.1 C.2.1 dX0_positionOf_0 rfl (lv_at hl 0 rfl) ?_
  refine lv_iload_n C.1 C.2.1 dX0_positionOf_1 rfl (lv_at hl 1 rfl) ?_
  refine gCall_i (As := [.int o]) (rest := []) C hO (c_X0_positionFrom l E a S mk rk rv F o (by omega)) (cwV 1 C.2.2.2.2.1 gX0_positionOf_X0_positionFrom rfl rfl rfl (by decide +kernel) ⟨(Nat.le_of_ble_eq_true rfl), (Nat.le_of_ble_eq_true rfl)⟩) (va_recv C.2.2.2.2.2.2.2.1.1 hO.1 (ci := 0) (q0 := 1) rfl rfl) rfl hl.1 rfl (Nat.le_of_ble_eq_true rfl) dX0_positionOf_2 ⟨(Nat.le_of_ble_eq_true rfl), (Nat.le_of_ble_eq_true rfl)⟩ (fun H locs hO => ?_)
  refine lv_istore_n (lv' := [(2, .int (nI (pf (s_off S) o (s_n S)))), (0, .ref (a 1)), (1, .int o)]) C.1 C.2.1 dX0_positionOf_5 rfl hl (by decide) rfl (fun ls hl => ?_)
  have hle := pf_le (s_off S) o (s_n S)
  refine lv_iload_n C.1 C.2.1 dX0_positionOf_6 rfl (lv_at hl 0 rfl) ?_
  refine lv_aload_n C.1 C.2.1 dX0_positionOf_7 rfl (lv_at hl 1 rfl) ?_
  refine gGet (v := .int (nI (s_n S))) (ref := RX0) (Cn := RX0) (T := TX0) (N := 8) C iX0 hO 1 rfl rfl 5 (by decide) w28 (fun _ h9 => h9) rfl dX0_positionOf_8 ?_
  refine gGeN (x := (pf (s_off S) o (s_n S))) (y := (s_n S)) (tgt := 28) C.1 C.2.1 (by omega) (by omega) dX0_positionOf_11 (by decide) (fun c_1 => ?_) (fun c_1 => ?_)
  · have hz : s_po S o = none := s_po_0 (fun h => by have := h.1; omega)
    refine lv_iconst (v := (-1)) C.1 C.2.1 dX0_positionOf_28 (by decide) ?_
    exact gRi C hO rfl (by rw [hz]; rfl) dX0_positionOf_29 (Nat.le_of_ble_eq_true rfl) (Nat.le_of_ble_eq_true rfl)
  · refine lv_aload_n C.1 C.2.1 dX0_positionOf_14 rfl (lv_at hl 1 rfl) ?_
    refine gGet (v := .ref (a 2)) (ref := RX0) (Cn := RX0) (T := TX0) (N := 8) C iX0 hO 1 rfl rfl 0 (by decide) w9 (fun _ h9 => h9) rfl dX0_positionOf_15 ?_
    refine lv_iload_n C.1 C.2.1 dX0_positionOf_18 rfl (lv_at hl 0 rfl) ?_
    refine gIald (v := (s_off S) (pf (s_off S) o (s_n S))) (j := (pf (s_off S) o (s_n S))) C hO 2 rfl (by omega) (by decide) rfl dX0_positionOf_19 ?_
    refine lv_iload_n C.1 C.2.1 dX0_positionOf_20 rfl (lv_at hl 2 rfl) ?_
    refine lv_icmp_ne (tgt := 28) C.1 C.2.1 dX0_positionOf_21 (by decide) (fun c_2 => ?_) (fun c_2 => ?_)
    · have hz : s_po S o = none := s_po_0 (fun h => c_2 h.2)
      refine lv_iconst (v := (-1)) C.1 C.2.1 dX0_positionOf_28 (by decide) ?_
      exact gRi C hO rfl (by rw [hz]; rfl) dX0_positionOf_29 (Nat.le_of_ble_eq_true rfl) (Nat.le_of_ble_eq_true rfl)
    · have hz : s_po S o = some (pf (s_off S) o (s_n S)) := s_po_1 (by omega) c_2
      refine lv_iload_n C.1 C.2.1 dX0_positionOf_24 rfl (lv_at hl 0 rfl) ?_
      refine lv_goto (tgt := 29) C.1 C.2.1 dX0_positionOf_25 (by decide) ?_
      exact gRi C hO rfl (by rw [hz]; rfl) dX0_positionOf_29 (Nat.le_of_ble_eq_true rfl) (Nat.le_of_ble_eq_true rfl)

set_option maxHeartbeats 4000000 in
set_option maxRecDepth 100000 in
theorem c_X0_latestOffset (l : Launch) (E : gE) (a : Nat → Nat) (S : St) (mk rk rv : Nat → Int32) (F : va_W) (k : Int32) (hn : s_n S ≤ 48) : gMi l E yX0_latestOffset wsX0_latestOffset ({ frames := 1, cells := 0, slots := 0, locals := 24 }) (xW E a S mk rk rv ++ F) [.ref (a 1), .int k] (s_lo S k) (xW E a S mk rk rv ++ F) 0 0 := by
  refine gMi.of (cc := cX0_latestOffset) (maxL := 3) (ty := .int) (by decide) rfl (Nat.le_of_ble_eq_true rfl) ?_
  intro p e s m args below meth c A C ls hl hO
  have hl : lv_has ls 3 [(0, .ref (a 1)), (1, .int k)] := hl
  have iX0 : ∀ w ∈ u_ws RX0 TX0 8, w ∈ wsX0_latestOffset := by decide +kernel
  have w28 : Cond.fieldLink RX0 28 "ParrotLog$Log" "size" "I" ∈ wsX0_latestOffset := by decide +kernel
  have w9 : Cond.fieldLink RX0 9 "ParrotLog$Log" "offsets" "[I" ∈ wsX0_latestOffset := by decide +kernel
  refine lv_aload_n C.1 C.2.1 dX0_latestOffset_0 rfl (lv_at hl 0 rfl) ?_
  refine lv_iload_n C.1 C.2.1 dX0_latestOffset_1 rfl (lv_at hl 1 rfl) ?_
  refine lv_iconst (v := 0) C.1 C.2.1 dX0_latestOffset_2 (by decide) ?_
  refine lv_aload_n C.1 C.2.1 dX0_latestOffset_3 rfl (lv_at hl 0 rfl) ?_
  refine gGet (v := .int (nI (s_n S))) (ref := RX0) (Cn := RX0) (T := TX0) (N := 8) C iX0 hO 1 rfl rfl 5 (by decide) w28 (fun _ h9 => h9) rfl dX0_latestOffset_4 ?_
  refine gCall_i (As := [.int k, .int 0, .int (nI (s_n S))]) (rest := []) C hO (c_X0_latestPosition l E a S mk rk rv F k 0 (s_n S) (by omega) (by omega)) (cwV 3 C.2.2.2.2.1 gX0_latestOffset_X0_latestPosition rfl rfl rfl (by decide +kernel) ⟨(Nat.le_of_ble_eq_true rfl), (Nat.le_of_ble_eq_true rfl)⟩) (va_recv C.2.2.2.2.2.2.2.1.1 hO.1 (ci := 0) (q0 := 1) rfl rfl) rfl hl.1 rfl (Nat.le_of_ble_eq_true rfl) dX0_latestOffset_7 ⟨(Nat.le_of_ble_eq_true rfl), (Nat.le_of_ble_eq_true rfl)⟩ (fun H locs hO => ?_)
  refine lv_istore_n (lv' := [(2, .int (oI (lpO (s_key S) k 0 (s_n S)))), (0, .ref (a 1)), (1, .int k)]) C.1 C.2.1 dX0_latestOffset_10 rfl hl (by decide) rfl (fun ls hl => ?_)
  refine lv_iload_n C.1 C.2.1 dX0_latestOffset_11 rfl (lv_at hl 0 rfl) ?_
  refine lv_iconst (v := (-1)) C.1 C.2.1 dX0_latestOffset_12 (by decide) ?_
  refine lv_icmp_ne (tgt := 20) C.1 C.2.1 dX0_latestOffset_13 (by decide) (fun c_1 => ?_) (fun c_1 => ?_)
  · obtain ⟨i9, hz, hi1, hi2, hi3⟩ := lpO_nm1 c_1
    refine lv_aload_n C.1 C.2.1 dX0_latestOffset_20 rfl (lv_at hl 1 rfl) ?_
    refine gGet (v := .ref (a 2)) (ref := RX0) (Cn := RX0) (T := TX0) (N := 8) C iX0 hO 1 rfl rfl 0 (by decide) w9 (fun _ h9 => h9) rfl dX0_latestOffset_21 ?_
    refine lv_iload_n C.1 C.2.1 dX0_latestOffset_24 rfl (lv_at hl 0 rfl) ?_
    refine lv_eqi (y := nI i9) (by rw [hz]; rfl) ?_
    refine gIald (v := (s_off S) i9) (j := i9) C hO 2 rfl (by omega) (by decide) rfl dX0_latestOffset_25 ?_
    exact gRi C hO rfl (by simp only [s_lo, hz]) dX0_latestOffset_26 (Nat.le_of_ble_eq_true rfl) (Nat.le_of_ble_eq_true rfl)
  · have hz : lpO (s_key S) k 0 (s_n S) = none := lpO_m1 (by omega) c_1
    refine lv_iconst (v := (-1)) C.1 C.2.1 dX0_latestOffset_16 (by decide) ?_
    refine lv_goto (tgt := 26) C.1 C.2.1 dX0_latestOffset_17 (by decide) ?_
    exact gRi C hO rfl (by simp only [s_lo, hz]) dX0_latestOffset_26 (Nat.le_of_ble_eq_true rfl) (Nat.le_of_ble_eq_true rfl)

set_option maxHeartbeats 4000000 in
set_option maxRecDepth 100000 in
theorem c_X0_latestValue (l : Launch) (E : gE) (a : Nat → Nat) (S : St) (mk rk rv : Nat → Int32) (F : va_W) (k : Int32) (hn : s_n S ≤ 48) : gMi l E yX0_latestValue wsX0_latestValue ({ frames := 1, cells := 0, slots := 0, locals := 24 }) (xW E a S mk rk rv ++ F) [.ref (a 1), .int k] (s_wv S k) (xW E a S mk rk rv ++ F) 0 0 := by
  refine gMi.of (cc := cX0_latestValue) (maxL := 3) (ty := .int) (by decide) rfl (Nat.le_of_ble_eq_true rfl) ?_
  intro p e s m args below meth c A C ls hl hO
  have hl : lv_has ls 3 [(0, .ref (a 1)), (1, .int k)] := hl
  have iX0 : ∀ w ∈ u_ws RX0 TX0 8, w ∈ wsX0_latestValue := by decide +kernel
  have w28 : Cond.fieldLink RX0 28 "ParrotLog$Log" "size" "I" ∈ wsX0_latestValue := by decide +kernel
  have w18 : Cond.fieldLink RX0 18 "ParrotLog$Log" "values" "[I" ∈ wsX0_latestValue := by decide +kernel
  refine lv_aload_n C.1 C.2.1 dX0_latestValue_0 rfl (lv_at hl 0 rfl) ?_
  refine lv_iload_n C.1 C.2.1 dX0_latestValue_1 rfl (lv_at hl 1 rfl) ?_
  refine lv_iconst (v := 0) C.1 C.2.1 dX0_latestValue_2 (by decide) ?_
  refine lv_aload_n C.1 C.2.1 dX0_latestValue_3 rfl (lv_at hl 0 rfl) ?_
  refine gGet (v := .int (nI (s_n S))) (ref := RX0) (Cn := RX0) (T := TX0) (N := 8) C iX0 hO 1 rfl rfl 5 (by decide) w28 (fun _ h9 => h9) rfl dX0_latestValue_4 ?_
  refine gCall_i (As := [.int k, .int 0, .int (nI (s_n S))]) (rest := []) C hO (c_X0_latestPosition l E a S mk rk rv F k 0 (s_n S) (by omega) (by omega)) (cwV 3 C.2.2.2.2.1 gX0_latestValue_X0_latestPosition rfl rfl rfl (by decide +kernel) ⟨(Nat.le_of_ble_eq_true rfl), (Nat.le_of_ble_eq_true rfl)⟩) (va_recv C.2.2.2.2.2.2.2.1.1 hO.1 (ci := 0) (q0 := 1) rfl rfl) rfl hl.1 rfl (Nat.le_of_ble_eq_true rfl) dX0_latestValue_7 ⟨(Nat.le_of_ble_eq_true rfl), (Nat.le_of_ble_eq_true rfl)⟩ (fun H locs hO => ?_)
  refine lv_istore_n (lv' := [(2, .int (oI (lpO (s_key S) k 0 (s_n S)))), (0, .ref (a 1)), (1, .int k)]) C.1 C.2.1 dX0_latestValue_10 rfl hl (by decide) rfl (fun ls hl => ?_)
  refine lv_iload_n C.1 C.2.1 dX0_latestValue_11 rfl (lv_at hl 0 rfl) ?_
  refine lv_iconst (v := (-1)) C.1 C.2.1 dX0_latestValue_12 (by decide) ?_
  refine lv_icmp_ne (tgt := 20) C.1 C.2.1 dX0_latestValue_13 (by decide) (fun c_1 => ?_) (fun c_1 => ?_)
  · obtain ⟨i9, hz, hi1, hi2, hi3⟩ := lpO_nm1 c_1
    refine lv_aload_n C.1 C.2.1 dX0_latestValue_20 rfl (lv_at hl 1 rfl) ?_
    refine gGet (v := .ref (a 4)) (ref := RX0) (Cn := RX0) (T := TX0) (N := 8) C iX0 hO 1 rfl rfl 2 (by decide) w18 (fun _ h9 => h9) rfl dX0_latestValue_21 ?_
    refine lv_iload_n C.1 C.2.1 dX0_latestValue_24 rfl (lv_at hl 0 rfl) ?_
    refine lv_eqi (y := nI i9) (by rw [hz]; rfl) ?_
    refine gIald (v := (s_val S) i9) (j := i9) C hO 4 rfl (by omega) (by decide) rfl dX0_latestValue_25 ?_
    exact gRi C hO rfl (by simp only [s_wv, hz]) dX0_latestValue_26 (Nat.le_of_ble_eq_true rfl) (Nat.le_of_ble_eq_true rfl)
  · have hz : lpO (s_key S) k 0 (s_n S) = none := lpO_m1 (by omega) c_1
    refine lv_iconst (v := 0) C.1 C.2.1 dX0_latestValue_16 (by decide) ?_
    refine lv_goto (tgt := 26) C.1 C.2.1 dX0_latestValue_17 (by decide) ?_
    exact gRi C hO rfl (by simp only [s_wv, hz]) dX0_latestValue_26 (Nat.le_of_ble_eq_true rfl) (Nat.le_of_ble_eq_true rfl)

set_option maxHeartbeats 4000000 in
set_option maxRecDepth 100000 in
theorem c_X0_countEqual (l : Launch) (E : gE) (a : Nat → Nat) (S : St) (mk rk rv : Nat → Int32) (F : va_W) (q9 r : Nat) (g : Nat → Int32) (x : Int32) (hn : s_n S ≤ 48) (hq : (xW E a S mk rk rv ++ F)[q9]? = some (r, .inl (eI E, 48, .inl g))) : gMi l E yX0_countEqual wsX0_countEqual ({ frames := 0, cells := 0, slots := 0, locals := 0 }) (xW E a S mk rk rv ++ F) [.ref (a 1), .ref r, .int x] (nI (cnt g x (s_n S))) (xW E a S mk rk rv ++ F) 0 0 := by
  refine gMi.of (cc := cX0_countEqual) (maxL := 5) (ty := .int) (by decide) rfl (Nat.le_of_ble_eq_true rfl) ?_
  intro p e s m args below meth c A C ls hl hO
  have hl : lv_has ls 5 [(0, .ref (a 1)), (1, .ref r), (2, .int x)] := hl
  have iX0 : ∀ w ∈ u_ws RX0 TX0 8, w ∈ wsX0_countEqual := by decide +kernel
  have w28 : Cond.fieldLink RX0 28 "ParrotLog$Log" "size" "I" ∈ wsX0_countEqual := by decide +kernel
  refine lv_iconst (v := 0) C.1 C.2.1 dX0_countEqual_0 (by decide) ?_
  refine lv_istore_n (lv' := [(3, .int 0), (0, .ref (a 1)), (1, .ref r), (2, .int x)]) C.1 C.2.1 dX0_countEqual_1 rfl hl (by decide) rfl (fun ls hl => ?_)
  refine lv_iconst (v := 0) C.1 C.2.1 dX0_countEqual_2 (by decide) ?_
  refine lv_istore (lv' := [(4, .int 0), (3, .int 0), (0, .ref (a 1)), (1, .ref r), (2, .int x)]) C.1 C.2.1 dX0_countEqual_3 hl (by decide) rfl (fun ls hl => ?_)
  have lp24 : ∀ (f : Nat) (k : Nat) (c2 : Nat), (s_n S + 1 ≤ k + f) → (k ≤ s_n S) → (c2 = cnt g x k) → ∀ (H : Heap) (locs : List Loc), gO E A s (xW E a S mk rk rv ++ F) H locs → ∀ ls : Array Slot, lv_has ls 5 [(0, .ref (a 1)), (1, .ref r), (2, .int x), (3, .int (nI c2)), (4, .int (nI k))] → W p l e ({ frames := 0, cells := 0, slots := 0, locals := 0 } : Room) s m args below meth c H locs 0 0 (MQ below (gQi E A (nI (cnt g x (s_n S))) (xW E a S mk rk rv ++ F)) args s 0 0 A) (F0 m 5 ls []) := by
    intro f
    induction f with
    | zero =>
      intro k c2 hf hk hc24
      exact absurd hf (by omega)
    | succ f ih_lp24 =>
      intro k c2 hf hk hc24 H locs hO ls hl
      refine lv_iload C.1 C.2.1 dX0_countEqual_5 (lv_at hl 4 rfl) ?_
      refine lv_aload_n C.1 C.2.1 dX0_countEqual_7 rfl (lv_at hl 0 rfl) ?_
      refine gGet (v := .int (nI (s_n S))) (ref := RX0) (Cn := RX0) (T := TX0) (N := 8) C iX0 hO 1 rfl rfl 5 (by decide) w28 (fun _ h9 => h9) rfl dX0_countEqual_8 ?_
      refine gGeN (x := k) (y := (s_n S)) (tgt := 31) C.1 C.2.1 (by omega) (by omega) dX0_countEqual_11 (by decide) (fun c_1 => ?_) (fun c_1 => ?_)
      · refine lv_iload_n C.1 C.2.1 dX0_countEqual_31 rfl (lv_at hl 3 rfl) ?_
        exact gRi C hO rfl (by rw [hc24, show k = s_n S by omega]) dX0_countEqual_32 (Nat.le_of_ble_eq_true rfl) (Nat.le_of_ble_eq_true rfl)
      · refine lv_aload_n C.1 C.2.1 dX0_countEqual_14 rfl (lv_at hl 1 rfl) ?_
        refine lv_iload C.1 C.2.1 dX0_countEqual_15 (lv_at hl 4 rfl) ?_
        refine gIald (v := g k) (j := k) C hO q9 hq (by omega) (by decide) rfl dX0_countEqual_17 ?_
        refine lv_iload_n C.1 C.2.1 dX0_countEqual_18 rfl (lv_at hl 2 rfl) ?_
        refine lv_icmp_ne (tgt := 25) C.1 C.2.1 dX0_countEqual_19 (by decide) (fun c_2 => ?_) (fun c_2 => ?_)
        · have hz : ¬ g k = x := c_2
          refine gInc (j := k) (k := 4) (lv' := [(4, .int (nI (k + 1))), (0, .ref (a 1)), (1, .ref r), (2, .int x), (3, .int (nI c2))]) C.1 C.2.1 dX0_countEqual_25 hl rfl (by decide) rfl (fun ls hl => ?_)
          refine lv_goto (tgt := 5) C.1 C.2.1 dX0_countEqual_28 (by decide) ?_
          exact ih_lp24 (k + 1) c2 (by omega) (by omega) (by first | exact by rw [hc24, cnt_s0 hz] | exact by rw [hc24, cnt_s1 hz]) _ _ hO _ (lv_sub hl [1, 2, 3, 4, 0] rfl)
        · have hz : g k = x := c_2
          refine gInc (j := c2) (k := 3) (lv' := [(3, .int (nI (c2 + 1))), (0, .ref (a 1)), (1, .ref r), (2, .int x), (4, .int (nI k))]) C.1 C.2.1 dX0_countEqual_22 hl rfl (by decide) rfl (fun ls hl => ?_)
          refine gInc (j := k) (k := 4) (lv' := [(4, .int (nI (k + 1))), (3, .int (nI (c2 + 1))), (0, .ref (a 1)), (1, .ref r), (2, .int x)]) C.1 C.2.1 dX0_countEqual_25 hl rfl (by decide) rfl (fun ls hl => ?_)
          refine lv_goto (tgt := 5) C.1 C.2.1 dX0_countEqual_28 (by decide) ?_
          exact ih_lp24 (k + 1) (c2 + 1) (by omega) (by omega) (by first | exact by rw [hc24, cnt_s0 hz] | exact by rw [hc24, cnt_s1 hz]) _ _ hO _ (lv_sub hl [2, 3, 4, 1, 0] rfl)
  exact lp24 (s_n S + 1) 0 0 (by omega) (Nat.zero_le _) rfl _ _ hO _ (lv_sub hl [2, 3, 4, 1, 0] rfl)

set_option maxHeartbeats 4000000 in
set_option maxRecDepth 100000 in
theorem c_X0_countKey (l : Launch) (E : gE) (a : Nat → Nat) (S : St) (mk rk rv : Nat → Int32) (F : va_W) (x : Int32) (hn : s_n S ≤ 48) : gMi l E yX0_countKey wsX0_countKey ({ frames := 1, cells := 0, slots := 0, locals := 24 }) (xW E a S mk rk rv ++ F) [.ref (a 1), .int x] (nI (cnt (s_key S) x (s_n S))) (xW E a S mk rk rv ++ F) 0 0 := by
  refine gMi.of (cc := cX0_countKey) (maxL := 2) (ty := .int) (by decide) rfl (Nat.le_of_ble_eq_true rfl) ?_
  intro p e s m args below meth c A C ls hl hO
  have hl : lv_has ls 2 [(0, .ref (a 1)), (1, .int x)] := hl
  have iX0 : ∀ w ∈ u_ws RX0 TX0 8, w ∈ wsX0_countKey := by decide +kernel
  have w15 : Cond.fieldLink RX0 15 "ParrotLog$Log" "keys" "[I" ∈ wsX0_countKey := by decide +kernel
  refine lv_aload_n C.1 C.2.1 dX0_countKey_0 rfl (lv_at hl 0 rfl) ?_
  refine lv_aload_n C.1 C.2.1 dX0_countKey_1 rfl (lv_at hl 0 rfl) ?_
  refine gGet (v := .ref (a 3)) (ref := RX0) (Cn := RX0) (T := TX0) (N := 8) C iX0 hO 1 rfl rfl 1 (by decide) w15 (fun _ h9 => h9) rfl dX0_countKey_2 ?_
  refine lv_iload_n C.1 C.2.1 dX0_countKey_5 rfl (lv_at hl 1 rfl) ?_
  refine gCall_i (As := [.ref (a 3), .int x]) (rest := []) C hO (c_X0_countEqual l E a S mk rk rv F 3 (a 3) (s_key S) x (by omega) rfl) (cwV 2 C.2.2.2.2.1 gX0_countKey_X0_countEqual rfl rfl rfl (by decide +kernel) ⟨(Nat.le_of_ble_eq_true rfl), (Nat.le_of_ble_eq_true rfl)⟩) (va_recv C.2.2.2.2.2.2.2.1.1 hO.1 (ci := 0) (q0 := 1) rfl rfl) rfl hl.1 rfl (Nat.le_of_ble_eq_true rfl) dX0_countKey_6 ⟨(Nat.le_of_ble_eq_true rfl), (Nat.le_of_ble_eq_true rfl)⟩ (fun H locs hO => ?_)
  exact gRi C hO rfl rfl dX0_countKey_9 (Nat.le_of_ble_eq_true rfl) (Nat.le_of_ble_eq_true rfl)

set_option maxHeartbeats 4000000 in
set_option maxRecDepth 100000 in
theorem c_X0_countStorm (l : Launch) (E : gE) (a : Nat → Nat) (S : St) (mk rk rv : Nat → Int32) (F : va_W) (x : Int32) (hn : s_n S ≤ 48) : gMi l E yX0_countStorm wsX0_countStorm ({ frames := 1, cells := 0, slots := 0, locals := 24 }) (xW E a S mk rk rv ++ F) [.ref (a 1), .int x] (nI (cnt (s_sto S) x (s_n S))) (xW E a S mk rk rv ++ F) 0 0 := by
  refine gMi.of (cc := cX0_countStorm) (maxL := 2) (ty := .int) (by decide) rfl (Nat.le_of_ble_eq_true rfl) ?_
  intro p e s m args below meth c A C ls hl hO
  have hl : lv_has ls 2 [(0, .ref (a 1)), (1, .int x)] := hl
  have iX0 : ∀ w ∈ u_ws RX0 TX0 8, w ∈ wsX0_countStorm := by decide +kernel
  have w21 : Cond.fieldLink RX0 21 "ParrotLog$Log" "stormNumbers" "[I" ∈ wsX0_countStorm := by decide +kernel
  refine lv_aload_n C.1 C.2.1 dX0_countStorm_0 rfl (lv_at hl 0 rfl) ?_
  refine lv_aload_n C.1 C.2.1 dX0_countStorm_1 rfl (lv_at hl 0 rfl) ?_
  refine gGet (v := .ref (a 5)) (ref := RX0) (Cn := RX0) (T := TX0) (N := 8) C iX0 hO 1 rfl rfl 3 (by decide) w21 (fun _ h9 => h9) rfl dX0_countStorm_2 ?_
  refine lv_iload_n C.1 C.2.1 dX0_countStorm_5 rfl (lv_at hl 1 rfl) ?_
  refine gCall_i (As := [.ref (a 5), .int x]) (rest := []) C hO (c_X0_countEqual l E a S mk rk rv F 5 (a 5) (s_sto S) x (by omega) rfl) (cwV 2 C.2.2.2.2.1 gX0_countStorm_X0_countEqual rfl rfl rfl (by decide +kernel) ⟨(Nat.le_of_ble_eq_true rfl), (Nat.le_of_ble_eq_true rfl)⟩) (va_recv C.2.2.2.2.2.2.2.1.1 hO.1 (ci := 0) (q0 := 1) rfl rfl) rfl hl.1 rfl (Nat.le_of_ble_eq_true rfl) dX0_countStorm_6 ⟨(Nat.le_of_ble_eq_true rfl), (Nat.le_of_ble_eq_true rfl)⟩ (fun H locs hO => ?_)
  exact gRi C hO rfl rfl dX0_countStorm_9 (Nat.le_of_ble_eq_true rfl) (Nat.le_of_ble_eq_true rfl)

set_option maxHeartbeats 4000000 in
set_option maxRecDepth 100000 in
theorem c_X0_copyStorm (l : Launch) (E : gE) (a : Nat → Nat) (S : St) (mk rk rv : Nat → Int32) (F : va_W) (x : Int32) (hn : s_n S ≤ 48) : gMi l E yX0_copyStorm wsX0_copyStorm ({ frames := 0, cells := 0, slots := 0, locals := 0 }) (xW E a S mk rk rv ++ F) [.ref (a 1), .int x, .ref (a 9), .ref (a 10)] (nI (cnt (s_sto S) x (s_n S))) (xW E a S mk (flF (s_key S) (s_sto S) x rk (s_n S)) (flF (s_val S) (s_sto S) x rv (s_n S)) ++ F) 0 0 := by
  refine gMi.of (cc := cX0_copyStorm) (maxL := 6) (ty := .int) (by decide) rfl (Nat.le_of_ble_eq_true rfl) ?_
  intro p e s m args below meth c A C ls hl hO
  have hl : lv_has ls 6 [(0, .ref (a 1)), (1, .int x), (2, .ref (a 9)), (3, .ref (a 10))] := hl
  have iX0 : ∀ w ∈ u_ws RX0 TX0 8, w ∈ wsX0_copyStorm := by decide +kernel
  have w28 : Cond.fieldLink RX0 28 "ParrotLog$Log" "size" "I" ∈ wsX0_copyStorm := by decide +kernel
  have w21 : Cond.fieldLink RX0 21 "ParrotLog$Log" "stormNumbers" "[I" ∈ wsX0_copyStorm := by decide +kernel
  have w15 : Cond.fieldLink RX0 15 "ParrotLog$Log" "keys" "[I" ∈ wsX0_copyStorm := by decide +kernel
  have w18 : Cond.fieldLink RX0 18 "ParrotLog$Log" "values" "[I" ∈ wsX0_copyStorm := by decide +kernel
  refine lv_iconst (v := 0) C.1 C.2.1 dX0_copyStorm_0 (by decide) ?_
  refine lv_istore (lv' := [(4, .int 0), (0, .ref (a 1)), (1, .int x), (2, .ref (a 9)), (3, .ref (a 10))]) C.1 C.2.1 dX0_copyStorm_1 hl (by decide) rfl (fun ls hl => ?_)
  refine lv_iconst (v := 0) C.1 C.2.1 dX0_copyStorm_3 (by decide) ?_
  refine lv_istore (lv' := [(5, .int 0), (4, .int 0), (0, .ref (a 1)), (1, .int x), (2, .ref (a 9)), (3, .ref (a 10))]) C.1 C.2.1 dX0_copyStorm_4 hl (by decide) rfl (fun ls hl => ?_)
  have lp24 : ∀ (f : Nat) (k : Nat), (s_n S + 1 ≤ k + f) → (k ≤ s_n S) → ∀ (H : Heap) (locs : List Loc), gO E A s (xW E a S mk (flF (s_key S) (s_sto S) x rk k) (flF (s_val S) (s_sto S) x rv k) ++ F) H locs → ∀ ls : Array Slot, lv_has ls 6 [(0, .ref (a 1)), (1, .int x), (2, .ref (a 9)), (3, .ref (a 10)), (4, .int (nI (cnt (s_sto S) x k))), (5, .int (nI k))] → W p l e ({ frames := 0, cells := 0, slots := 0, locals := 0 } : Room) s m args below meth c H locs 0 0 (MQ below (gQi E A (nI (cnt (s_sto S) x (s_n S))) (xW E a S mk (flF (s_key S) (s_sto S) x rk (s_n S)) (flF (s_val S) (s_sto S) x rv (s_n S)) ++ F)) args s 0 0 A) (F0 m 6 ls []) := by
    intro f
    induction f with
    | zero =>
      intro k hf hk
      exact absurd hf (by omega)
    | succ f ih_lp24 =>
      intro k hf hk H locs hO ls hl
      refine lv_iload C.1 C.2.1 dX0_copyStorm_6 (lv_at hl 5 rfl) ?_
      refine lv_aload_n C.1 C.2.1 dX0_copyStorm_8 rfl (lv_at hl 0 rfl) ?_
      refine gGet (v := .int (nI (s_n S))) (ref := RX0) (Cn := RX0) (T := TX0) (N := 8) C iX0 hO 1 rfl rfl 5 (by decide) w28 (fun _ h9 => h9) rfl dX0_copyStorm_9 ?_
      refine gGeN (x := k) (y := (s_n S)) (tgt := 57) C.1 C.2.1 (by omega) (by omega) dX0_copyStorm_12 (by decide) (fun c_1 => ?_) (fun c_1 => ?_)
      · have hk9 : k = s_n S := by omega
        rw [hk9] at hO hl
        have hl := lv_sub hl [4] rfl
        have hl : lv_has ls 6 [(4, .int (nI (cnt (s_sto S) x (s_n S))))] := hl
        refine lv_iload C.1 C.2.1 dX0_copyStorm_57 (lv_at hl 0 rfl) ?_
        exact gRi C hO rfl rfl dX0_copyStorm_59 (Nat.le_of_ble_eq_true rfl) (Nat.le_of_ble_eq_true rfl)
      · have hle := cnt_le (s_sto S) x k
        refine lv_aload_n C.1 C.2.1 dX0_copyStorm_15 rfl (lv_at hl 0 rfl) ?_
        refine gGet (v := .ref (a 5)) (ref := RX0) (Cn := RX0) (T := TX0) (N := 8) C iX0 hO 1 rfl rfl 3 (by decide) w21 (fun _ h9 => h9) rfl dX0_copyStorm_16 ?_
        refine lv_iload C.1 C.2.1 dX0_copyStorm_19 (lv_at hl 5 rfl) ?_
        refine gIald (v := (s_sto S) k) (j := k) C hO 5 rfl (by omega) (by decide) rfl dX0_copyStorm_21 ?_
        refine lv_iload_n C.1 C.2.1 dX0_copyStorm_22 rfl (lv_at hl 1 rfl) ?_
        refine lv_icmp_ne (tgt := 51) C.1 C.2.1 dX0_copyStorm_23 (by decide) (fun c_2 => ?_) (fun c_2 => ?_)
        · have hz : ¬ s_sto S k = x := c_2
          have hO : gO E A s (xW E a S mk (flF (s_key S) (s_sto S) x rk (k + 1)) (flF (s_val S) (s_sto S) x rv (k + 1)) ++ F) H locs := by rw [fl_s0 hz, fl_s0 hz]; exact hO
          have hl : lv_has ls 6 [(0, .ref (a 1)), (1, .int x), (2, .ref (a 9)), (3, .ref (a 10)), (4, .int (nI (cnt (s_sto S) x (k + 1)))), (5, .int (nI k))] := by rw [cnt_s0 hz]; exact hl
          refine gInc (j := k) (k := 5) (lv' := [(5, .int (nI (k + 1))), (0, .ref (a 1)), (1, .int x), (2, .ref (a 9)), (3, .ref (a 10)), (4, .int (nI (cnt (s_sto S) x (k + 1))))]) C.1 C.2.1 dX0_copyStorm_51 hl rfl (by decide) rfl (fun ls hl => ?_)
          refine lv_goto (tgt := 6) C.1 C.2.1 dX0_copyStorm_54 (by decide) ?_
          exact ih_lp24 (k + 1) (by omega) (by omega) _ _ hO _ (lv_sub hl [1, 2, 3, 4, 5, 0] rfl)
        · have hz : s_sto S k = x := c_2
          refine lv_aload_n C.1 C.2.1 dX0_copyStorm_26 rfl (lv_at hl 2 rfl) ?_
          refine lv_iload C.1 C.2.1 dX0_copyStorm_27 (lv_at hl 4 rfl) ?_
          refine lv_aload_n C.1 C.2.1 dX0_copyStorm_29 rfl (lv_at hl 0 rfl) ?_
          refine gGet (v := .ref (a 3)) (ref := RX0) (Cn := RX0) (T := TX0) (N := 8) C iX0 hO 1 rfl rfl 1 (by decide) w15 (fun _ h9 => h9) rfl dX0_copyStorm_30 ?_
          refine lv_iload C.1 C.2.1 dX0_copyStorm_33 (lv_at hl 5 rfl) ?_
          refine gIald (v := (s_key S) k) (j := k) C hO 3 rfl (by omega) (by decide) rfl dX0_copyStorm_35 ?_
          refine gIast (j := (cnt (s_sto S) x k)) (ws' := (xW E a S mk (upd (flF (s_key S) (s_sto S) x rk k) (cnt (s_sto S) x k) ((s_key S) k)) (flF (s_val S) (s_sto S) x rv k) ++ F)) C hO 9 rfl (by omega) (by decide) rfl dX0_copyStorm_36 (fun H locs hO => ?_)
          refine lv_aload_n C.1 C.2.1 dX0_copyStorm_37 rfl (lv_at hl 3 rfl) ?_
          refine lv_iload C.1 C.2.1 dX0_copyStorm_38 (lv_at hl 4 rfl) ?_
          refine lv_aload_n C.1 C.2.1 dX0_copyStorm_40 rfl (lv_at hl 0 rfl) ?_
          refine gGet (v := .ref (a 4)) (ref := RX0) (Cn := RX0) (T := TX0) (N := 8) C iX0 hO 1 rfl rfl 2 (by decide) w18 (fun _ h9 => h9) rfl dX0_copyStorm_41 ?_
          refine lv_iload C.1 C.2.1 dX0_copyStorm_44 (lv_at hl 5 rfl) ?_
          refine gIald (v := (s_val S) k) (j := k) C hO 4 rfl (by omega) (by decide) rfl dX0_copyStorm_46 ?_
          refine gIast (j := (cnt (s_sto S) x k)) (ws' := (xW E a S mk (upd (flF (s_key S) (s_sto S) x rk k) (cnt (s_sto S) x k) ((s_key S) k)) (upd (flF (s_val S) (s_sto S) x rv k) (cnt (s_sto S) x k) ((s_val S) k)) ++ F)) C hO 10 rfl (by omega) (by decide) rfl dX0_copyStorm_47 (fun H locs hO => ?_)
          refine gInc (j := (cnt (s_sto S) x k)) (k := 4) (lv' := [(4, .int (nI ((cnt (s_sto S) x k) + 1))), (0, .ref (a 1)), (1, .int x), (2, .ref (a 9)), (3, .ref (a 10)), (5, .int (nI k))]) C.1 C.2.1 dX0_copyStorm_48 hl rfl (by decide) rfl (fun ls hl => ?_)
          have hO : gO E A s (xW E a S mk (flF (s_key S) (s_sto S) x rk (k + 1)) (flF (s_val S) (s_sto S) x rv (k + 1)) ++ F) H locs := by rw [fl_s1 hz, fl_s1 hz]; exact hO
          have hl : lv_has ls 6 [(4, .int (nI (cnt (s_sto S) x (k + 1)))), (0, .ref (a 1)), (1, .int x), (2, .ref (a 9)), (3, .ref (a 10)), (5, .int (nI k))] := by rw [cnt_s1 hz]; exact hl
          refine gInc (j := k) (k := 5) (lv' := [(5, .int (nI (k + 1))), (4, .int (nI (cnt (s_sto S) x (k + 1)))), (0, .ref (a 1)), (1, .int x), (2, .ref (a 9)), (3, .ref (a 10))]) C.1 C.2.1 dX0_copyStorm_51 hl rfl (by decide) rfl (fun ls hl => ?_)
          refine lv_goto (tgt := 6) C.1 C.2.1 dX0_copyStorm_54 (by decide) ?_
          exact ih_lp24 (k + 1) (by omega) (by omega) _ _ hO _ (lv_sub hl [2, 3, 4, 5, 1, 0] rfl)
  exact lp24 (s_n S + 1) 0 (by omega) (Nat.zero_le _) _ _ hO _ (lv_sub hl [2, 3, 4, 5, 1, 0] rfl)

set_option maxHeartbeats 4000000 in
set_option maxRecDepth 100000 in
theorem c_X1_hear (l : Launch) (E : gE) (a : Nat → Nat) (S : St) (mk rk rv : Nat → Int32) (F : va_W) (i : Nat) (po : Int32) (k9 : Nat) (v : Int32) (hi : i < 6) (hk9 : k9 < 10) : gMv l E yX1_hear wsX1_hear ({ frames := 0, cells := 0, slots := 0, locals := 0 }) (xW E a S mk rk rv ++ F) [.ref (a (11 + i)), .int po, .int (nI k9), .int v] (xW E a (mkS (s_off S) (s_key S) (s_val S) (s_sto S) (s_n S) (s_nx S) (s_dr S) (s_hr S) (s_sc S) (s_on S) (s_said S) (s_sh S) (s_pc S) (upd (s_at S) i (po + 1)) (upd (s_hd S) i (s_hd S i + 1)) (s_ms S) (va_up (s_kn S) i (upd (s_kn S i) k9 v))) mk rk rv ++ F) 0 0 := by
  refine gMv.of (cc := cX1_hear) (maxL := 4) (by decide) rfl (Nat.le_of_ble_eq_true rfl) ?_
  intro p e s m args below meth c A C ls hl hO
  have hl : lv_has ls 4 [(0, .ref (a (11 + i))), (1, .int po), (2, .int (nI k9)), (3, .int v)] := hl
  have iX1 : ∀ w ∈ u_ws RX1 TX1 5, w ∈ wsX1_hear := by decide +kernel
  have w9 : Cond.fieldLink RX1 9 "ParrotLog$Ship" "known" "[I" ∈ wsX1_hear := by decide +kernel
  have w15 : Cond.fieldLink RX1 15 "ParrotLog$Ship" "offset" "I" ∈ wsX1_hear := by decide +kernel
  have w19 : Cond.fieldLink RX1 19 "ParrotLog$Ship" "heard" "I" ∈ wsX1_hear := by decide +kernel
  refine lv_aload_n C.1 C.2.1 dX1_hear_0 rfl (lv_at hl 0 rfl) ?_
  refine gGet (v := .ref (a (17 + i))) (ref := RX1) (Cn := RX1) (T := TX1) (N := 5) C iX1 hO (11 + i) (xw_ship hi) rfl 0 (by decide) w9 (fun _ h9 => h9) rfl dX1_hear_1 ?_
  refine lv_iload_n C.1 C.2.1 dX1_hear_4 rfl (lv_at hl 2 rfl) ?_
  refine lv_iload_n C.1 C.2.1 dX1_hear_5 rfl (lv_at hl 3 rfl) ?_
  refine gIast (j := k9) (ws' := (xW E a (mkS (s_off S) (s_key S) (s_val S) (s_sto S) (s_n S) (s_nx S) (s_dr S) (s_hr S) (s_sc S) (s_on S) (s_said S) (s_sh S) (s_pc S) (s_at S) (s_hd S) (s_ms S) (va_up (s_kn S) i (upd ((s_kn S) i) k9 v))) mk rk rv ++ F)) C hO (17 + i) (xw_kn hi) (by omega) (by decide) (xs_kn hi _) dX1_hear_6 (fun H locs hO => ?_)
  refine lv_aload_n C.1 C.2.1 dX1_hear_7 rfl (lv_at hl 0 rfl) ?_
  refine lv_iload_n C.1 C.2.1 dX1_hear_8 rfl (lv_at hl 1 rfl) ?_
  refine lv_iconst (v := 1) C.1 C.2.1 dX1_hear_9 (by decide) ?_
  refine lv_iadd C.1 C.2.1 dX1_hear_10 ?_
  refine gPut (ws' := (xW E a (mkS (s_off S) (s_key S) (s_val S) (s_sto S) (s_n S) (s_nx S) (s_dr S) (s_hr S) (s_sc S) (s_on S) (s_said S) (s_sh S) (s_pc S) (upd (s_at S) i (po + 1)) (s_hd S) (s_ms S) (va_up (s_kn S) i (upd ((s_kn S) i) k9 v))) mk rk rv ++ F)) (ref := RX1) (Cn := RX1) (T := TX1) (N := 5) C iX1 tyX1 tyX1_ok nmX1 hO (11 + i) (xw_ship hi) rfl 2 (by decide) w15 (fun _ h9 => h9) rfl (by decide +kernel) rfl rfl (Nat.le_of_ble_eq_true rfl) (xs_at hi _) dX1_hear_11 (fun H locs hO => ?_)
  refine lv_aload_n C.1 C.2.1 dX1_hear_14 rfl (lv_at hl 0 rfl) ?_
  refine lv_dup C.1 C.2.1 dX1_hear_15 rfl ?_
  refine gGet (v := .int ((s_hd S) i)) (ref := RX1) (Cn := RX1) (T := TX1) (N := 5) C iX1 hO (11 + i) (xw_ship hi) rfl 3 (by decide) w19 (fun _ h9 => h9) rfl dX1_hear_16 ?_
  refine lv_iconst (v := 1) C.1 C.2.1 dX1_hear_19 (by decide) ?_
  refine lv_iadd C.1 C.2.1 dX1_hear_20 ?_
  refine gPut (ws' := (xW E a (mkS (s_off S) (s_key S) (s_val S) (s_sto S) (s_n S) (s_nx S) (s_dr S) (s_hr S) (s_sc S) (s_on S) (s_said S) (s_sh S) (s_pc S) (upd (s_at S) i (po + 1)) (upd (s_hd S) i (((s_hd S) i) + 1)) (s_ms S) (va_up (s_kn S) i (upd ((s_kn S) i) k9 v))) mk rk rv ++ F)) (ref := RX1) (Cn := RX1) (T := TX1) (N := 5) C iX1 tyX1 tyX1_ok nmX1 hO (11 + i) (xw_ship hi) rfl 3 (by decide) w19 (fun _ h9 => h9) rfl (by decide +kernel) rfl rfl (Nat.le_of_ble_eq_true rfl) (xs_hd hi _) dX1_hear_21 (fun H locs hO => ?_)
  exact gRv C hO dX1_hear_24 (Nat.le_of_ble_eq_true rfl) (Nat.le_of_ble_eq_true rfl)
