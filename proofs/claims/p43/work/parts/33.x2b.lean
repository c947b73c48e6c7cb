set_option maxHeartbeats 4000000 in
set_option maxRecDepth 100000 in
theorem c_X2_hearNext (l : Launch) (E : gE) (a : Nat → Nat) (S : St) (mk rk rv : Nat → Int32) (F : va_W) (i q9 : Nat) (hn : s_n S ≤ 48) (hi : i < 6) (hok9 : s_ok S) (hq9 : q9 < 1000) : gMi l E yX2_hearNext wsX2_hearNext ({ frames := 1, cells := 0, slots := 0, locals := 23 }) (xW E a S mk rk rv ++ F) [.ref (a 0), .ref (a (11 + i)), .int (nI q9)] (nI (s_to S i q9 - pf (s_off S) (s_at S i) (s_n S))) (xW E a (S_hear S i (s_to S i q9 - pf (s_off S) (s_at S i) (s_n S))) mk rk rv ++ F) 0 0 := by
  refine gMi.of (cc := cX2_hearNext) (maxL := 6) (ty := .int) (by decide) rfl (Nat.le_of_ble_eq_true rfl) ?_
  intro p e s m args below meth c A C ls hl hO
  have hl : lv_has ls 6 [(0, .ref (a 0)), (1, .ref (a (11 + i))), (2, .int (nI q9))] := hl
  have iX0 : ∀ w ∈ u_ws RX0 TX0 8, w ∈ wsX2_hearNext := by decide +kernel
  have iX1 : ∀ w ∈ u_ws RX1 TX1 5, w ∈ wsX2_hearNext := by decide +kernel
  have iX2 : ∀ w ∈ u_ws RX2 TX2 9, w ∈ wsX2_hearNext := by decide +kernel
  have w10 : Cond.fieldLink RX2 10 "ParrotLog" "log" "LParrotLog$Log;" ∈ wsX2_hearNext := by decide +kernel
  refine lv_aload_n C.1 C.2.1 dX2_hearNext_0 rfl (lv_at hl 0 rfl) ?_
  refine gGet (v := .ref (a 1)) (ref := RX2) (Cn := RX2) (T := TX2) (N := 9) C iX2 hO 0 rfl rfl 0 (by decide) w10 (fun _ h9 => h9) rfl dX2_hearNext_1 ?_
  refine lv_aload_n C.1 C.2.1 dX2_hearNext_4 rfl (lv_at hl 1 rfl) ?_
  refine gGetN (v := .int ((s_at S) i)) (ref := RX1) (Cn := RX1) (T := TX1) (N := 5) (host := RX2) C iX1 hO (11 + i) (xw_ship hi) rfl 2 (by decide) (by decide +kernel) (fun _ h9 => h9) rfl dX2_hearNext_5 ?_
  refine gCallN_i (As := [.int ((s_at S) i)]) (rest := []) C hO (c_X0_positionFrom l E a S mk rk rv F ((s_at S) i) (by omega)) ⟨va_cnB (host := RX2) 1 C.2.2.2.2.1 gX2_hearNext_X0_positionFrom_n233 rfl rfl rfl (C.2.2.2.2.2.2.2.1.2.1 (.methodLinkNest RX2 233 yX0_positionFrom RX2) (by decide +kernel)) (C.2.2.2.2.1 (.initialized RX0) (by decide +kernel)) (by decide +kernel) ⟨(Nat.le_of_ble_eq_true rfl), (Nat.le_of_ble_eq_true rfl)⟩, C.2.2.2.2.1 (.instanceMethod yX0_positionFrom) (by decide +kernel), C.2.2.2.2.1 (.selects RX0 yX0_positionFrom yX0_positionFrom) (by decide +kernel)⟩ (va_recv C.2.2.2.2.2.2.2.1.1 hO.1 (ci := 0) (q0 := 1) rfl rfl) rfl hl.1 rfl (Nat.le_of_ble_eq_true rfl) dX2_hearNext_8 ⟨(Nat.le_of_ble_eq_true rfl), (Nat.le_of_ble_eq_true rfl)⟩ (fun H locs hO => ?_)
  refine lv_istore_n (lv' := [(3, .int (nI (pf (s_off S) ((s_at S) i) (s_n S)))), (0, .ref (a 0)), (1, .ref (a (11 + i))), (2, .int (nI q9))]) C.1 C.2.1 dX2_hearNext_11 rfl hl (by decide) rfl (fun ls hl => ?_)
  have hpf9 := pf_le (s_off S) (s_at S i) (s_n S)
  have htl9 := s_to_le S i q9
  have htg9 := s_to_ge S i q9
  refine lv_aload_n C.1 C.2.1 dX2_hearNext_12 rfl (lv_at hl 1 rfl) ?_
  refine gGet (v := .ref (a 1)) (ref := RX2) (Cn := RX2) (T := TX2) (N := 9) C iX2 hO 0 rfl rfl 0 (by decide) w10 (fun _ h9 => h9) rfl dX2_hearNext_13 ?_
  refine gGetN (v := .int (nI (s_n S))) (ref := RX0) (Cn := RX0) (T := TX0) (N := 8) (host := RX2) C iX0 hO 1 rfl rfl 5 (by decide) (by decide +kernel) (fun _ h9 => h9) rfl dX2_hearNext_16 ?_
  refine lv_iload_n C.1 C.2.1 dX2_hearNext_19 rfl (lv_at hl 0 rfl) ?_
  refine lv_iload_n C.1 C.2.1 dX2_hearNext_20 rfl (lv_at hl 3 rfl) ?_
  refine gAddN (x := (pf (s_off S) ((s_at S) i) (s_n S))) (y := q9) C.1 C.2.1 dX2_hearNext_21 ?_
  refine va_mmin C.1 C.2.1 (by rw [C.2.2.1]; exact hl.1.symm) C.2.2.2.1 (C.2.2.2.2.1 (.methodLink RX2 225 Lib.Math.min.name) (by decide +kernel)) (C.2.2.2.2.1 (.static Lib.Math.min.name) (by decide +kernel)) (C.2.2.2.2.1 (.initialized "java/lang/Math") (by decide +kernel)) (C.2.2.2.2.1 (.code Lib.Math.min.name Lib.Math.min.code 2 (some .int)) (by decide +kernel)) (Nat.le_of_ble_eq_true rfl) (Nat.le_of_ble_eq_true rfl) (Nat.le_of_ble_eq_true rfl) (Nat.le_of_ble_eq_true rfl) dX2_hearNext_22 ?_
  refine lv_eqi (y := nI (s_to S i q9)) (nI_min (by omega) (by omega)) ?_
  refine lv_istore (lv' := [(4, .int (nI (s_to S i q9))), (3, .int (nI (pf (s_off S) ((s_at S) i) (s_n S)))), (0, .ref (a 0)), (1, .ref (a (11 + i))), (2, .int (nI q9))]) C.1 C.2.1 dX2_hearNext_25 hl (by decide) rfl (fun ls hl => ?_)
  refine lv_iload_n C.1 C.2.1 dX2_hearNext_27 rfl (lv_at hl 1 rfl) ?_
  have hO : gO E A s (xW E a (mkS (s_off S) (s_key S) (s_val S) (s_sto S) (s_n S) (s_nx S) (s_dr S) (s_hr S) (s_sc S) (s_on S) (s_said S) (s_sh S) (s_pc S) (if 0 = 0 then s_at S else upd (s_at S) i (s_off S (pf (s_off S) (s_at S i) (s_n S) + 0 - 1) + 1)) (upd (s_hd S) i (s_hd S i + nI 0)) (s_ms S) (va_up (s_kn S) i (hk (s_key S) (s_val S) (pf (s_off S) (s_at S i) (s_n S)) (s_kn S i) 0))) mk rk rv ++ F) H locs := by rw [show hk (s_key S) (s_val S) (pf (s_off S) (s_at S i) (s_n S)) (s_kn S i) 0 = s_kn S i from rfl, vup_self, nI_0, Int32.add_zero, upd_self]; exact hO
  refine lv_istore (lv' := [(5, .int (nI (pf (s_off S) ((s_at S) i) (s_n S)))), (4, .int (nI (s_to S i q9))), (3, .int (nI (pf (s_off S) ((s_at S) i) (s_n S)))), (0, .ref (a 0)), (1, .ref (a (11 + i))), (2, .int (nI q9))]) C.1 C.2.1 dX2_hearNext_28 hl (by decide) rfl (fun ls hl => ?_)
  have lp24 : ∀ (f : Nat) (d9 : Nat), (s_to S i q9 + 1 ≤ pf (s_off S) (s_at S i) (s_n S) + d9 + f) → (pf (s_off S) (s_at S i) (s_n S) + d9 ≤ s_to S i q9) → ∀ (H : Heap) (locs : List Loc), gO E A s (xW E a (mkS (s_off S) (s_key S) (s_val S) (s_sto S) (s_n S) (s_nx S) (s_dr S) (s_hr S) (s_sc S) (s_on S) (s_said S) (s_sh S) (s_pc S) (if d9 = 0 then s_at S else upd (s_at S) i (s_off S (pf (s_off S) (s_at S i) (s_n S) + d9 - 1) + 1)) (upd (s_hd S) i (s_hd S i + nI d9)) (s_ms S) (va_up (s_kn S) i (hk (s_key S) (s_val S) (pf (s_off S) (s_at S i) (s_n S)) (s_kn S i) d9))) mk rk rv ++ F) H locs → ∀ ls : Array Slot, lv_has ls 6 [(0, .ref (a 0)), (1, .ref (a (11 + i))), (3, .int (nI (pf (s_off S) (s_at S i) (s_n S)))), (4, .int (nI (s_to S i q9))), (5, .int (nI (pf (s_off S) (s_at S i) (s_n S) + d9)))] → W p l e ({ frames := 1, cells := 0, slots := 0, locals := 23 } : Room) s m args below meth c H locs 0 0 (MQ below (gQi E A (nI (s_to S i q9 - pf (s_off S) (s_at S i) (s_n S))) (xW E a (S_hear S i (s_to S i q9 - pf (s_off S) (s_at S i) (s_n S))) mk rk rv ++ F)) args s 0 0 A) (F0 m 30 ls []) := by
    intro f
    induction f with
    | zero =>
      intro d9 hf hd9
      exact absurd hf (by omega)
    | succ f ih_lp24 =>
      intro d9 hf hd9 H locs hO ls hl
      refine lv_iload C.1 C.2.1 dX2_hearNext_30 (lv_at hl 4 rfl) ?_
      refine lv_iload C.1 C.2.1 dX2_hearNext_32 (lv_at hl 3 rfl) ?_
      refine gGeN (x := (pf (s_off S) (s_at S i) (s_n S) + d9)) (y := (s_to S i q9)) (tgt := 77) C.1 C.2.1 (by omega) (by omega) dX2_hearNext_34 (by decide) (fun c_1 => ?_) (fun c_1 => ?_)
      · have hdd9 : d9 = s_to S i q9 - (pf (s_off S) (s_at S i) (s_n S)) := by omega
        refine lv_iload C.1 C.2.1 dX2_hearNext_77 (lv_at hl 3 rfl) ?_
        refine lv_iload_n C.1 C.2.1 dX2_hearNext_79 rfl (lv_at hl 2 rfl) ?_
        refine gSubN (x := (s_to S i q9)) (y := (pf (s_off S) (s_at S i) (s_n S))) C.1 C.2.1 htg9 dX2_hearNext_80 ?_
        exact gRi C (by rw [← hdd9]; exact hO) rfl rfl dX2_hearNext_81 (Nat.le_of_ble_eq_true rfl) (Nat.le_of_ble_eq_true rfl)
      · have hk24 := hok9 (pf (s_off S) (s_at S i) (s_n S) + d9) (by omega)
        refine lv_aload_n C.1 C.2.1 dX2_hearNext_37 rfl (lv_at hl 1 rfl) ?_
        refine lv_aload_n C.1 C.2.1 dX2_hearNext_38 rfl (lv_at hl 0 rfl) ?_
        refine gGet (v := .ref (a 1)) (ref := RX2) (Cn := RX2) (T := TX2) (N := 9) C iX2 hO 0 rfl rfl 0 (by decide) w10 (fun _ h9 => h9) rfl dX2_hearNext_39 ?_
        refine gGetN (v := .ref (a 2)) (ref := RX0) (Cn := RX0) (T := TX0) (N := 8) (host := RX2) C iX0 hO 1 rfl rfl 0 (by decide) (by decide +kernel) (fun _ h9 => h9) rfl dX2_hearNext_42 ?_
        refine lv_iload C.1 C.2.1 dX2_hearNext_45 (lv_at hl 4 rfl) ?_
        refine gIald (v := (s_off S) (pf (s_off S) (s_at S i) (s_n S) + d9)) (j := (pf (s_off S) (s_at S i) (s_n S) + d9)) C hO 2 rfl (by omega) (by decide) rfl dX2_hearNext_47 ?_
        refine lv_aload_n C.1 C.2.1 dX2_hearNext_48 rfl (lv_at hl 0 rfl) ?_
        refine gGet (v := .ref (a 1)) (ref := RX2) (Cn := RX2) (T := TX2) (N := 9) C iX2 hO 0 rfl rfl 0 (by decide) w10 (fun _ h9 => h9) rfl dX2_hearNext_49 ?_
        refine gGetN (v := .ref (a 3)) (ref := RX0) (Cn := RX0) (T := TX0) (N := 8) (host := RX2) C iX0 hO 1 rfl rfl 1 (by decide) (by decide +kernel) (fun _ h9 => h9) rfl dX2_hearNext_52 ?_
        refine lv_iload C.1 C.2.1 dX2_hearNext_55 (lv_at hl 4 rfl) ?_
        refine gIald (v := (s_key S) (pf (s_off S) (s_at S i) (s_n S) + d9)) (j := (pf (s_off S) (s_at S i) (s_n S) + d9)) C hO 3 rfl (by omega) (by decide) rfl dX2_hearNext_57 ?_
        refine lv_eqi (y := nI ((s_key S (pf (s_off S) (s_at S i) (s_n S) + d9)).toNatClampNeg)) hk24.2 ?_
        refine lv_aload_n C.1 C.2.1 dX2_hearNext_58 rfl (lv_at hl 0 rfl) ?_
        refine gGet (v := .ref (a 1)) (ref := RX2) (Cn := RX2) (T := TX2) (N := 9) C iX2 hO 0 rfl rfl 0 (by decide) w10 (fun _ h9 => h9) rfl dX2_hearNext_59 ?_
        refine gGetN (v := .ref (a 4)) (ref := RX0) (Cn := RX0) (T := TX0) (N := 8) (host := RX2) C iX0 hO 1 rfl rfl 2 (by decide) (by decide +kernel) (fun _ h9 => h9) rfl dX2_hearNext_62 ?_
        refine lv_iload C.1 C.2.1 dX2_hearNext_65 (lv_at hl 4 rfl) ?_
        refine gIald (v := (s_val S) (pf (s_off S) (s_at S i) (s_n S) + d9)) (j := (pf (s_off S) (s_at S i) (s_n S) + d9)) C hO 4 rfl (by omega) (by decide) rfl dX2_hearNext_67 ?_
        refine gCallN_v (As := [.int ((s_off S) (pf (s_off S) (s_at S i) (s_n S) + d9)), .int (nI ((s_key S (pf (s_off S) (s_at S i) (s_n S) + d9)).toNatClampNeg)), .int ((s_val S) (pf (s_off S) (s_at S i) (s_n S) + d9))]) (rest := []) C hO (c_X1_hear l E a (mkS (s_off S) (s_key S) (s_val S) (s_sto S) (s_n S) (s_nx S) (s_dr S) (s_hr S) (s_sc S) (s_on S) (s_said S) (s_sh S) (s_pc S) (if d9 = 0 then s_at S else upd (s_at S) i (s_off S (pf (s_off S) (s_at S i) (s_n S) + d9 - 1) + 1)) (upd (s_hd S) i (s_hd S i + nI d9)) (s_ms S) (va_up (s_kn S) i (hk (s_key S) (s_val S) (pf (s_off S) (s_at S i) (s_n S)) (s_kn S i) d9))) mk rk rv F i ((s_off S) (pf (s_off S) (s_at S i) (s_n S) + d9)) ((s_key S (pf (s_off S) (s_at S i) (s_n S) + d9)).toNatClampNeg) ((s_val S) (pf (s_off S) (s_at S i) (s_n S) + d9)) hi (by omega)) ⟨va_cnB (host := RX2) 3 C.2.2.2.2.1 gX2_hearNext_X1_hear_n236 rfl rfl rfl (C.2.2.2.2.2.2.2.1.2.1 (.methodLinkNest RX2 236 yX1_hear RX2) (by decide +kernel)) (C.2.2.2.2.1 (.initialized RX1) (by decide +kernel)) (by decide +kernel) ⟨(Nat.le_of_ble_eq_true rfl), (Nat.le_of_ble_eq_true rfl)⟩, C.2.2.2.2.1 (.instanceMethod yX1_hear) (by decide +kernel), C.2.2.2.2.1 (.selects RX1 yX1_hear yX1_hear) (by decide +kernel)⟩ (va_recv C.2.2.2.2.2.2.2.1.1 hO.1 (ci := 1) (q0 := 11 + i) rfl (xw_ship hi)) rfl hl.1 rfl (Nat.le_of_ble_eq_true rfl) dX2_hearNext_68 ⟨(Nat.le_of_ble_eq_true rfl), (Nat.le_of_ble_eq_true rfl)⟩ (fun H locs hO => ?_)
        have hO : gO E A s (xW E a (mkS (s_off S) (s_key S) (s_val S) (s_sto S) (s_n S) (s_nx S) (s_dr S) (s_hr S) (s_sc S) (s_on S) (s_said S) (s_sh S) (s_pc S) (upd (if d9 = 0 then s_at S else upd (s_at S) i (s_off S (pf (s_off S) (s_at S i) (s_n S) + d9 - 1) + 1)) i (((s_off S) (pf (s_off S) (s_at S i) (s_n S) + d9)) + 1)) (upd (upd (s_hd S) i (s_hd S i + nI d9)) i ((upd (s_hd S) i (s_hd S i + nI d9)) i + 1)) (s_ms S) (va_up (va_up (s_kn S) i (hk (s_key S) (s_val S) (pf (s_off S) (s_at S i) (s_n S)) (s_kn S i) d9)) i (upd ((va_up (s_kn S) i (hk (s_key S) (s_val S) (pf (s_off S) (s_at S i) (s_n S)) (s_kn S i) d9)) i) ((s_key S (pf (s_off S) (s_at S i) (s_n S) + d9)).toNatClampNeg) ((s_val S) (pf (s_off S) (s_at S i) (s_n S) + d9))))) mk rk rv ++ F) H locs := hO
        rw [hear_kn, hear_at, hear_hd] at hO
        refine gInc (j := (pf (s_off S) (s_at S i) (s_n S) + d9)) (k := 4) (lv' := [(5, .int (nI ((pf (s_off S) (s_at S i) (s_n S) + d9) + 1))), (0, .ref (a 0)), (1, .ref (a (11 + i))), (3, .int (nI (pf (s_off S) (s_at S i) (s_n S)))), (4, .int (nI (s_to S i q9)))]) C.1 C.2.1 dX2_hearNext_71 hl rfl (by decide) rfl (fun ls hl => ?_)
        refine lv_goto (tgt := 30) C.1 C.2.1 dX2_hearNext_74 (by decide) ?_
        refine W.widen (k := 0) (n := 0) (by omega) (by omega) ?_
        exact ih_lp24 (d9 + 1) (by omega) (by omega) _ _ hO _ (lv_sub hl [1, 2, 3, 4, 0] rfl)
  refine W.widen (k := 0) (n := 0) (by omega) (by omega) ?_
  exact lp24 (s_to S i q9 + 1) 0 (by omega) (s_to_ge S i q9) _ _ hO _ (lv_sub hl [3, 4, 2, 1, 0] rfl)

set_option maxHeartbeats 4000000 in
set_option maxRecDepth 100000 in
theorem c_X2_errorsAfter (l : Launch) (E : gE) (a : Nat → Nat) (S : St) (mk rk rv : Nat → Int32) (F : va_W) (i q9 : Nat) (hn : s_n S ≤ 48) (hi : i < 6) (hq9 : q9 < 1000) : gMi l E yX2_errorsAfter wsX2_errorsAfter ({ frames := 2, cells := 0, slots := 0, locals := 46 }) (xW E a S mk rk rv ++ F) [.ref (a 0), .ref (a (11 + i)), .int (nI q9)] (nI (s_ea S i q9)) (xW E a S mk rk rv ++ F) 0 0 := by
  refine gMi.of (cc := cX2_errorsAfter) (maxL := 9) (ty := .int) (by decide) rfl (Nat.le_of_ble_eq_true rfl) ?_
  intro p e s m args below meth c A C ls hl hO
  have hl : lv_has ls 9 [(0, .ref (a 0)), (1, .ref (a (11 + i))), (2, .int (nI q9))] := hl
  have iX0 : ∀ w ∈ u_ws RX0 TX0 8, w ∈ wsX2_errorsAfter := by decide +kernel
  have iX1 : ∀ w ∈ u_ws RX1 TX1 5, w ∈ wsX2_errorsAfter := by decide +kernel
  have iX2 : ∀ w ∈ u_ws RX2 TX2 9, w ∈ wsX2_errorsAfter := by decide +kernel
  have w10 : Cond.fieldLink RX2 10 "ParrotLog" "log" "LParrotLog$Log;" ∈ wsX2_errorsAfter := by decide +kernel
  refine lv_aload_n C.1 C.2.1 dX2_errorsAfter_0 rfl (lv_at hl 0 rfl) ?_
  refine gGet (v := .ref (a 1)) (ref := RX2) (Cn := RX2) (T := TX2) (N := 9) C iX2 hO 0 rfl rfl 0 (by decide) w10 (fun _ h9 => h9) rfl dX2_errorsAfter_1 ?_
  refine lv_aload_n C.1 C.2.1 dX2_errorsAfter_4 rfl (lv_at hl 1 rfl) ?_
  refine gGetN (v := .int ((s_at S) i)) (ref := RX1) (Cn := RX1) (T := TX1) (N := 5) (host := RX2) C iX1 hO (11 + i) (xw_ship hi) rfl 2 (by decide) (by decide +kernel) (fun _ h9 => h9) rfl dX2_errorsAfter_5 ?_
  refine gCallN_i (As := [.int ((s_at S) i)]) (rest := []) C hO (c_X0_positionFrom l E a S mk rk rv F ((s_at S) i) (by omega)) ⟨va_cnB (host := RX2) 1 C.2.2.2.2.1 gX2_errorsAfter_X0_positionFrom_n233 rfl rfl rfl (C.2.2.2.2.2.2.2.1.2.1 (.methodLinkNest RX2 233 yX0_positionFrom RX2) (by decide +kernel)) (C.2.2.2.2.1 (.initialized RX0) (by decide +kernel)) (by decide +kernel) ⟨(Nat.le_of_ble_eq_true rfl), (Nat.le_of_ble_eq_true rfl)⟩, C.2.2.2.2.1 (.instanceMethod yX0_positionFrom) (by decide +kernel), C.2.2.2.2.1 (.selects RX0 yX0_positionFrom yX0_positionFrom) (by decide +kernel)⟩ (va_recv C.2.2.2.2.2.2.2.1.1 hO.1 (ci := 0) (q0 := 1) rfl rfl) rfl hl.1 rfl (Nat.le_of_ble_eq_true rfl) dX2_errorsAfter_8 ⟨(Nat.le_of_ble_eq_true rfl), (Nat.le_of_ble_eq_true rfl)⟩ (fun H locs hO => ?_)
  refine lv_istore_n (lv' := [(3, .int (nI (pf (s_off S) ((s_at S) i) (s_n S)))), (0, .ref (a 0)), (1, .ref (a (11 + i))), (2, .int (nI q9))]) C.1 C.2.1 dX2_errorsAfter_11 rfl hl (by decide) rfl (fun ls hl => ?_)
  have hpf9 := pf_le (s_off S) (s_at S i) (s_n S)
  have htl9 := s_to_le S i q9
  refine lv_aload_n C.1 C.2.1 dX2_errorsAfter_12 rfl (lv_at hl 1 rfl) ?_
  refine gGet (v := .ref (a 1)) (ref := RX2) (Cn := RX2) (T := TX2) (N := 9) C iX2 hO 0 rfl rfl 0 (by decide) w10 (fun _ h9 => h9) rfl dX2_errorsAfter_13 ?_
  refine gGetN (v := .int (nI (s_n S))) (ref := RX0) (Cn := RX0) (T := TX0) (N := 8) (host := RX2) C iX0 hO 1 rfl rfl 5 (by decide) (by decide +kernel) (fun _ h9 => h9) rfl dX2_errorsAfter_16 ?_
  refine lv_iload_n C.1 C.2.1 dX2_errorsAfter_19 rfl (lv_at hl 0 rfl) ?_
  refine lv_iload_n C.1 C.2.1 dX2_errorsAfter_20 rfl (lv_at hl 3 rfl) ?_
  refine gAddN (x := (pf (s_off S) ((s_at S) i) (s_n S))) (y := q9) C.1 C.2.1 dX2_errorsAfter_21 ?_
  refine va_mmin C.1 C.2.1 (by rw [C.2.2.1]; exact hl.1.symm) C.2.2.2.1 (C.2.2.2.2.1 (.methodLink RX2 225 Lib.Math.min.name) (by decide +kernel)) (C.2.2.2.2.1 (.static Lib.Math.min.name) (by decide +kernel)) (C.2.2.2.2.1 (.initialized "java/lang/Math") (by decide +kernel)) (C.2.2.2.2.1 (.code Lib.Math.min.name Lib.Math.min.code 2 (some .int)) (by decide +kernel)) (Nat.le_of_ble_eq_true rfl) (Nat.le_of_ble_eq_true rfl) (Nat.le_of_ble_eq_true rfl) (Nat.le_of_ble_eq_true rfl) dX2_errorsAfter_22 ?_
  refine lv_eqi (y := nI (s_to S i q9)) (nI_min (by omega) (by omega)) ?_
  refine lv_istore (lv' := [(4, .int (nI (s_to S i q9))), (3, .int (nI (pf (s_off S) ((s_at S) i) (s_n S)))), (0, .ref (a 0)), (1, .ref (a (11 + i))), (2, .int (nI q9))]) C.1 C.2.1 dX2_errorsAfter_25 hl (by decide) rfl (fun ls hl => ?_)
  refine lv_iconst (v := 0) C.1 C.2.1 dX2_errorsAfter_27 (by decide) ?_
  refine lv_istore (lv' := [(5, .int 0), (4, .int (nI (s_to S i q9))), (3, .int (nI (pf (s_off S) ((s_at S) i) (s_n S)))), (0, .ref (a 0)), (1, .ref (a (11 + i))), (2, .int (nI q9))]) C.1 C.2.1 dX2_errorsAfter_28 hl (by decide) rfl (fun ls hl => ?_)
  refine lv_iconst (v := 0) C.1 C.2.1 dX2_errorsAfter_30 (by decide) ?_
  refine lv_istore (lv' := [(6, .int 0), (5, .int 0), (4, .int (nI (s_to S i q9))), (3, .int (nI (pf (s_off S) ((s_at S) i) (s_n S)))), (0, .ref (a 0)), (1, .ref (a (11 + i))), (2, .int (nI q9))]) C.1 C.2.1 dX2_errorsAfter_31 hl (by decide) rfl (fun ls hl => ?_)
  have lp24 : ∀ (f : Nat) (c9 : Nat) (e9 : Nat), (11 ≤ c9 + f) → (c9 ≤ 10) → (e9 = s_er S i (pf (s_off S) (s_at S i) (s_n S)) (s_to S i q9) c9) → ∀ (H : Heap) (locs : List Loc), gO E A s (xW E a S mk rk rv ++ F) H locs → ∀ ls : Array Slot, lv_has ls 9 [(0, .ref (a 0)), (1, .ref (a (11 + i))), (3, .int (nI (pf (s_off S) (s_at S i) (s_n S)))), (4, .int (nI (s_to S i q9))), (5, .int (nI e9)), (6, .int (nI c9))] → W p l e ({ frames := 2, cells := 0, slots := 0, locals := 46 } : Room) s m args below meth c H locs 0 0 (MQ below (gQi E A (nI (s_ea S i q9)) (xW E a S mk rk rv ++ F)) args s 0 0 A) (F0 m 33 ls []) := by
    intro f
    induction f with
    | zero =>
      intro c9 e9 hf hcc9 he9
      exact absurd hf (by omega)
    | succ f ih_lp24 =>
      intro c9 e9 hf hcc9 he9 H locs hO ls hl
      refine lv_iload C.1 C.2.1 dX2_errorsAfter_33 (lv_at hl 5 rfl) ?_
      refine lv_bipush (v := nI 10) C.1 C.2.1 dX2_errorsAfter_35 (by decide) ?_
      refine gGeN (x := c9) (y := 10) (tgt := 105) C.1 C.2.1 (by omega) (by omega) dX2_errorsAfter_37 (by decide) (fun c_1 => ?_) (fun c_1 => ?_)
      · have hc10 : c9 = 10 := by omega
        refine lv_iload C.1 C.2.1 dX2_errorsAfter_105 (lv_at hl 4 rfl) ?_
        exact gRi C hO rfl (by rw [he9, hc10]) dX2_errorsAfter_107 (Nat.le_of_ble_eq_true rfl) (Nat.le_of_ble_eq_true rfl)
      · refine lv_aload_n C.1 C.2.1 dX2_errorsAfter_40 rfl (lv_at hl 0 rfl) ?_
        refine gGet (v := .ref (a 1)) (ref := RX2) (Cn := RX2) (T := TX2) (N := 9) C iX2 hO 0 rfl rfl 0 (by decide) w10 (fun _ h9 => h9) rfl dX2_errorsAfter_41 ?_
        refine lv_iload C.1 C.2.1 dX2_errorsAfter_44 (lv_at hl 5 rfl) ?_
        refine lv_iload_n C.1 C.2.1 dX2_errorsAfter_46 rfl (lv_at hl 2 rfl) ?_
        refine lv_iload C.1 C.2.1 dX2_errorsAfter_47 (lv_at hl 3 rfl) ?_
        refine gCallN_i (As := [.int (nI c9), .int (nI (pf (s_off S) (s_at S i) (s_n S))), .int (nI (s_to S i q9))]) (rest := []) C hO (c_X0_latestPosition l E a S mk rk rv F (nI c9) (pf (s_off S) (s_at S i) (s_n S)) (s_to S i q9) (by omega) (by omega)) ⟨va_cnB (host := RX2) 3 C.2.2.2.2.1 gX2_errorsAfter_X0_latestPosition_n240 rfl rfl rfl (C.2.2.2.2.2.2.2.1.2.1 (.methodLinkNest RX2 240 yX0_latestPosition RX2) (by decide +kernel)) (C.2.2.2.2.1 (.initialized RX0) (by decide +kernel)) (by decide +kernel) ⟨(Nat.le_of_ble_eq_true rfl), (Nat.le_of_ble_eq_true rfl)⟩, C.2.2.2.2.1 (.instanceMethod yX0_latestPosition) (by decide +kernel), C.2.2.2.2.1 (.selects RX0 yX0_latestPosition yX0_latestPosition) (by decide +kernel)⟩ (va_recv C.2.2.2.2.2.2.2.1.1 hO.1 (ci := 0) (q0 := 1) rfl rfl) rfl hl.1 rfl (Nat.le_of_ble_eq_true rfl) dX2_errorsAfter_49 ⟨(Nat.le_of_ble_eq_true rfl), (Nat.le_of_ble_eq_true rfl)⟩ (fun H locs hO => ?_)
        refine lv_istore (lv' := [(7, .int (oI (lpO (s_key S) (nI c9) (pf (s_off S) (s_at S i) (s_n S)) (s_to S i q9)))), (0, .ref (a 0)), (1, .ref (a (11 + i))), (3, .int (nI (pf (s_off S) (s_at S i) (s_n S)))), (4, .int (nI (s_to S i q9))), (5, .int (nI e9)), (6, .int (nI c9))]) C.1 C.2.1 dX2_errorsAfter_52 hl (by decide) rfl (fun ls hl => ?_)
        refine lv_iload C.1 C.2.1 dX2_errorsAfter_54 (lv_at hl 0 rfl) ?_
        refine lv_iconst (v := (-1)) C.1 C.2.1 dX2_errorsAfter_56 (by decide) ?_
        have jn24 : ∀ (H : Heap) (locs : List Loc), gO E A s (xW E a S mk rk rv ++ F) H locs → ∀ ls : Array Slot, lv_has ls 9 [(0, .ref (a 0)), (1, .ref (a (11 + i))), (3, .int (nI (pf (s_off S) (s_at S i) (s_n S)))), (4, .int (nI (s_to S i q9))), (5, .int (nI e9)), (6, .int (nI c9))] → W p l e ({ frames := 2, cells := 0, slots := 0, locals := 46 } : Room) s m args below meth c H locs 0 0 (MQ below (gQi E A (nI (s_ea S i q9)) (xW E a S mk rk rv ++ F)) args s 0 0 A) (F0 m 80 ls [.int (s_kv S i (pf (s_off S) (s_at S i) (s_n S)) (s_to S i q9) c9)]) := by
          intro   H locs hO ls hl
          refine lv_istore (lv' := [(8, .int (s_kv S i (pf (s_off S) (s_at S i) (s_n S)) (s_to S i q9) c9)), (0, .ref (a 0)), (1, .ref (a (11 + i))), (3, .int (nI (pf (s_off S) (s_at S i) (s_n S)))), (4, .int (nI (s_to S i q9))), (5, .int (nI e9)), (6, .int (nI c9))]) C.1 C.2.1 dX2_errorsAfter_80 hl (by decide) rfl (fun ls hl => ?_)
          refine lv_iload C.1 C.2.1 dX2_errorsAfter_82 (lv_at hl 0 rfl) ?_
          refine lv_aload_n C.1 C.2.1 dX2_errorsAfter_84 rfl (lv_at hl 1 rfl) ?_
          refine gGet (v := .ref (a 1)) (ref := RX2) (Cn := RX2) (T := TX2) (N := 9) C iX2 hO 0 rfl rfl 0 (by decide) w10 (fun _ h9 => h9) rfl dX2_errorsAfter_85 ?_
          refine lv_iload C.1 C.2.1 dX2_errorsAfter_88 (lv_at hl 6 rfl) ?_
          refine gCallN_i (As := [.int (nI c9)]) (rest := [.int (s_kv S i (pf (s_off S) (s_at S i) (s_n S)) (s_to S i q9) c9)]) C hO (c_X0_latestValue l E a S mk rk rv F (nI c9) (by omega)) ⟨va_cnB (host := RX2) 1 C.2.2.2.2.1 gX2_errorsAfter_X0_latestValue_n152 rfl rfl rfl (C.2.2.2.2.2.2.2.1.2.1 (.methodLinkNest RX2 152 yX0_latestValue RX2) (by decide +kernel)) (C.2.2.2.2.1 (.initialized RX0) (by decide +kernel)) (by decide +kernel) ⟨(Nat.le_of_ble_eq_true rfl), (Nat.le_of_ble_eq_true rfl)⟩, C.2.2.2.2.1 (.instanceMethod yX0_latestValue) (by decide +kernel), C.2.2.2.2.1 (.selects RX0 yX0_latestValue yX0_latestValue) (by decide +kernel)⟩ (va_recv C.2.2.2.2.2.2.2.1.1 hO.1 (ci := 0) (q0 := 1) rfl rfl) rfl hl.1 rfl (Nat.le_of_ble_eq_true rfl) dX2_errorsAfter_90 ⟨(Nat.le_of_ble_eq_true rfl), (Nat.le_of_ble_eq_true rfl)⟩ (fun H locs hO => ?_)
          refine lv_icmp_eq (tgt := 99) C.1 C.2.1 dX2_errorsAfter_93 (by decide) (fun c_2 => ?_) (fun c_2 => ?_)
          · have hz9 : s_kv S i (pf (s_off S) (s_at S i) (s_n S)) (s_to S i q9) c9 = s_wv S (nI c9) := c_2
            refine gInc (j := c9) (k := 6) (lv' := [(6, .int (nI (c9 + 1))), (8, .int (s_kv S i (pf (s_off S) (s_at S i) (s_n S)) (s_to S i q9) c9)), (0, .ref (a 0)), (1, .ref (a (11 + i))), (3, .int (nI (pf (s_off S) (s_at S i) (s_n S)))), (4, .int (nI (s_to S i q9))), (5, .int (nI e9))]) C.1 C.2.1 dX2_errorsAfter_99 hl rfl (by decide) rfl (fun ls hl => ?_)
            refine lv_goto (tgt := 33) C.1 C.2.1 dX2_errorsAfter_102 (by decide) ?_
            refine W.widen (k := 0) (n := 0) (by omega) (by omega) ?_
            exact ih_lp24 (c9 + 1) e9 (by omega) (by omega) (by first | exact by rw [he9, s_er_0 hz9] | exact by rw [he9, s_er_1 hz9]) _ _ hO _ (lv_sub hl [2, 3, 4, 5, 6, 0] rfl)
          · have hz9 : ¬ s_kv S i (pf (s_off S) (s_at S i) (s_n S)) (s_to S i q9) c9 = s_wv S (nI c9) := c_2
            refine gInc (j := e9) (k := 5) (lv' := [(5, .int (nI (e9 + 1))), (8, .int (s_kv S i (pf (s_off S) (s_at S i) (s_n S)) (s_to S i q9) c9)), (0, .ref (a 0)), (1, .ref (a (11 + i))), (3, .int (nI (pf (s_off S) (s_at S i) (s_n S)))), (4, .int (nI (s_to S i q9))), (6, .int (nI c9))]) C.1 C.2.1 dX2_errorsAfter_96 hl rfl (by decide) rfl (fun ls hl => ?_)
            refine gInc (j := c9) (k := 6) (lv' := [(6, .int (nI (c9 + 1))), (5, .int (nI (e9 + 1))), (8, .int (s_kv S i (pf (s_off S) (s_at S i) (s_n S)) (s_to S i q9) c9)), (0, .ref (a 0)), (1, .ref (a (11 + i))), (3, .int (nI (pf (s_off S) (s_at S i) (s_n S)))), (4, .int (nI (s_to S i q9)))]) C.1 C.2.1 dX2_errorsAfter_99 hl rfl (by decide) rfl (fun ls hl => ?_)
            refine lv_goto (tgt := 33) C.1 C.2.1 dX2_errorsAfter_102 (by decide) ?_
            refine W.widen (k := 0) (n := 0) (by omega) (by omega) ?_
            exact ih_lp24 (c9 + 1) (e9 + 1) (by omega) (by omega) (by first | exact by rw [he9, s_er_0 hz9] | exact by rw [he9, s_er_1 hz9]) _ _ hO _ (lv_sub hl [3, 4, 5, 6, 1, 0] rfl)
        refine lv_icmp_ne (tgt := 70) C.1 C.2.1 dX2_errorsAfter_57 (by decide) (fun c_3 => ?_) (fun c_3 => ?_)
        · obtain ⟨i24, hzz9, hi1, hi2, hi3⟩ := lpO_nm1 c_3
          refine lv_aload_n C.1 C.2.1 dX2_errorsAfter_70 rfl (lv_at hl 1 rfl) ?_
          refine gGet (v := .ref (a 1)) (ref := RX2) (Cn := RX2) (T := TX2) (N := 9) C iX2 hO 0 rfl rfl 0 (by decide) w10 (fun _ h9 => h9) rfl dX2_errorsAfter_71 ?_
          refine gGetN (v := .ref (a 4)) (ref := RX0) (Cn := RX0) (T := TX0) (N := 8) (host := RX2) C iX0 hO 1 rfl rfl 2 (by decide) (by decide +kernel) (fun _ h9 => h9) rfl dX2_errorsAfter_74 ?_
          refine lv_iload C.1 C.2.1 dX2_errorsAfter_77 (lv_at hl 0 rfl) ?_
          refine lv_eqi (y := nI i24) (by rw [hzz9]; rfl) ?_
          refine gIald (v := s_kv S i (pf (s_off S) (s_at S i) (s_n S)) (s_to S i q9) c9) (j := i24) C hO 4 rfl (by omega) (by decide) (by unfold s_kv; rw [hzz9]) dX2_errorsAfter_79 ?_
          refine W.widen (k := 0) (n := 0) (by omega) (by omega) ?_
          exact jn24   _ _ hO _ (lv_sub hl [1, 2, 3, 4, 5, 6] rfl)
        · have hzz9 : lpO (s_key S) (nI c9) (pf (s_off S) (s_at S i) (s_n S)) (s_to S i q9) = none := lpO_m1 (by omega) c_3
          refine lv_aload_n C.1 C.2.1 dX2_errorsAfter_60 rfl (lv_at hl 2 rfl) ?_
          refine gGetN (v := .ref (a (17 + i))) (ref := RX1) (Cn := RX1) (T := TX1) (N := 5) (host := RX2) C iX1 hO (11 + i) (xw_ship hi) rfl 0 (by decide) (by decide +kernel) (fun _ h9 => h9) rfl dX2_errorsAfter_61 ?_
          refine lv_iload C.1 C.2.1 dX2_errorsAfter_64 (lv_at hl 6 rfl) ?_
          refine gIald (v := ((s_kn S) i) c9) (j := c9) C hO (17 + i) (xw_kn hi) (by omega) (by decide) rfl dX2_errorsAfter_66 ?_
          refine lv_eqi (y := s_kv S i (pf (s_off S) (s_at S i) (s_n S)) (s_to S i q9) c9) (by unfold s_kv; rw [hzz9]) ?_
          refine lv_goto (tgt := 80) C.1 C.2.1 dX2_errorsAfter_67 (by decide) ?_
          refine W.widen (k := 0) (n := 0) (by omega) (by omega) ?_
          exact jn24   _ _ hO _ (lv_sub hl [1, 2, 3, 4, 5, 6] rfl)
  refine W.widen (k := 0) (n := 0) (by omega) (by omega) ?_
  exact lp24 11 0 0 (by omega) (by omega) rfl _ _ hO _ (lv_sub hl [4, 5, 3, 2, 1, 0] rfl)
