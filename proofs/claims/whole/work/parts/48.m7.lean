set_option maxHeartbeats 4000000 in
set_option maxRecDepth 100000 in
theorem c_X3_digest (l : Launch) (E : gE) (b : Nat → Nat) (S : St) (th : Int32) (mk : Nat → Int32) (F : va_W)  (hI : s_inv S) (hsr : s_srt S) : gMl l E yX3_digest wsX3_digest ({ frames := 3, cells := 20, slots := 182, locals := 69 }) (mW E b S th mk ++ F) [.ref (b 0)] (s_dg S) (mW E b S 0 (mkU (s_cm S) mk (s_n S)) ++ F) 20 182 := by
  refine gMl.of (cc := cX3_digest) (maxL := 10) (by decide) rfl (Nat.le_of_ble_eq_true rfl) ?_
  intro p e s m args below meth c A C ls hl hO
  have hl : lv_has ls 10 [(0, .ref (b 0))] := hl
  have iX3 : ∀ w ∈ u_ws RX3 TX3 19, w ∈ wsX3_digest := by decide +kernel
  have w44 : Cond.fieldLink RX3 44 "ParrotLogModel" "thrown" "I" ∈ wsX3_digest := by decide +kernel
  have w105 : Cond.fieldLink RX3 105 "ParrotLogModel" "hours" "I" ∈ wsX3_digest := by decide +kernel
  have w58 : Cond.fieldLink RX3 58 "ParrotLogModel" "many" "I" ∈ wsX3_digest := by decide +kernel
  have w68 : Cond.fieldLink RX3 68 "ParrotLogModel" "next" "I" ∈ wsX3_digest := by decide +kernel
  have w61 : Cond.fieldLink RX3 61 "ParrotLogModel" "dropped" "I" ∈ wsX3_digest := by decide +kernel
  have w55 : Cond.fieldLink RX3 55 "ParrotLogModel" "storms" "I" ∈ wsX3_digest := by decide +kernel
  have w71 : Cond.fieldLink RX3 71 "ParrotLogModel" "isOn" "Z" ∈ wsX3_digest := by decide +kernel
  have w48 : Cond.fieldLink RX3 48 "ParrotLogModel" "ships" "I" ∈ wsX3_digest := by decide +kernel
  have w32 : Cond.fieldLink RX3 32 "ParrotLogModel" "at" "[I" ∈ wsX3_digest := by decide +kernel
  have w35 : Cond.fieldLink RX3 35 "ParrotLogModel" "heard" "[I" ∈ wsX3_digest := by decide +kernel
  have w38 : Cond.fieldLink RX3 38 "ParrotLogModel" "missed" "[I" ∈ wsX3_digest := by decide +kernel
  have w26 : Cond.fieldLink RX3 26 "ParrotLogModel" "said" "[I" ∈ wsX3_digest := by decide +kernel
  obtain ⟨hn, hsh, hsc, hOn, hOb, hok9, hpc9, hp0⟩ := hI
  refine lv_aload_n C.1 C.2.1 dX3_digest_0 rfl (lv_at hl 0 rfl) ?_
  refine lv_iconst (v := 0) C.1 C.2.1 dX3_digest_1 (by decide) ?_
  refine gPut (ws' := (mW E b S 0 mk ++ F)) (ref := RX3) (Cn := RX3) (T := TX3) (N := 19) C iX3 tyX3 tyX3_ok nmX3 hO 0 rfl rfl 0 (by decide) w44 (fun _ h9 => h9) rfl (by decide +kernel) rfl rfl (Nat.le_of_ble_eq_true rfl) rfl dX3_digest_2 (fun H locs hO => ?_)
  refine lv_bipush (v := nI 10) C.1 C.2.1 dX3_digest_5 (by decide) ?_
  refine gNewI (N9 := 10) C (C.2.2.2.2.1 (.arrayClass .int) (by decide +kernel)) hO (by decide) (Nat.le_of_ble_eq_true rfl) (Nat.le_of_ble_eq_true rfl) dX3_digest_7 (fun q_all H hO => ?_)
  refine lv_dup C.1 C.2.1 dX3_digest_9 rfl ?_
  refine lv_iconst (v := 0) C.1 C.2.1 dX3_digest_10 (by decide) ?_
  refine lv_aload_n C.1 C.2.1 dX3_digest_11 rfl (lv_at hl 0 rfl) ?_
  refine gGet (v := .int (s_hr S)) (ref := RX3) (Cn := RX3) (T := TX3) (N := 19) C iX3 hO 0 rfl rfl 9 (by decide) w105 (fun _ h9 => h9) rfl dX3_digest_12 ?_
  refine gIast (j := 0) (ws' := (mW E b S 0 mk ++ ((q_all, .inl (eI E, 10, .inl (upd (fun _ => 0) 0 (s_hr S)))) :: F))) C hO 12 rfl (by omega) (by decide) rfl dX3_digest_15 (fun H locs hO => ?_)
  refine lv_dup C.1 C.2.1 dX3_digest_16 rfl ?_
  refine lv_iconst (v := 1) C.1 C.2.1 dX3_digest_17 (by decide) ?_
  refine lv_aload_n C.1 C.2.1 dX3_digest_18 rfl (lv_at hl 0 rfl) ?_
  refine gGet (v := .int (nI (s_n S))) (ref := RX3) (Cn := RX3) (T := TX3) (N := 19) C iX3 hO 0 rfl rfl 1 (by decide) w58 (fun _ h9 => h9) rfl dX3_digest_19 ?_
  refine gIast (j := 1) (ws' := (mW E b S 0 mk ++ ((q_all, .inl (eI E, 10, .inl (upd (upd (fun _ => 0) 0 (s_hr S)) 1 (nI (s_n S))))) :: F))) C hO 12 rfl (by omega) (by decide) rfl dX3_digest_22 (fun H locs hO => ?_)
  refine lv_dup C.1 C.2.1 dX3_digest_23 rfl ?_
  refine lv_iconst (v := nI 2) C.1 C.2.1 dX3_digest_24 (by decide) ?_
  refine lv_aload_n C.1 C.2.1 dX3_digest_25 rfl (lv_at hl 0 rfl) ?_
  refine gGet (v := .int (s_nx S)) (ref := RX3) (Cn := RX3) (T := TX3) (N := 19) C iX3 hO 0 rfl rfl 7 (by decide) w68 (fun _ h9 => h9) rfl dX3_digest_26 ?_
  refine gIast (j := 2) (ws' := (mW E b S 0 mk ++ ((q_all, .inl (eI E, 10, .inl (upd (upd (upd (fun _ => 0) 0 (s_hr S)) 1 (nI (s_n S))) 2 (s_nx S)))) :: F))) C hO 12 rfl (by omega) (by decide) rfl dX3_digest_29 (fun H locs hO => ?_)
  refine lv_dup C.1 C.2.1 dX3_digest_30 rfl ?_
  refine lv_iconst (v := nI 3) C.1 C.2.1 dX3_digest_31 (by decide) ?_
  refine lv_aload_n C.1 C.2.1 dX3_digest_32 rfl (lv_at hl 0 rfl) ?_
  refine gCall_i (As := []) (rest := [.int (nI 3), .ref q_all, .ref q_all]) C hO (c_X3_first l E b S 0 mk ((q_all, .inl (eI E, 10, .inl (upd (upd (upd (fun _ => 0) 0 (s_hr S)) 1 (nI (s_n S))) 2 (s_nx S)))) :: F) (by omega)) (cwV 0 C.2.2.2.2.1 gX3_digest_X3_first rfl rfl rfl (by decide +kernel) ⟨(Nat.le_of_ble_eq_true rfl), (Nat.le_of_ble_eq_true rfl)⟩) (va_recv C.2.2.2.2.2.2.2.1.1 hO.1 (ci := 3) (q0 := 0) rfl rfl) rfl hl.1 rfl (Nat.le_of_ble_eq_true rfl) dX3_digest_33 ⟨(Nat.le_of_ble_eq_true rfl), (Nat.le_of_ble_eq_true rfl)⟩ (fun H locs hO => ?_)
  refine gIast (j := 3) (ws' := (mW E b S 0 mk ++ ((q_all, .inl (eI E, 10, .inl (upd (upd (upd (upd (fun _ => 0) 0 (s_hr S)) 1 (nI (s_n S))) 2 (s_nx S)) 3 (s_first S)))) :: F))) C hO 12 rfl (by omega) (by decide) rfl dX3_digest_36 (fun H locs hO => ?_)
  refine lv_dup C.1 C.2.1 dX3_digest_37 rfl ?_
  refine lv_iconst (v := nI 4) C.1 C.2.1 dX3_digest_38 (by decide) ?_
  refine lv_aload_n C.1 C.2.1 dX3_digest_39 rfl (lv_at hl 0 rfl) ?_
  refine gGet (v := .int (s_dr S)) (ref := RX3) (Cn := RX3) (T := TX3) (N := 19) C iX3 hO 0 rfl rfl 8 (by decide) w61 (fun _ h9 => h9) rfl dX3_digest_40 ?_
  refine gIast (j := 4) (ws' := (mW E b S 0 mk ++ ((q_all, .inl (eI E, 10, .inl (upd (upd (upd (upd (upd (fun _ => 0) 0 (s_hr S)) 1 (nI (s_n S))) 2 (s_nx S)) 3 (s_first S)) 4 (s_dr S)))) :: F))) C hO 12 rfl (by omega) (by decide) rfl dX3_digest_43 (fun H locs hO => ?_)
  refine lv_dup C.1 C.2.1 dX3_digest_44 rfl ?_
  refine lv_iconst (v := nI 5) C.1 C.2.1 dX3_digest_45 (by decide) ?_
  refine lv_aload_n C.1 C.2.1 dX3_digest_46 rfl (lv_at hl 0 rfl) ?_
  refine gGet (v := .int (nI (s_sc S))) (ref := RX3) (Cn := RX3) (T := TX3) (N := 19) C iX3 hO 0 rfl rfl 10 (by decide) w55 (fun _ h9 => h9) rfl dX3_digest_47 ?_
  refine gIast (j := 5) (ws' := (mW E b S 0 mk ++ ((q_all, .inl (eI E, 10, .inl (upd (upd (upd (upd (upd (upd (fun _ => 0) 0 (s_hr S)) 1 (nI (s_n S))) 2 (s_nx S)) 3 (s_first S)) 4 (s_dr S)) 5 (nI (s_sc S))))) :: F))) C hO 12 rfl (by omega) (by decide) rfl dX3_digest_50 (fun H locs hO => ?_)
  refine lv_dup C.1 C.2.1 dX3_digest_51 rfl ?_
  refine lv_bipush (v := nI 6) C.1 C.2.1 dX3_digest_52 (by decide) ?_
  refine lv_aload_n C.1 C.2.1 dX3_digest_54 rfl (lv_at hl 0 rfl) ?_
  refine gGet (v := .int (s_on S)) (ref := RX3) (Cn := RX3) (T := TX3) (N := 19) C iX3 hO 0 rfl rfl 11 (by decide) w71 (fun _ h9 => h9) rfl dX3_digest_55 ?_
  refine lv_if_eq (tgt := 65) C.1 C.2.1 dX3_digest_58 (by decide) (fun c_2 => ?_) (fun c_2 => ?_)
  · have hz9 : s_on S = 0 := c_2
    refine lv_iconst (v := 0) C.1 C.2.1 dX3_digest_65 (by decide) ?_
    refine lv_eqi (y := if s_on S = 0 then 0 else 1) (by first | exact (if_pos hz9).symm | exact (if_neg hz9).symm) ?_
    refine gIast (j := 6) (ws' := (mW E b S 0 mk ++ ((q_all, .inl (eI E, 10, .inl (upd (upd (upd (upd (upd (upd (upd (fun _ => 0) 0 (s_hr S)) 1 (nI (s_n S))) 2 (s_nx S)) 3 (s_first S)) 4 (s_dr S)) 5 (nI (s_sc S))) 6 (if s_on S = 0 then 0 else 1)))) :: F))) C hO 12 rfl (by omega) (by decide) rfl dX3_digest_66 (fun H locs hO => ?_)
    refine lv_dup C.1 C.2.1 dX3_digest_67 rfl ?_
    refine lv_bipush (v := nI 7) C.1 C.2.1 dX3_digest_68 (by decide) ?_
    refine lv_aload_n C.1 C.2.1 dX3_digest_70 rfl (lv_at hl 0 rfl) ?_
    refine gGet (v := .int (nI (s_sh S))) (ref := RX3) (Cn := RX3) (T := TX3) (N := 19) C iX3 hO 0 rfl rfl 13 (by decide) w48 (fun _ h9 => h9) rfl dX3_digest_71 ?_
    refine gIast (j := 7) (ws' := (mW E b S 0 mk ++ ((q_all, .inl (eI E, 10, .inl (upd (upd (upd (upd (upd (upd (upd (upd (fun _ => 0) 0 (s_hr S)) 1 (nI (s_n S))) 2 (s_nx S)) 3 (s_first S)) 4 (s_dr S)) 5 (nI (s_sc S))) 6 (if s_on S = 0 then 0 else 1)) 7 (nI (s_sh S))))) :: F))) C hO 12 rfl (by omega) (by decide) rfl dX3_digest_74 (fun H locs hO => ?_)
    refine lv_dup C.1 C.2.1 dX3_digest_75 rfl ?_
    refine lv_bipush (v := nI 8) C.1 C.2.1 dX3_digest_76 (by decide) ?_
    refine lv_aload_n C.1 C.2.1 dX3_digest_78 rfl (lv_at hl 0 rfl) ?_
    refine gCall_i (As := []) (rest := [.int (nI 8), .ref q_all, .ref q_all]) C hO (c_X3_behind l E b S 0 mk ((q_all, .inl (eI E, 10, .inl (upd (upd (upd (upd (upd (upd (upd (upd (fun _ => 0) 0 (s_hr S)) 1 (nI (s_n S))) 2 (s_nx S)) 3 (s_first S)) 4 (s_dr S)) 5 (nI (s_sc S))) 6 (if s_on S = 0 then 0 else 1)) 7 (nI (s_sh S))))) :: F) (by omega) (by omega)) (cwV 0 C.2.2.2.2.1 gX3_digest_X3_behind rfl rfl rfl (by decide +kernel) ⟨(Nat.le_of_ble_eq_true rfl), (Nat.le_of_ble_eq_true rfl)⟩) (va_recv C.2.2.2.2.2.2.2.1.1 hO.1 (ci := 3) (q0 := 0) rfl rfl) rfl hl.1 rfl (Nat.le_of_ble_eq_true rfl) dX3_digest_79 ⟨(Nat.le_of_ble_eq_true rfl), (Nat.le_of_ble_eq_true rfl)⟩ (fun H locs hO => ?_)
    refine gIast (j := 8) (ws' := (mW E b S 0 mk ++ ((q_all, .inl (eI E, 10, .inl (upd (upd (upd (upd (upd (upd (upd (upd (upd (fun _ => 0) 0 (s_hr S)) 1 (nI (s_n S))) 2 (s_nx S)) 3 (s_first S)) 4 (s_dr S)) 5 (nI (s_sc S))) 6 (if s_on S = 0 then 0 else 1)) 7 (nI (s_sh S))) 8 (oI (s_fb S (s_sh S)))))) :: F))) C hO 12 rfl (by omega) (by decide) rfl dX3_digest_82 (fun H locs hO => ?_)
    refine lv_dup C.1 C.2.1 dX3_digest_83 rfl ?_
    refine lv_bipush (v := nI 9) C.1 C.2.1 dX3_digest_84 (by decide) ?_
    refine lv_aload_n C.1 C.2.1 dX3_digest_86 rfl (lv_at hl 0 rfl) ?_
    refine gCall_i (As := []) (rest := [.int (nI 9), .ref q_all, .ref q_all]) C hO (c_X3_mark l E b S 0 mk ((q_all, .inl (eI E, 10, .inl (upd (upd (upd (upd (upd (upd (upd (upd (upd (fun _ => 0) 0 (s_hr S)) 1 (nI (s_n S))) 2 (s_nx S)) 3 (s_first S)) 4 (s_dr S)) 5 (nI (s_sc S))) 6 (if s_on S = 0 then 0 else 1)) 7 (nI (s_sh S))) 8 (oI (s_fb S (s_sh S)))))) :: F) (by omega) (by omega) hok9) (cwV 0 C.2.2.2.2.1 gX3_digest_X3_mark rfl rfl rfl (by decide +kernel) ⟨(Nat.le_of_ble_eq_true rfl), (Nat.le_of_ble_eq_true rfl)⟩) (va_recv C.2.2.2.2.2.2.2.1.1 hO.1 (ci := 3) (q0 := 0) rfl rfl) rfl hl.1 rfl (Nat.le_of_ble_eq_true rfl) dX3_digest_87 ⟨(Nat.le_of_ble_eq_true rfl), (Nat.le_of_ble_eq_true rfl)⟩ (fun H locs hO => ?_)
    have hO : gO E A s (mW E b S 0 (mkU (s_cm S) mk (s_n S)) ++ ((q_all, .inl (eI E, 10, .inl (upd (upd (upd (upd (upd (upd (upd (upd (upd (fun _ => 0) 0 (s_hr S)) 1 (nI (s_n S))) 2 (s_nx S)) 3 (s_first S)) 4 (s_dr S)) 5 (nI (s_sc S))) 6 (if s_on S = 0 then 0 else 1)) 7 (nI (s_sh S))) 8 (oI (s_fb S (s_sh S)))))) :: F)) H locs := hO
    refine gIast (j := 9) (ws' := (mW E b S 0 (mkU (s_cm S) mk (s_n S)) ++ ((q_all, .inl (eI E, 10, .inl (upd (upd (upd (upd (upd (upd (upd (upd (upd (upd (fun _ => 0) 0 (s_hr S)) 1 (nI (s_n S))) 2 (s_nx S)) 3 (s_first S)) 4 (s_dr S)) 5 (nI (s_sc S))) 6 (if s_on S = 0 then 0 else 1)) 7 (nI (s_sh S))) 8 (oI (s_fb S (s_sh S)))) 9 (nI (cm (s_cm S) 0 (s_n S)))))) :: F))) C hO 12 rfl (by omega) (by decide) rfl dX3_digest_90 (fun H locs hO => ?_)
    refine lv_astore_n (lv' := [(1, .ref q_all), (0, .ref (b 0))]) C.1 C.2.1 dX3_digest_91 rfl hl (by decide) rfl (fun ls hl => ?_)
    refine lv_ldc2 (v := 1787) C.1 C.2.1 C.2.2.2.1 (C.2.2.2.2.1 (.constantLong RX3 157 (1787)) (by decide +kernel)) dX3_digest_92 ?_
    refine lv_lstore_n (lv' := [(2, .long 1787), (1, .ref q_all), (0, .ref (b 0))]) C.1 C.2.1 dX3_digest_95 rfl hl (by decide) rfl (fun ls hl => ?_)
    refine lv_aload_n C.1 C.2.1 dX3_digest_96 rfl (lv_at hl 1 rfl) ?_
    refine lv_astore (lv' := [(4, .ref q_all), (2, .long 1787), (1, .ref q_all), (0, .ref (b 0))]) C.1 C.2.1 dX3_digest_97 hl (by decide) rfl (fun ls hl => ?_)
    refine lv_aload C.1 C.2.1 dX3_digest_99 (lv_at hl 0 rfl) ?_
    refine va_alen (v := nI 10) C.1 C.2.1 C.2.2.2.2.2.2.2.1.1 hO.1 12 0 rfl rfl rfl dX3_digest_101 ?_
    refine lv_istore (lv' := [(5, .int (nI 10)), (4, .ref q_all), (2, .long 1787), (1, .ref q_all), (0, .ref (b 0))]) C.1 C.2.1 dX3_digest_102 hl (by decide) rfl (fun ls hl => ?_)
    refine lv_iconst (v := 0) C.1 C.2.1 dX3_digest_104 (by decide) ?_
    refine lv_istore (lv' := [(6, .int 0), (5, .int (nI 10)), (4, .ref q_all), (2, .long 1787), (1, .ref q_all), (0, .ref (b 0))]) C.1 C.2.1 dX3_digest_105 hl (by decide) rfl (fun ls hl => ?_)
    refine lv_iload C.1 C.2.1 dX3_digest_107 (lv_at hl 0 rfl) ?_
    refine lv_iload C.1 C.2.1 dX3_digest_109 (lv_at hl 1 rfl) ?_
    refine gGeN (x := 0) (y := 10) (tgt := 137) C.1 C.2.1 (by omega) (by omega) dX3_digest_111 (by decide) (fun c_3 => ?_) (fun c_3 => ?_)
    · exact absurd c_3 (by omega)
    · refine lv_aload C.1 C.2.1 dX3_digest_114 (lv_at hl 2 rfl) ?_
      refine lv_iload C.1 C.2.1 dX3_digest_116 (lv_at hl 0 rfl) ?_
      refine gIald (v := (s_hr S)) (j := 0) C hO 12 rfl (by omega) (by decide) rfl dX3_digest_118 ?_
      refine lv_istore (lv' := [(7, .int (s_hr S)), (6, .int 0), (5, .int (nI 10)), (4, .ref q_all), (2, .long 1787), (1, .ref q_all), (0, .ref (b 0))]) C.1 C.2.1 dX3_digest_119 hl (by decide) rfl (fun ls hl => ?_)
      refine lv_lload_n C.1 C.2.1 dX3_digest_121 rfl (lv_at hl 4 rfl) ?_
      refine lv_ldc2 (v := 31) C.1 C.2.1 C.2.2.2.1 (C.2.2.2.2.1 (.constantLong RX3 159 (31)) (by decide +kernel)) dX3_digest_122 ?_
      refine lv_lmul C.1 C.2.1 dX3_digest_125 ?_
      refine lv_iload C.1 C.2.1 dX3_digest_126 (lv_at hl 0 rfl) ?_
      refine lv_i2l C.1 C.2.1 dX3_digest_128 rfl ?_
      refine lv_ladd C.1 C.2.1 dX3_digest_129 ?_
      refine lv_lstore_n (lv' := [(2, .long ((1787 * 31) + (Int32.toInt64 (s_hr S)))), (7, .int (s_hr S)), (6, .int 0), (5, .int (nI 10)), (4, .ref q_all), (1, .ref q_all), (0, .ref (b 0))]) C.1 C.2.1 dX3_digest_130 rfl hl (by decide) rfl (fun ls hl => ?_)
      refine gInc (j := 0) (k := 2) (lv' := [(6, .int (nI 1)), (2, .long ((1787 * 31) + (Int32.toInt64 (s_hr S)))), (7, .int (s_hr S)), (5, .int (nI 10)), (4, .ref q_all), (1, .ref q_all), (0, .ref (b 0))]) C.1 C.2.1 dX3_digest_131 hl rfl (by decide) rfl (fun ls hl => ?_)
      refine lv_goto (tgt := 107) C.1 C.2.1 dX3_digest_134 (by decide) ?_
      refine lv_iload C.1 C.2.1 dX3_digest_107 (lv_at hl 0 rfl) ?_
      refine lv_iload C.1 C.2.1 dX3_digest_109 (lv_at hl 3 rfl) ?_
      refine gGeN (x := 1) (y := 10) (tgt := 137) C.1 C.2.1 (by omega) (by omega) dX3_digest_111 (by decide) (fun c_4 => ?_) (fun c_4 => ?_)
      · exact absurd c_4 (by omega)
      · refine lv_aload C.1 C.2.1 dX3_digest_114 (lv_at hl 4 rfl) ?_
        refine lv_iload C.1 C.2.1 dX3_digest_116 (lv_at hl 0 rfl) ?_
        refine gIald (v := nI (s_n S)) (j := 1) C hO 12 rfl (by omega) (by decide) rfl dX3_digest_118 ?_
        refine lv_istore (lv' := [(7, .int (nI (s_n S))), (6, .int (nI 1)), (2, .long ((1787 * 31) + (Int32.toInt64 (s_hr S)))), (5, .int (nI 10)), (4, .ref q_all), (1, .ref q_all), (0, .ref (b 0))]) C.1 C.2.1 dX3_digest_119 hl (by decide) rfl (fun ls hl => ?_)
        refine lv_lload_n C.1 C.2.1 dX3_digest_121 rfl (lv_at hl 2 rfl) ?_
        refine lv_ldc2 (v := 31) C.1 C.2.1 C.2.2.2.1 (C.2.2.2.2.1 (.constantLong RX3 159 (31)) (by decide +kernel)) dX3_digest_122 ?_
        refine lv_lmul C.1 C.2.1 dX3_digest_125 ?_
        refine lv_iload C.1 C.2.1 dX3_digest_126 (lv_at hl 0 rfl) ?_
        refine lv_i2l C.1 C.2.1 dX3_digest_128 rfl ?_
        refine lv_ladd C.1 C.2.1 dX3_digest_129 ?_
        refine lv_lstore_n (lv' := [(2, .long ((((1787 * 31) + (Int32.toInt64 (s_hr S))) * 31) + (Int32.toInt64 (nI (s_n S))))), (7, .int (nI (s_n S))), (6, .int (nI 1)), (5, .int (nI 10)), (4, .ref q_all), (1, .ref q_all), (0, .ref (b 0))]) C.1 C.2.1 dX3_digest_130 rfl hl (by decide) rfl (fun ls hl => ?_)
        refine gInc (j := 1) (k := 2) (lv' := [(6, .int (nI 2)), (2, .long ((((1787 * 31) + (Int32.toInt64 (s_hr S))) * 31) + (Int32.toInt64 (nI (s_n S))))), (7, .int (nI (s_n S))), (5, .int (nI 10)), (4, .ref q_all), (1, .ref q_all), (0, .ref (b 0))]) C.1 C.2.1 dX3_digest_131 hl rfl (by decide) rfl (fun ls hl => ?_)
        refine lv_goto (tgt := 107) C.1 C.2.1 dX3_digest_134 (by decide) ?_
        refine lv_iload C.1 C.2.1 dX3_digest_107 (lv_at hl 0 rfl) ?_
        refine lv_iload C.1 C.2.1 dX3_digest_109 (lv_at hl 3 rfl) ?_
        refine gGeN (x := 2) (y := 10) (tgt := 137) C.1 C.2.1 (by omega) (by omega) dX3_digest_111 (by decide) (fun c_5 => ?_) (fun c_5 => ?_)
        · exact absurd c_5 (by omega)
        · refine lv_aload C.1 C.2.1 dX3_digest_114 (lv_at hl 4 rfl) ?_
          refine lv_iload C.1 C.2.1 dX3_digest_116 (lv_at hl 0 rfl) ?_
          refine gIald (v := (s_nx S)) (j := 2) C hO 12 rfl (by omega) (by decide) rfl dX3_digest_118 ?_
          refine lv_istore (lv' := [(7, .int (s_nx S)), (6, .int (nI 2)), (2, .long ((((1787 * 31) + (Int32.toInt64 (s_hr S))) * 31) + (Int32.toInt64 (nI (s_n S))))), (5, .int (nI 10)), (4, .ref q_all), (1, .ref q_all), (0, .ref (b 0))]) C.1 C.2.1 dX3_digest_119 hl (by decide) rfl (fun ls hl => ?_)
          refine lv_lload_n C.1 C.2.1 dX3_digest_121 rfl (lv_at hl 2 rfl) ?_
          refine lv_ldc2 (v := 31) C.1 C.2.1 C.2.2.2.1 (C.2.2.2.2.1 (.constantLong RX3 159 (31)) (by decide +kernel)) dX3_digest_122 ?_
          refine lv_lmul C.1 C.2.1 dX3_digest_125 ?_
          refine lv_iload C.1 C.2.1 dX3_digest_126 (lv_at hl 0 rfl) ?_
          refine lv_i2l C.1 C.2.1 dX3_digest_128 rfl ?_
          refine lv_ladd C.1 C.2.1 dX3_digest_129 ?_
          refine lv_lstore_n (lv' := [(2, .long ((((((1787 * 31) + (Int32.toInt64 (s_hr S))) * 31) + (Int32.toInt64 (nI (s_n S)))) * 31) + (Int32.toInt64 (s_nx S)))), (7, .int (s_nx S)), (6, .int (nI 2)), (5, .int (nI 10)), (4, .ref q_all), (1, .ref q_all), (0, .ref (b 0))]) C.1 C.2.1 dX3_digest_130 rfl hl (by decide) rfl (fun ls hl => ?_)
          refine gInc (j := 2) (k := 2) (lv' := [(6, .int (nI 3)), (2, .long ((((((1787 * 31) + (Int32.toInt64 (s_hr S))) * 31) + (Int32.toInt64 (nI (s_n S)))) * 31) + (Int32.toInt64 (s_nx S)))), (7, .int (s_nx S)), (5, .int (nI 10)), (4, .ref q_all), (1, .ref q_all), (0, .ref (b 0))]) C.1 C.2.1 dX3_digest_131 hl rfl (by decide) rfl (fun ls hl => ?_)
          refine lv_goto (tgt := 107) C.1 C.2.1 dX3_digest_134 (by decide) ?_
          refine lv_iload C.1 C.2.1 dX3_digest_107 (lv_at hl 0 rfl) ?_
          refine lv_iload C.1 C.2.1 dX3_digest_109 (lv_at hl 3 rfl) ?_
          refine gGeN (x := 3) (y := 10) (tgt := 137) C.1 C.2.1 (by omega) (by omega) dX3_digest_111 (by decide) (fun c_6 => ?_) (fun c_6 => ?_)
          · exact absurd c_6 (by omega)
          · refine lv_aload C.1 C.2.1 dX3_digest_114 (lv_at hl 4 rfl) ?_
            refine lv_iload C.1 C.2.1 dX3_digest_116 (lv_at hl 0 rfl) ?_
            refine gIald (v := s_first S) (j := 3) C hO 12 rfl (by omega) (by decide) rfl dX3_digest_118 ?_
            refine lv_istore (lv' := [(7, .int (s_first S)), (6, .int (nI 3)), (2, .long ((((((1787 * 31) + (Int32.toInt64 (s_hr S))) * 31) + (Int32.toInt64 (nI (s_n S)))) * 31) + (Int32.toInt64 (s_nx S)))), (5, .int (nI 10)), (4, .ref q_all), (1, .ref q_all), (0, .ref (b 0))]) C.1 C.2.1 dX3_digest_119 hl (by decide) rfl (fun ls hl => ?_)
            refine lv_lload_n C.1 C.2.1 dX3_digest_121 rfl (lv_at hl 2 rfl) ?_
            refine lv_ldc2 (v := 31) C.1 C.2.1 C.2.2.2.1 (C.2.2.2.2.1 (.constantLong RX3 159 (31)) (by decide +kernel)) dX3_digest_122 ?_
            refine lv_lmul C.1 C.2.1 dX3_digest_125 ?_
            refine lv_iload C.1 C.2.1 dX3_digest_126 (lv_at hl 0 rfl) ?_
            refine lv_i2l C.1 C.2.1 dX3_digest_128 rfl ?_
            refine lv_ladd C.1 C.2.1 dX3_digest_129 ?_
            refine lv_lstore_n (lv' := [(2, .long ((((((((1787 * 31) + (Int32.toInt64 (s_hr S))) * 31) + (Int32.toInt64 (nI (s_n S)))) * 31) + (Int32.toInt64 (s_nx S))) * 31) + (Int32.toInt64 (s_first S)))), (7, .int (s_first S)), (6, .int (nI 3)), (5, .int (nI 10)), (4, .ref q_all), (1, .ref q_all), (0, .ref (b 0))]) C.1 C.2.1 dX3_digest_130 rfl hl (by decide) rfl (fun ls hl => ?_)
            refine gInc (j := 3) (k := 2) (lv' := [(6, .int (nI 4)), (2, .long ((((((((1787 * 31) + (Int32.toInt64 (s_hr S))) * 31) + (Int32.toInt64 (nI (s_n S)))) * 31) + (Int32.toInt64 (s_nx S))) * 31) + (Int32.toInt64 (s_first S)))), (7, .int (s_first S)), (5, .int (nI 10)), (4, .ref q_all), (1, .ref q_all), (0, .ref (b 0))]) C.1 C.2.1 dX3_digest_131 hl rfl (by decide) rfl (fun ls hl => ?_)
            refine lv_goto (tgt := 107) C.1 C.2.1 dX3_digest_134 (by decide) ?_
            refine lv_iload C.1 C.2.1 dX3_digest_107 (lv_at hl 0 rfl) ?_
            refine lv_iload C.1 C.2.1 dX3_digest_109 (lv_at hl 3 rfl) ?_
            refine gGeN (x := 4) (y := 10) (tgt := 137) C.1 C.2.1 (by omega) (by omega) dX3_digest_111 (by decide) (fun c_7 => ?_) (fun c_7 => ?_)
            · exact absurd c_7 (by omega)
            · refine lv_aload C.1 C.2.1 dX3_digest_114 (lv_at hl 4 rfl) ?_
              refine lv_iload C.1 C.2.1 dX3_digest_116 (lv_at hl 0 rfl) ?_
              refine gIald (v := (s_dr S)) (j := 4) C hO 12 rfl (by omega) (by decide) rfl dX3_digest_118 ?_
              refine lv_istore (lv' := [(7, .int (s_dr S)), (6, .int (nI 4)), (2, .long ((((((((1787 * 31) + (Int32.toInt64 (s_hr S))) * 31) + (Int32.toInt64 (nI (s_n S)))) * 31) + (Int32.toInt64 (s_nx S))) * 31) + (Int32.toInt64 (s_first S)))), (5, .int (nI 10)), (4, .ref q_all), (1, .ref q_all), (0, .ref (b 0))]) C.1 C.2.1 dX3_digest_119 hl (by decide) rfl (fun ls hl => ?_)
              refine lv_lload_n C.1 C.2.1 dX3_digest_121 rfl (lv_at hl 2 rfl) ?_
              refine lv_ldc2 (v := 31) C.1 C.2.1 C.2.2.2.1 (C.2.2.2.2.1 (.constantLong RX3 159 (31)) (by decide +kernel)) dX3_digest_122 ?_
              refine lv_lmul C.1 C.2.1 dX3_digest_125 ?_
              refine lv_iload C.1 C.2.1 dX3_digest_126 (lv_at hl 0 rfl) ?_
              refine lv_i2l C.1 C.2.1 dX3_digest_128 rfl ?_
              refine lv_ladd C.1 C.2.1 dX3_digest_129 ?_
              refine lv_lstore_n (lv' := [(2, .long ((((((((((1787 * 31) + (Int32.toInt64 (s_hr S))) * 31) + (Int32.toInt64 (nI (s_n S)))) * 31) + (Int32.toInt64 (s_nx S))) * 31) + (Int32.toInt64 (s_first S))) * 31) + (Int32.toInt64 (s_dr S)))), (7, .int (s_dr S)), (6, .int (nI 4)), (5, .int (nI 10)), (4, .ref q_all), (1, .ref q_all), (0, .ref (b 0))]) C.1 C.2.1 dX3_digest_130 rfl hl (by decide) rfl (fun ls hl => ?_)
              refine gInc (j := 4) (k := 2) (lv' := [(6, .int (nI 5)), (2, .long ((((((((((1787 * 31) + (Int32.toInt64 (s_hr S))) * 31) + (Int32.toInt64 (nI (s_n S)))) * 31) + (Int32.toInt64 (s_nx S))) * 31) + (Int32.toInt64 (s_first S))) * 31) + (Int32.toInt64 (s_dr S)))), (7, .int (s_dr S)), (5, .int (nI 10)), (4, .ref q_all), (1, .ref q_all), (0, .ref (b 0))]) C.1 C.2.1 dX3_digest_131 hl rfl (by decide) rfl (fun ls hl => ?_)
              refine lv_goto (tgt := 107) C.1 C.2.1 dX3_digest_134 (by decide) ?_
              refine lv_iload C.1 C.2.1 dX3_digest_107 (lv_at hl 0 rfl) ?_
              refine lv_iload C.1 C.2.1 dX3_digest_109 (lv_at hl 3 rfl) ?_
              refine gGeN (x := 5) (y := 10) (tgt := 137) C.1 C.2.1 (by omega) (by omega) dX3_digest_111 (by decide) (fun c_8 => ?_) (fun c_8 => ?_)
              · exact absurd c_8 (by omega)
              · refine lv_aload C.1 C.2.1 dX3_digest_114 (lv_at hl 4 rfl) ?_
                refine lv_iload C.1 C.2.1 dX3_digest_116 (lv_at hl 0 rfl) ?_
                refine gIald (v := nI (s_sc S)) (j := 5) C hO 12 rfl (by omega) (by decide) rfl dX3_digest_118 ?_
                refine lv_istore (lv' := [(7, .int (nI (s_sc S))), (6, .int (nI 5)), (2, .long ((((((((((1787 * 31) + (Int32.toInt64 (s_hr S))) * 31) + (Int32.toInt64 (nI (s_n S)))) * 31) + (Int32.toInt64 (s_nx S))) * 31) + (Int32.toInt64 (s_first S))) * 31) + (Int32.toInt64 (s_dr S)))), (5, .int (nI 10)), (4, .ref q_all), (1, .ref q_all), (0, .ref (b 0))]) C.1 C.2.1 dX3_digest_119 hl (by decide) rfl (fun ls hl => ?_)
                refine lv_lload_n C.1 C.2.1 dX3_digest_121 rfl (lv_at hl 2 rfl) ?_
                refine lv_ldc2 (v := 31) C.1 C.2.1 C.2.2.2.1 (C.2.2.2.2.1 (.constantLong RX3 159 (31)) (by decide +kernel)) dX3_digest_122 ?_
                refine lv_lmul C.1 C.2.1 dX3_digest_125 ?_
                refine lv_iload C.1 C.2.1 dX3_digest_126 (lv_at hl 0 rfl) ?_
                refine lv_i2l C.1 C.2.1 dX3_digest_128 rfl ?_
                refine lv_ladd C.1 C.2.1 dX3_digest_129 ?_
                refine lv_lstore_n (lv' := [(2, .long ((((((((((((1787 * 31) + (Int32.toInt64 (s_hr S))) * 31) + (Int32.toInt64 (nI (s_n S)))) * 31) + (Int32.toInt64 (s_nx S))) * 31) + (Int32.toInt64 (s_first S))) * 31) + (Int32.toInt64 (s_dr S))) * 31) + (Int32.toInt64 (nI (s_sc S))))), (7, .int (nI (s_sc S))), (6, .int (nI 5)), (5, .int (nI 10)), (4, .ref q_all), (1, .ref q_all), (0, .ref (b 0))]) C.1 C.2.1 dX3_digest_130 rfl hl (by decide) rfl (fun ls hl => ?_)
                refine gInc (j := 5) (k := 2) (lv' := [(6, .int (nI 6)), (2, .long ((((((((((((1787 * 31) + (Int32.toInt64 (s_hr S))) * 31) + (Int32.toInt64 (nI (s_n S)))) * 31) + (Int32.toInt64 (s_nx S))) * 31) + (Int32.toInt64 (s_first S))) * 31) + (Int32.toInt64 (s_dr S))) * 31) + (Int32.toInt64 (nI (s_sc S))))), (7, .int (nI (s_sc S))), (5, .int (nI 10)), (4, .ref q_all), (1, .ref q_all), (0, .ref (b 0))]) C.1 C.2.1 dX3_digest_131 hl rfl (by decide) rfl (fun ls hl => ?_)
                refine lv_goto (tgt := 107) C.1 C.2.1 dX3_digest_134 (by decide) ?_
                refine lv_iload C.1 C.2.1 dX3_digest_107 (lv_at hl 0 rfl) ?_
                refine lv_iload C.1 C.2.1 dX3_digest_109 (lv_at hl 3 rfl) ?_
                refine gGeN (x := 6) (y := 10) (tgt := 137) C.1 C.2.1 (by omega) (by omega) dX3_digest_111 (by decide) (fun c_9 => ?_) (fun c_9 => ?_)
                · exact absurd c_9 (by omega)
                · refine lv_aload C.1 C.2.1 dX3_digest_114 (lv_at hl 4 rfl) ?_
                  refine lv_iload C.1 C.2.1 dX3_digest_116 (lv_at hl 0 rfl) ?_
                  refine gIald (v := if s_on S = 0 then 0 else 1) (j := 6) C hO 12 rfl (by omega) (by decide) rfl dX3_digest_118 ?_
                  refine lv_istore (lv' := [(7, .int (if s_on S = 0 then 0 else 1)), (6, .int (nI 6)), (2, .long ((((((((((((1787 * 31) + (Int32.toInt64 (s_hr S))) * 31) + (Int32.toInt64 (nI (s_n S)))) * 31) + (Int32.toInt64 (s_nx S))) * 31) + (Int32.toInt64 (s_first S))) * 31) + (Int32.toInt64 (s_dr S))) * 31) + (Int32.toInt64 (nI (s_sc S))))), (5, .int (nI 10)), (4, .ref q_all), (1, .ref q_all), (0, .ref (b 0))]) C.1 C.2.1 dX3_digest_119 hl (by decide) rfl (fun ls hl => ?_)
                  refine lv_lload_n C.1 C.2.1 dX3_digest_121 rfl (lv_at hl 2 rfl) ?_
                  refine lv_ldc2 (v := 31) C.1 C.2.1 C.2.2.2.1 (C.2.2.2.2.1 (.constantLong RX3 159 (31)) (by decide +kernel)) dX3_digest_122 ?_
                  refine lv_lmul C.1 C.2.1 dX3_digest_125 ?_
                  refine lv_iload C.1 C.2.1 dX3_digest_126 (lv_at hl 0 rfl) ?_
                  refine lv_i2l C.1 C.2.1 dX3_digest_128 rfl ?_
                  refine lv_ladd C.1 C.2.1 dX3_digest_129 ?_
                  refine lv_lstore_n (lv' := [(2, .long ((((((((((((((1787 * 31) + (Int32.toInt64 (s_hr S))) * 31) + (Int32.toInt64 (nI (s_n S)))) * 31) + (Int32.toInt64 (s_nx S))) * 31) + (Int32.toInt64 (s_first S))) * 31) + (Int32.toInt64 (s_dr S))) * 31) + (Int32.toInt64 (nI (s_sc S)))) * 31) + (Int32.toInt64 (if s_on S = 0 then 0 else 1)))), (7, .int (if s_on S = 0 then 0 else 1)), (6, .int (nI 6)), (5, .int (nI 10)), (4, .ref q_all), (1, .ref q_all), (0, .ref (b 0))]) C.1 C.2.1 dX3_digest_130 rfl hl (by decide) rfl (fun ls hl => ?_)
                  refine gInc (j := 6) (k := 2) (lv' := [(6, .int (nI 7)), (2, .long ((((((((((((((1787 * 31) + (Int32.toInt64 (s_hr S))) * 31) + (Int32.toInt64 (nI (s_n S)))) * 31) + (Int32.toInt64 (s_nx S))) * 31) + (Int32.toInt64 (s_first S))) * 31) + (Int32.toInt64 (s_dr S))) * 31) + (Int32.toInt64 (nI (s_sc S)))) * 31) + (Int32.toInt64 (if s_on S = 0 then 0 else 1)))), (7, .int (if s_on S = 0 then 0 else 1)), (5, .int (nI 10)), (4, .ref q_all), (1, .ref q_all), (0, .ref (b 0))]) C.1 C.2.1 dX3_digest_131 hl rfl (by decide) rfl (fun ls hl => ?_)
                  refine lv_goto (tgt := 107) C.1 C.2.1 dX3_digest_134 (by decide) ?_
                  refine lv_iload C.1 C.2.1 dX3_digest_107 (lv_at hl 0 rfl) ?_
                  refine lv_iload C.1 C.2.1 dX3_digest_109 (lv_at hl 3 rfl) ?_
                  refine gGeN (x := 7) (y := 10) (tgt := 137) C.1 C.2.1 (by omega) (by omega) dX3_digest_111 (by decide) (fun c_10 => ?_) (fun c_10 => ?_)
                  · exact absurd c_10 (by omega)
                  · refine lv_aload C.1 C.2.1 dX3_digest_114 (lv_at hl 4 rfl) ?_
                    refine lv_iload C.1 C.2.1 dX3_digest_116 (lv_at hl 0 rfl) ?_
                    refine gIald (v := nI (s_sh S)) (j := 7) C hO 12 rfl (by omega) (by decide) rfl dX3_digest_118 ?_
                    refine lv_istore (lv' := [(7, .int (nI (s_sh S))), (6, .int (nI 7)), (2, .long ((((((((((((((1787 * 31) + (Int32.toInt64 (s_hr S))) * 31) + (Int32.toInt64 (nI (s_n S)))) * 31) + (Int32.toInt64 (s_nx S))) * 31) + (Int32.toInt64 (s_first S))) * 31) + (Int32.toInt64 (s_dr S))) * 31) + (Int32.toInt64 (nI (s_sc S)))) * 31) + (Int32.toInt64 (if s_on S = 0 then 0 else 1)))), (5, .int (nI 10)), (4, .ref q_all), (1, .ref q_all), (0, .ref (b 0))]) C.1 C.2.1 dX3_digest_119 hl (by decide) rfl (fun ls hl => ?_)
                    refine lv_lload_n C.1 C.2.1 dX3_digest_121 rfl (lv_at hl 2 rfl) ?_
                    refine lv_ldc2 (v := 31) C.1 C.2.1 C.2.2.2.1 (C.2.2.2.2.1 (.constantLong RX3 159 (31)) (by decide +kernel)) dX3_digest_122 ?_
                    refine lv_lmul C.1 C.2.1 dX3_digest_125 ?_
                    refine lv_iload C.1 C.2.1 dX3_digest_126 (lv_at hl 0 rfl) ?_
                    refine lv_i2l C.1 C.2.1 dX3_digest_128 rfl ?_
                    refine lv_ladd C.1 C.2.1 dX3_digest_129 ?_
                    refine lv_lstore_n (lv' := [(2, .long ((((((((((((((((1787 * 31) + (Int32.toInt64 (s_hr S))) * 31) + (Int32.toInt64 (nI (s_n S)))) * 31) + (Int32.toInt64 (s_nx S))) * 31) + (Int32.toInt64 (s_first S))) * 31) + (Int32.toInt64 (s_dr S))) * 31) + (Int32.toInt64 (nI (s_sc S)))) * 31) + (Int32.toInt64 (if s_on S = 0 then 0 else 1))) * 31) + (Int32.toInt64 (nI (s_sh S))))), (7, .int (nI (s_sh S))), (6, .int (nI 7)), (5, .int (nI 10)), (4, .ref q_all), (1, .ref q_all), (0, .ref (b 0))]) C.1 C.2.1 dX3_digest_130 rfl hl (by decide) rfl (fun ls hl => ?_)
                    refine gInc (j := 7) (k := 2) (lv' := [(6, .int (nI 8)), (2, .long ((((((((((((((((1787 * 31) + (Int32.toInt64 (s_hr S))) * 31) + (Int32.toInt64 (nI (s_n S)))) * 31) + (Int32.toInt64 (s_nx S))) * 31) + (Int32.toInt64 (s_first S))) * 31) + (Int32.toInt64 (s_dr S))) * 31) + (Int32.toInt64 (nI (s_sc S)))) * 31) + (Int32.toInt64 (if s_on S = 0 then 0 else 1))) * 31) + (Int32.toInt64 (nI (s_sh S))))), (7, .int (nI (s_sh S))), (5, .int (nI 10)), (4, .ref q_all), (1, .ref q_all), (0, .ref (b 0))]) C.1 C.2.1 dX3_digest_131 hl rfl (by decide) rfl (fun ls hl => ?_)
                    refine lv_goto (tgt := 107) C.1 C.2.1 dX3_digest_134 (by decide) ?_
                    refine lv_iload C.1 C.2.1 dX3_digest_107 (lv_at hl 0 rfl) ?_
                    refine lv_iload C.1 C.2.1 dX3_digest_109 (lv_at hl 3 rfl) ?_
                    refine gGeN (x := 8) (y := 10) (tgt := 137) C.1 C.2.1 (by omega) (by omega) dX3_digest_111 (by decide) (fun c_11 => ?_) (fun c_11 => ?_)
                    · exact absurd c_11 (by omega)
                    · refine lv_aload C.1 C.2.1 dX3_digest_114 (lv_at hl 4 rfl) ?_
                      refine lv_iload C.1 C.2.1 dX3_digest_116 (lv_at hl 0 rfl) ?_
                      refine gIald (v := oI (s_fb S (s_sh S))) (j := 8) C hO 12 rfl (by omega) (by decide) rfl dX3_digest_118 ?_
                      refine lv_istore (lv' := [(7, .int (oI (s_fb S (s_sh S)))), (6, .int (nI 8)), (2, .long ((((((((((((((((1787 * 31) + (Int32.toInt64 (s_hr S))) * 31) + (Int32.toInt64 (nI (s_n S)))) * 31) + (Int32.toInt64 (s_nx S))) * 31) + (Int32.toInt64 (s_first S))) * 31) + (Int32.toInt64 (s_dr S))) * 31) + (Int32.toInt64 (nI (s_sc S)))) * 31) + (Int32.toInt64 (if s_on S = 0 then 0 else 1))) * 31) + (Int32.toInt64 (nI (s_sh S))))), (5, .int (nI 10)), (4, .ref q_all), (1, .ref q_all), (0, .ref (b 0))]) C.1 C.2.1 dX3_digest_119 hl (by decide) rfl (fun ls hl => ?_)
                      refine lv_lload_n C.1 C.2.1 dX3_digest_121 rfl (lv_at hl 2 rfl) ?_
                      refine lv_ldc2 (v := 31) C.1 C.2.1 C.2.2.2.1 (C.2.2.2.2.1 (.constantLong RX3 159 (31)) (by decide +kernel)) dX3_digest_122 ?_
                      refine lv_lmul C.1 C.2.1 dX3_digest_125 ?_
                      refine lv_iload C.1 C.2.1 dX3_digest_126 (lv_at hl 0 rfl) ?_
                      refine lv_i2l C.1 C.2.1 dX3_digest_128 rfl ?_
                      refine lv_ladd C.1 C.2.1 dX3_digest_129 ?_
                      refine lv_lstore_n (lv' := [(2, .long ((((((((((((((((((1787 * 31) + (Int32.toInt64 (s_hr S))) * 31) + (Int32.toInt64 (nI (s_n S)))) * 31) + (Int32.toInt64 (s_nx S))) * 31) + (Int32.toInt64 (s_first S))) * 31) + (Int32.toInt64 (s_dr S))) * 31) + (Int32.toInt64 (nI (s_sc S)))) * 31) + (Int32.toInt64 (if s_on S = 0 then 0 else 1))) * 31) + (Int32.toInt64 (nI (s_sh S)))) * 31) + (Int32.toInt64 (oI (s_fb S (s_sh S)))))), (7, .int (oI (s_fb S (s_sh S)))), (6, .int (nI 8)), (5, .int (nI 10)), (4, .ref q_all), (1, .ref q_all), (0, .ref (b 0))]) C.1 C.2.1 dX3_digest_130 rfl hl (by decide) rfl (fun ls hl => ?_)
                      refine gInc (j := 8) (k := 2) (lv' := [(6, .int (nI 9)), (2, .long ((((((((((((((((((1787 * 31) + (Int32.toInt64 (s_hr S))) * 31) + (Int32.toInt64 (nI (s_n S)))) * 31) + (Int32.toInt64 (s_nx S))) * 31) + (Int32.toInt64 (s_first S))) * 31) + (Int32.toInt64 (s_dr S))) * 31) + (Int32.toInt64 (nI (s_sc S)))) * 31) + (Int32.toInt64 (if s_on S = 0 then 0 else 1))) * 31) + (Int32.toInt64 (nI (s_sh S)))) * 31) + (Int32.toInt64 (oI (s_fb S (s_sh S)))))), (7, .int (oI (s_fb S (s_sh S)))), (5, .int (nI 10)), (4, .ref q_all), (1, .ref q_all), (0, .ref (b 0))]) C.1 C.2.1 dX3_digest_131 hl rfl (by decide) rfl (fun ls hl => ?_)
                      refine lv_goto (tgt := 107) C.1 C.2.1 dX3_digest_134 (by decide) ?_
                      refine lv_iload C.1 C.2.1 dX3_digest_107 (lv_at hl 0 rfl) ?_
                      refine lv_iload C.1 C.2.1 dX3_digest_109 (lv_at hl 3 rfl) ?_
                      refine gGeN (x := 9) (y := 10) (tgt := 137) C.1 C.2.1 (by omega) (by omega) dX3_digest_111 (by decide) (fun c_12 => ?_) (fun c_12 => ?_)
                      · exact absurd c_12 (by omega)
                      · refine lv_aload C.1 C.2.1 dX3_digest_114 (lv_at hl 4 rfl) ?_
                        refine lv_iload C.1 C.2.1 dX3_digest_116 (lv_at hl 0 rfl) ?_
                        refine gIald (v := nI (cm (s_cm S) 0 (s_n S))) (j := 9) C hO 12 rfl (by omega) (by decide) rfl dX3_digest_118 ?_
                        refine lv_istore (lv' := [(7, .int (nI (cm (s_cm S) 0 (s_n S)))), (6, .int (nI 9)), (2, .long ((((((((((((((((((1787 * 31) + (Int32.toInt64 (s_hr S))) * 31) + (Int32.toInt64 (nI (s_n S)))) * 31) + (Int32.toInt64 (s_nx S))) * 31) + (Int32.toInt64 (s_first S))) * 31) + (Int32.toInt64 (s_dr S))) * 31) + (Int32.toInt64 (nI (s_sc S)))) * 31) + (Int32.toInt64 (if s_on S = 0 then 0 else 1))) * 31) + (Int32.toInt64 (nI (s_sh S)))) * 31) + (Int32.toInt64 (oI (s_fb S (s_sh S)))))), (5, .int (nI 10)), (4, .ref q_all), (1, .ref q_all), (0, .ref (b 0))]) C.1 C.2.1 dX3_digest_119 hl (by decide) rfl (fun ls hl => ?_)
                        refine lv_lload_n C.1 C.2.1 dX3_digest_121 rfl (lv_at hl 2 rfl) ?_
                        refine lv_ldc2 (v := 31) C.1 C.2.1 C.2.2.2.1 (C.2.2.2.2.1 (.constantLong RX3 159 (31)) (by decide +kernel)) dX3_digest_122 ?_
                        refine lv_lmul C.1 C.2.1 dX3_digest_125 ?_
                        refine lv_iload C.1 C.2.1 dX3_digest_126 (lv_at hl 0 rfl) ?_
                        refine lv_i2l C.1 C.2.1 dX3_digest_128 rfl ?_
                        refine lv_ladd C.1 C.2.1 dX3_digest_129 ?_
                        refine lv_lstore_n (lv' := [(2, .long ((((((((((((((((((((1787 * 31) + (Int32.toInt64 (s_hr S))) * 31) + (Int32.toInt64 (nI (s_n S)))) * 31) + (Int32.toInt64 (s_nx S))) * 31) + (Int32.toInt64 (s_first S))) * 31) + (Int32.toInt64 (s_dr S))) * 31) + (Int32.toInt64 (nI (s_sc S)))) * 31) + (Int32.toInt64 (if s_on S = 0 then 0 else 1))) * 31) + (Int32.toInt64 (nI (s_sh S)))) * 31) + (Int32.toInt64 (oI (s_fb S (s_sh S))))) * 31) + (Int32.toInt64 (nI (cm (s_cm S) 0 (s_n S)))))), (7, .int (nI (cm (s_cm S) 0 (s_n S)))), (6, .int (nI 9)), (5, .int (nI 10)), (4, .ref q_all), (1, .ref q_all), (0, .ref (b 0))]) C.1 C.2.1 dX3_digest_130 rfl hl (by decide) rfl (fun ls hl => ?_)
                        refine gInc (j := 9) (k := 2) (lv' := [(6, .int (nI 10)), (2, .long ((((((((((((((((((((1787 * 31) + (Int32.toInt64 (s_hr S))) * 31) + (Int32.toInt64 (nI (s_n S)))) * 31) + (Int32.toInt64 (s_nx S))) * 31) + (Int32.toInt64 (s_first S))) * 31) + (Int32.toInt64 (s_dr S))) * 31) + (Int32.toInt64 (nI (s_sc S)))) * 31) + (Int32.toInt64 (if s_on S = 0 then 0 else 1))) * 31) + (Int32.toInt64 (nI (s_sh S)))) * 31) + (Int32.toInt64 (oI (s_fb S (s_sh S))))) * 31) + (Int32.toInt64 (nI (cm (s_cm S) 0 (s_n S)))))), (7, .int (nI (cm (s_cm S) 0 (s_n S)))), (5, .int (nI 10)), (4, .ref q_all), (1, .ref q_all), (0, .ref (b 0))]) C.1 C.2.1 dX3_digest_131 hl rfl (by decide) rfl (fun ls hl => ?_)
                        refine lv_goto (tgt := 107) C.1 C.2.1 dX3_digest_134 (by decide) ?_
                        refine lv_iload C.1 C.2.1 dX3_digest_107 (lv_at hl 0 rfl) ?_
                        refine lv_iload C.1 C.2.1 dX3_digest_109 (lv_at hl 3 rfl) ?_
                        refine gGeN (x := 10) (y := 10) (tgt := 137) C.1 C.2.1 (by omega) (by omega) dX3_digest_111 (by decide) (fun c_13 => ?_) (fun c_13 => ?_)
                        · have hO : gO E A s (mW E b S 0 (mkU (s_cm S) mk (s_n S)) ++ F) H locs := gO.drop (W0 := mW E b S 0 (mkU (s_cm S) mk (s_n S))) hO
                          refine lv_iconst (v := 0) C.1 C.2.1 dX3_digest_137 (by decide) ?_
                          refine lv_istore (lv' := [(4, .int 0), (6, .int (nI 10)), (2, .long ((((((((((((((((((((1787 * 31) + (Int32.toInt64 (s_hr S))) * 31) + (Int32.toInt64 (nI (s_n S)))) * 31) + (Int32.toInt64 (s_nx S))) * 31) + (Int32.toInt64 (s_first S))) * 31) + (Int32.toInt64 (s_dr S))) * 31) + (Int32.toInt64 (nI (s_sc S)))) * 31) + (Int32.toInt64 (if s_on S = 0 then 0 else 1))) * 31) + (Int32.toInt64 (nI (s_sh S)))) * 31) + (Int32.toInt64 (oI (s_fb S (s_sh S))))) * 31) + (Int32.toInt64 (nI (cm (s_cm S) 0 (s_n S)))))), (7, .int (nI (cm (s_cm S) 0 (s_n S)))), (5, .int (nI 10)), (1, .ref q_all), (0, .ref (b 0))]) C.1 C.2.1 dX3_digest_138 hl (by decide) rfl (fun ls hl => ?_)
                          have lp24 : ∀ (f : Nat) (c7 : Nat), (11 ≤ c7 + f) → (c7 ≤ 10) → ∀ (H : Heap) (locs : List Loc), gO E A s (mW E b S 0 (mkU (s_cm S) mk (s_n S)) ++ F) H locs → ∀ ls : Array Slot, lv_has ls 10 [(0, .ref (b 0)), (2, .long (dKeys S (s_d0 S) c7)), (4, .int (nI c7))] → W p l e ({ frames := 3, cells := 20, slots := 182, locals := 69 } : Room) s m args below meth c H locs 2 20 (MQ below (gQl E A (s_dg S) (mW E b S 0 (mkU (s_cm S) mk (s_n S)) ++ F)) args s 20 182 A) (F0 m 140 ls []) := by
                            intro f
                            induction f with
                            | zero =>
                              intro c7 hf hcc7
                              exact absurd hf (by omega)
                            | succ f ih_lp24 =>
                              intro c7 hf hcc7 H locs hO ls hl
                              refine lv_iload C.1 C.2.1 dX3_digest_140 (lv_at hl 2 rfl) ?_
                              refine lv_bipush (v := nI 10) C.1 C.2.1 dX3_digest_142 (by decide) ?_
                              refine gGeN (x := c7) (y := 10) (tgt := 195) C.1 C.2.1 (by omega) (by omega) dX3_digest_144 (by decide) (fun c_14 => ?_) (fun c_14 => ?_)
                              · have hce7 : c7 = 10 := by omega
                                rw [hce7] at hl
                                refine lv_iconst (v := 0) C.1 C.2.1 dX3_digest_195 (by decide) ?_
                                refine lv_istore (lv' := [(4, .int 0), (0, .ref (b 0)), (2, .long (dKeys S (s_d0 S) 10))]) C.1 C.2.1 dX3_digest_196 hl (by decide) rfl (fun ls hl => ?_)
                                have lp25 : ∀ (f : Nat) (c8 : Nat), (s_sc S + 1 ≤ c8 + f) → (c8 ≤ s_sc S) → ∀ (H : Heap) (locs : List Loc), gO E A s (mW E b S 0 (mkU (s_cm S) mk (s_n S)) ++ F) H locs → ∀ ls : Array Slot, lv_has ls 10 [(0, .ref (b 0)), (2, .long (dStorms S (dKeys S (s_d0 S) 10) c8)), (4, .int (nI c8))] → W p l e ({ frames := 3, cells := 20, slots := 182, locals := 69 } : Room) s m args below meth c H locs 2 20 (MQ below (gQl E A (s_dg S) (mW E b S 0 (mkU (s_cm S) mk (s_n S)) ++ F)) args s 20 182 A) (F0 m 198 ls []) := by
                                  intro f
                                  induction f with
                                  | zero =>
                                    intro c8 hf hcc8
                                    exact absurd hf (by omega)
                                  | succ f ih_lp25 =>
                                    intro c8 hf hcc8 H locs hO ls hl
                                    refine lv_iload C.1 C.2.1 dX3_digest_198 (lv_at hl 2 rfl) ?_
                                    refine lv_aload_n C.1 C.2.1 dX3_digest_200 rfl (lv_at hl 0 rfl) ?_
                                    refine gGet (v := .int (nI (s_sc S))) (ref := RX3) (Cn := RX3) (T := TX3) (N := 19) C iX3 hO 0 rfl rfl 10 (by decide) w55 (fun _ h9 => h9) rfl dX3_digest_201 ?_
                                    refine gGeN (x := c8) (y := (s_sc S)) (tgt := 242) C.1 C.2.1 (by omega) (by omega) dX3_digest_204 (by decide) (fun c_15 => ?_) (fun c_15 => ?_)
                                    · have hce8 : c8 = s_sc S := by omega
                                      rw [hce8] at hl
                                      refine lv_iconst (v := 0) C.1 C.2.1 dX3_digest_242 (by decide) ?_
                                      refine lv_istore (lv' := [(4, .int 0), (0, .ref (b 0)), (2, .long (dStorms S (dKeys S (s_d0 S) 10) (s_sc S)))]) C.1 C.2.1 dX3_digest_243 hl (by decide) rfl (fun ls hl => ?_)
                                      have lp26 : ∀ (f : Nat) (c9 : Nat), (s_sh S + 1 ≤ c9 + f) → (c9 ≤ s_sh S) → ∀ (H : Heap) (locs : List Loc), gO E A s (mW E b S 0 (mkU (s_cm S) mk (s_n S)) ++ F) H locs → ∀ ls : Array Slot, lv_has ls 10 [(0, .ref (b 0)), (2, .long (dShips S (dStorms S (dKeys S (s_d0 S) 10) (s_sc S)) c9)), (4, .int (nI c9))] → W p l e ({ frames := 3, cells := 20, slots := 182, locals := 69 } : Room) s m args below meth c H locs (2 + 3 * c9) (20 + 27 * c9) (MQ below (gQl E A (s_dg S) (mW E b S 0 (mkU (s_cm S) mk (s_n S)) ++ F)) args s 20 182 A) (F0 m 245 ls []) := by
                                        intro f
                                        induction f with
                                        | zero =>
                                          intro c9 hf hcc9
                                          exact absurd hf (by omega)
                                        | succ f ih_lp26 =>
                                          intro c9 hf hcc9 H locs hO ls hl
                                          refine lv_iload C.1 C.2.1 dX3_digest_245 (lv_at hl 2 rfl) ?_
                                          refine lv_aload_n C.1 C.2.1 dX3_digest_247 rfl (lv_at hl 0 rfl) ?_
                                          refine gGet (v := .int (nI (s_sh S))) (ref := RX3) (Cn := RX3) (T := TX3) (N := 19) C iX3 hO 0 rfl rfl 13 (by decide) w48 (fun _ h9 => h9) rfl dX3_digest_248 ?_
                                          refine gGeN (x := c9) (y := (s_sh S)) (tgt := 376) C.1 C.2.1 (by omega) (by omega) dX3_digest_251 (by decide) (fun c_16 => ?_) (fun c_16 => ?_)
                                          · refine lv_lload_n C.1 C.2.1 dX3_digest_376 rfl (lv_at hl 1 rfl) ?_
                                            exact gRl C hO (by rw [show s_dg S = dShips S (dStorms S (dKeys S (s_d0 S) 10) (s_sc S)) (s_sh S) from rfl, show c9 = s_sh S by omega]) dX3_digest_377 (by omega) (by omega)
                                          · refine lv_bipush (v := nI 7) C.1 C.2.1 dX3_digest_254 (by decide) ?_
                                            refine gNewI (N9 := 7) C (C.2.2.2.2.1 (.arrayClass .int) (by decide +kernel)) hO (by decide) (by show _ ≤ 20; omega) (by show _ ≤ 182; omega) dX3_digest_256 (fun q_of H hO => ?_)
                                            refine lv_dup C.1 C.2.1 dX3_digest_258 rfl ?_
                                            refine lv_iconst (v := 0) C.1 C.2.1 dX3_digest_259 (by decide) ?_
                                            refine lv_aload_n C.1 C.2.1 dX3_digest_260 rfl (lv_at hl 0 rfl) ?_
                                            refine gGet (v := .ref (b 8)) (ref := RX3) (Cn := RX3) (T := TX3) (N := 19) C iX3 hO 0 rfl rfl 15 (by decide) w32 (fun _ h9 => h9) rfl dX3_digest_261 ?_
                                            refine lv_iload C.1 C.2.1 dX3_digest_264 (lv_at hl 2 rfl) ?_
                                            refine gIald (v := (s_at S) c9) (j := c9) C hO 8 rfl (by omega) (by decide) rfl dX3_digest_266 ?_
                                            refine gIast (j := 0) (ws' := (mW E b S 0 (mkU (s_cm S) mk (s_n S)) ++ ((q_of, .inl (eI E, 7, .inl (upd (fun _ => 0) 0 ((s_at S) c9)))) :: F))) C hO 12 rfl (by omega) (by decide) rfl dX3_digest_267 (fun H locs hO => ?_)
                                            refine lv_dup C.1 C.2.1 dX3_digest_268 rfl ?_
                                            refine lv_iconst (v := 1) C.1 C.2.1 dX3_digest_269 (by decide) ?_
                                            refine lv_aload_n C.1 C.2.1 dX3_digest_270 rfl (lv_at hl 0 rfl) ?_
                                            refine lv_iload C.1 C.2.1 dX3_digest_271 (lv_at hl 2 rfl) ?_
                                            refine gCall_i (As := [.int (nI c9)]) (rest := [.int 1, .ref q_of, .ref q_of]) C hO (c_X3_lag l E b S 0 (mkU (s_cm S) mk (s_n S)) ((q_of, .inl (eI E, 7, .inl (upd (fun _ => 0) 0 ((s_at S) c9)))) :: F) c9 (by omega) (by omega)) (cwV 1 C.2.2.2.2.1 gX3_digest_X3_lag rfl rfl rfl (by decide +kernel) ⟨(Nat.le_of_ble_eq_true rfl), (Nat.le_of_ble_eq_true rfl)⟩) (va_recv C.2.2.2.2.2.2.2.1.1 hO.1 (ci := 3) (q0 := 0) rfl rfl) rfl hl.1 rfl (Nat.le_of_ble_eq_true rfl) dX3_digest_273 ⟨(by show _ ≤ 20; omega), (by show _ ≤ 182; omega)⟩ (fun H locs hO => ?_)
                                            refine gIast (j := 1) (ws' := (mW E b S 0 (mkU (s_cm S) mk (s_n S)) ++ ((q_of, .inl (eI E, 7, .inl (upd (upd (fun _ => 0) 0 ((s_at S) c9)) 1 (nI (s_lag S c9))))) :: F))) C hO 12 rfl (by omega) (by decide) rfl dX3_digest_276 (fun H locs hO => ?_)
                                            refine lv_dup C.1 C.2.1 dX3_digest_277 rfl ?_
                                            refine lv_iconst (v := nI 2) C.1 C.2.1 dX3_digest_278 (by decide) ?_
                                            refine lv_aload_n C.1 C.2.1 dX3_digest_279 rfl (lv_at hl 0 rfl) ?_
                                            refine gGet (v := .ref (b 9)) (ref := RX3) (Cn := RX3) (T := TX3) (N := 19) C iX3 hO 0 rfl rfl 16 (by decide) w35 (fun _ h9 => h9) rfl dX3_digest_280 ?_
                                            refine lv_iload C.1 C.2.1 dX3_digest_283 (lv_at hl 2 rfl) ?_
                                            refine gIald (v := (s_hd S) c9) (j := c9) C hO 9 rfl (by omega) (by decide) rfl dX3_digest_285 ?_
                                            refine gIast (j := 2) (ws' := (mW E b S 0 (mkU (s_cm S) mk (s_n S)) ++ ((q_of, .inl (eI E, 7, .inl (upd (upd (upd (fun _ => 0) 0 ((s_at S) c9)) 1 (nI (s_lag S c9))) 2 ((s_hd S) c9)))) :: F))) C hO 12 rfl (by omega) (by decide) rfl dX3_digest_286 (fun H locs hO => ?_)
                                            refine lv_dup C.1 C.2.1 dX3_digest_287 rfl ?_
                                            refine lv_iconst (v := nI 3) C.1 C.2.1 dX3_digest_288 (by decide) ?_
                                            refine lv_aload_n C.1 C.2.1 dX3_digest_289 rfl (lv_at hl 0 rfl) ?_
                                            refine gGet (v := .ref (b 10)) (ref := RX3) (Cn := RX3) (T := TX3) (N := 19) C iX3 hO 0 rfl rfl 17 (by decide) w38 (fun _ h9 => h9) rfl dX3_digest_290 ?_
                                            refine lv_iload C.1 C.2.1 dX3_digest_293 (lv_at hl 2 rfl) ?_
                                            refine gIald (v := (s_ms S) c9) (j := c9) C hO 10 rfl (by omega) (by decide) rfl dX3_digest_295 ?_
                                            refine gIast (j := 3) (ws' := (mW E b S 0 (mkU (s_cm S) mk (s_n S)) ++ ((q_of, .inl (eI E, 7, .inl (upd (upd (upd (upd (fun _ => 0) 0 ((s_at S) c9)) 1 (nI (s_lag S c9))) 2 ((s_hd S) c9)) 3 ((s_ms S) c9)))) :: F))) C hO 12 rfl (by omega) (by decide) rfl dX3_digest_296 (fun H locs hO => ?_)
                                            refine lv_dup C.1 C.2.1 dX3_digest_297 rfl ?_
                                            refine lv_iconst (v := nI 4) C.1 C.2.1 dX3_digest_298 (by decide) ?_
                                            refine lv_aload_n C.1 C.2.1 dX3_digest_299 rfl (lv_at hl 0 rfl) ?_
                                            refine lv_iload C.1 C.2.1 dX3_digest_300 (lv_at hl 2 rfl) ?_
                                            refine lv_iconst (v := 0) C.1 C.2.1 dX3_digest_302 (by decide) ?_
                                            refine gCall_i (As := [.int (nI c9), .int 0]) (rest := [.int (nI 4), .ref q_of, .ref q_of]) C hO (c_X3_errors l E b S 0 (mkU (s_cm S) mk (s_n S)) ((q_of, .inl (eI E, 7, .inl (upd (upd (upd (upd (fun _ => 0) 0 ((s_at S) c9)) 1 (nI (s_lag S c9))) 2 ((s_hd S) c9)) 3 ((s_ms S) c9)))) :: F) c9 0 (by omega) (by omega) hok9 (by omega)) (cwV 2 C.2.2.2.2.1 gX3_digest_X3_errors rfl rfl rfl (by decide +kernel) ⟨(Nat.le_of_ble_eq_true rfl), (Nat.le_of_ble_eq_true rfl)⟩) (va_recv C.2.2.2.2.2.2.2.1.1 hO.1 (ci := 3) (q0 := 0) rfl rfl) rfl hl.1 rfl (Nat.le_of_ble_eq_true rfl) dX3_digest_303 ⟨(by show _ ≤ 20; omega), (by show _ ≤ 182; omega)⟩ (fun H locs hO => ?_)
                                            refine gIast (j := 4) (ws' := (mW E b S 0 (mkU (s_cm S) mk (s_n S)) ++ ((q_of, .inl (eI E, 7, .inl (upd (upd (upd (upd (upd (fun _ => 0) 0 ((s_at S) c9)) 1 (nI (s_lag S c9))) 2 ((s_hd S) c9)) 3 ((s_ms S) c9)) 4 (nI (s_ea S c9 0))))) :: F))) C hO 12 rfl (by omega) (by decide) rfl dX3_digest_306 (fun H locs hO => ?_)
                                            refine lv_dup C.1 C.2.1 dX3_digest_307 rfl ?_
                                            refine lv_iconst (v := nI 5) C.1 C.2.1 dX3_digest_308 (by decide) ?_
                                            refine lv_aload_n C.1 C.2.1 dX3_digest_309 rfl (lv_at hl 0 rfl) ?_
                                            refine lv_iload C.1 C.2.1 dX3_digest_310 (lv_at hl 2 rfl) ?_
                                            refine gCall_i (As := [.int (nI c9)]) (rest := [.int (nI 5), .ref q_of, .ref q_of]) C hO (c_X3_until l E b S 0 (mkU (s_cm S) mk (s_n S)) ((q_of, .inl (eI E, 7, .inl (upd (upd (upd (upd (upd (fun _ => 0) 0 ((s_at S) c9)) 1 (nI (s_lag S c9))) 2 ((s_hd S) c9)) 3 ((s_ms S) c9)) 4 (nI (s_ea S c9 0))))) :: F) c9 (by omega) (by omega) (hpc9 _ (by omega))) (cwV 1 C.2.2.2.2.1 gX3_digest_X3_until rfl rfl rfl (by decide +kernel) ⟨(Nat.le_of_ble_eq_true rfl), (Nat.le_of_ble_eq_true rfl)⟩) (va_recv C.2.2.2.2.2.2.2.1.1 hO.1 (ci := 3) (q0 := 0) rfl rfl) rfl hl.1 rfl (Nat.le_of_ble_eq_true rfl) dX3_digest_312 ⟨(by show _ ≤ 20; omega), (by show _ ≤ 182; omega)⟩ (fun H locs hO => ?_)
                                            refine gIast (j := 5) (ws' := (mW E b S 0 (mkU (s_cm S) mk (s_n S)) ++ ((q_of, .inl (eI E, 7, .inl (upd (upd (upd (upd (upd (upd (fun _ => 0) 0 ((s_at S) c9)) 1 (nI (s_lag S c9))) 2 ((s_hd S) c9)) 3 ((s_ms S) c9)) 4 (nI (s_ea S c9 0))) 5 (s_un S c9)))) :: F))) C hO 12 rfl (by omega) (by decide) rfl dX3_digest_315 (fun H locs hO => ?_)
                                            refine lv_dup C.1 C.2.1 dX3_digest_316 rfl ?_
                                            refine lv_bipush (v := nI 6) C.1 C.2.1 dX3_digest_317 (by decide) ?_
                                            refine lv_aload_n C.1 C.2.1 dX3_digest_319 rfl (lv_at hl 0 rfl) ?_
                                            refine lv_iload C.1 C.2.1 dX3_digest_320 (lv_at hl 2 rfl) ?_
                                            refine gCall_i (As := [.int (nI c9)]) (rest := [.int (nI 6), .ref q_of, .ref q_of]) C hO (c_X3_misses l E b S 0 (mkU (s_cm S) mk (s_n S)) ((q_of, .inl (eI E, 7, .inl (upd (upd (upd (upd (upd (upd (fun _ => 0) 0 ((s_at S) c9)) 1 (nI (s_lag S c9))) 2 ((s_hd S) c9)) 3 ((s_ms S) c9)) 4 (nI (s_ea S c9 0))) 5 (s_un S c9)))) :: F) c9 (by omega) (by omega) (by omega) hok9) (cwV 1 C.2.2.2.2.1 gX3_digest_X3_misses rfl rfl rfl (by decide +kernel) ⟨(Nat.le_of_ble_eq_true rfl), (Nat.le_of_ble_eq_true rfl)⟩) (va_recv C.2.2.2.2.2.2.2.1.1 hO.1 (ci := 3) (q0 := 0) rfl rfl) rfl hl.1 rfl (Nat.le_of_ble_eq_true rfl) dX3_digest_322 ⟨(by show _ ≤ 20; omega), (by show _ ≤ 182; omega)⟩ (fun H locs hO => ?_)
                                            rw [mkU_mkU] at hO
                                            have hO : gO E A s (mW E b S 0 (mkU (s_cm S) mk (s_n S)) ++ ((q_of, .inl (eI E, 7, .inl (upd (upd (upd (upd (upd (upd (fun _ => 0) 0 ((s_at S) c9)) 1 (nI (s_lag S c9))) 2 ((s_hd S) c9)) 3 ((s_ms S) c9)) 4 (nI (s_ea S c9 0))) 5 (s_un S c9)))) :: F)) H locs := hO
                                            refine gIast (j := 6) (ws' := (mW E b S 0 (mkU (s_cm S) mk (s_n S)) ++ ((q_of, .inl (eI E, 7, .inl (upd (upd (upd (upd (upd (upd (upd (fun _ => 0) 0 ((s_at S) c9)) 1 (nI (s_lag S c9))) 2 ((s_hd S) c9)) 3 ((s_ms S) c9)) 4 (nI (s_ea S c9 0))) 5 (s_un S c9)) 6 (nI (s_wm S c9))))) :: F))) C hO 12 rfl (by omega) (by decide) rfl dX3_digest_325 (fun H locs hO => ?_)
                                            refine lv_astore (lv' := [(5, .ref q_of), (0, .ref (b 0)), (2, .long (dShips S (dStorms S (dKeys S (s_d0 S) 10) (s_sc S)) c9)), (4, .int (nI c9))]) C.1 C.2.1 dX3_digest_326 hl (by decide) rfl (fun ls hl => ?_)
                                            refine lv_aload C.1 C.2.1 dX3_digest_328 (lv_at hl 0 rfl) ?_
                                            refine lv_astore (lv' := [(6, .ref q_of), (5, .ref q_of), (0, .ref (b 0)), (2, .long (dShips S (dStorms S (dKeys S (s_d0 S) 10) (s_sc S)) c9)), (4, .int (nI c9))]) C.1 C.2.1 dX3_digest_330 hl (by decide) rfl (fun ls hl => ?_)
                                            refine lv_aload C.1 C.2.1 dX3_digest_332 (lv_at hl 0 rfl) ?_
                                            refine va_alen (v := nI 7) C.1 C.2.1 C.2.2.2.2.2.2.2.1.1 hO.1 12 0 rfl rfl rfl dX3_digest_334 ?_
                                            refine lv_istore (lv' := [(7, .int (nI 7)), (6, .ref q_of), (5, .ref q_of), (0, .ref (b 0)), (2, .long (dShips S (dStorms S (dKeys S (s_d0 S) 10) (s_sc S)) c9)), (4, .int (nI c9))]) C.1 C.2.1 dX3_digest_335 hl (by decide) rfl (fun ls hl => ?_)
                                            refine lv_iconst (v := 0) C.1 C.2.1 dX3_digest_337 (by decide) ?_
                                            refine lv_istore (lv' := [(8, .int 0), (7, .int (nI 7)), (6, .ref q_of), (5, .ref q_of), (0, .ref (b 0)), (2, .long (dShips S (dStorms S (dKeys S (s_d0 S) 10) (s_sc S)) c9)), (4, .int (nI c9))]) C.1 C.2.1 dX3_digest_338 hl (by decide) rfl (fun ls hl => ?_)
                                            refine lv_iload C.1 C.2.1 dX3_digest_340 (lv_at hl 0 rfl) ?_
                                            refine lv_iload C.1 C.2.1 dX3_digest_342 (lv_at hl 1 rfl) ?_
                                            refine gGeN (x := 0) (y := 7) (tgt := 370) C.1 C.2.1 (by omega) (by omega) dX3_digest_344 (by decide) (fun c_18 => ?_) (fun c_18 => ?_)
                                            · exact absurd c_18 (by omega)
                                            · refine lv_aload C.1 C.2.1 dX3_digest_347 (lv_at hl 2 rfl) ?_
                                              refine lv_iload C.1 C.2.1 dX3_digest_349 (lv_at hl 0 rfl) ?_
                                              refine gIald (v := (s_at S) c9) (j := 0) C hO 12 rfl (by omega) (by decide) rfl dX3_digest_351 ?_
                                              refine lv_istore (lv' := [(9, .int ((s_at S) c9)), (8, .int 0), (7, .int (nI 7)), (6, .ref q_of), (5, .ref q_of), (0, .ref (b 0)), (2, .long (dShips S (dStorms S (dKeys S (s_d0 S) 10) (s_sc S)) c9)), (4, .int (nI c9))]) C.1 C.2.1 dX3_digest_352 hl (by decide) rfl (fun ls hl => ?_)
                                              refine lv_lload_n C.1 C.2.1 dX3_digest_354 rfl (lv_at hl 6 rfl) ?_
                                              refine lv_ldc2 (v := 31) C.1 C.2.1 C.2.2.2.1 (C.2.2.2.2.1 (.constantLong RX3 159 (31)) (by decide +kernel)) dX3_digest_355 ?_
                                              refine lv_lmul C.1 C.2.1 dX3_digest_358 ?_
                                              refine lv_iload C.1 C.2.1 dX3_digest_359 (lv_at hl 0 rfl) ?_
                                              refine lv_i2l C.1 C.2.1 dX3_digest_361 rfl ?_
                                              refine lv_ladd C.1 C.2.1 dX3_digest_362 ?_
                                              refine lv_lstore_n (lv' := [(2, .long (((dShips S (dStorms S (dKeys S (s_d0 S) 10) (s_sc S)) c9) * 31) + (Int32.toInt64 ((s_at S) c9)))), (9, .int ((s_at S) c9)), (8, .int 0), (7, .int (nI 7)), (6, .ref q_of), (5, .ref q_of), (0, .ref (b 0)), (4, .int (nI c9))]) C.1 C.2.1 dX3_digest_363 rfl hl (by decide) rfl (fun ls hl => ?_)
                                              refine gInc (j := 0) (k := 2) (lv' := [(8, .int (nI 1)), (2, .long (((dShips S (dStorms S (dKeys S (s_d0 S) 10) (s_sc S)) c9) * 31) + (Int32.toInt64 ((s_at S) c9)))), (9, .int ((s_at S) c9)), (7, .int (nI 7)), (6, .ref q_of), (5, .ref q_of), (0, .ref (b 0)), (4, .int (nI c9))]) C.1 C.2.1 dX3_digest_364 hl rfl (by decide) rfl (fun ls hl => ?_)
                                              refine lv_goto (tgt := 340) C.1 C.2.1 dX3_digest_367 (by decide) ?_
                                              refine lv_iload C.1 C.2.1 dX3_digest_340 (lv_at hl 0 rfl) ?_
                                              refine lv_iload C.1 C.2.1 dX3_digest_342 (lv_at hl 3 rfl) ?_
                                              refine gGeN (x := 1) (y := 7) (tgt := 370) C.1 C.2.1 (by omega) (by omega) dX3_digest_344 (by decide) (fun c_19 => ?_) (fun c_19 => ?_)
                                              · exact absurd c_19 (by omega)
                                              · refine lv_aload C.1 C.2.1 dX3_digest_347 (lv_at hl 4 rfl) ?_
                                                refine lv_iload C.1 C.2.1 dX3_digest_349 (lv_at hl 0 rfl) ?_
                                                refine gIald (v := nI (s_lag S c9)) (j := 1) C hO 12 rfl (by omega) (by decide) rfl dX3_digest_351 ?_
                                                refine lv_istore (lv' := [(9, .int (nI (s_lag S c9))), (8, .int (nI 1)), (2, .long (((dShips S (dStorms S (dKeys S (s_d0 S) 10) (s_sc S)) c9) * 31) + (Int32.toInt64 ((s_at S) c9)))), (7, .int (nI 7)), (6, .ref q_of), (5, .ref q_of), (0, .ref (b 0)), (4, .int (nI c9))]) C.1 C.2.1 dX3_digest_352 hl (by decide) rfl (fun ls hl => ?_)
                                                refine lv_lload_n C.1 C.2.1 dX3_digest_354 rfl (lv_at hl 2 rfl) ?_
                                                refine lv_ldc2 (v := 31) C.1 C.2.1 C.2.2.2.1 (C.2.2.2.2.1 (.constantLong RX3 159 (31)) (by decide +kernel)) dX3_digest_355 ?_
                                                refine lv_lmul C.1 C.2.1 dX3_digest_358 ?_
                                                refine lv_iload C.1 C.2.1 dX3_digest_359 (lv_at hl 0 rfl) ?_
                                                refine lv_i2l C.1 C.2.1 dX3_digest_361 rfl ?_
                                                refine lv_ladd C.1 C.2.1 dX3_digest_362 ?_
                                                refine lv_lstore_n (lv' := [(2, .long (((((dShips S (dStorms S (dKeys S (s_d0 S) 10) (s_sc S)) c9) * 31) + (Int32.toInt64 ((s_at S) c9))) * 31) + (Int32.toInt64 (nI (s_lag S c9))))), (9, .int (nI (s_lag S c9))), (8, .int (nI 1)), (7, .int (nI 7)), (6, .ref q_of), (5, .ref q_of), (0, .ref (b 0)), (4, .int (nI c9))]) C.1 C.2.1 dX3_digest_363 rfl hl (by decide) rfl (fun ls hl => ?_)
                                                refine gInc (j := 1) (k := 2) (lv' := [(8, .int (nI 2)), (2, .long (((((dShips S (dStorms S (dKeys S (s_d0 S) 10) (s_sc S)) c9) * 31) + (Int32.toInt64 ((s_at S) c9))) * 31) + (Int32.toInt64 (nI (s_lag S c9))))), (9, .int (nI (s_lag S c9))), (7, .int (nI 7)), (6, .ref q_of), (5, .ref q_of), (0, .ref (b 0)), (4, .int (nI c9))]) C.1 C.2.1 dX3_digest_364 hl rfl (by decide) rfl (fun ls hl => ?_)
                                                refine lv_goto (tgt := 340) C.1 C.2.1 dX3_digest_367 (by decide) ?_
                                                refine lv_iload C.1 C.2.1 dX3_digest_340 (lv_at hl 0 rfl) ?_
                                                refine lv_iload C.1 C.2.1 dX3_digest_342 (lv_at hl 3 rfl) ?_
                                                refine gGeN (x := 2) (y := 7) (tgt := 370) C.1 C.2.1 (by omega) (by omega) dX3_digest_344 (by decide) (fun c_20 => ?_) (fun c_20 => ?_)
                                                · exact absurd c_20 (by omega)
                                                · refine lv_aload C.1 C.2.1 dX3_digest_347 (lv_at hl 4 rfl) ?_
                                                  refine lv_iload C.1 C.2.1 dX3_digest_349 (lv_at hl 0 rfl) ?_
                                                  refine gIald (v := (s_hd S) c9) (j := 2) C hO 12 rfl (by omega) (by decide) rfl dX3_digest_351 ?_
                                                  refine lv_istore (lv' := [(9, .int ((s_hd S) c9)), (8, .int (nI 2)), (2, .long (((((dShips S (dStorms S (dKeys S (s_d0 S) 10) (s_sc S)) c9) * 31) + (Int32.toInt64 ((s_at S) c9))) * 31) + (Int32.toInt64 (nI (s_lag S c9))))), (7, .int (nI 7)), (6, .ref q_of), (5, .ref q_of), (0, .ref (b 0)), (4, .int (nI c9))]) C.1 C.2.1 dX3_digest_352 hl (by decide) rfl (fun ls hl => ?_)
                                                  refine lv_lload_n C.1 C.2.1 dX3_digest_354 rfl (lv_at hl 2 rfl) ?_
                                                  refine lv_ldc2 (v := 31) C.1 C.2.1 C.2.2.2.1 (C.2.2.2.2.1 (.constantLong RX3 159 (31)) (by decide +kernel)) dX3_digest_355 ?_
                                                  refine lv_lmul C.1 C.2.1 dX3_digest_358 ?_
                                                  refine lv_iload C.1 C.2.1 dX3_digest_359 (lv_at hl 0 rfl) ?_
                                                  refine lv_i2l C.1 C.2.1 dX3_digest_361 rfl ?_
                                                  refine lv_ladd C.1 C.2.1 dX3_digest_362 ?_
                                                  refine lv_lstore_n (lv' := [(2, .long (((((((dShips S (dStorms S (dKeys S (s_d0 S) 10) (s_sc S)) c9) * 31) + (Int32.toInt64 ((s_at S) c9))) * 31) + (Int32.toInt64 (nI (s_lag S c9)))) * 31) + (Int32.toInt64 ((s_hd S) c9)))), (9, .int ((s_hd S) c9)), (8, .int (nI 2)), (7, .int (nI 7)), (6, .ref q_of), (5, .ref q_of), (0, .ref (b 0)), (4, .int (nI c9))]) C.1 C.2.1 dX3_digest_363 rfl hl (by decide) rfl (fun ls hl => ?_)
                                                  refine gInc (j := 2) (k := 2) (lv' := [(8, .int (nI 3)), (2, .long (((((((dShips S (dStorms S (dKeys S (s_d0 S) 10) (s_sc S)) c9) * 31) + (Int32.toInt64 ((s_at S) c9))) * 31) + (Int32.toInt64 (nI (s_lag S c9)))) * 31) + (Int32.toInt64 ((s_hd S) c9)))), (9, .int ((s_hd S) c9)), (7, .int (nI 7)), (6, .ref q_of), (5, .ref q_of), (0, .ref (b 0)), (4, .int (nI c9))]) C.1 C.2.1 dX3_digest_364 hl rfl (by decide) rfl (fun ls hl => ?_)
                                                  refine lv_goto (tgt := 340) C.1 C.2.1 dX3_digest_367 (by decide) ?_
                                                  refine lv_iload C.1 C.2.1 dX3_digest_340 (lv_at hl 0 rfl) ?_
                                                  refine lv_iload C.1 C.2.1 dX3_digest_342 (lv_at hl 3 rfl) ?_
                                                  refine gGeN (x := 3) (y := 7) (tgt := 370) C.1 C.2.1 (by omega) (by omega) dX3_digest_344 (by decide) (fun c_21 => ?_) (fun c_21 => ?_)
                                                  · exact absurd c_21 (by omega)
                                                  · refine lv_aload C.1 C.2.1 dX3_digest_347 (lv_at hl 4 rfl) ?_
                                                    refine lv_iload C.1 C.2.1 dX3_digest_349 (lv_at hl 0 rfl) ?_
                                                    refine gIald (v := (s_ms S) c9) (j := 3) C hO 12 rfl (by omega) (by decide) rfl dX3_digest_351 ?_
                                                    refine lv_istore (lv' := [(9, .int ((s_ms S) c9)), (8, .int (nI 3)), (2, .long (((((((dShips S (dStorms S (dKeys S (s_d0 S) 10) (s_sc S)) c9) * 31) + (Int32.toInt64 ((s_at S) c9))) * 31) + (Int32.toInt64 (nI (s_lag S c9)))) * 31) + (Int32.toInt64 ((s_hd S) c9)))), (7, .int (nI 7)), (6, .ref q_of), (5, .ref q_of), (0, .ref (b 0)), (4, .int (nI c9))]) C.1 C.2.1 dX3_digest_352 hl (by decide) rfl (fun ls hl => ?_)
                                                    refine lv_lload_n C.1 C.2.1 dX3_digest_354 rfl (lv_at hl 2 rfl) ?_
                                                    refine lv_ldc2 (v := 31) C.1 C.2.1 C.2.2.2.1 (C.2.2.2.2.1 (.constantLong RX3 159 (31)) (by decide +kernel)) dX3_digest_355 ?_
                                                    refine lv_lmul C.1 C.2.1 dX3_digest_358 ?_
                                                    refine lv_iload C.1 C.2.1 dX3_digest_359 (lv_at hl 0 rfl) ?_
                                                    refine lv_i2l C.1 C.2.1 dX3_digest_361 rfl ?_
                                                    refine lv_ladd C.1 C.2.1 dX3_digest_362 ?_
                                                    refine lv_lstore_n (lv' := [(2, .long (((((((((dShips S (dStorms S (dKeys S (s_d0 S) 10) (s_sc S)) c9) * 31) + (Int32.toInt64 ((s_at S) c9))) * 31) + (Int32.toInt64 (nI (s_lag S c9)))) * 31) + (Int32.toInt64 ((s_hd S) c9))) * 31) + (Int32.toInt64 ((s_ms S) c9)))), (9, .int ((s_ms S) c9)), (8, .int (nI 3)), (7, .int (nI 7)), (6, .ref q_of), (5, .ref q_of), (0, .ref (b 0)), (4, .int (nI c9))]) C.1 C.2.1 dX3_digest_363 rfl hl (by decide) rfl (fun ls hl => ?_)
                                                    refine gInc (j := 3) (k := 2) (lv' := [(8, .int (nI 4)), (2, .long (((((((((dShips S (dStorms S (dKeys S (s_d0 S) 10) (s_sc S)) c9) * 31) + (Int32.toInt64 ((s_at S) c9))) * 31) + (Int32.toInt64 (nI (s_lag S c9)))) * 31) + (Int32.toInt64 ((s_hd S) c9))) * 31) + (Int32.toInt64 ((s_ms S) c9)))), (9, .int ((s_ms S) c9)), (7, .int (nI 7)), (6, .ref q_of), (5, .ref q_of), (0, .ref (b 0)), (4, .int (nI c9))]) C.1 C.2.1 dX3_digest_364 hl rfl (by decide) rfl (fun ls hl => ?_)
                                                    refine lv_goto (tgt := 340) C.1 C.2.1 dX3_digest_367 (by decide) ?_
                                                    refine lv_iload C.1 C.2.1 dX3_digest_340 (lv_at hl 0 rfl) ?_
                                                    refine lv_iload C.1 C.2.1 dX3_digest_342 (lv_at hl 3 rfl) ?_
                                                    refine gGeN (x := 4) (y := 7) (tgt := 370) C.1 C.2.1 (by omega) (by omega) dX3_digest_344 (by decide) (fun c_22 => ?_) (fun c_22 => ?_)
                                                    · exact absurd c_22 (by omega)
                                                    · refine lv_aload C.1 C.2.1 dX3_digest_347 (lv_at hl 4 rfl) ?_
                                                      refine lv_iload C.1 C.2.1 dX3_digest_349 (lv_at hl 0 rfl) ?_
                                                      refine gIald (v := nI (s_ea S c9 0)) (j := 4) C hO 12 rfl (by omega) (by decide) rfl dX3_digest_351 ?_
                                                      refine lv_istore (lv' := [(9, .int (nI (s_ea S c9 0))), (8, .int (nI 4)), (2, .long (((((((((dShips S (dStorms S (dKeys S (s_d0 S) 10) (s_sc S)) c9) * 31) + (Int32.toInt64 ((s_at S) c9))) * 31) + (Int32.toInt64 (nI (s_lag S c9)))) * 31) + (Int32.toInt64 ((s_hd S) c9))) * 31) + (Int32.toInt64 ((s_ms S) c9)))), (7, .int (nI 7)), (6, .ref q_of), (5, .ref q_of), (0, .ref (b 0)), (4, .int (nI c9))]) C.1 C.2.1 dX3_digest_352 hl (by decide) rfl (fun ls hl => ?_)
                                                      refine lv_lload_n C.1 C.2.1 dX3_digest_354 rfl (lv_at hl 2 rfl) ?_
                                                      refine lv_ldc2 (v := 31) C.1 C.2.1 C.2.2.2.1 (C.2.2.2.2.1 (.constantLong RX3 159 (31)) (by decide +kernel)) dX3_digest_355 ?_
                                                      refine lv_lmul C.1 C.2.1 dX3_digest_358 ?_
                                                      refine lv_iload C.1 C.2.1 dX3_digest_359 (lv_at hl 0 rfl) ?_
                                                      refine lv_i2l C.1 C.2.1 dX3_digest_361 rfl ?_
                                                      refine lv_ladd C.1 C.2.1 dX3_digest_362 ?_
                                                      refine lv_lstore_n (lv' := [(2, .long (((((((((((dShips S (dStorms S (dKeys S (s_d0 S) 10) (s_sc S)) c9) * 31) + (Int32.toInt64 ((s_at S) c9))) * 31) + (Int32.toInt64 (nI (s_lag S c9)))) * 31) + (Int32.toInt64 ((s_hd S) c9))) * 31) + (Int32.toInt64 ((s_ms S) c9))) * 31) + (Int32.toInt64 (nI (s_ea S c9 0))))), (9, .int (nI (s_ea S c9 0))), (8, .int (nI 4)), (7, .int (nI 7)), (6, .ref q_of), (5, .ref q_of), (0, .ref (b 0)), (4, .int (nI c9))]) C.1 C.2.1 dX3_digest_363 rfl hl (by decide) rfl (fun ls hl => ?_)
                                                      refine gInc (j := 4) (k := 2) (lv' := [(8, .int (nI 5)), (2, .long (((((((((((dShips S (dStorms S (dKeys S (s_d0 S) 10) (s_sc S)) c9) * 31) + (Int32.toInt64 ((s_at S) c9))) * 31) + (Int32.toInt64 (nI (s_lag S c9)))) * 31) + (Int32.toInt64 ((s_hd S) c9))) * 31) + (Int32.toInt64 ((s_ms S) c9))) * 31) + (Int32.toInt64 (nI (s_ea S c9 0))))), (9, .int (nI (s_ea S c9 0))), (7, .int (nI 7)), (6, .ref q_of), (5, .ref q_of), (0, .ref (b 0)), (4, .int (nI c9))]) C.1 C.2.1 dX3_digest_364 hl rfl (by decide) rfl (fun ls hl => ?_)
                                                      refine lv_goto (tgt := 340) C.1 C.2.1 dX3_digest_367 (by decide) ?_
                                                      refine lv_iload C.1 C.2.1 dX3_digest_340 (lv_at hl 0 rfl) ?_
                                                      refine lv_iload C.1 C.2.1 dX3_digest_342 (lv_at hl 3 rfl) ?_
                                                      refine gGeN (x := 5) (y := 7) (tgt := 370) C.1 C.2.1 (by omega) (by omega) dX3_digest_344 (by decide) (fun c_23 => ?_) (fun c_23 => ?_)
                                                      · exact absurd c_23 (by omega)
                                                      · refine lv_aload C.1 C.2.1 dX3_digest_347 (lv_at hl 4 rfl) ?_
                                                        refine lv_iload C.1 C.2.1 dX3_digest_349 (lv_at hl 0 rfl) ?_
                                                        refine gIald (v := s_un S c9) (j := 5) C hO 12 rfl (by omega) (by decide) rfl dX3_digest_351 ?_
                                                        refine lv_istore (lv' := [(9, .int (s_un S c9)), (8, .int (nI 5)), (2, .long (((((((((((dShips S (dStorms S (dKeys S (s_d0 S) 10) (s_sc S)) c9) * 31) + (Int32.toInt64 ((s_at S) c9))) * 31) + (Int32.toInt64 (nI (s_lag S c9)))) * 31) + (Int32.toInt64 ((s_hd S) c9))) * 31) + (Int32.toInt64 ((s_ms S) c9))) * 31) + (Int32.toInt64 (nI (s_ea S c9 0))))), (7, .int (nI 7)), (6, .ref q_of), (5, .ref q_of), (0, .ref (b 0)), (4, .int (nI c9))]) C.1 C.2.1 dX3_digest_352 hl (by decide) rfl (fun ls hl => ?_)
                                                        refine lv_lload_n C.1 C.2.1 dX3_digest_354 rfl (lv_at hl 2 rfl) ?_
                                                        refine lv_ldc2 (v := 31) C.1 C.2.1 C.2.2.2.1 (C.2.2.2.2.1 (.constantLong RX3 159 (31)) (by decide +kernel)) dX3_digest_355 ?_
                                                        refine lv_lmul C.1 C.2.1 dX3_digest_358 ?_
                                                        refine lv_iload C.1 C.2.1 dX3_digest_359 (lv_at hl 0 rfl) ?_
                                                        refine lv_i2l C.1 C.2.1 dX3_digest_361 rfl ?_
                                                        refine lv_ladd C.1 C.2.1 dX3_digest_362 ?_
                                                        refine lv_lstore_n (lv' := [(2, .long (((((((((((((dShips S (dStorms S (dKeys S (s_d0 S) 10) (s_sc S)) c9) * 31) + (Int32.toInt64 ((s_at S) c9))) * 31) + (Int32.toInt64 (nI (s_lag S c9)))) * 31) + (Int32.toInt64 ((s_hd S) c9))) * 31) + (Int32.toInt64 ((s_ms S) c9))) * 31) + (Int32.toInt64 (nI (s_ea S c9 0)))) * 31) + (Int32.toInt64 (s_un S c9)))), (9, .int (s_un S c9)), (8, .int (nI 5)), (7, .int (nI 7)), (6, .ref q_of), (5, .ref q_of), (0, .ref (b 0)), (4, .int (nI c9))]) C.1 C.2.1 dX3_digest_363 rfl hl (by decide) rfl (fun ls hl => ?_)
                                                        refine gInc (j := 5) (k := 2) (lv' := [(8, .int (nI 6)), (2, .long (((((((((((((dShips S (dStorms S (dKeys S (s_d0 S) 10) (s_sc S)) c9) * 31) + (Int32.toInt64 ((s_at S) c9))) * 31) + (Int32.toInt64 (nI (s_lag S c9)))) * 31) + (Int32.toInt64 ((s_hd S) c9))) * 31) + (Int32.toInt64 ((s_ms S) c9))) * 31) + (Int32.toInt64 (nI (s_ea S c9 0)))) * 31) + (Int32.toInt64 (s_un S c9)))), (9, .int (s_un S c9)), (7, .int (nI 7)), (6, .ref q_of), (5, .ref q_of), (0, .ref (b 0)), (4, .int (nI c9))]) C.1 C.2.1 dX3_digest_364 hl rfl (by decide) rfl (fun ls hl => ?_)
                                                        refine lv_goto (tgt := 340) C.1 C.2.1 dX3_digest_367 (by decide) ?_
                                                        refine lv_iload C.1 C.2.1 dX3_digest_340 (lv_at hl 0 rfl) ?_
                                                        refine lv_iload C.1 C.2.1 dX3_digest_342 (lv_at hl 3 rfl) ?_
                                                        refine gGeN (x := 6) (y := 7) (tgt := 370) C.1 C.2.1 (by omega) (by omega) dX3_digest_344 (by decide) (fun c_24 => ?_) (fun c_24 => ?_)
                                                        · exact absurd c_24 (by omega)
                                                        · refine lv_aload C.1 C.2.1 dX3_digest_347 (lv_at hl 4 rfl) ?_
                                                          refine lv_iload C.1 C.2.1 dX3_digest_349 (lv_at hl 0 rfl) ?_
                                                          refine gIald (v := nI (s_wm S c9)) (j := 6) C hO 12 rfl (by omega) (by decide) rfl dX3_digest_351 ?_
                                                          refine lv_istore (lv' := [(9, .int (nI (s_wm S c9))), (8, .int (nI 6)), (2, .long (((((((((((((dShips S (dStorms S (dKeys S (s_d0 S) 10) (s_sc S)) c9) * 31) + (Int32.toInt64 ((s_at S) c9))) * 31) + (Int32.toInt64 (nI (s_lag S c9)))) * 31) + (Int32.toInt64 ((s_hd S) c9))) * 31) + (Int32.toInt64 ((s_ms S) c9))) * 31) + (Int32.toInt64 (nI (s_ea S c9 0)))) * 31) + (Int32.toInt64 (s_un S c9)))), (7, .int (nI 7)), (6, .ref q_of), (5, .ref q_of), (0, .ref (b 0)), (4, .int (nI c9))]) C.1 C.2.1 dX3_digest_352 hl (by decide) rfl (fun ls hl => ?_)
                                                          refine lv_lload_n C.1 C.2.1 dX3_digest_354 rfl (lv_at hl 2 rfl) ?_
                                                          refine lv_ldc2 (v := 31) C.1 C.2.1 C.2.2.2.1 (C.2.2.2.2.1 (.constantLong RX3 159 (31)) (by decide +kernel)) dX3_digest_355 ?_
                                                          refine lv_lmul C.1 C.2.1 dX3_digest_358 ?_
                                                          refine lv_iload C.1 C.2.1 dX3_digest_359 (lv_at hl 0 rfl) ?_
                                                          refine lv_i2l C.1 C.2.1 dX3_digest_361 rfl ?_
                                                          refine lv_ladd C.1 C.2.1 dX3_digest_362 ?_
                                                          refine lv_lstore_n (lv' := [(2, .long (((((((((((((((dShips S (dStorms S (dKeys S (s_d0 S) 10) (s_sc S)) c9) * 31) + (Int32.toInt64 ((s_at S) c9))) * 31) + (Int32.toInt64 (nI (s_lag S c9)))) * 31) + (Int32.toInt64 ((s_hd S) c9))) * 31) + (Int32.toInt64 ((s_ms S) c9))) * 31) + (Int32.toInt64 (nI (s_ea S c9 0)))) * 31) + (Int32.toInt64 (s_un S c9))) * 31) + (Int32.toInt64 (nI (s_wm S c9))))), (9, .int (nI (s_wm S c9))), (8, .int (nI 6)), (7, .int (nI 7)), (6, .ref q_of), (5, .ref q_of), (0, .ref (b 0)), (4, .int (nI c9))]) C.1 C.2.1 dX3_digest_363 rfl hl (by decide) rfl (fun ls hl => ?_)
                                                          refine gInc (j := 6) (k := 2) (lv' := [(8, .int (nI 7)), (2, .long (((((((((((((((dShips S (dStorms S (dKeys S (s_d0 S) 10) (s_sc S)) c9) * 31) + (Int32.toInt64 ((s_at S) c9))) * 31) + (Int32.toInt64 (nI (s_lag S c9)))) * 31) + (Int32.toInt64 ((s_hd S) c9))) * 31) + (Int32.toInt64 ((s_ms S) c9))) * 31) + (Int32.toInt64 (nI (s_ea S c9 0)))) * 31) + (Int32.toInt64 (s_un S c9))) * 31) + (Int32.toInt64 (nI (s_wm S c9))))), (9, .int (nI (s_wm S c9))), (7, .int (nI 7)), (6, .ref q_of), (5, .ref q_of), (0, .ref (b 0)), (4, .int (nI c9))]) C.1 C.2.1 dX3_digest_364 hl rfl (by decide) rfl (fun ls hl => ?_)
                                                          refine lv_goto (tgt := 340) C.1 C.2.1 dX3_digest_367 (by decide) ?_
                                                          refine lv_iload C.1 C.2.1 dX3_digest_340 (lv_at hl 0 rfl) ?_
                                                          refine lv_iload C.1 C.2.1 dX3_digest_342 (lv_at hl 3 rfl) ?_
                                                          refine gGeN (x := 7) (y := 7) (tgt := 370) C.1 C.2.1 (by omega) (by omega) dX3_digest_344 (by decide) (fun c_25 => ?_) (fun c_25 => ?_)
                                                          · have hO : gO E A s (mW E b S 0 (mkU (s_cm S) mk (s_n S)) ++ F) H locs := gO.drop (W0 := mW E b S 0 (mkU (s_cm S) mk (s_n S))) hO
                                                            refine gInc (j := c9) (k := 7) (lv' := [(4, .int (nI (c9 + 1))), (8, .int (nI 7)), (2, .long (((((((((((((((dShips S (dStorms S (dKeys S (s_d0 S) 10) (s_sc S)) c9) * 31) + (Int32.toInt64 ((s_at S) c9))) * 31) + (Int32.toInt64 (nI (s_lag S c9)))) * 31) + (Int32.toInt64 ((s_hd S) c9))) * 31) + (Int32.toInt64 ((s_ms S) c9))) * 31) + (Int32.toInt64 (nI (s_ea S c9 0)))) * 31) + (Int32.toInt64 (s_un S c9))) * 31) + (Int32.toInt64 (nI (s_wm S c9))))), (9, .int (nI (s_wm S c9))), (7, .int (nI 7)), (6, .ref q_of), (5, .ref q_of), (0, .ref (b 0))]) C.1 C.2.1 dX3_digest_370 hl rfl (by decide) rfl (fun ls hl => ?_)
                                                            refine lv_goto (tgt := 245) C.1 C.2.1 dX3_digest_373 (by decide) ?_
                                                            refine W.widen (k := 2 + 3 * (c9 + 1)) (n := 20 + 27 * (c9 + 1)) (by omega) (by omega) ?_
                                                            exact ih_lp26 (c9 + 1) (by omega) (by omega) _ _ hO _ (lv_sub hl [7, 2, 0] rfl)
                                                          · exact absurd c_25 (by omega)
                                      refine W.widen (k := 2 + 3 * 0) (n := 20 + 27 * 0) (by omega) (by omega) ?_
                                      exact lp26 (s_sh S + 1) 0 (by omega) (Nat.zero_le _) _ _ hO _ (lv_sub hl [1, 2, 0] rfl)
                                    · refine lv_lload_n C.1 C.2.1 dX3_digest_207 rfl (lv_at hl 1 rfl) ?_
                                      refine lv_ldc2 (v := 31) C.1 C.2.1 C.2.2.2.1 (C.2.2.2.2.1 (.constantLong RX3 159 (31)) (by decide +kernel)) dX3_digest_208 ?_
                                      refine lv_lmul C.1 C.2.1 dX3_digest_211 ?_
                                      refine lv_aload_n C.1 C.2.1 dX3_digest_212 rfl (lv_at hl 0 rfl) ?_
                                      refine gGet (v := .ref (b 6)) (ref := RX3) (Cn := RX3) (T := TX3) (N := 19) C iX3 hO 0 rfl rfl 12 (by decide) w26 (fun _ h9 => h9) rfl dX3_digest_213 ?_
                                      refine lv_iload C.1 C.2.1 dX3_digest_216 (lv_at hl 2 rfl) ?_
                                      refine gIald (v := (s_said S) c8) (j := c8) C hO 6 rfl (by omega) (by decide) rfl dX3_digest_218 ?_
                                      refine lv_i2l C.1 C.2.1 dX3_digest_219 rfl ?_
                                      refine lv_ladd C.1 C.2.1 dX3_digest_220 ?_
                                      refine lv_lstore_n (lv' := [(2, .long (((dStorms S (dKeys S (s_d0 S) 10) c8) * 31) + (Int32.toInt64 ((s_said S) c8)))), (0, .ref (b 0)), (4, .int (nI c8))]) C.1 C.2.1 dX3_digest_221 rfl hl (by decide) rfl (fun ls hl => ?_)
                                      refine lv_lload_n C.1 C.2.1 dX3_digest_222 rfl (lv_at hl 0 rfl) ?_
                                      refine lv_ldc2 (v := 31) C.1 C.2.1 C.2.2.2.1 (C.2.2.2.2.1 (.constantLong RX3 159 (31)) (by decide +kernel)) dX3_digest_223 ?_
                                      refine lv_lmul C.1 C.2.1 dX3_digest_226 ?_
                                      refine lv_aload_n C.1 C.2.1 dX3_digest_227 rfl (lv_at hl 1 rfl) ?_
                                      refine lv_iload C.1 C.2.1 dX3_digest_228 (lv_at hl 2 rfl) ?_
                                      refine gCall_i (As := [.int (nI c8)]) (rest := [.long ((((dStorms S (dKeys S (s_d0 S) 10) c8) * 31) + (Int32.toInt64 ((s_said S) c8))) * 31)]) C hO (c_X3_kept l E b S 0 (mkU (s_cm S) mk (s_n S)) F (nI c8) (by omega)) (cwV 1 C.2.2.2.2.1 gX3_digest_X3_kept rfl rfl rfl (by decide +kernel) ⟨(Nat.le_of_ble_eq_true rfl), (Nat.le_of_ble_eq_true rfl)⟩) (va_recv C.2.2.2.2.2.2.2.1.1 hO.1 (ci := 3) (q0 := 0) rfl rfl) rfl hl.1 rfl (Nat.le_of_ble_eq_true rfl) dX3_digest_230 ⟨(Nat.le_of_ble_eq_true rfl), (Nat.le_of_ble_eq_true rfl)⟩ (fun H locs hO => ?_)
                                      refine lv_i2l C.1 C.2.1 dX3_digest_233 rfl ?_
                                      refine lv_ladd C.1 C.2.1 dX3_digest_234 ?_
                                      refine lv_lstore_n (lv' := [(2, .long (((((dStorms S (dKeys S (s_d0 S) 10) c8) * 31) + (Int32.toInt64 ((s_said S) c8))) * 31) + (Int32.toInt64 (nI (cnt (s_sto S) (nI c8) (s_n S)))))), (0, .ref (b 0)), (4, .int (nI c8))]) C.1 C.2.1 dX3_digest_235 rfl hl (by decide) rfl (fun ls hl => ?_)
                                      refine gInc (j := c8) (k := 2) (lv' := [(4, .int (nI (c8 + 1))), (2, .long (((((dStorms S (dKeys S (s_d0 S) 10) c8) * 31) + (Int32.toInt64 ((s_said S) c8))) * 31) + (Int32.toInt64 (nI (cnt (s_sto S) (nI c8) (s_n S)))))), (0, .ref (b 0))]) C.1 C.2.1 dX3_digest_236 hl rfl (by decide) rfl (fun ls hl => ?_)
                                      refine lv_goto (tgt := 198) C.1 C.2.1 dX3_digest_239 (by decide) ?_
                                      refine W.widen (k := 2) (n := 20) (by omega) (by omega) ?_
                                      exact ih_lp25 (c8 + 1) (by omega) (by omega) _ _ hO _ (lv_sub hl [2, 1, 0] rfl)
                                exact lp25 (s_sc S + 1) 0 (by omega) (Nat.zero_le _) _ _ hO _ (lv_sub hl [1, 2, 0] rfl)
                              · refine lv_lload_n C.1 C.2.1 dX3_digest_147 rfl (lv_at hl 1 rfl) ?_
                                refine lv_ldc2 (v := 31) C.1 C.2.1 C.2.2.2.1 (C.2.2.2.2.1 (.constantLong RX3 159 (31)) (by decide +kernel)) dX3_digest_148 ?_
                                refine lv_lmul C.1 C.2.1 dX3_digest_151 ?_
                                refine lv_aload_n C.1 C.2.1 dX3_digest_152 rfl (lv_at hl 0 rfl) ?_
                                refine lv_iload C.1 C.2.1 dX3_digest_153 (lv_at hl 2 rfl) ?_
                                refine gCall_i (As := [.int (nI c7)]) (rest := [.long ((dKeys S (s_d0 S) c7) * 31)]) C hO (c_X3_latest l E b S 0 (mkU (s_cm S) mk (s_n S)) F (nI c7) (by omega)) (cwV 1 C.2.2.2.2.1 gX3_digest_X3_latest rfl rfl rfl (by decide +kernel) ⟨(Nat.le_of_ble_eq_true rfl), (Nat.le_of_ble_eq_true rfl)⟩) (va_recv C.2.2.2.2.2.2.2.1.1 hO.1 (ci := 3) (q0 := 0) rfl rfl) rfl hl.1 rfl (Nat.le_of_ble_eq_true rfl) dX3_digest_155 ⟨(Nat.le_of_ble_eq_true rfl), (Nat.le_of_ble_eq_true rfl)⟩ (fun H locs hO => ?_)
                                refine lv_i2l C.1 C.2.1 dX3_digest_158 rfl ?_
                                refine lv_ladd C.1 C.2.1 dX3_digest_159 ?_
                                refine lv_lstore_n (lv' := [(2, .long (((dKeys S (s_d0 S) c7) * 31) + (Int32.toInt64 (s_lo S (nI c7))))), (0, .ref (b 0)), (4, .int (nI c7))]) C.1 C.2.1 dX3_digest_160 rfl hl (by decide) rfl (fun ls hl => ?_)
                                refine lv_lload_n C.1 C.2.1 dX3_digest_161 rfl (lv_at hl 0 rfl) ?_
                                refine lv_ldc2 (v := 31) C.1 C.2.1 C.2.2.2.1 (C.2.2.2.2.1 (.constantLong RX3 159 (31)) (by decide +kernel)) dX3_digest_162 ?_
                                refine lv_lmul C.1 C.2.1 dX3_digest_165 ?_
                                refine lv_aload_n C.1 C.2.1 dX3_digest_166 rfl (lv_at hl 1 rfl) ?_
                                refine lv_iload C.1 C.2.1 dX3_digest_167 (lv_at hl 2 rfl) ?_
                                refine gCall_i (As := [.int (nI c7)]) (rest := [.long ((((dKeys S (s_d0 S) c7) * 31) + (Int32.toInt64 (s_lo S (nI c7)))) * 31)]) C hO (c_X3_worth l E b S 0 (mkU (s_cm S) mk (s_n S)) F (nI c7) (by omega)) (cwV 1 C.2.2.2.2.1 gX3_digest_X3_worth rfl rfl rfl (by decide +kernel) ⟨(Nat.le_of_ble_eq_true rfl), (Nat.le_of_ble_eq_true rfl)⟩) (va_recv C.2.2.2.2.2.2.2.1.1 hO.1 (ci := 3) (q0 := 0) rfl rfl) rfl hl.1 rfl (Nat.le_of_ble_eq_true rfl) dX3_digest_169 ⟨(Nat.le_of_ble_eq_true rfl), (Nat.le_of_ble_eq_true rfl)⟩ (fun H locs hO => ?_)
                                refine lv_i2l C.1 C.2.1 dX3_digest_172 rfl ?_
                                refine lv_ladd C.1 C.2.1 dX3_digest_173 ?_
                                refine lv_lstore_n (lv' := [(2, .long (((((dKeys S (s_d0 S) c7) * 31) + (Int32.toInt64 (s_lo S (nI c7)))) * 31) + (Int32.toInt64 (s_wv S (nI c7))))), (0, .ref (b 0)), (4, .int (nI c7))]) C.1 C.2.1 dX3_digest_174 rfl hl (by decide) rfl (fun ls hl => ?_)
                                refine lv_lload_n C.1 C.2.1 dX3_digest_175 rfl (lv_at hl 0 rfl) ?_
                                refine lv_ldc2 (v := 31) C.1 C.2.1 C.2.2.2.1 (C.2.2.2.2.1 (.constantLong RX3 159 (31)) (by decide +kernel)) dX3_digest_176 ?_
                                refine lv_lmul C.1 C.2.1 dX3_digest_179 ?_
                                refine lv_aload_n C.1 C.2.1 dX3_digest_180 rfl (lv_at hl 1 rfl) ?_
                                refine lv_iload C.1 C.2.1 dX3_digest_181 (lv_at hl 2 rfl) ?_
                                refine gCall_i (As := [.int (nI c7)]) (rest := [.long ((((((dKeys S (s_d0 S) c7) * 31) + (Int32.toInt64 (s_lo S (nI c7)))) * 31) + (Int32.toInt64 (s_wv S (nI c7)))) * 31)]) C hO (c_X3_count l E b S 0 (mkU (s_cm S) mk (s_n S)) F (nI c7) (by omega)) (cwV 1 C.2.2.2.2.1 gX3_digest_X3_count rfl rfl rfl (by decide +kernel) ⟨(Nat.le_of_ble_eq_true rfl), (Nat.le_of_ble_eq_true rfl)⟩) (va_recv C.2.2.2.2.2.2.2.1.1 hO.1 (ci := 3) (q0 := 0) rfl rfl) rfl hl.1 rfl (Nat.le_of_ble_eq_true rfl) dX3_digest_183 ⟨(Nat.le_of_ble_eq_true rfl), (Nat.le_of_ble_eq_true rfl)⟩ (fun H locs hO => ?_)
                                refine lv_i2l C.1 C.2.1 dX3_digest_186 rfl ?_
                                refine lv_ladd C.1 C.2.1 dX3_digest_187 ?_
                                refine lv_lstore_n (lv' := [(2, .long (((((((dKeys S (s_d0 S) c7) * 31) + (Int32.toInt64 (s_lo S (nI c7)))) * 31) + (Int32.toInt64 (s_wv S (nI c7)))) * 31) + (Int32.toInt64 (nI (cnt (s_key S) (nI c7) (s_n S)))))), (0, .ref (b 0)), (4, .int (nI c7))]) C.1 C.2.1 dX3_digest_188 rfl hl (by decide) rfl (fun ls hl => ?_)
                                refine gInc (j := c7) (k := 2) (lv' := [(4, .int (nI (c7 + 1))), (2, .long (((((((dKeys S (s_d0 S) c7) * 31) + (Int32.toInt64 (s_lo S (nI c7)))) * 31) + (Int32.toInt64 (s_wv S (nI c7)))) * 31) + (Int32.toInt64 (nI (cnt (s_key S) (nI c7) (s_n S)))))), (0, .ref (b 0))]) C.1 C.2.1 dX3_digest_189 hl rfl (by decide) rfl (fun ls hl => ?_)
                                refine lv_goto (tgt := 140) C.1 C.2.1 dX3_digest_192 (by decide) ?_
                                refine W.widen (k := 2) (n := 20) (by omega) (by omega) ?_
                                exact ih_lp24 (c7 + 1) (by omega) (by omega) _ _ hO _ (lv_sub hl [2, 1, 0] rfl)
                          refine W.widen (k := 2) (n := 20) (by omega) (by omega) ?_
                          exact lp24 11 0 (by omega) (by omega) _ _ hO _ (lv_sub hl [6, 2, 0] rfl)
                        · exact absurd c_13 (by omega)
  · have hz9 : ¬ s_on S = 0 := c_2
    refine lv_iconst (v := 1) C.1 C.2.1 dX3_digest_61 (by decide) ?_
    refine lv_goto (tgt := 66) C.1 C.2.1 dX3_digest_62 (by decide) ?_
    refine lv_eqi (y := if s_on S = 0 then 0 else 1) (by first | exact (if_pos hz9).symm | exact (if_neg hz9).symm) ?_
    refine gIast (j := 6) (ws' := (mW E b S 0 mk ++ ((q_all, .inl (eI E, 10, .inl (upd (upd (upd (upd (upd (upd (upd (fun _ => 0) 0 (s_hr S)) 1 (nI (s_n S))) 2 (s_nx S)) 3 (s_first S)) 4 (s_dr S)) 5 (nI (s_sc S))) 6 (if s_on S = 0 then 0 else 1)))) :: F))) C hO 12 rfl (by omega) (by decide) rfl dX3_digest_66 (fun H locs hO => ?_)
    refine lv_dup C.1 C.2.1 dX3_digest_67 rfl ?_
    refine lv_bipush (v := nI 7) C.1 C.2.1 dX3_digest_68 (by decide) ?_
    refine lv_aload_n C.1 C.2.1 dX3_digest_70 rfl (lv_at hl 0 rfl) ?_
    refine gGet (v := .int (nI (s_sh S))) (ref := RX3) (Cn := RX3) (T := TX3) (N := 19) C iX3 hO 0 rfl rfl 13 (by decide) w48 (fun _ h9 => h9) rfl dX3_digest_71 ?_
    refine gIast (j := 7) (ws' := (mW E b S 0 mk ++ ((q_all, .inl (eI E, 10, .inl (upd (upd (upd (upd (upd (upd (upd (upd (fun _ => 0) 0 (s_hr S)) 1 (nI (s_n S))) 2 (s_nx S)) 3 (s_first S)) 4 (s_dr S)) 5 (nI (s_sc S))) 6 (if s_on S = 0 then 0 else 1)) 7 (nI (s_sh S))))) :: F))) C hO 12 rfl (by omega) (by decide) rfl dX3_digest_74 (fun H locs hO => ?_)
    refine lv_dup C.1 C.2.1 dX3_digest_75 rfl ?_
    refine lv_bipush (v := nI 8) C.1 C.2.1 dX3_digest_76 (by decide) ?_
    refine lv_aload_n C.1 C.2.1 dX3_digest_78 rfl (lv_at hl 0 rfl) ?_
    refine gCall_i (As := []) (rest := [.int (nI 8), .ref q_all, .ref q_all]) C hO (c_X3_behind l E b S 0 mk ((q_all, .inl (eI E, 10, .inl (upd (upd (upd (upd (upd (upd (upd (upd (fun _ => 0) 0 (s_hr S)) 1 (nI (s_n S))) 2 (s_nx S)) 3 (s_first S)) 4 (s_dr S)) 5 (nI (s_sc S))) 6 (if s_on S = 0 then 0 else 1)) 7 (nI (s_sh S))))) :: F) (by omega) (by omega)) (cwV 0 C.2.2.2.2.1 gX3_digest_X3_behind rfl rfl rfl (by decide +kernel) ⟨(Nat.le_of_ble_eq_true rfl), (Nat.le_of_ble_eq_true rfl)⟩) (va_recv C.2.2.2.2.2.2.2.1.1 hO.1 (ci := 3) (q0 := 0) rfl rfl) rfl hl.1 rfl (Nat.le_of_ble_eq_true rfl) dX3_digest_79 ⟨(Nat.le_of_ble_eq_true rfl), (Nat.le_of_ble_eq_true rfl)⟩ (fun H locs hO => ?_)
    refine gIast (j := 8) (ws' := (mW E b S 0 mk ++ ((q_all, .inl (eI E, 10, .inl (upd (upd (upd (upd (upd (upd (upd (upd (upd (fun _ => 0) 0 (s_hr S)) 1 (nI (s_n S))) 2 (s_nx S)) 3 (s_first S)) 4 (s_dr S)) 5 (nI (s_sc S))) 6 (if s_on S = 0 then 0 else 1)) 7 (nI (s_sh S))) 8 (oI (s_fb S (s_sh S)))))) :: F))) C hO 12 rfl (by omega) (by decide) rfl dX3_digest_82 (fun H locs hO => ?_)
    refine lv_dup C.1 C.2.1 dX3_digest_83 rfl ?_
    refine lv_bipush (v := nI 9) C.1 C.2.1 dX3_digest_84 (by decide) ?_
    refine lv_aload_n C.1 C.2.1 dX3_digest_86 rfl (lv_at hl 0 rfl) ?_
    refine gCall_i (As := []) (rest := [.int (nI 9), .ref q_all, .ref q_all]) C hO (c_X3_mark l E b S 0 mk ((q_all, .inl (eI E, 10, .inl (upd (upd (upd (upd (upd (upd (upd (upd (upd (fun _ => 0) 0 (s_hr S)) 1 (nI (s_n S))) 2 (s_nx S)) 3 (s_first S)) 4 (s_dr S)) 5 (nI (s_sc S))) 6 (if s_on S = 0 then 0 else 1)) 7 (nI (s_sh S))) 8 (oI (s_fb S (s_sh S)))))) :: F) (by omega) (by omega) hok9) (cwV 0 C.2.2.2.2.1 gX3_digest_X3_mark rfl rfl rfl (by decide +kernel) ⟨(Nat.le_of_ble_eq_true rfl), (Nat.le_of_ble_eq_true rfl)⟩) (va_recv C.2.2.2.2.2.2.2.1.1 hO.1 (ci := 3) (q0 := 0) rfl rfl) rfl hl.1 rfl (Nat.le_of_ble_eq_true rfl) dX3_digest_87 ⟨(Nat.le_of_ble_eq_true rfl), (Nat.le_of_ble_eq_true rfl)⟩ (fun H locs hO => ?_)
    have hO : gO E A s (mW E b S 0 (mkU (s_cm S) mk (s_n S)) ++ ((q_all, .inl (eI E, 10, .inl (upd (upd (upd (upd (upd (upd (upd (upd (upd (fun _ => 0) 0 (s_hr S)) 1 (nI (s_n S))) 2 (s_nx S)) 3 (s_first S)) 4 (s_dr S)) 5 (nI (s_sc S))) 6 (if s_on S = 0 then 0 else 1)) 7 (nI (s_sh S))) 8 (oI (s_fb S (s_sh S)))))) :: F)) H locs := hO
    refine gIast (j := 9) (ws' := (mW E b S 0 (mkU (s_cm S) mk (s_n S)) ++ ((q_all, .inl (eI E, 10, .inl (upd (upd (upd (upd (upd (upd (upd (upd (upd (upd (fun _ => 0) 0 (s_hr S)) 1 (nI (s_n S))) 2 (s_nx S)) 3 (s_first S)) 4 (s_dr S)) 5 (nI (s_sc S))) 6 (if s_on S = 0 then 0 else 1)) 7 (nI (s_sh S))) 8 (oI (s_fb S (s_sh S)))) 9 (nI (cm (s_cm S) 0 (s_n S)))))) :: F))) C hO 12 rfl (by omega) (by decide) rfl dX3_digest_90 (fun H locs hO => ?_)
    refine lv_astore_n (lv' := [(1, .ref q_all), (0, .ref (b 0))]) C.1 C.2.1 dX3_digest_91 rfl hl (by decide) rfl (fun ls hl => ?_)
    refine lv_ldc2 (v := 1787) C.1 C.2.1 C.2.2.2.1 (C.2.2.2.2.1 (.constantLong RX3 157 (1787)) (by decide +kernel)) dX3_digest_92 ?_
    refine lv_lstore_n (lv' := [(2, .long 1787), (1, .ref q_all), (0, .ref (b 0))]) C.1 C.2.1 dX3_digest_95 rfl hl (by decide) rfl (fun ls hl => ?_)
    refine lv_aload_n C.1 C.2.1 dX3_digest_96 rfl (lv_at hl 1 rfl) ?_
    refine lv_astore (lv' := [(4, .ref q_all), (2, .long 1787), (1, .ref q_all), (0, .ref (b 0))]) C.1 C.2.1 dX3_digest_97 hl (by decide) rfl (fun ls hl => ?_)
    refine lv_aload C.1 C.2.1 dX3_digest_99 (lv_at hl 0 rfl) ?_
    refine va_alen (v := nI 10) C.1 C.2.1 C.2.2.2.2.2.2.2.1.1 hO.1 12 0 rfl rfl rfl dX3_digest_101 ?_
    refine lv_istore (lv' := [(5, .int (nI 10)), (4, .ref q_all), (2, .long 1787), (1, .ref q_all), (0, .ref (b 0))]) C.1 C.2.1 dX3_digest_102 hl (by decide) rfl (fun ls hl => ?_)
    refine lv_iconst (v := 0) C.1 C.2.1 dX3_digest_104 (by decide) ?_
    refine lv_istore (lv' := [(6, .int 0), (5, .int (nI 10)), (4, .ref q_all), (2, .long 1787), (1, .ref q_all), (0, .ref (b 0))]) C.1 C.2.1 dX3_digest_105 hl (by decide) rfl (fun ls hl => ?_)
    refine lv_iload C.1 C.2.1 dX3_digest_107 (lv_at hl 0 rfl) ?_
    refine lv_iload C.1 C.2.1 dX3_digest_109 (lv_at hl 1 rfl) ?_
    refine gGeN (x := 0) (y := 10) (tgt := 137) C.1 C.2.1 (by omega) (by omega) dX3_digest_111 (by decide) (fun c_26 => ?_) (fun c_26 => ?_)
    · exact absurd c_26 (by omega)
    · refine lv_aload C.1 C.2.1 dX3_digest_114 (lv_at hl 2 rfl) ?_
      refine lv_iload C.1 C.2.1 dX3_digest_116 (lv_at hl 0 rfl) ?_
      refine gIald (v := (s_hr S)) (j := 0) C hO 12 rfl (by omega) (by decide) rfl dX3_digest_118 ?_
      refine lv_istore (lv' := [(7, .int (s_hr S)), (6, .int 0), (5, .int (nI 10)), (4, .ref q_all), (2, .long 1787), (1, .ref q_all), (0, .ref (b 0))]) C.1 C.2.1 dX3_digest_119 hl (by decide) rfl (fun ls hl => ?_)
      refine lv_lload_n C.1 C.2.1 dX3_digest_121 rfl (lv_at hl 4 rfl) ?_
      refine lv_ldc2 (v := 31) C.1 C.2.1 C.2.2.2.1 (C.2.2.2.2.1 (.constantLong RX3 159 (31)) (by decide +kernel)) dX3_digest_122 ?_
      refine lv_lmul C.1 C.2.1 dX3_digest_125 ?_
      refine lv_iload C.1 C.2.1 dX3_digest_126 (lv_at hl 0 rfl) ?_
      refine lv_i2l C.1 C.2.1 dX3_digest_128 rfl ?_
      refine lv_ladd C.1 C.2.1 dX3_digest_129 ?_
      refine lv_lstore_n (lv' := [(2, .long ((1787 * 31) + (Int32.toInt64 (s_hr S)))), (7, .int (s_hr S)), (6, .int 0), (5, .int (nI 10)), (4, .ref q_all), (1, .ref q_all), (0, .ref (b 0))]) C.1 C.2.1 dX3_digest_130 rfl hl (by decide) rfl (fun ls hl => ?_)
      refine gInc (j := 0) (k := 2) (lv' := [(6, .int (nI 1)), (2, .long ((1787 * 31) + (Int32.toInt64 (s_hr S)))), (7, .int (s_hr S)), (5, .int (nI 10)), (4, .ref q_all), (1, .ref q_all), (0, .ref (b 0))]) C.1 C.2.1 dX3_digest_131 hl rfl (by decide) rfl (fun ls hl => ?_)
      refine lv_goto (tgt := 107) C.1 C.2.1 dX3_digest_134 (by decide) ?_
      refine lv_iload C.1 C.2.1 dX3_digest_107 (lv_at hl 0 rfl) ?_
      refine lv_iload C.1 C.2.1 dX3_digest_109 (lv_at hl 3 rfl) ?_
      refine gGeN (x := 1) (y := 10) (tgt := 137) C.1 C.2.1 (by omega) (by omega) dX3_digest_111 (by decide) (fun c_27 => ?_) (fun c_27 => ?_)
      · exact absurd c_27 (by omega)
      · refine lv_aload C.1 C.2.1 dX3_digest_114 (lv_at hl 4 rfl) ?_
        refine lv_iload C.1 C.2.1 dX3_digest_116 (lv_at hl 0 rfl) ?_
        refine gIald (v := nI (s_n S)) (j := 1) C hO 12 rfl (by omega) (by decide) rfl dX3_digest_118 ?_
        refine lv_istore (lv' := [(7, .int (nI (s_n S))), (6, .int (nI 1)), (2, .long ((1787 * 31) + (Int32.toInt64 (s_hr S)))), (5, .int (nI 10)), (4, .ref q_all), (1, .ref q_all), (0, .ref (b 0))]) C.1 C.2.1 dX3_digest_119 hl (by decide) rfl (fun ls hl => ?_)
        refine lv_lload_n C.1 C.2.1 dX3_digest_121 rfl (lv_at hl 2 rfl) ?_
        refine lv_ldc2 (v := 31) C.1 C.2.1 C.2.2.2.1 (C.2.2.2.2.1 (.constantLong RX3 159 (31)) (by decide +kernel)) dX3_digest_122 ?_
        refine lv_lmul C.1 C.2.1 dX3_digest_125 ?_
        refine lv_iload C.1 C.2.1 dX3_digest_126 (lv_at hl 0 rfl) ?_
        refine lv_i2l C.1 C.2.1 dX3_digest_128 rfl ?_
        refine lv_ladd C.1 C.2.1 dX3_digest_129 ?_
        refine lv_lstore_n (lv' := [(2, .long ((((1787 * 31) + (Int32.toInt64 (s_hr S))) * 31) + (Int32.toInt64 (nI (s_n S))))), (7, .int (nI (s_n S))), (6, .int (nI 1)), (5, .int (nI 10)), (4, .ref q_all), (1, .ref q_all), (0, .ref (b 0))]) C.1 C.2.1 dX3_digest_130 rfl hl (by decide) rfl (fun ls hl => ?_)
        refine gInc (j := 1) (k := 2) (lv' := [(6, .int (nI 2)), (2, .long ((((1787 * 31) + (Int32.toInt64 (s_hr S))) * 31) + (Int32.toInt64 (nI (s_n S))))), (7, .int (nI (s_n S))), (5, .int (nI 10)), (4, .ref q_all), (1, .ref q_all), (0, .ref (b 0))]) C.1 C.2.1 dX3_digest_131 hl rfl (by decide) rfl (fun ls hl => ?_)
        refine lv_goto (tgt := 107) C.1 C.2.1 dX3_digest_134 (by decide) ?_
        refine lv_iload C.1 C.2.1 dX3_digest_107 (lv_at hl 0 rfl) ?_
        refine lv_iload C.1 C.2.1 dX3_digest_109 (lv_at hl 3 rfl) ?_
        refine gGeN (x := 2) (y := 10) (tgt := 137) C.1 C.2.1 (by omega) (by omega) dX3_digest_111 (by decide) (fun c_28 => ?_) (fun c_28 => ?_)
        · exact absurd c_28 (by omega)
        · refine lv_aload C.1 C.2.1 dX3_digest_114 (lv_at hl 4 rfl) ?_
          refine lv_iload C.1 C.2.1 dX3_digest_116 (lv_at hl 0 rfl) ?_
          refine gIald (v := (s_nx S)) (j := 2) C hO 12 rfl (by omega) (by decide) rfl dX3_digest_118 ?_
          refine lv_istore (lv' := [(7, .int (s_nx S)), (6, .int (nI 2)), (2, .long ((((1787 * 31) + (Int32.toInt64 (s_hr S))) * 31) + (Int32.toInt64 (nI (s_n S))))), (5, .int (nI 10)), (4, .ref q_all), (1, .ref q_all), (0, .ref (b 0))]) C.1 C.2.1 dX3_digest_119 hl (by decide) rfl (fun ls hl => ?_)
          refine lv_lload_n C.1 C.2.1 dX3_digest_121 rfl (lv_at hl 2 rfl) ?_
          refine lv_ldc2 (v := 31) C.1 C.2.1 C.2.2.2.1 (C.2.2.2.2.1 (.constantLong RX3 159 (31)) (by decide +kernel)) dX3_digest_122 ?_
          refine lv_lmul C.1 C.2.1 dX3_digest_125 ?_
          refine lv_iload C.1 C.2.1 dX3_digest_126 (lv_at hl 0 rfl) ?_
          refine lv_i2l C.1 C.2.1 dX3_digest_128 rfl ?_
          refine lv_ladd C.1 C.2.1 dX3_digest_129 ?_
          refine lv_lstore_n (lv' := [(2, .long ((((((1787 * 31) + (Int32.toInt64 (s_hr S))) * 31) + (Int32.toInt64 (nI (s_n S)))) * 31) + (Int32.toInt64 (s_nx S)))), (7, .int (s_nx S)), (6, .int (nI 2)), (5, .int (nI 10)), (4, .ref q_all), (1, .ref q_all), (0, .ref (b 0))]) C.1 C.2.1 dX3_digest_130 rfl hl (by decide) rfl (fun ls hl => ?_)
          refine gInc (j := 2) (k := 2) (lv' := [(6, .int (nI 3)), (2, .long ((((((1787 * 31) + (Int32.toInt64 (s_hr S))) * 31) + (Int32.toInt64 (nI (s_n S)))) * 31) + (Int32.toInt64 (s_nx S)))), (7, .int (s_nx S)), (5, .int (nI 10)), (4, .ref q_all), (1, .ref q_all), (0, .ref (b 0))]) C.1 C.2.1 dX3_digest_131 hl rfl (by decide) rfl (fun ls hl => ?_)
          refine lv_goto (tgt := 107) C.1 C.2.1 dX3_digest_134 (by decide) ?_
          refine lv_iload C.1 C.2.1 dX3_digest_107 (lv_at hl 0 rfl) ?_
          refine lv_iload C.1 C.2.1 dX3_digest_109 (lv_at hl 3 rfl) ?_
          refine gGeN (x := 3) (y := 10) (tgt := 137) C.1 C.2.1 (by omega) (by omega) dX3_digest_111 (by decide) (fun c_29 => ?_) (fun c_29 => ?_)
          · exact absurd c_29 (by omega)
          · refine lv_aload C.1 C.2.1 dX3_digest_114 (lv_at hl 4 rfl) ?_
            refine lv_iload C.1 C.2.1 dX3_digest_116 (lv_at hl 0 rfl) ?_
            refine gIald (v := s_first S) (j := 3) C hO 12 rfl (by omega) (by decide) rfl dX3_digest_118 ?_
            refine lv_istore (lv' := [(7, .int (s_first S)), (6, .int (nI 3)), (2, .long ((((((1787 * 31) + (Int32.toInt64 (s_hr S))) * 31) + (Int32.toInt64 (nI (s_n S)))) * 31) + (Int32.toInt64 (s_nx S)))), (5, .int (nI 10)), (4, .ref q_all), (1, .ref q_all), (0, .ref (b 0))]) C.1 C.2.1 dX3_digest_119 hl (by decide) rfl (fun ls hl => ?_)
            refine lv_lload_n C.1 C.2.1 dX3_digest_121 rfl (lv_at hl 2 rfl) ?_
            refine lv_ldc2 (v := 31) C.1 C.2.1 C.2.2.2.1 (C.2.2.2.2.1 (.constantLong RX3 159 (31)) (by decide +kernel)) dX3_digest_122 ?_
            refine lv_lmul C.1 C.2.1 dX3_digest_125 ?_
            refine lv_iload C.1 C.2.1 dX3_digest_126 (lv_at hl 0 rfl) ?_
            refine lv_i2l C.1 C.2.1 dX3_digest_128 rfl ?_
            refine lv_ladd C.1 C.2.1 dX3_digest_129 ?_
            refine lv_lstore_n (lv' := [(2, .long ((((((((1787 * 31) + (Int32.toInt64 (s_hr S))) * 31) + (Int32.toInt64 (nI (s_n S)))) * 31) + (Int32.toInt64 (s_nx S))) * 31) + (Int32.toInt64 (s_first S)))), (7, .int (s_first S)), (6, .int (nI 3)), (5, .int (nI 10)), (4, .ref q_all), (1, .ref q_all), (0, .ref (b 0))]) C.1 C.2.1 dX3_digest_130 rfl hl (by decide) rfl (fun ls hl => ?_)
            refine gInc (j := 3) (k := 2) (lv' := [(6, .int (nI 4)), (2, .long ((((((((1787 * 31) + (Int32.toInt64 (s_hr S))) * 31) + (Int32.toInt64 (nI (s_n S)))) * 31) + (Int32.toInt64 (s_nx S))) * 31) + (Int32.toInt64 (s_first S)))), (7, .int (s_first S)), (5, .int (nI 10)), (4, .ref q_all), (1, .ref q_all), (0, .ref (b 0))]) C.1 C.2.1 dX3_digest_131 hl rfl (by decide) rfl (fun ls hl => ?_)
            refine lv_goto (tgt := 107) C.1 C.2.1 dX3_digest_134 (by decide) ?_
            refine lv_iload C.1 C.2.1 dX3_digest_107 (lv_at hl 0 rfl) ?_
            refine lv_iload C.1 C.2.1 dX3_digest_109 (lv_at hl 3 rfl) ?_
            refine gGeN (x := 4) (y := 10) (tgt := 137) C.1 C.2.1 (by omega) (by omega) dX3_digest_111 (by decide) (fun c_30 => ?_) (fun c_30 => ?_)
            · exact absurd c_30 (by omega)
            · refine lv_aload C.1 C.2.1 dX3_digest_114 (lv_at hl 4 rfl) ?_
              refine lv_iload C.1 C.2.1 dX3_digest_116 (lv_at hl 0 rfl) ?_
              refine gIald (v := (s_dr S)) (j := 4) C hO 12 rfl (by omega) (by decide) rfl dX3_digest_118 ?_
              refine lv_istore (lv' := [(7, .int (s_dr S)), (6, .int (nI 4)), (2, .long ((((((((1787 * 31) + (Int32.toInt64 (s_hr S))) * 31) + (Int32.toInt64 (nI (s_n S)))) * 31) + (Int32.toInt64 (s_nx S))) * 31) + (Int32.toInt64 (s_first S)))), (5, .int (nI 10)), (4, .ref q_all), (1, .ref q_all), (0, .ref (b 0))]) C.1 C.2.1 dX3_digest_119 hl (by decide) rfl (fun ls hl => ?_)
              refine lv_lload_n C.1 C.2.1 dX3_digest_121 rfl (lv_at hl 2 rfl) ?_
              refine lv_ldc2 (v := 31) C.1 C.2.1 C.2.2.2.1 (C.2.2.2.2.1 (.constantLong RX3 159 (31)) (by decide +kernel)) dX3_digest_122 ?_
              refine lv_lmul C.1 C.2.1 dX3_digest_125 ?_
              refine lv_iload C.1 C.2.1 dX3_digest_126 (lv_at hl 0 rfl) ?_
              refine lv_i2l C.1 C.2.1 dX3_digest_128 rfl ?_
              refine lv_ladd C.1 C.2.1 dX3_digest_129 ?_
              refine lv_lstore_n (lv' := [(2, .long ((((((((((1787 * 31) + (Int32.toInt64 (s_hr S))) * 31) + (Int32.toInt64 (nI (s_n S)))) * 31) + (Int32.toInt64 (s_nx S))) * 31) + (Int32.toInt64 (s_first S))) * 31) + (Int32.toInt64 (s_dr S)))), (7, .int (s_dr S)), (6, .int (nI 4)), (5, .int (nI 10)), (4, .ref q_all), (1, .ref q_all), (0, .ref (b 0))]) C.1 C.2.1 dX3_digest_130 rfl hl (by decide) rfl (fun ls hl => ?_)
              refine gInc (j := 4) (k := 2) (lv' := [(6, .int (nI 5)), (2, .long ((((((((((1787 * 31) + (Int32.toInt64 (s_hr S))) * 31) + (Int32.toInt64 (nI (s_n S)))) * 31) + (Int32.toInt64 (s_nx S))) * 31) + (Int32.toInt64 (s_first S))) * 31) + (Int32.toInt64 (s_dr S)))), (7, .int (s_dr S)), (5, .int (nI 10)), (4, .ref q_all), (1, .ref q_all), (0, .ref (b 0))]) C.1 C.2.1 dX3_digest_131 hl rfl (by decide) rfl (fun ls hl => ?_)
              refine lv_goto (tgt := 107) C.1 C.2.1 dX3_digest_134 (by decide) ?_
              refine lv_iload C.1 C.2.1 dX3_digest_107 (lv_at hl 0 rfl) ?_
              refine lv_iload C.1 C.2.1 dX3_digest_109 (lv_at hl 3 rfl) ?_
              refine gGeN (x := 5) (y := 10) (tgt := 137) C.1 C.2.1 (by omega) (by omega) dX3_digest_111 (by decide) (fun c_31 => ?_) (fun c_31 => ?_)
              · exact absurd c_31 (by omega)
              · refine lv_aload C.1 C.2.1 dX3_digest_114 (lv_at hl 4 rfl) ?_
                refine lv_iload C.1 C.2.1 dX3_digest_116 (lv_at hl 0 rfl) ?_
                refine gIald (v := nI (s_sc S)) (j := 5) C hO 12 rfl (by omega) (by decide) rfl dX3_digest_118 ?_
                refine lv_istore (lv' := [(7, .int (nI (s_sc S))), (6, .int (nI 5)), (2, .long ((((((((((1787 * 31) + (Int32.toInt64 (s_hr S))) * 31) + (Int32.toInt64 (nI (s_n S)))) * 31) + (Int32.toInt64 (s_nx S))) * 31) + (Int32.toInt64 (s_first S))) * 31) + (Int32.toInt64 (s_dr S)))), (5, .int (nI 10)), (4, .ref q_all), (1, .ref q_all), (0, .ref (b 0))]) C.1 C.2.1 dX3_digest_119 hl (by decide) rfl (fun ls hl => ?_)
                refine lv_lload_n C.1 C.2.1 dX3_digest_121 rfl (lv_at hl 2 rfl) ?_
                refine lv_ldc2 (v := 31) C.1 C.2.1 C.2.2.2.1 (C.2.2.2.2.1 (.constantLong RX3 159 (31)) (by decide +kernel)) dX3_digest_122 ?_
                refine lv_lmul C.1 C.2.1 dX3_digest_125 ?_
                refine lv_iload C.1 C.2.1 dX3_digest_126 (lv_at hl 0 rfl) ?_
                refine lv_i2l C.1 C.2.1 dX3_digest_128 rfl ?_
                refine lv_ladd C.1 C.2.1 dX3_digest_129 ?_
                refine lv_lstore_n (lv' := [(2, .long ((((((((((((1787 * 31) + (Int32.toInt64 (s_hr S))) * 31) + (Int32.toInt64 (nI (s_n S)))) * 31) + (Int32.toInt64 (s_nx S))) * 31) + (Int32.toInt64 (s_first S))) * 31) + (Int32.toInt64 (s_dr S))) * 31) + (Int32.toInt64 (nI (s_sc S))))), (7, .int (nI (s_sc S))), (6, .int (nI 5)), (5, .int (nI 10)), (4, .ref q_all), (1, .ref q_all), (0, .ref (b 0))]) C.1 C.2.1 dX3_digest_130 rfl hl (by decide) rfl (fun ls hl => ?_)
                refine gInc (j := 5) (k := 2) (lv' := [(6, .int (nI 6)), (2, .long ((((((((((((1787 * 31) + (Int32.toInt64 (s_hr S))) * 31) + (Int32.toInt64 (nI (s_n S)))) * 31) + (Int32.toInt64 (s_nx S))) * 31) + (Int32.toInt64 (s_first S))) * 31) + (Int32.toInt64 (s_dr S))) * 31) + (Int32.toInt64 (nI (s_sc S))))), (7, .int (nI (s_sc S))), (5, .int (nI 10)), (4, .ref q_all), (1, .ref q_all), (0, .ref (b 0))]) C.1 C.2.1 dX3_digest_131 hl rfl (by decide) rfl (fun ls hl => ?_)
                refine lv_goto (tgt := 107) C.1 C.2.1 dX3_digest_134 (by decide) ?_
                refine lv_iload C.1 C.2.1 dX3_digest_107 (lv_at hl 0 rfl) ?_
                refine lv_iload C.1 C.2.1 dX3_digest_109 (lv_at hl 3 rfl) ?_
                refine gGeN (x := 6) (y := 10) (tgt := 137) C.1 C.2.1 (by omega) (by omega) dX3_digest_111 (by decide) (fun c_32 => ?_) (fun c_32 => ?_)
                · exact absurd c_32 (by omega)
                · refine lv_aload C.1 C.2.1 dX3_digest_114 (lv_at hl 4 rfl) ?_
                  refine lv_iload C.1 C.2.1 dX3_digest_116 (lv_at hl 0 rfl) ?_
                  refine gIald (v := if s_on S = 0 then 0 else 1) (j := 6) C hO 12 rfl (by omega) (by decide) rfl dX3_digest_118 ?_
                  refine lv_istore (lv' := [(7, .int (if s_on S = 0 then 0 else 1)), (6, .int (nI 6)), (2, .long ((((((((((((1787 * 31) + (Int32.toInt64 (s_hr S))) * 31) + (Int32.toInt64 (nI (s_n S)))) * 31) + (Int32.toInt64 (s_nx S))) * 31) + (Int32.toInt64 (s_first S))) * 31) + (Int32.toInt64 (s_dr S))) * 31) + (Int32.toInt64 (nI (s_sc S))))), (5, .int (nI 10)), (4, .ref q_all), (1, .ref q_all), (0, .ref (b 0))]) C.1 C.2.1 dX3_digest_119 hl (by decide) rfl (fun ls hl => ?_)
                  refine lv_lload_n C.1 C.2.1 dX3_digest_121 rfl (lv_at hl 2 rfl) ?_
                  refine lv_ldc2 (v := 31) C.1 C.2.1 C.2.2.2.1 (C.2.2.2.2.1 (.constantLong RX3 159 (31)) (by decide +kernel)) dX3_digest_122 ?_
                  refine lv_lmul C.1 C.2.1 dX3_digest_125 ?_
                  refine lv_iload C.1 C.2.1 dX3_digest_126 (lv_at hl 0 rfl) ?_
                  refine lv_i2l C.1 C.2.1 dX3_digest_128 rfl ?_
                  refine lv_ladd C.1 C.2.1 dX3_digest_129 ?_
                  refine lv_lstore_n (lv' := [(2, .long ((((((((((((((1787 * 31) + (Int32.toInt64 (s_hr S))) * 31) + (Int32.toInt64 (nI (s_n S)))) * 31) + (Int32.toInt64 (s_nx S))) * 31) + (Int32.toInt64 (s_first S))) * 31) + (Int32.toInt64 (s_dr S))) * 31) + (Int32.toInt64 (nI (s_sc S)))) * 31) + (Int32.toInt64 (if s_on S = 0 then 0 else 1)))), (7, .int (if s_on S = 0 then 0 else 1)), (6, .int (nI 6)), (5, .int (nI 10)), (4, .ref q_all), (1, .ref q_all), (0, .ref (b 0))]) C.1 C.2.1 dX3_digest_130 rfl hl (by decide) rfl (fun ls hl => ?_)
                  refine gInc (j := 6) (k := 2) (lv' := [(6, .int (nI 7)), (2, .long ((((((((((((((1787 * 31) + (Int32.toInt64 (s_hr S))) * 31) + (Int32.toInt64 (nI (s_n S)))) * 31) + (Int32.toInt64 (s_nx S))) * 31) + (Int32.toInt64 (s_first S))) * 31) + (Int32.toInt64 (s_dr S))) * 31) + (Int32.toInt64 (nI (s_sc S)))) * 31) + (Int32.toInt64 (if s_on S = 0 then 0 else 1)))), (7, .int (if s_on S = 0 then 0 else 1)), (5, .int (nI 10)), (4, .ref q_all), (1, .ref q_all), (0, .ref (b 0))]) C.1 C.2.1 dX3_digest_131 hl rfl (by decide) rfl (fun ls hl => ?_)
                  refine lv_goto (tgt := 107) C.1 C.2.1 dX3_digest_134 (by decide) ?_
                  refine lv_iload C.1 C.2.1 dX3_digest_107 (lv_at hl 0 rfl) ?_
                  refine lv_iload C.1 C.2.1 dX3_digest_109 (lv_at hl 3 rfl) ?_
                  refine gGeN (x := 7) (y := 10) (tgt := 137) C.1 C.2.1 (by omega) (by omega) dX3_digest_111 (by decide) (fun c_33 => ?_) (fun c_33 => ?_)
                  · exact absurd c_33 (by omega)
                  · refine lv_aload C.1 C.2.1 dX3_digest_114 (lv_at hl 4 rfl) ?_
                    refine lv_iload C.1 C.2.1 dX3_digest_116 (lv_at hl 0 rfl) ?_
                    refine gIald (v := nI (s_sh S)) (j := 7) C hO 12 rfl (by omega) (by decide) rfl dX3_digest_118 ?_
                    refine lv_istore (lv' := [(7, .int (nI (s_sh S))), (6, .int (nI 7)), (2, .long ((((((((((((((1787 * 31) + (Int32.toInt64 (s_hr S))) * 31) + (Int32.toInt64 (nI (s_n S)))) * 31) + (Int32.toInt64 (s_nx S))) * 31) + (Int32.toInt64 (s_first S))) * 31) + (Int32.toInt64 (s_dr S))) * 31) + (Int32.toInt64 (nI (s_sc S)))) * 31) + (Int32.toInt64 (if s_on S = 0 then 0 else 1)))), (5, .int (nI 10)), (4, .ref q_all), (1, .ref q_all), (0, .ref (b 0))]) C.1 C.2.1 dX3_digest_119 hl (by decide) rfl (fun ls hl => ?_)
                    refine lv_lload_n C.1 C.2.1 dX3_digest_121 rfl (lv_at hl 2 rfl) ?_
                    refine lv_ldc2 (v := 31) C.1 C.2.1 C.2.2.2.1 (C.2.2.2.2.1 (.constantLong RX3 159 (31)) (by decide +kernel)) dX3_digest_122 ?_
                    refine lv_lmul C.1 C.2.1 dX3_digest_125 ?_
                    refine lv_iload C.1 C.2.1 dX3_digest_126 (lv_at hl 0 rfl) ?_
                    refine lv_i2l C.1 C.2.1 dX3_digest_128 rfl ?_
                    refine lv_ladd C.1 C.2.1 dX3_digest_129 ?_
                    refine lv_lstore_n (lv' := [(2, .long ((((((((((((((((1787 * 31) + (Int32.toInt64 (s_hr S))) * 31) + (Int32.toInt64 (nI (s_n S)))) * 31) + (Int32.toInt64 (s_nx S))) * 31) + (Int32.toInt64 (s_first S))) * 31) + (Int32.toInt64 (s_dr S))) * 31) + (Int32.toInt64 (nI (s_sc S)))) * 31) + (Int32.toInt64 (if s_on S = 0 then 0 else 1))) * 31) + (Int32.toInt64 (nI (s_sh S))))), (7, .int (nI (s_sh S))), (6, .int (nI 7)), (5, .int (nI 10)), (4, .ref q_all), (1, .ref q_all), (0, .ref (b 0))]) C.1 C.2.1 dX3_digest_130 rfl hl (by decide) rfl (fun ls hl => ?_)
                    refine gInc (j := 7) (k := 2) (lv' := [(6, .int (nI 8)), (2, .long ((((((((((((((((1787 * 31) + (Int32.toInt64 (s_hr S))) * 31) + (Int32.toInt64 (nI (s_n S)))) * 31) + (Int32.toInt64 (s_nx S))) * 31) + (Int32.toInt64 (s_first S))) * 31) + (Int32.toInt64 (s_dr S))) * 31) + (Int32.toInt64 (nI (s_sc S)))) * 31) + (Int32.toInt64 (if s_on S = 0 then 0 else 1))) * 31) + (Int32.toInt64 (nI (s_sh S))))), (7, .int (nI (s_sh S))), (5, .int (nI 10)), (4, .ref q_all), (1, .ref q_all), (0, .ref (b 0))]) C.1 C.2.1 dX3_digest_131 hl rfl (by decide) rfl (fun ls hl => ?_)
                    refine lv_goto (tgt := 107) C.1 C.2.1 dX3_digest_134 (by decide) ?_
                    refine lv_iload C.1 C.2.1 dX3_digest_107 (lv_at hl 0 rfl) ?_
                    refine lv_iload C.1 C.2.1 dX3_digest_109 (lv_at hl 3 rfl) ?_
                    refine gGeN (x := 8) (y := 10) (tgt := 137) C.1 C.2.1 (by omega) (by omega) dX3_digest_111 (by decide) (fun c_34 => ?_) (fun c_34 => ?_)
                    · exact absurd c_34 (by omega)
                    · refine lv_aload C.1 C.2.1 dX3_digest_114 (lv_at hl 4 rfl) ?_
                      refine lv_iload C.1 C.2.1 dX3_digest_116 (lv_at hl 0 rfl) ?_
                      refine gIald (v := oI (s_fb S (s_sh S))) (j := 8) C hO 12 rfl (by omega) (by decide) rfl dX3_digest_118 ?_
                      refine lv_istore (lv' := [(7, .int (oI (s_fb S (s_sh S)))), (6, .int (nI 8)), (2, .long ((((((((((((((((1787 * 31) + (Int32.toInt64 (s_hr S))) * 31) + (Int32.toInt64 (nI (s_n S)))) * 31) + (Int32.toInt64 (s_nx S))) * 31) + (Int32.toInt64 (s_first S))) * 31) + (Int32.toInt64 (s_dr S))) * 31) + (Int32.toInt64 (nI (s_sc S)))) * 31) + (Int32.toInt64 (if s_on S = 0 then 0 else 1))) * 31) + (Int32.toInt64 (nI (s_sh S))))), (5, .int (nI 10)), (4, .ref q_all), (1, .ref q_all), (0, .ref (b 0))]) C.1 C.2.1 dX3_digest_119 hl (by decide) rfl (fun ls hl => ?_)
                      refine lv_lload_n C.1 C.2.1 dX3_digest_121 rfl (lv_at hl 2 rfl) ?_
                      refine lv_ldc2 (v := 31) C.1 C.2.1 C.2.2.2.1 (C.2.2.2.2.1 (.constantLong RX3 159 (31)) (by decide +kernel)) dX3_digest_122 ?_
                      refine lv_lmul C.1 C.2.1 dX3_digest_125 ?_
                      refine lv_iload C.1 C.2.1 dX3_digest_126 (lv_at hl 0 rfl) ?_
                      refine lv_i2l C.1 C.2.1 dX3_digest_128 rfl ?_
                      refine lv_ladd C.1 C.2.1 dX3_digest_129 ?_
                      refine lv_lstore_n (lv' := [(2, .long ((((((((((((((((((1787 * 31) + (Int32.toInt64 (s_hr S))) * 31) + (Int32.toInt64 (nI (s_n S)))) * 31) + (Int32.toInt64 (s_nx S))) * 31) + (Int32.toInt64 (s_first S))) * 31) + (Int32.toInt64 (s_dr S))) * 31) + (Int32.toInt64 (nI (s_sc S)))) * 31) + (Int32.toInt64 (if s_on S = 0 then 0 else 1))) * 31) + (Int32.toInt64 (nI (s_sh S)))) * 31) + (Int32.toInt64 (oI (s_fb S (s_sh S)))))), (7, .int (oI (s_fb S (s_sh S)))), (6, .int (nI 8)), (5, .int (nI 10)), (4, .ref q_all), (1, .ref q_all), (0, .ref (b 0))]) C.1 C.2.1 dX3_digest_130 rfl hl (by decide) rfl (fun ls hl => ?_)
                      refine gInc (j := 8) (k := 2) (lv' := [(6, .int (nI 9)), (2, .long ((((((((((((((((((1787 * 31) + (Int32.toInt64 (s_hr S))) * 31) + (Int32.toInt64 (nI (s_n S)))) * 31) + (Int32.toInt64 (s_nx S))) * 31) + (Int32.toInt64 (s_first S))) * 31) + (Int32.toInt64 (s_dr S))) * 31) + (Int32.toInt64 (nI (s_sc S)))) * 31) + (Int32.toInt64 (if s_on S = 0 then 0 else 1))) * 31) + (Int32.toInt64 (nI (s_sh S)))) * 31) + (Int32.toInt64 (oI (s_fb S (s_sh S)))))), (7, .int (oI (s_fb S (s_sh S)))), (5, .int (nI 10)), (4, .ref q_all), (1, .ref q_all), (0, .ref (b 0))]) C.1 C.2.1 dX3_digest_131 hl rfl (by decide) rfl (fun ls hl => ?_)
                      refine lv_goto (tgt := 107) C.1 C.2.1 dX3_digest_134 (by decide) ?_
                      refine lv_iload C.1 C.2.1 dX3_digest_107 (lv_at hl 0 rfl) ?_
                      refine lv_iload C.1 C.2.1 dX3_digest_109 (lv_at hl 3 rfl) ?_
                      refine gGeN (x := 9) (y := 10) (tgt := 137) C.1 C.2.1 (by omega) (by omega) dX3_digest_111 (by decide) (fun c_35 => ?_) (fun c_35 => ?_)
                      · exact absurd c_35 (by omega)
                      · refine lv_aload C.1 C.2.1 dX3_digest_114 (lv_at hl 4 rfl) ?_
                        refine lv_iload C.1 C.2.1 dX3_digest_116 (lv_at hl 0 rfl) ?_
                        refine gIald (v := nI (cm (s_cm S) 0 (s_n S))) (j := 9) C hO 12 rfl (by omega) (by decide) rfl dX3_digest_118 ?_
                        refine lv_istore (lv' := [(7, .int (nI (cm (s_cm S) 0 (s_n S)))), (6, .int (nI 9)), (2, .long ((((((((((((((((((1787 * 31) + (Int32.toInt64 (s_hr S))) * 31) + (Int32.toInt64 (nI (s_n S)))) * 31) + (Int32.toInt64 (s_nx S))) * 31) + (Int32.toInt64 (s_first S))) * 31) + (Int32.toInt64 (s_dr S))) * 31) + (Int32.toInt64 (nI (s_sc S)))) * 31) + (Int32.toInt64 (if s_on S = 0 then 0 else 1))) * 31) + (Int32.toInt64 (nI (s_sh S)))) * 31) + (Int32.toInt64 (oI (s_fb S (s_sh S)))))), (5, .int (nI 10)), (4, .ref q_all), (1, .ref q_all), (0, .ref (b 0))]) C.1 C.2.1 dX3_digest_119 hl (by decide) rfl (fun ls hl => ?_)
                        refine lv_lload_n C.1 C.2.1 dX3_digest_121 rfl (lv_at hl 2 rfl) ?_
                        refine lv_ldc2 (v := 31) C.1 C.2.1 C.2.2.2.1 (C.2.2.2.2.1 (.constantLong RX3 159 (31)) (by decide +kernel)) dX3_digest_122 ?_
                        refine lv_lmul C.1 C.2.1 dX3_digest_125 ?_
                        refine lv_iload C.1 C.2.1 dX3_digest_126 (lv_at hl 0 rfl) ?_
                        refine lv_i2l C.1 C.2.1 dX3_digest_128 rfl ?_
                        refine lv_ladd C.1 C.2.1 dX3_digest_129 ?_
                        refine lv_lstore_n (lv' := [(2, .long ((((((((((((((((((((1787 * 31) + (Int32.toInt64 (s_hr S))) * 31) + (Int32.toInt64 (nI (s_n S)))) * 31) + (Int32.toInt64 (s_nx S))) * 31) + (Int32.toInt64 (s_first S))) * 31) + (Int32.toInt64 (s_dr S))) * 31) + (Int32.toInt64 (nI (s_sc S)))) * 31) + (Int32.toInt64 (if s_on S = 0 then 0 else 1))) * 31) + (Int32.toInt64 (nI (s_sh S)))) * 31) + (Int32.toInt64 (oI (s_fb S (s_sh S))))) * 31) + (Int32.toInt64 (nI (cm (s_cm S) 0 (s_n S)))))), (7, .int (nI (cm (s_cm S) 0 (s_n S)))), (6, .int (nI 9)), (5, .int (nI 10)), (4, .ref q_all), (1, .ref q_all), (0, .ref (b 0))]) C.1 C.2.1 dX3_digest_130 rfl hl (by decide) rfl (fun ls hl => ?_)
                        refine gInc (j := 9) (k := 2) (lv' := [(6, .int (nI 10)), (2, .long ((((((((((((((((((((1787 * 31) + (Int32.toInt64 (s_hr S))) * 31) + (Int32.toInt64 (nI (s_n S)))) * 31) + (Int32.toInt64 (s_nx S))) * 31) + (Int32.toInt64 (s_first S))) * 31) + (Int32.toInt64 (s_dr S))) * 31) + (Int32.toInt64 (nI (s_sc S)))) * 31) + (Int32.toInt64 (if s_on S = 0 then 0 else 1))) * 31) + (Int32.toInt64 (nI (s_sh S)))) * 31) + (Int32.toInt64 (oI (s_fb S (s_sh S))))) * 31) + (Int32.toInt64 (nI (cm (s_cm S) 0 (s_n S)))))), (7, .int (nI (cm (s_cm S) 0 (s_n S)))), (5, .int (nI 10)), (4, .ref q_all), (1, .ref q_all), (0, .ref (b 0))]) C.1 C.2.1 dX3_digest_131 hl rfl (by decide) rfl (fun ls hl => ?_)
                        refine lv_goto (tgt := 107) C.1 C.2.1 dX3_digest_134 (by decide) ?_
                        refine lv_iload C.1 C.2.1 dX3_digest_107 (lv_at hl 0 rfl) ?_
                        refine lv_iload C.1 C.2.1 dX3_digest_109 (lv_at hl 3 rfl) ?_
                        refine gGeN (x := 10) (y := 10) (tgt := 137) C.1 C.2.1 (by omega) (by omega) dX3_digest_111 (by decide) (fun c_36 => ?_) (fun c_36 => ?_)
                        · have hO : gO E A s (mW E b S 0 (mkU (s_cm S) mk (s_n S)) ++ F) H locs := gO.drop (W0 := mW E b S 0 (mkU (s_cm S) mk (s_n S))) hO
                          refine lv_iconst (v := 0) C.1 C.2.1 dX3_digest_137 (by decide) ?_
                          refine lv_istore (lv' := [(4, .int 0), (6, .int (nI 10)), (2, .long ((((((((((((((((((((1787 * 31) + (Int32.toInt64 (s_hr S))) * 31) + (Int32.toInt64 (nI (s_n S)))) * 31) + (Int32.toInt64 (s_nx S))) * 31) + (Int32.toInt64 (s_first S))) * 31) + (Int32.toInt64 (s_dr S))) * 31) + (Int32.toInt64 (nI (s_sc S)))) * 31) + (Int32.toInt64 (if s_on S = 0 then 0 else 1))) * 31) + (Int32.toInt64 (nI (s_sh S)))) * 31) + (Int32.toInt64 (oI (s_fb S (s_sh S))))) * 31) + (Int32.toInt64 (nI (cm (s_cm S) 0 (s_n S)))))), (7, .int (nI (cm (s_cm S) 0 (s_n S)))), (5, .int (nI 10)), (1, .ref q_all), (0, .ref (b 0))]) C.1 C.2.1 dX3_digest_138 hl (by decide) rfl (fun ls hl => ?_)
                          have lp24 : ∀ (f : Nat) (c7 : Nat), (11 ≤ c7 + f) → (c7 ≤ 10) → ∀ (H : Heap) (locs : List Loc), gO E A s (mW E b S 0 (mkU (s_cm S) mk (s_n S)) ++ F) H locs → ∀ ls : Array Slot, lv_has ls 10 [(0, .ref (b 0)), (2, .long (dKeys S (s_d0 S) c7)), (4, .int (nI c7))] → W p l e ({ frames := 3, cells := 20, slots := 182, locals := 69 } : Room) s m args below meth c H locs 2 20 (MQ below (gQl E A (s_dg S) (mW E b S 0 (mkU (s_cm S) mk (s_n S)) ++ F)) args s 20 182 A) (F0 m 140 ls []) := by
                            intro f
                            induction f with
                            | zero =>
                              intro c7 hf hcc7
                              exact absurd hf (by omega)
                            | succ f ih_lp24 =>
                              intro c7 hf hcc7 H locs hO ls hl
                              refine lv_iload C.1 C.2.1 dX3_digest_140 (lv_at hl 2 rfl) ?_
                              refine lv_bipush (v := nI 10) C.1 C.2.1 dX3_digest_142 (by decide) ?_
                              refine gGeN (x := c7) (y := 10) (tgt := 195) C.1 C.2.1 (by omega) (by omega) dX3_digest_144 (by decide) (fun c_37 => ?_) (fun c_37 => ?_)
                              · have hce7 : c7 = 10 := by omega
                                rw [hce7] at hl
                                refine lv_iconst (v := 0) C.1 C.2.1 dX3_digest_195 (by decide) ?_
                                refine lv_istore (lv' := [(4, .int 0), (0, .ref (b 0)), (2, .long (dKeys S (s_d0 S) 10))]) C.1 C.2.1 dX3_digest_196 hl (by decide) rfl (fun ls hl => ?_)
                                have lp25 : ∀ (f : Nat) (c8 : Nat), (s_sc S + 1 ≤ c8 + f) → (c8 ≤ s_sc S) → ∀ (H : Heap) (locs : List Loc), gO E A s (mW E b S 0 (mkU (s_cm S) mk (s_n S)) ++ F) H locs → ∀ ls : Array Slot, lv_has ls 10 [(0, .ref (b 0)), (2, .long (dStorms S (dKeys S (s_d0 S) 10) c8)), (4, .int (nI c8))] → W p l e ({ frames := 3, cells := 20, slots := 182, locals := 69 } : Room) s m args below meth c H locs 2 20 (MQ below (gQl E A (s_dg S) (mW E b S 0 (mkU (s_cm S) mk (s_n S)) ++ F)) args s 20 182 A) (F0 m 198 ls []) := by
                                  intro f
                                  induction f with
                                  | zero =>
                                    intro c8 hf hcc8
                                    exact absurd hf (by omega)
                                  | succ f ih_lp25 =>
                                    intro c8 hf hcc8 H locs hO ls hl
                                    refine lv_iload C.1 C.2.1 dX3_digest_198 (lv_at hl 2 rfl) ?_
                                    refine lv_aload_n C.1 C.2.1 dX3_digest_200 rfl (lv_at hl 0 rfl) ?_
                                    refine gGet (v := .int (nI (s_sc S))) (ref := RX3) (Cn := RX3) (T := TX3) (N := 19) C iX3 hO 0 rfl rfl 10 (by decide) w55 (fun _ h9 => h9) rfl dX3_digest_201 ?_
                                    refine gGeN (x := c8) (y := (s_sc S)) (tgt := 242) C.1 C.2.1 (by omega) (by omega) dX3_digest_204 (by decide) (fun c_38 => ?_) (fun c_38 => ?_)
                                    · have hce8 : c8 = s_sc S := by omega
                                      rw [hce8] at hl
                                      refine lv_iconst (v := 0) C.1 C.2.1 dX3_digest_242 (by decide) ?_
                                      refine lv_istore (lv' := [(4, .int 0), (0, .ref (b 0)), (2, .long (dStorms S (dKeys S (s_d0 S) 10) (s_sc S)))]) C.1 C.2.1 dX3_digest_243 hl (by decide) rfl (fun ls hl => ?_)
                                      have lp26 : ∀ (f : Nat) (c9 : Nat), (s_sh S + 1 ≤ c9 + f) → (c9 ≤ s_sh S) → ∀ (H : Heap) (locs : List Loc), gO E A s (mW E b S 0 (mkU (s_cm S) mk (s_n S)) ++ F) H locs → ∀ ls : Array Slot, lv_has ls 10 [(0, .ref (b 0)), (2, .long (dShips S (dStorms S (dKeys S (s_d0 S) 10) (s_sc S)) c9)), (4, .int (nI c9))] → W p l e ({ frames := 3, cells := 20, slots := 182, locals := 69 } : Room) s m args below meth c H locs (2 + 3 * c9) (20 + 27 * c9) (MQ below (gQl E A (s_dg S) (mW E b S 0 (mkU (s_cm S) mk (s_n S)) ++ F)) args s 20 182 A) (F0 m 245 ls []) := by
                                        intro f
                                        induction f with
                                        | zero =>
                                          intro c9 hf hcc9
                                          exact absurd hf (by omega)
                                        | succ f ih_lp26 =>
                                          intro c9 hf hcc9 H locs hO ls hl
                                          refine lv_iload C.1 C.2.1 dX3_digest_245 (lv_at hl 2 rfl) ?_
                                          refine lv_aload_n C.1 C.2.1 dX3_digest_247 rfl (lv_at hl 0 rfl) ?_
                                          refine gGet (v := .int (nI (s_sh S))) (ref := RX3) (Cn := RX3) (T := TX3) (N := 19) C iX3 hO 0 rfl rfl 13 (by decide) w48 (fun _ h9 => h9) rfl dX3_digest_248 ?_
                                          refine gGeN (x := c9) (y := (s_sh S)) (tgt := 376) C.1 C.2.1 (by omega) (by omega) dX3_digest_251 (by decide) (fun c_39 => ?_) (fun c_39 => ?_)
                                          · refine lv_lload_n C.1 C.2.1 dX3_digest_376 rfl (lv_at hl 1 rfl) ?_
                                            exact gRl C hO (by rw [show s_dg S = dShips S (dStorms S (dKeys S (s_d0 S) 10) (s_sc S)) (s_sh S) from rfl, show c9 = s_sh S by omega]) dX3_digest_377 (by omega) (by omega)
                                          · refine lv_bipush (v := nI 7) C.1 C.2.1 dX3_digest_254 (by decide) ?_
                                            refine gNewI (N9 := 7) C (C.2.2.2.2.1 (.arrayClass .int) (by decide +kernel)) hO (by decide) (by show _ ≤ 20; omega) (by show _ ≤ 182; omega) dX3_digest_256 (fun q_of H hO => ?_)
                                            refine lv_dup C.1 C.2.1 dX3_digest_258 rfl ?_
                                            refine lv_iconst (v := 0) C.1 C.2.1 dX3_digest_259 (by decide) ?_
                                            refine lv_aload_n C.1 C.2.1 dX3_digest_260 rfl (lv_at hl 0 rfl) ?_
                                            refine gGet (v := .ref (b 8)) (ref := RX3) (Cn := RX3) (T := TX3) (N := 19) C iX3 hO 0 rfl rfl 15 (by decide) w32 (fun _ h9 => h9) rfl dX3_digest_261 ?_
                                            refine lv_iload C.1 C.2.1 dX3_digest_264 (lv_at hl 2 rfl) ?_
                                            refine gIald (v := (s_at S) c9) (j := c9) C hO 8 rfl (by omega) (by decide) rfl dX3_digest_266 ?_
                                            refine gIast (j := 0) (ws' := (mW E b S 0 (mkU (s_cm S) mk (s_n S)) ++ ((q_of, .inl (eI E, 7, .inl (upd (fun _ => 0) 0 ((s_at S) c9)))) :: F))) C hO 12 rfl (by omega) (by decide) rfl dX3_digest_267 (fun H locs hO => ?_)
                                            refine lv_dup C.1 C.2.1 dX3_digest_268 rfl ?_
                                            refine lv_iconst (v := 1) C.1 C.2.1 dX3_digest_269 (by decide) ?_
                                            refine lv_aload_n C.1 C.2.1 dX3_digest_270 rfl (lv_at hl 0 rfl) ?_
                                            refine lv_iload C.1 C.2.1 dX3_digest_271 (lv_at hl 2 rfl) ?_
                                            refine gCall_i (As := [.int (nI c9)]) (rest := [.int 1, .ref q_of, .ref q_of]) C hO (c_X3_lag l E b S 0 (mkU (s_cm S) mk (s_n S)) ((q_of, .inl (eI E, 7, .inl (upd (fun _ => 0) 0 ((s_at S) c9)))) :: F) c9 (by omega) (by omega)) (cwV 1 C.2.2.2.2.1 gX3_digest_X3_lag rfl rfl rfl (by decide +kernel) ⟨(Nat.le_of_ble_eq_true rfl), (Nat.le_of_ble_eq_true rfl)⟩) (va_recv C.2.2.2.2.2.2.2.1.1 hO.1 (ci := 3) (q0 := 0) rfl rfl) rfl hl.1 rfl (Nat.le_of_ble_eq_true rfl) dX3_digest_273 ⟨(by show _ ≤ 20; omega), (by show _ ≤ 182; omega)⟩ (fun H locs hO => ?_)
                                            refine gIast (j := 1) (ws' := (mW E b S 0 (mkU (s_cm S) mk (s_n S)) ++ ((q_of, .inl (eI E, 7, .inl (upd (upd (fun _ => 0) 0 ((s_at S) c9)) 1 (nI (s_lag S c9))))) :: F))) C hO 12 rfl (by omega) (by decide) rfl dX3_digest_276 (fun H locs hO => ?_)
                                            refine lv_dup C.1 C.2.1 dX3_digest_277 rfl ?_
                                            refine lv_iconst (v := nI 2) C.1 C.2.1 dX3_digest_278 (by decide) ?_
                                            refine lv_aload_n C.1 C.2.1 dX3_digest_279 rfl (lv_at hl 0 rfl) ?_
                                            refine gGet (v := .ref (b 9)) (ref := RX3) (Cn := RX3) (T := TX3) (N := 19) C iX3 hO 0 rfl rfl 16 (by decide) w35 (fun _ h9 => h9) rfl dX3_digest_280 ?_
                                            refine lv_iload C.1 C.2.1 dX3_digest_283 (lv_at hl 2 rfl) ?_
                                            refine gIald (v := (s_hd S) c9) (j := c9) C hO 9 rfl (by omega) (by decide) rfl dX3_digest_285 ?_
                                            refine gIast (j := 2) (ws' := (mW E b S 0 (mkU (s_cm S) mk (s_n S)) ++ ((q_of, .inl (eI E, 7, .inl (upd (upd (upd (fun _ => 0) 0 ((s_at S) c9)) 1 (nI (s_lag S c9))) 2 ((s_hd S) c9)))) :: F))) C hO 12 rfl (by omega) (by decide) rfl dX3_digest_286 (fun H locs hO => ?_)
                                            refine lv_dup C.1 C.2.1 dX3_digest_287 rfl ?_
                                            refine lv_iconst (v := nI 3) C.1 C.2.1 dX3_digest_288 (by decide) ?_
                                            refine lv_aload_n C.1 C.2.1 dX3_digest_289 rfl (lv_at hl 0 rfl) ?_
                                            refine gGet (v := .ref (b 10)) (ref := RX3) (Cn := RX3) (T := TX3) (N := 19) C iX3 hO 0 rfl rfl 17 (by decide) w38 (fun _ h9 => h9) rfl dX3_digest_290 ?_
                                            refine lv_iload C.1 C.2.1 dX3_digest_293 (lv_at hl 2 rfl) ?_
                                            refine gIald (v := (s_ms S) c9) (j := c9) C hO 10 rfl (by omega) (by decide) rfl dX3_digest_295 ?_
                                            refine gIast (j := 3) (ws' := (mW E b S 0 (mkU (s_cm S) mk (s_n S)) ++ ((q_of, .inl (eI E, 7, .inl (upd (upd (upd (upd (fun _ => 0) 0 ((s_at S) c9)) 1 (nI (s_lag S c9))) 2 ((s_hd S) c9)) 3 ((s_ms S) c9)))) :: F))) C hO 12 rfl (by omega) (by decide) rfl dX3_digest_296 (fun H locs hO => ?_)
                                            refine lv_dup C.1 C.2.1 dX3_digest_297 rfl ?_
                                            refine lv_iconst (v := nI 4) C.1 C.2.1 dX3_digest_298 (by decide) ?_
                                            refine lv_aload_n C.1 C.2.1 dX3_digest_299 rfl (lv_at hl 0 rfl) ?_
                                            refine lv_iload C.1 C.2.1 dX3_digest_300 (lv_at hl 2 rfl) ?_
                                            refine lv_iconst (v := 0) C.1 C.2.1 dX3_digest_302 (by decide) ?_
                                            refine gCall_i (As := [.int (nI c9), .int 0]) (rest := [.int (nI 4), .ref q_of, .ref q_of]) C hO (c_X3_errors l E b S 0 (mkU (s_cm S) mk (s_n S)) ((q_of, .inl (eI E, 7, .inl (upd (upd (upd (upd (fun _ => 0) 0 ((s_at S) c9)) 1 (nI (s_lag S c9))) 2 ((s_hd S) c9)) 3 ((s_ms S) c9)))) :: F) c9 0 (by omega) (by omega) hok9 (by omega)) (cwV 2 C.2.2.2.2.1 gX3_digest_X3_errors rfl rfl rfl (by decide +kernel) ⟨(Nat.le_of_ble_eq_true rfl), (Nat.le_of_ble_eq_true rfl)⟩) (va_recv C.2.2.2.2.2.2.2.1.1 hO.1 (ci := 3) (q0 := 0) rfl rfl) rfl hl.1 rfl (Nat.le_of_ble_eq_true rfl) dX3_digest_303 ⟨(by show _ ≤ 20; omega), (by show _ ≤ 182; omega)⟩ (fun H locs hO => ?_)
                                            refine gIast (j := 4) (ws' := (mW E b S 0 (mkU (s_cm S) mk (s_n S)) ++ ((q_of, .inl (eI E, 7, .inl (upd (upd (upd (upd (upd (fun _ => 0) 0 ((s_at S) c9)) 1 (nI (s_lag S c9))) 2 ((s_hd S) c9)) 3 ((s_ms S) c9)) 4 (nI (s_ea S c9 0))))) :: F))) C hO 12 rfl (by omega) (by decide) rfl dX3_digest_306 (fun H locs hO => ?_)
                                            refine lv_dup C.1 C.2.1 dX3_digest_307 rfl ?_
                                            refine lv_iconst (v := nI 5) C.1 C.2.1 dX3_digest_308 (by decide) ?_
                                            refine lv_aload_n C.1 C.2.1 dX3_digest_309 rfl (lv_at hl 0 rfl) ?_
                                            refine lv_iload C.1 C.2.1 dX3_digest_310 (lv_at hl 2 rfl) ?_
                                            refine gCall_i (As := [.int (nI c9)]) (rest := [.int (nI 5), .ref q_of, .ref q_of]) C hO (c_X3_until l E b S 0 (mkU (s_cm S) mk (s_n S)) ((q_of, .inl (eI E, 7, .inl (upd (upd (upd (upd (upd (fun _ => 0) 0 ((s_at S) c9)) 1 (nI (s_lag S c9))) 2 ((s_hd S) c9)) 3 ((s_ms S) c9)) 4 (nI (s_ea S c9 0))))) :: F) c9 (by omega) (by omega) (hpc9 _ (by omega))) (cwV 1 C.2.2.2.2.1 gX3_digest_X3_until rfl rfl rfl (by decide +kernel) ⟨(Nat.le_of_ble_eq_true rfl), (Nat.le_of_ble_eq_true rfl)⟩) (va_recv C.2.2.2.2.2.2.2.1.1 hO.1 (ci := 3) (q0 := 0) rfl rfl) rfl hl.1 rfl (Nat.le_of_ble_eq_true rfl) dX3_digest_312 ⟨(by show _ ≤ 20; omega), (by show _ ≤ 182; omega)⟩ (fun H locs hO => ?_)
                                            refine gIast (j := 5) (ws' := (mW E b S 0 (mkU (s_cm S) mk (s_n S)) ++ ((q_of, .inl (eI E, 7, .inl (upd (upd (upd (upd (upd (upd (fun _ => 0) 0 ((s_at S) c9)) 1 (nI (s_lag S c9))) 2 ((s_hd S) c9)) 3 ((s_ms S) c9)) 4 (nI (s_ea S c9 0))) 5 (s_un S c9)))) :: F))) C hO 12 rfl (by omega) (by decide) rfl dX3_digest_315 (fun H locs hO => ?_)
                                            refine lv_dup C.1 C.2.1 dX3_digest_316 rfl ?_
                                            refine lv_bipush (v := nI 6) C.1 C.2.1 dX3_digest_317 (by decide) ?_
                                            refine lv_aload_n C.1 C.2.1 dX3_digest_319 rfl (lv_at hl 0 rfl) ?_
                                            refine lv_iload C.1 C.2.1 dX3_digest_320 (lv_at hl 2 rfl) ?_
                                            refine gCall_i (As := [.int (nI c9)]) (rest := [.int (nI 6), .ref q_of, .ref q_of]) C hO (c_X3_misses l E b S 0 (mkU (s_cm S) mk (s_n S)) ((q_of, .inl (eI E, 7, .inl (upd (upd (upd (upd (upd (upd (fun _ => 0) 0 ((s_at S) c9)) 1 (nI (s_lag S c9))) 2 ((s_hd S) c9)) 3 ((s_ms S) c9)) 4 (nI (s_ea S c9 0))) 5 (s_un S c9)))) :: F) c9 (by omega) (by omega) (by omega) hok9) (cwV 1 C.2.2.2.2.1 gX3_digest_X3_misses rfl rfl rfl (by decide +kernel) ⟨(Nat.le_of_ble_eq_true rfl), (Nat.le_of_ble_eq_true rfl)⟩) (va_recv C.2.2.2.2.2.2.2.1.1 hO.1 (ci := 3) (q0 := 0) rfl rfl) rfl hl.1 rfl (Nat.le_of_ble_eq_true rfl) dX3_digest_322 ⟨(by show _ ≤ 20; omega), (by show _ ≤ 182; omega)⟩ (fun H locs hO => ?_)
                                            rw [mkU_mkU] at hO
                                            have hO : gO E A s (mW E b S 0 (mkU (s_cm S) mk (s_n S)) ++ ((q_of, .inl (eI E, 7, .inl (upd (upd (upd (upd (upd (upd (fun _ => 0) 0 ((s_at S) c9)) 1 (nI (s_lag S c9))) 2 ((s_hd S) c9)) 3 ((s_ms S) c9)) 4 (nI (s_ea S c9 0))) 5 (s_un S c9)))) :: F)) H locs := hO
                                            refine gIast (j := 6) (ws' := (mW E b S 0 (mkU (s_cm S) mk (s_n S)) ++ ((q_of, .inl (eI E, 7, .inl (upd (upd (upd (upd (upd (upd (upd (fun _ => 0) 0 ((s_at S) c9)) 1 (nI (s_lag S c9))) 2 ((s_hd S) c9)) 3 ((s_ms S) c9)) 4 (nI (s_ea S c9 0))) 5 (s_un S c9)) 6 (nI (s_wm S c9))))) :: F))) C hO 12 rfl (by omega) (by decide) rfl dX3_digest_325 (fun H locs hO => ?_)
                                            refine lv_astore (lv' := [(5, .ref q_of), (0, .ref (b 0)), (2, .long (dShips S (dStorms S (dKeys S (s_d0 S) 10) (s_sc S)) c9)), (4, .int (nI c9))]) C.1 C.2.1 dX3_digest_326 hl (by decide) rfl (fun ls hl => ?_)
                                            refine lv_aload C.1 C.2.1 dX3_digest_328 (lv_at hl 0 rfl) ?_
                                            refine lv_astore (lv' := [(6, .ref q_of), (5, .ref q_of), (0, .ref (b 0)), (2, .long (dShips S (dStorms S (dKeys S (s_d0 S) 10) (s_sc S)) c9)), (4, .int (nI c9))]) C.1 C.2.1 dX3_digest_330 hl (by decide) rfl (fun ls hl => ?_)
                                            refine lv_aload C.1 C.2.1 dX3_digest_332 (lv_at hl 0 rfl) ?_
                                            refine va_alen (v := nI 7) C.1 C.2.1 C.2.2.2.2.2.2.2.1.1 hO.1 12 0 rfl rfl rfl dX3_digest_334 ?_
                                            refine lv_istore (lv' := [(7, .int (nI 7)), (6, .ref q_of), (5, .ref q_of), (0, .ref (b 0)), (2, .long (dShips S (dStorms S (dKeys S (s_d0 S) 10) (s_sc S)) c9)), (4, .int (nI c9))]) C.1 C.2.1 dX3_digest_335 hl (by decide) rfl (fun ls hl => ?_)
                                            refine lv_iconst (v := 0) C.1 C.2.1 dX3_digest_337 (by decide) ?_
                                            refine lv_istore (lv' := [(8, .int 0), (7, .int (nI 7)), (6, .ref q_of), (5, .ref q_of), (0, .ref (b 0)), (2, .long (dShips S (dStorms S (dKeys S (s_d0 S) 10) (s_sc S)) c9)), (4, .int (nI c9))]) C.1 C.2.1 dX3_digest_338 hl (by decide) rfl (fun ls hl => ?_)
                                            refine lv_iload C.1 C.2.1 dX3_digest_340 (lv_at hl 0 rfl) ?_
                                            refine lv_iload C.1 C.2.1 dX3_digest_342 (lv_at hl 1 rfl) ?_
                                            refine gGeN (x := 0) (y := 7) (tgt := 370) C.1 C.2.1 (by omega) (by omega) dX3_digest_344 (by decide) (fun c_41 => ?_) (fun c_41 => ?_)
                                            · exact absurd c_41 (by omega)
                                            · refine lv_aload C.1 C.2.1 dX3_digest_347 (lv_at hl 2 rfl) ?_
                                              refine lv_iload C.1 C.2.1 dX3_digest_349 (lv_at hl 0 rfl) ?_
                                              refine gIald (v := (s_at S) c9) (j := 0) C hO 12 rfl (by omega) (by decide) rfl dX3_digest_351 ?_
                                              refine lv_istore (lv' := [(9, .int ((s_at S) c9)), (8, .int 0), (7, .int (nI 7)), (6, .ref q_of), (5, .ref q_of), (0, .ref (b 0)), (2, .long (dShips S (dStorms S (dKeys S (s_d0 S) 10) (s_sc S)) c9)), (4, .int (nI c9))]) C.1 C.2.1 dX3_digest_352 hl (by decide) rfl (fun ls hl => ?_)
                                              refine lv_lload_n C.1 C.2.1 dX3_digest_354 rfl (lv_at hl 6 rfl) ?_
                                              refine lv_ldc2 (v := 31) C.1 C.2.1 C.2.2.2.1 (C.2.2.2.2.1 (.constantLong RX3 159 (31)) (by decide +kernel)) dX3_digest_355 ?_
                                              refine lv_lmul C.1 C.2.1 dX3_digest_358 ?_
                                              refine lv_iload C.1 C.2.1 dX3_digest_359 (lv_at hl 0 rfl) ?_
                                              refine lv_i2l C.1 C.2.1 dX3_digest_361 rfl ?_
                                              refine lv_ladd C.1 C.2.1 dX3_digest_362 ?_
                                              refine lv_lstore_n (lv' := [(2, .long (((dShips S (dStorms S (dKeys S (s_d0 S) 10) (s_sc S)) c9) * 31) + (Int32.toInt64 ((s_at S) c9)))), (9, .int ((s_at S) c9)), (8, .int 0), (7, .int (nI 7)), (6, .ref q_of), (5, .ref q_of), (0, .ref (b 0)), (4, .int (nI c9))]) C.1 C.2.1 dX3_digest_363 rfl hl (by decide) rfl (fun ls hl => ?_)
                                              refine gInc (j := 0) (k := 2) (lv' := [(8, .int (nI 1)), (2, .long (((dShips S (dStorms S (dKeys S (s_d0 S) 10) (s_sc S)) c9) * 31) + (Int32.toInt64 ((s_at S) c9)))), (9, .int ((s_at S) c9)), (7, .int (nI 7)), (6, .ref q_of), (5, .ref q_of), (0, .ref (b 0)), (4, .int (nI c9))]) C.1 C.2.1 dX3_digest_364 hl rfl (by decide) rfl (fun ls hl => ?_)
                                              refine lv_goto (tgt := 340) C.1 C.2.1 dX3_digest_367 (by decide) ?_
                                              refine lv_iload C.1 C.2.1 dX3_digest_340 (lv_at hl 0 rfl) ?_
                                              refine lv_iload C.1 C.2.1 dX3_digest_342 (lv_at hl 3 rfl) ?_
                                              refine gGeN (x := 1) (y := 7) (tgt := 370) C.1 C.2.1 (by omega) (by omega) dX3_digest_344 (by decide) (fun c_42 => ?_) (fun c_42 => ?_)
                                              · exact absurd c_42 (by omega)
                                              · refine lv_aload C.1 C.2.1 dX3_digest_347 (lv_at hl 4 rfl) ?_
                                                refine lv_iload C.1 C.2.1 dX3_digest_349 (lv_at hl 0 rfl) ?_
                                                refine gIald (v := nI (s_lag S c9)) (j := 1) C hO 12 rfl (by omega) (by decide) rfl dX3_digest_351 ?_
                                                refine lv_istore (lv' := [(9, .int (nI (s_lag S c9))), (8, .int (nI 1)), (2, .long (((dShips S (dStorms S (dKeys S (s_d0 S) 10) (s_sc S)) c9) * 31) + (Int32.toInt64 ((s_at S) c9)))), (7, .int (nI 7)), (6, .ref q_of), (5, .ref q_of), (0, .ref (b 0)), (4, .int (nI c9))]) C.1 C.2.1 dX3_digest_352 hl (by decide) rfl (fun ls hl => ?_)
                                                refine lv_lload_n C.1 C.2.1 dX3_digest_354 rfl (lv_at hl 2 rfl) ?_
                                                refine lv_ldc2 (v := 31) C.1 C.2.1 C.2.2.2.1 (C.2.2.2.2.1 (.constantLong RX3 159 (31)) (by decide +kernel)) dX3_digest_355 ?_
                                                refine lv_lmul C.1 C.2.1 dX3_digest_358 ?_
                                                refine lv_iload C.1 C.2.1 dX3_digest_359 (lv_at hl 0 rfl) ?_
                                                refine lv_i2l C.1 C.2.1 dX3_digest_361 rfl ?_
                                                refine lv_ladd C.1 C.2.1 dX3_digest_362 ?_
                                                refine lv_lstore_n (lv' := [(2, .long (((((dShips S (dStorms S (dKeys S (s_d0 S) 10) (s_sc S)) c9) * 31) + (Int32.toInt64 ((s_at S) c9))) * 31) + (Int32.toInt64 (nI (s_lag S c9))))), (9, .int (nI (s_lag S c9))), (8, .int (nI 1)), (7, .int (nI 7)), (6, .ref q_of), (5, .ref q_of), (0, .ref (b 0)), (4, .int (nI c9))]) C.1 C.2.1 dX3_digest_363 rfl hl (by decide) rfl (fun ls hl => ?_)
                                                refine gInc (j := 1) (k := 2) (lv' := [(8, .int (nI 2)), (2, .long (((((dShips S (dStorms S (dKeys S (s_d0 S) 10) (s_sc S)) c9) * 31) + (Int32.toInt64 ((s_at S) c9))) * 31) + (Int32.toInt64 (nI (s_lag S c9))))), (9, .int (nI (s_lag S c9))), (7, .int (nI 7)), (6, .ref q_of), (5, .ref q_of), (0, .ref (b 0)), (4, .int (nI c9))]) C.1 C.2.1 dX3_digest_364 hl rfl (by decide) rfl (fun ls hl => ?_)
                                                refine lv_goto (tgt := 340) C.1 C.2.1 dX3_digest_367 (by decide) ?_
                                                refine lv_iload C.1 C.2.1 dX3_digest_340 (lv_at hl 0 rfl) ?_
                                                refine lv_iload C.1 C.2.1 dX3_digest_342 (lv_at hl 3 rfl) ?_
                                                refine gGeN (x := 2) (y := 7) (tgt := 370) C.1 C.2.1 (by omega) (by omega) dX3_digest_344 (by decide) (fun c_43 => ?_) (fun c_43 => ?_)
                                                · exact absurd c_43 (by omega)
                                                · refine lv_aload C.1 C.2.1 dX3_digest_347 (lv_at hl 4 rfl) ?_
                                                  refine lv_iload C.1 C.2.1 dX3_digest_349 (lv_at hl 0 rfl) ?_
                                                  refine gIald (v := (s_hd S) c9) (j := 2) C hO 12 rfl (by omega) (by decide) rfl dX3_digest_351 ?_
                                                  refine lv_istore (lv' := [(9, .int ((s_hd S) c9)), (8, .int (nI 2)), (2, .long (((((dShips S (dStorms S (dKeys S (s_d0 S) 10) (s_sc S)) c9) * 31) + (Int32.toInt64 ((s_at S) c9))) * 31) + (Int32.toInt64 (nI (s_lag S c9))))), (7, .int (nI 7)), (6, .ref q_of), (5, .ref q_of), (0, .ref (b 0)), (4, .int (nI c9))]) C.1 C.2.1 dX3_digest_352 hl (by decide) rfl (fun ls hl => ?_)
                                                  refine lv_lload_n C.1 C.2.1 dX3_digest_354 rfl (lv_at hl 2 rfl) ?_
                                                  refine lv_ldc2 (v := 31) C.1 C.2.1 C.2.2.2.1 (C.2.2.2.2.1 (.constantLong RX3 159 (31)) (by decide +kernel)) dX3_digest_355 ?_
                                                  refine lv_lmul C.1 C.2.1 dX3_digest_358 ?_
                                                  refine lv_iload C.1 C.2.1 dX3_digest_359 (lv_at hl 0 rfl) ?_
                                                  refine lv_i2l C.1 C.2.1 dX3_digest_361 rfl ?_
                                                  refine lv_ladd C.1 C.2.1 dX3_digest_362 ?_
                                                  refine lv_lstore_n (lv' := [(2, .long (((((((dShips S (dStorms S (dKeys S (s_d0 S) 10) (s_sc S)) c9) * 31) + (Int32.toInt64 ((s_at S) c9))) * 31) + (Int32.toInt64 (nI (s_lag S c9)))) * 31) + (Int32.toInt64 ((s_hd S) c9)))), (9, .int ((s_hd S) c9)), (8, .int (nI 2)), (7, .int (nI 7)), (6, .ref q_of), (5, .ref q_of), (0, .ref (b 0)), (4, .int (nI c9))]) C.1 C.2.1 dX3_digest_363 rfl hl (by decide) rfl (fun ls hl => ?_)
                                                  refine gInc (j := 2) (k := 2) (lv' := [(8, .int (nI 3)), (2, .long (((((((dShips S (dStorms S (dKeys S (s_d0 S) 10) (s_sc S)) c9) * 31) + (Int32.toInt64 ((s_at S) c9))) * 31) + (Int32.toInt64 (nI (s_lag S c9)))) * 31) + (Int32.toInt64 ((s_hd S) c9)))), (9, .int ((s_hd S) c9)), (7, .int (nI 7)), (6, .ref q_of), (5, .ref q_of), (0, .ref (b 0)), (4, .int (nI c9))]) C.1 C.2.1 dX3_digest_364 hl rfl (by decide) rfl (fun ls hl => ?_)
                                                  refine lv_goto (tgt := 340) C.1 C.2.1 dX3_digest_367 (by decide) ?_
                                                  refine lv_iload C.1 C.2.1 dX3_digest_340 (lv_at hl 0 rfl) ?_
                                                  refine lv_iload C.1 C.2.1 dX3_digest_342 (lv_at hl 3 rfl) ?_
                                                  refine gGeN (x := 3) (y := 7) (tgt := 370) C.1 C.2.1 (by omega) (by omega) dX3_digest_344 (by decide) (fun c_44 => ?_) (fun c_44 => ?_)
                                                  · exact absurd c_44 (by omega)
                                                  · refine lv_aload C.1 C.2.1 dX3_digest_347 (lv_at hl 4 rfl) ?_
                                                    refine lv_iload C.1 C.2.1 dX3_digest_349 (lv_at hl 0 rfl) ?_
                                                    refine gIald (v := (s_ms S) c9) (j := 3) C hO 12 rfl (by omega) (by decide) rfl dX3_digest_351 ?_
                                                    refine lv_istore (lv' := [(9, .int ((s_ms S) c9)), (8, .int (nI 3)), (2, .long (((((((dShips S (dStorms S (dKeys S (s_d0 S) 10) (s_sc S)) c9) * 31) + (Int32.toInt64 ((s_at S) c9))) * 31) + (Int32.toInt64 (nI (s_lag S c9)))) * 31) + (Int32.toInt64 ((s_hd S) c9)))), (7, .int (nI 7)), (6, .ref q_of), (5, .ref q_of), (0, .ref (b 0)), (4, .int (nI c9))]) C.1 C.2.1 dX3_digest_352 hl (by decide) rfl (fun ls hl => ?_)
                                                    refine lv_lload_n C.1 C.2.1 dX3_digest_354 rfl (lv_at hl 2 rfl) ?_
                                                    refine lv_ldc2 (v := 31) C.1 C.2.1 C.2.2.2.1 (C.2.2.2.2.1 (.constantLong RX3 159 (31)) (by decide +kernel)) dX3_digest_355 ?_
                                                    refine lv_lmul C.1 C.2.1 dX3_digest_358 ?_
                                                    refine lv_iload C.1 C.2.1 dX3_digest_359 (lv_at hl 0 rfl) ?_
                                                    refine lv_i2l C.1 C.2.1 dX3_digest_361 rfl ?_
                                                    refine lv_ladd C.1 C.2.1 dX3_digest_362 ?_
                                                    refine lv_lstore_n (lv' := [(2, .long (((((((((dShips S (dStorms S (dKeys S (s_d0 S) 10) (s_sc S)) c9) * 31) + (Int32.toInt64 ((s_at S) c9))) * 31) + (Int32.toInt64 (nI (s_lag S c9)))) * 31) + (Int32.toInt64 ((s_hd S) c9))) * 31) + (Int32.toInt64 ((s_ms S) c9)))), (9, .int ((s_ms S) c9)), (8, .int (nI 3)), (7, .int (nI 7)), (6, .ref q_of), (5, .ref q_of), (0, .ref (b 0)), (4, .int (nI c9))]) C.1 C.2.1 dX3_digest_363 rfl hl (by decide) rfl (fun ls hl => ?_)
                                                    refine gInc (j := 3) (k := 2) (lv' := [(8, .int (nI 4)), (2, .long (((((((((dShips S (dStorms S (dKeys S (s_d0 S) 10) (s_sc S)) c9) * 31) + (Int32.toInt64 ((s_at S) c9))) * 31) + (Int32.toInt64 (nI (s_lag S c9)))) * 31) + (Int32.toInt64 ((s_hd S) c9))) * 31) + (Int32.toInt64 ((s_ms S) c9)))), (9, .int ((s_ms S) c9)), (7, .int (nI 7)), (6, .ref q_of), (5, .ref q_of), (0, .ref (b 0)), (4, .int (nI c9))]) C.1 C.2.1 dX3_digest_364 hl rfl (by decide) rfl (fun ls hl => ?_)
                                                    refine lv_goto (tgt := 340) C.1 C.2.1 dX3_digest_367 (by decide) ?_
                                                    refine lv_iload C.1 C.2.1 dX3_digest_340 (lv_at hl 0 rfl) ?_
                                                    refine lv_iload C.1 C.2.1 dX3_digest_342 (lv_at hl 3 rfl) ?_
                                                    refine gGeN (x := 4) (y := 7) (tgt := 370) C.1 C.2.1 (by omega) (by omega) dX3_digest_344 (by decide) (fun c_45 => ?_) (fun c_45 => ?_)
                                                    · exact absurd c_45 (by omega)
                                                    · refine lv_aload C.1 C.2.1 dX3_digest_347 (lv_at hl 4 rfl) ?_
                                                      refine lv_iload C.1 C.2.1 dX3_digest_349 (lv_at hl 0 rfl) ?_
                                                      refine gIald (v := nI (s_ea S c9 0)) (j := 4) C hO 12 rfl (by omega) (by decide) rfl dX3_digest_351 ?_
                                                      refine lv_istore (lv' := [(9, .int (nI (s_ea S c9 0))), (8, .int (nI 4)), (2, .long (((((((((dShips S (dStorms S (dKeys S (s_d0 S) 10) (s_sc S)) c9) * 31) + (Int32.toInt64 ((s_at S) c9))) * 31) + (Int32.toInt64 (nI (s_lag S c9)))) * 31) + (Int32.toInt64 ((s_hd S) c9))) * 31) + (Int32.toInt64 ((s_ms S) c9)))), (7, .int (nI 7)), (6, .ref q_of), (5, .ref q_of), (0, .ref (b 0)), (4, .int (nI c9))]) C.1 C.2.1 dX3_digest_352 hl (by decide) rfl (fun ls hl => ?_)
                                                      refine lv_lload_n C.1 C.2.1 dX3_digest_354 rfl (lv_at hl 2 rfl) ?_
                                                      refine lv_ldc2 (v := 31) C.1 C.2.1 C.2.2.2.1 (C.2.2.2.2.1 (.constantLong RX3 159 (31)) (by decide +kernel)) dX3_digest_355 ?_
                                                      refine lv_lmul C.1 C.2.1 dX3_digest_358 ?_
                                                      refine lv_iload C.1 C.2.1 dX3_digest_359 (lv_at hl 0 rfl) ?_
                                                      refine lv_i2l C.1 C.2.1 dX3_digest_361 rfl ?_
                                                      refine lv_ladd C.1 C.2.1 dX3_digest_362 ?_
                                                      refine lv_lstore_n (lv' := [(2, .long (((((((((((dShips S (dStorms S (dKeys S (s_d0 S) 10) (s_sc S)) c9) * 31) + (Int32.toInt64 ((s_at S) c9))) * 31) + (Int32.toInt64 (nI (s_lag S c9)))) * 31) + (Int32.toInt64 ((s_hd S) c9))) * 31) + (Int32.toInt64 ((s_ms S) c9))) * 31) + (Int32.toInt64 (nI (s_ea S c9 0))))), (9, .int (nI (s_ea S c9 0))), (8, .int (nI 4)), (7, .int (nI 7)), (6, .ref q_of), (5, .ref q_of), (0, .ref (b 0)), (4, .int (nI c9))]) C.1 C.2.1 dX3_digest_363 rfl hl (by decide) rfl (fun ls hl => ?_)
                                                      refine gInc (j := 4) (k := 2) (lv' := [(8, .int (nI 5)), (2, .long (((((((((((dShips S (dStorms S (dKeys S (s_d0 S) 10) (s_sc S)) c9) * 31) + (Int32.toInt64 ((s_at S) c9))) * 31) + (Int32.toInt64 (nI (s_lag S c9)))) * 31) + (Int32.toInt64 ((s_hd S) c9))) * 31) + (Int32.toInt64 ((s_ms S) c9))) * 31) + (Int32.toInt64 (nI (s_ea S c9 0))))), (9, .int (nI (s_ea S c9 0))), (7, .int (nI 7)), (6, .ref q_of), (5, .ref q_of), (0, .ref (b 0)), (4, .int (nI c9))]) C.1 C.2.1 dX3_digest_364 hl rfl (by decide) rfl (fun ls hl => ?_)
                                                      refine lv_goto (tgt := 340) C.1 C.2.1 dX3_digest_367 (by decide) ?_
                                                      refine lv_iload C.1 C.2.1 dX3_digest_340 (lv_at hl 0 rfl) ?_
                                                      refine lv_iload C.1 C.2.1 dX3_digest_342 (lv_at hl 3 rfl) ?_
                                                      refine gGeN (x := 5) (y := 7) (tgt := 370) C.1 C.2.1 (by omega) (by omega) dX3_digest_344 (by decide) (fun c_46 => ?_) (fun c_46 => ?_)
                                                      · exact absurd c_46 (by omega)
                                                      · refine lv_aload C.1 C.2.1 dX3_digest_347 (lv_at hl 4 rfl) ?_
                                                        refine lv_iload C.1 C.2.1 dX3_digest_349 (lv_at hl 0 rfl) ?_
                                                        refine gIald (v := s_un S c9) (j := 5) C hO 12 rfl (by omega) (by decide) rfl dX3_digest_351 ?_
                                                        refine lv_istore (lv' := [(9, .int (s_un S c9)), (8, .int (nI 5)), (2, .long (((((((((((dShips S (dStorms S (dKeys S (s_d0 S) 10) (s_sc S)) c9) * 31) + (Int32.toInt64 ((s_at S) c9))) * 31) + (Int32.toInt64 (nI (s_lag S c9)))) * 31) + (Int32.toInt64 ((s_hd S) c9))) * 31) + (Int32.toInt64 ((s_ms S) c9))) * 31) + (Int32.toInt64 (nI (s_ea S c9 0))))), (7, .int (nI 7)), (6, .ref q_of), (5, .ref q_of), (0, .ref (b 0)), (4, .int (nI c9))]) C.1 C.2.1 dX3_digest_352 hl (by decide) rfl (fun ls hl => ?_)
                                                        refine lv_lload_n C.1 C.2.1 dX3_digest_354 rfl (lv_at hl 2 rfl) ?_
                                                        refine lv_ldc2 (v := 31) C.1 C.2.1 C.2.2.2.1 (C.2.2.2.2.1 (.constantLong RX3 159 (31)) (by decide +kernel)) dX3_digest_355 ?_
                                                        refine lv_lmul C.1 C.2.1 dX3_digest_358 ?_
                                                        refine lv_iload C.1 C.2.1 dX3_digest_359 (lv_at hl 0 rfl) ?_
                                                        refine lv_i2l C.1 C.2.1 dX3_digest_361 rfl ?_
                                                        refine lv_ladd C.1 C.2.1 dX3_digest_362 ?_
                                                        refine lv_lstore_n (lv' := [(2, .long (((((((((((((dShips S (dStorms S (dKeys S (s_d0 S) 10) (s_sc S)) c9) * 31) + (Int32.toInt64 ((s_at S) c9))) * 31) + (Int32.toInt64 (nI (s_lag S c9)))) * 31) + (Int32.toInt64 ((s_hd S) c9))) * 31) + (Int32.toInt64 ((s_ms S) c9))) * 31) + (Int32.toInt64 (nI (s_ea S c9 0)))) * 31) + (Int32.toInt64 (s_un S c9)))), (9, .int (s_un S c9)), (8, .int (nI 5)), (7, .int (nI 7)), (6, .ref q_of), (5, .ref q_of), (0, .ref (b 0)), (4, .int (nI c9))]) C.1 C.2.1 dX3_digest_363 rfl hl (by decide) rfl (fun ls hl => ?_)
                                                        refine gInc (j := 5) (k := 2) (lv' := [(8, .int (nI 6)), (2, .long (((((((((((((dShips S (dStorms S (dKeys S (s_d0 S) 10) (s_sc S)) c9) * 31) + (Int32.toInt64 ((s_at S) c9))) * 31) + (Int32.toInt64 (nI (s_lag S c9)))) * 31) + (Int32.toInt64 ((s_hd S) c9))) * 31) + (Int32.toInt64 ((s_ms S) c9))) * 31) + (Int32.toInt64 (nI (s_ea S c9 0)))) * 31) + (Int32.toInt64 (s_un S c9)))), (9, .int (s_un S c9)), (7, .int (nI 7)), (6, .ref q_of), (5, .ref q_of), (0, .ref (b 0)), (4, .int (nI c9))]) C.1 C.2.1 dX3_digest_364 hl rfl (by decide) rfl (fun ls hl => ?_)
                                                        refine lv_goto (tgt := 340) C.1 C.2.1 dX3_digest_367 (by decide) ?_
                                                        refine lv_iload C.1 C.2.1 dX3_digest_340 (lv_at hl 0 rfl) ?_
                                                        refine lv_iload C.1 C.2.1 dX3_digest_342 (lv_at hl 3 rfl) ?_
                                                        refine gGeN (x := 6) (y := 7) (tgt := 370) C.1 C.2.1 (by omega) (by omega) dX3_digest_344 (by decide) (fun c_47 => ?_) (fun c_47 => ?_)
                                                        · exact absurd c_47 (by omega)
                                                        · refine lv_aload C.1 C.2.1 dX3_digest_347 (lv_at hl 4 rfl) ?_
                                                          refine lv_iload C.1 C.2.1 dX3_digest_349 (lv_at hl 0 rfl) ?_
                                                          refine gIald (v := nI (s_wm S c9)) (j := 6) C hO 12 rfl (by omega) (by decide) rfl dX3_digest_351 ?_
                                                          refine lv_istore (lv' := [(9, .int (nI (s_wm S c9))), (8, .int (nI 6)), (2, .long (((((((((((((dShips S (dStorms S (dKeys S (s_d0 S) 10) (s_sc S)) c9) * 31) + (Int32.toInt64 ((s_at S) c9))) * 31) + (Int32.toInt64 (nI (s_lag S c9)))) * 31) + (Int32.toInt64 ((s_hd S) c9))) * 31) + (Int32.toInt64 ((s_ms S) c9))) * 31) + (Int32.toInt64 (nI (s_ea S c9 0)))) * 31) + (Int32.toInt64 (s_un S c9)))), (7, .int (nI 7)), (6, .ref q_of), (5, .ref q_of), (0, .ref (b 0)), (4, .int (nI c9))]) C.1 C.2.1 dX3_digest_352 hl (by decide) rfl (fun ls hl => ?_)
                                                          refine lv_lload_n C.1 C.2.1 dX3_digest_354 rfl (lv_at hl 2 rfl) ?_
                                                          refine lv_ldc2 (v := 31) C.1 C.2.1 C.2.2.2.1 (C.2.2.2.2.1 (.constantLong RX3 159 (31)) (by decide +kernel)) dX3_digest_355 ?_
                                                          refine lv_lmul C.1 C.2.1 dX3_digest_358 ?_
                                                          refine lv_iload C.1 C.2.1 dX3_digest_359 (lv_at hl 0 rfl) ?_
                                                          refine lv_i2l C.1 C.2.1 dX3_digest_361 rfl ?_
                                                          refine lv_ladd C.1 C.2.1 dX3_digest_362 ?_
                                                          refine lv_lstore_n (lv' := [(2, .long (((((((((((((((dShips S (dStorms S (dKeys S (s_d0 S) 10) (s_sc S)) c9) * 31) + (Int32.toInt64 ((s_at S) c9))) * 31) + (Int32.toInt64 (nI (s_lag S c9)))) * 31) + (Int32.toInt64 ((s_hd S) c9))) * 31) + (Int32.toInt64 ((s_ms S) c9))) * 31) + (Int32.toInt64 (nI (s_ea S c9 0)))) * 31) + (Int32.toInt64 (s_un S c9))) * 31) + (Int32.toInt64 (nI (s_wm S c9))))), (9, .int (nI (s_wm S c9))), (8, .int (nI 6)), (7, .int (nI 7)), (6, .ref q_of), (5, .ref q_of), (0, .ref (b 0)), (4, .int (nI c9))]) C.1 C.2.1 dX3_digest_363 rfl hl (by decide) rfl (fun ls hl => ?_)
                                                          refine gInc (j := 6) (k := 2) (lv' := [(8, .int (nI 7)), (2, .long (((((((((((((((dShips S (dStorms S (dKeys S (s_d0 S) 10) (s_sc S)) c9) * 31) + (Int32.toInt64 ((s_at S) c9))) * 31) + (Int32.toInt64 (nI (s_lag S c9)))) * 31) + (Int32.toInt64 ((s_hd S) c9))) * 31) + (Int32.toInt64 ((s_ms S) c9))) * 31) + (Int32.toInt64 (nI (s_ea S c9 0)))) * 31) + (Int32.toInt64 (s_un S c9))) * 31) + (Int32.toInt64 (nI (s_wm S c9))))), (9, .int (nI (s_wm S c9))), (7, .int (nI 7)), (6, .ref q_of), (5, .ref q_of), (0, .ref (b 0)), (4, .int (nI c9))]) C.1 C.2.1 dX3_digest_364 hl rfl (by decide) rfl (fun ls hl => ?_)
                                                          refine lv_goto (tgt := 340) C.1 C.2.1 dX3_digest_367 (by decide) ?_
                                                          refine lv_iload C.1 C.2.1 dX3_digest_340 (lv_at hl 0 rfl) ?_
                                                          refine lv_iload C.1 C.2.1 dX3_digest_342 (lv_at hl 3 rfl) ?_
                                                          refine gGeN (x := 7) (y := 7) (tgt := 370) C.1 C.2.1 (by omega) (by omega) dX3_digest_344 (by decide) (fun c_48 => ?_) (fun c_48 => ?_)
                                                          · have hO : gO E A s (mW E b S 0 (mkU (s_cm S) mk (s_n S)) ++ F) H locs := gO.drop (W0 := mW E b S 0 (mkU (s_cm S) mk (s_n S))) hO
                                                            refine gInc (j := c9) (k := 7) (lv' := [(4, .int (nI (c9 + 1))), (8, .int (nI 7)), (2, .long (((((((((((((((dShips S (dStorms S (dKeys S (s_d0 S) 10) (s_sc S)) c9) * 31) + (Int32.toInt64 ((s_at S) c9))) * 31) + (Int32.toInt64 (nI (s_lag S c9)))) * 31) + (Int32.toInt64 ((s_hd S) c9))) * 31) + (Int32.toInt64 ((s_ms S) c9))) * 31) + (Int32.toInt64 (nI (s_ea S c9 0)))) * 31) + (Int32.toInt64 (s_un S c9))) * 31) + (Int32.toInt64 (nI (s_wm S c9))))), (9, .int (nI (s_wm S c9))), (7, .int (nI 7)), (6, .ref q_of), (5, .ref q_of), (0, .ref (b 0))]) C.1 C.2.1 dX3_digest_370 hl rfl (by decide) rfl (fun ls hl => ?_)
                                                            refine lv_goto (tgt := 245) C.1 C.2.1 dX3_digest_373 (by decide) ?_
                                                            refine W.widen (k := 2 + 3 * (c9 + 1)) (n := 20 + 27 * (c9 + 1)) (by omega) (by omega) ?_
                                                            exact ih_lp26 (c9 + 1) (by omega) (by omega) _ _ hO _ (lv_sub hl [7, 2, 0] rfl)
                                                          · exact absurd c_48 (by omega)
                                      refine W.widen (k := 2 + 3 * 0) (n := 20 + 27 * 0) (by omega) (by omega) ?_
                                      exact lp26 (s_sh S + 1) 0 (by omega) (Nat.zero_le _) _ _ hO _ (lv_sub hl [1, 2, 0] rfl)
                                    · refine lv_lload_n C.1 C.2.1 dX3_digest_207 rfl (lv_at hl 1 rfl) ?_
                                      refine lv_ldc2 (v := 31) C.1 C.2.1 C.2.2.2.1 (C.2.2.2.2.1 (.constantLong RX3 159 (31)) (by decide +kernel)) dX3_digest_208 ?_
                                      refine lv_lmul C.1 C.2.1 dX3_digest_211 ?_
                                      refine lv_aload_n C.1 C.2.1 dX3_digest_212 rfl (lv_at hl 0 rfl) ?_
                                      refine gGet (v := .ref (b 6)) (ref := RX3) (Cn := RX3) (T := TX3) (N := 19) C iX3 hO 0 rfl rfl 12 (by decide) w26 (fun _ h9 => h9) rfl dX3_digest_213 ?_
                                      refine lv_iload C.1 C.2.1 dX3_digest_216 (lv_at hl 2 rfl) ?_
                                      refine gIald (v := (s_said S) c8) (j := c8) C hO 6 rfl (by omega) (by decide) rfl dX3_digest_218 ?_
                                      refine lv_i2l C.1 C.2.1 dX3_digest_219 rfl ?_
                                      refine lv_ladd C.1 C.2.1 dX3_digest_220 ?_
                                      refine lv_lstore_n (lv' := [(2, .long (((dStorms S (dKeys S (s_d0 S) 10) c8) * 31) + (Int32.toInt64 ((s_said S) c8)))), (0, .ref (b 0)), (4, .int (nI c8))]) C.1 C.2.1 dX3_digest_221 rfl hl (by decide) rfl (fun ls hl => ?_)
                                      refine lv_lload_n C.1 C.2.1 dX3_digest_222 rfl (lv_at hl 0 rfl) ?_
                                      refine lv_ldc2 (v := 31) C.1 C.2.1 C.2.2.2.1 (C.2.2.2.2.1 (.constantLong RX3 159 (31)) (by decide +kernel)) dX3_digest_223 ?_
                                      refine lv_lmul C.1 C.2.1 dX3_digest_226 ?_
                                      refine lv_aload_n C.1 C.2.1 dX3_digest_227 rfl (lv_at hl 1 rfl) ?_
                                      refine lv_iload C.1 C.2.1 dX3_digest_228 (lv_at hl 2 rfl) ?_
                                      refine gCall_i (As := [.int (nI c8)]) (rest := [.long ((((dStorms S (dKeys S (s_d0 S) 10) c8) * 31) + (Int32.toInt64 ((s_said S) c8))) * 31)]) C hO (c_X3_kept l E b S 0 (mkU (s_cm S) mk (s_n S)) F (nI c8) (by omega)) (cwV 1 C.2.2.2.2.1 gX3_digest_X3_kept rfl rfl rfl (by decide +kernel) ⟨(Nat.le_of_ble_eq_true rfl), (Nat.le_of_ble_eq_true rfl)⟩) (va_recv C.2.2.2.2.2.2.2.1.1 hO.1 (ci := 3) (q0 := 0) rfl rfl) rfl hl.1 rfl (Nat.le_of_ble_eq_true rfl) dX3_digest_230 ⟨(Nat.le_of_ble_eq_true rfl), (Nat.le_of_ble_eq_true rfl)⟩ (fun H locs hO => ?_)
                                      refine lv_i2l C.1 C.2.1 dX3_digest_233 rfl ?_
                                      refine lv_ladd C.1 C.2.1 dX3_digest_234 ?_
                                      refine lv_lstore_n (lv' := [(2, .long (((((dStorms S (dKeys S (s_d0 S) 10) c8) * 31) + (Int32.toInt64 ((s_said S) c8))) * 31) + (Int32.toInt64 (nI (cnt (s_sto S) (nI c8) (s_n S)))))), (0, .ref (b 0)), (4, .int (nI c8))]) C.1 C.2.1 dX3_digest_235 rfl hl (by decide) rfl (fun ls hl => ?_)
                                      refine gInc (j := c8) (k := 2) (lv' := [(4, .int (nI (c8 + 1))), (2, .long (((((dStorms S (dKeys S (s_d0 S) 10) c8) * 31) + (Int32.toInt64 ((s_said S) c8))) * 31) + (Int32.toInt64 (nI (cnt (s_sto S) (nI c8) (s_n S)))))), (0, .ref (b 0))]) C.1 C.2.1 dX3_digest_236 hl rfl (by decide) rfl (fun ls hl => ?_)
                                      refine lv_goto (tgt := 198) C.1 C.2.1 dX3_digest_239 (by decide) ?_
                                      refine W.widen (k := 2) (n := 20) (by omega) (by omega) ?_
                                      exact ih_lp25 (c8 + 1) (by omega) (by omega) _ _ hO _ (lv_sub hl [2, 1, 0] rfl)
                                exact lp25 (s_sc S + 1) 0 (by omega) (Nat.zero_le _) _ _ hO _ (lv_sub hl [1, 2, 0] rfl)
                              · refine lv_lload_n C.1 C.2.1 dX3_digest_147 rfl (lv_at hl 1 rfl) ?_
                                refine lv_ldc2 (v := 31) C.1 C.2.1 C.2.2.2.1 (C.2.2.2.2.1 (.constantLong RX3 159 (31)) (by decide +kernel)) dX3_digest_148 ?_
                                refine lv_lmul C.1 C.2.1 dX3_digest_151 ?_
                                refine lv_aload_n C.1 C.2.1 dX3_digest_152 rfl (lv_at hl 0 rfl) ?_
                                refine lv_iload C.1 C.2.1 dX3_digest_153 (lv_at hl 2 rfl) ?_
                                refine gCall_i (As := [.int (nI c7)]) (rest := [.long ((dKeys S (s_d0 S) c7) * 31)]) C hO (c_X3_latest l E b S 0 (mkU (s_cm S) mk (s_n S)) F (nI c7) (by omega)) (cwV 1 C.2.2.2.2.1 gX3_digest_X3_latest rfl rfl rfl (by decide +kernel) ⟨(Nat.le_of_ble_eq_true rfl), (Nat.le_of_ble_eq_true rfl)⟩) (va_recv C.2.2.2.2.2.2.2.1.1 hO.1 (ci := 3) (q0 := 0) rfl rfl) rfl hl.1 rfl (Nat.le_of_ble_eq_true rfl) dX3_digest_155 ⟨(Nat.le_of_ble_eq_true rfl), (Nat.le_of_ble_eq_true rfl)⟩ (fun H locs hO => ?_)
                                refine lv_i2l C.1 C.2.1 dX3_digest_158 rfl ?_
                                refine lv_ladd C.1 C.2.1 dX3_digest_159 ?_
                                refine lv_lstore_n (lv' := [(2, .long (((dKeys S (s_d0 S) c7) * 31) + (Int32.toInt64 (s_lo S (nI c7))))), (0, .ref (b 0)), (4, .int (nI c7))]) C.1 C.2.1 dX3_digest_160 rfl hl (by decide) rfl (fun ls hl => ?_)
                                refine lv_lload_n C.1 C.2.1 dX3_digest_161 rfl (lv_at hl 0 rfl) ?_
                                refine lv_ldc2 (v := 31) C.1 C.2.1 C.2.2.2.1 (C.2.2.2.2.1 (.constantLong RX3 159 (31)) (by decide +kernel)) dX3_digest_162 ?_
                                refine lv_lmul C.1 C.2.1 dX3_digest_165 ?_
                                refine lv_aload_n C.1 C.2.1 dX3_digest_166 rfl (lv_at hl 1 rfl) ?_
                                refine lv_iload C.1 C.2.1 dX3_digest_167 (lv_at hl 2 rfl) ?_
                                refine gCall_i (As := [.int (nI c7)]) (rest := [.long ((((dKeys S (s_d0 S) c7) * 31) + (Int32.toInt64 (s_lo S (nI c7)))) * 31)]) C hO (c_X3_worth l E b S 0 (mkU (s_cm S) mk (s_n S)) F (nI c7) (by omega)) (cwV 1 C.2.2.2.2.1 gX3_digest_X3_worth rfl rfl rfl (by decide +kernel) ⟨(Nat.le_of_ble_eq_true rfl), (Nat.le_of_ble_eq_true rfl)⟩) (va_recv C.2.2.2.2.2.2.2.1.1 hO.1 (ci := 3) (q0 := 0) rfl rfl) rfl hl.1 rfl (Nat.le_of_ble_eq_true rfl) dX3_digest_169 ⟨(Nat.le_of_ble_eq_true rfl), (Nat.le_of_ble_eq_true rfl)⟩ (fun H locs hO => ?_)
                                refine lv_i2l C.1 C.2.1 dX3_digest_172 rfl ?_
                                refine lv_ladd C.1 C.2.1 dX3_digest_173 ?_
                                refine lv_lstore_n (lv' := [(2, .long (((((dKeys S (s_d0 S) c7) * 31) + (Int32.toInt64 (s_lo S (nI c7)))) * 31) + (Int32.toInt64 (s_wv S (nI c7))))), (0, .ref (b 0)), (4, .int (nI c7))]) C.1 C.2.1 dX3_digest_174 rfl hl (by decide) rfl (fun ls hl => ?_)
                                refine lv_lload_n C.1 C.2.1 dX3_digest_175 rfl (lv_at hl 0 rfl) ?_
                                refine lv_ldc2 (v := 31) C.1 C.2.1 C.2.2.2.1 (C.2.2.2.2.1 (.constantLong RX3 159 (31)) (by decide +kernel)) dX3_digest_176 ?_
                                refine lv_lmul C.1 C.2.1 dX3_digest_179 ?_
                                refine lv_aload_n C.1 C.2.1 dX3_digest_180 rfl (lv_at hl 1 rfl) ?_
                                refine lv_iload C.1 C.2.1 dX3_digest_181 (lv_at hl 2 rfl) ?_
                                refine gCall_i (As := [.int (nI c7)]) (rest := [.long ((((((dKeys S (s_d0 S) c7) * 31) + (Int32.toInt64 (s_lo S (nI c7)))) * 31) + (Int32.toInt64 (s_wv S (nI c7)))) * 31)]) C hO (c_X3_count l E b S 0 (mkU (s_cm S) mk (s_n S)) F (nI c7) (by omega)) (cwV 1 C.2.2.2.2.1 gX3_digest_X3_count rfl rfl rfl (by decide +kernel) ⟨(Nat.le_of_ble_eq_true rfl), (Nat.le_of_ble_eq_true rfl)⟩) (va_recv C.2.2.2.2.2.2.2.1.1 hO.1 (ci := 3) (q0 := 0) rfl rfl) rfl hl.1 rfl (Nat.le_of_ble_eq_true rfl) dX3_digest_183 ⟨(Nat.le_of_ble_eq_true rfl), (Nat.le_of_ble_eq_true rfl)⟩ (fun H locs hO => ?_)
                                refine lv_i2l C.1 C.2.1 dX3_digest_186 rfl ?_
                                refine lv_ladd C.1 C.2.1 dX3_digest_187 ?_
                                refine lv_lstore_n (lv' := [(2, .long (((((((dKeys S (s_d0 S) c7) * 31) + (Int32.toInt64 (s_lo S (nI c7)))) * 31) + (Int32.toInt64 (s_wv S (nI c7)))) * 31) + (Int32.toInt64 (nI (cnt (s_key S) (nI c7) (s_n S)))))), (0, .ref (b 0)), (4, .int (nI c7))]) C.1 C.2.1 dX3_digest_188 rfl hl (by decide) rfl (fun ls hl => ?_)
                                refine gInc (j := c7) (k := 2) (lv' := [(4, .int (nI (c7 + 1))), (2, .long (((((((dKeys S (s_d0 S) c7) * 31) + (Int32.toInt64 (s_lo S (nI c7)))) * 31) + (Int32.toInt64 (s_wv S (nI c7)))) * 31) + (Int32.toInt64 (nI (cnt (s_key S) (nI c7) (s_n S)))))), (0, .ref (b 0))]) C.1 C.2.1 dX3_digest_189 hl rfl (by decide) rfl (fun ls hl => ?_)
                                refine lv_goto (tgt := 140) C.1 C.2.1 dX3_digest_192 (by decide) ?_
                                refine W.widen (k := 2) (n := 20) (by omega) (by omega) ?_
                                exact ih_lp24 (c7 + 1) (by omega) (by omega) _ _ hO _ (lv_sub hl [2, 1, 0] rfl)
                          refine W.widen (k := 2) (n := 20) (by omega) (by omega) ?_
                          exact lp24 11 0 (by omega) (by omega) _ _ hO _ (lv_sub hl [6, 2, 0] rfl)
                        · exact absurd c_36 (by omega)
