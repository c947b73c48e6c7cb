set_option maxHeartbeats 4000000 in
set_option maxRecDepth 100000 in
theorem c_X3_isSame (l : Launch) (E : gE) (o : Nat) (d : Dt) (a : Nat → Nat) (S : St) (mk rk rv : Nat → Int32) (F : va_W) (hst : l.stackTraces = false) (hto : ∀ i, i < s_n S → s_sto S i < 0 ∨ ((s_sto S i).toNatClampNeg < s_sc S ∧ s_sto S i = nI (s_sto S i).toNatClampNeg)) (hR : Rep E d S) (hI : s_inv S) (hsr : s_srt S) : gMi l E yX3_isSame wsX3_isSame ({ frames := 8, cells := 400, slots := 2400, locals := 126 }) ((xW E a S mk rk rv) ++ (sW E o d S F)) [.ref o, .ref (a 0)] 1 ((xW E a S mk rk rv) ++ (sW E o d S F)) 400 2400 := by
  refine gMi.of (cc := cX3_isSame) (maxL := 11) (ty := .boolean) (by decide) rfl (Nat.le_of_ble_eq_true rfl) ?_
  intro p e s m args below meth c A C ls hl hO
  have hl : lv_has ls 11 [(0, .ref o), (1, .ref (a 0))] := hl
  have iX3 : ∀ w ∈ u_ws RX3 TX3 7, w ∈ wsX3_isSame := by decide +kernel
  have w9 : Cond.fieldLink RX3 9 "ParrotLogLaw$Sim" "log" "[[I" ∈ wsX3_isSame := by decide +kernel
  have w40 : Cond.fieldLink RX3 40 "ParrotLogLaw$Sim" "hours" "I" ∈ wsX3_isSame := by decide +kernel
  have w29 : Cond.fieldLink RX3 29 "ParrotLogLaw$Sim" "next" "I" ∈ wsX3_isSame := by decide +kernel
  have w21 : Cond.fieldLink RX3 21 "ParrotLogLaw$Sim" "dropped" "I" ∈ wsX3_isSame := by decide +kernel
  have w32 : Cond.fieldLink RX3 32 "ParrotLogLaw$Sim" "isOn" "Z" ∈ wsX3_isSame := by decide +kernel
  have w15 : Cond.fieldLink RX3 15 "ParrotLogLaw$Sim" "said" "[I" ∈ wsX3_isSame := by decide +kernel
  have w18 : Cond.fieldLink RX3 18 "ParrotLogLaw$Sim" "ships" "[[I" ∈ wsX3_isSame := by decide +kernel
  obtain ⟨hn, hsh, hsc, hOn, hOb, hok9, hpc9, hp0⟩ := id hI
  refine lv_aload_n C.1 C.2.1 dX3_isSame_0 rfl (lv_at hl 0 rfl) ?_
  refine gGet (v := .ref (d_1 d)) (ref := RX3) (Cn := RX3) (T := TX3) (N := 7) C iX3 hO 23 rfl rfl 4 (by decide) w9 (fun _ h9 => h9) rfl dX3_isSame_1 ?_
  refine va_alen (v := nI (s_n S)) C.1 C.2.1 C.2.2.2.2.2.2.2.1.1 hO.1 24 3 rfl rfl rfl dX3_isSame_4 ?_
  refine lv_istore_n (lv' := [(2, .int (nI (s_n S))), (0, .ref o), (1, .ref (a 0))]) C.1 C.2.1 dX3_isSame_5 rfl hl (by decide) rfl (fun ls hl => ?_)
  refine lv_aload_n C.1 C.2.1 dX3_isSame_6 rfl (lv_at hl 2 rfl) ?_
  refine gCall_i (mc := 0) (ms := 0) (As := []) (rest := []) C hO (c_X2_hours l E a S mk rk rv (sW E o d S F)  hI) (cwV 0 C.2.2.2.2.1 gX3_isSame_X2_hours rfl rfl rfl (by decide +kernel) ⟨(Nat.le_of_ble_eq_true rfl), (Nat.le_of_ble_eq_true rfl)⟩) (va_recv C.2.2.2.2.2.2.2.1.1 hO.1 (ci := 2) (q0 := 0) rfl rfl) rfl hl.1 rfl (Nat.le_of_ble_eq_true rfl) dX3_isSame_7 ⟨(Nat.le_of_ble_eq_true rfl), (Nat.le_of_ble_eq_true rfl)⟩ (fun H locs hO => ?_)
  refine lv_aload_n C.1 C.2.1 dX3_isSame_10 rfl (lv_at hl 1 rfl) ?_
  refine gGet (v := .int (s_hr S)) (ref := RX3) (Cn := RX3) (T := TX3) (N := 7) C iX3 hO 23 rfl rfl 0 (by decide) w40 (fun _ h9 => h9) rfl dX3_isSame_11 ?_
  refine lv_icmp_ne (tgt := 105) C.1 C.2.1 dX3_isSame_14 (by decide) (fun c_1 => ?_) (fun c_1 => ?_)
  · exact absurd rfl c_1
  · refine lv_aload_n C.1 C.2.1 dX3_isSame_17 rfl (lv_at hl 2 rfl) ?_
    refine gCall_i (mc := 0) (ms := 0) (As := []) (rest := []) C hO (c_X2_phrases l E a S mk rk rv (sW E o d S F)  hI) (cwV 0 C.2.2.2.2.1 gX3_isSame_X2_phrases rfl rfl rfl (by decide +kernel) ⟨(Nat.le_of_ble_eq_true rfl), (Nat.le_of_ble_eq_true rfl)⟩) (va_recv C.2.2.2.2.2.2.2.1.1 hO.1 (ci := 2) (q0 := 0) rfl rfl) rfl hl.1 rfl (Nat.le_of_ble_eq_true rfl) dX3_isSame_18 ⟨(Nat.le_of_ble_eq_true rfl), (Nat.le_of_ble_eq_true rfl)⟩ (fun H locs hO => ?_)
    refine lv_iload_n C.1 C.2.1 dX3_isSame_21 rfl (lv_at hl 0 rfl) ?_
    refine lv_icmp_ne (tgt := 105) C.1 C.2.1 dX3_isSame_22 (by decide) (fun c_2 => ?_) (fun c_2 => ?_)
    · exact absurd rfl c_2
    · refine lv_aload_n C.1 C.2.1 dX3_isSame_25 rfl (lv_at hl 2 rfl) ?_
      refine gCall_i (mc := 0) (ms := 0) (As := []) (rest := []) C hO (c_X2_nextOffset l E a S mk rk rv (sW E o d S F)  hI) (cwV 0 C.2.2.2.2.1 gX3_isSame_X2_nextOffset rfl rfl rfl (by decide +kernel) ⟨(Nat.le_of_ble_eq_true rfl), (Nat.le_of_ble_eq_true rfl)⟩) (va_recv C.2.2.2.2.2.2.2.1.1 hO.1 (ci := 2) (q0 := 0) rfl rfl) rfl hl.1 rfl (Nat.le_of_ble_eq_true rfl) dX3_isSame_26 ⟨(Nat.le_of_ble_eq_true rfl), (Nat.le_of_ble_eq_true rfl)⟩ (fun H locs hO => ?_)
      refine lv_aload_n C.1 C.2.1 dX3_isSame_29 rfl (lv_at hl 1 rfl) ?_
      refine gGet (v := .int (s_nx S)) (ref := RX3) (Cn := RX3) (T := TX3) (N := 7) C iX3 hO 23 rfl rfl 1 (by decide) w29 (fun _ h9 => h9) rfl dX3_isSame_30 ?_
      refine lv_icmp_ne (tgt := 105) C.1 C.2.1 dX3_isSame_33 (by decide) (fun c_3 => ?_) (fun c_3 => ?_)
      · exact absurd rfl c_3
      · refine lv_aload_n C.1 C.2.1 dX3_isSame_36 rfl (lv_at hl 2 rfl) ?_
        refine gCall_i (mc := 0) (ms := 0) (As := []) (rest := []) C hO (c_X2_firstOffset l E a S mk rk rv (sW E o d S F)  hI) (cwV 0 C.2.2.2.2.1 gX3_isSame_X2_firstOffset rfl rfl rfl (by decide +kernel) ⟨(Nat.le_of_ble_eq_true rfl), (Nat.le_of_ble_eq_true rfl)⟩) (va_recv C.2.2.2.2.2.2.2.1.1 hO.1 (ci := 2) (q0 := 0) rfl rfl) rfl hl.1 rfl (Nat.le_of_ble_eq_true rfl) dX3_isSame_37 ⟨(Nat.le_of_ble_eq_true rfl), (Nat.le_of_ble_eq_true rfl)⟩ (fun H locs hO => ?_)
        refine lv_iload_n C.1 C.2.1 dX3_isSame_40 rfl (lv_at hl 0 rfl) ?_
        have lb59 : ∀ (H : Heap) (locs : List Loc), gO E A s ((xW E a S mk rk rv) ++ (sW E o d S F)) H locs → ∀ ls : Array Slot, lv_has ls 11 [(0, .ref o), (1, .ref (a 0)), (2, .int (nI (s_n S)))] → W p l e ({ frames := 8, cells := 400, slots := 2400, locals := 126 } : Room) s m args below meth c H locs 0 0 (MQ below (gQi E A 1 ((xW E a S mk rk rv) ++ (sW E o d S F))) args s 400 2400 A) (F0 m 59 ls []) := by
          intro   H locs hO ls hl
          refine lv_aload_n C.1 C.2.1 dX3_isSame_59 rfl (lv_at hl 1 rfl) ?_
          refine gCall_i (mc := 0) (ms := 0) (As := []) (rest := []) C hO (c_X2_dropped l E a S mk rk rv (sW E o d S F)  hI) (cwV 0 C.2.2.2.2.1 gX3_isSame_X2_dropped rfl rfl rfl (by decide +kernel) ⟨(Nat.le_of_ble_eq_true rfl), (Nat.le_of_ble_eq_true rfl)⟩) (va_recv C.2.2.2.2.2.2.2.1.1 hO.1 (ci := 2) (q0 := 0) rfl rfl) rfl hl.1 rfl (Nat.le_of_ble_eq_true rfl) dX3_isSame_60 ⟨(Nat.le_of_ble_eq_true rfl), (Nat.le_of_ble_eq_true rfl)⟩ (fun H locs hO => ?_)
          refine lv_aload_n C.1 C.2.1 dX3_isSame_63 rfl (lv_at hl 0 rfl) ?_
          refine gGet (v := .int (s_dr S)) (ref := RX3) (Cn := RX3) (T := TX3) (N := 7) C iX3 hO 23 rfl rfl 2 (by decide) w21 (fun _ h9 => h9) rfl dX3_isSame_64 ?_
          refine lv_icmp_ne (tgt := 105) C.1 C.2.1 dX3_isSame_67 (by decide) (fun c_4 => ?_) (fun c_4 => ?_)
          · exact absurd rfl c_4
          · refine lv_aload_n C.1 C.2.1 dX3_isSame_70 rfl (lv_at hl 1 rfl) ?_
            refine gCall_i (mc := 0) (ms := 0) (As := []) (rest := []) C hO (c_X2_isStormy l E a S mk rk rv (sW E o d S F)  hI) (cwV 0 C.2.2.2.2.1 gX3_isSame_X2_isStormy rfl rfl rfl (by decide +kernel) ⟨(Nat.le_of_ble_eq_true rfl), (Nat.le_of_ble_eq_true rfl)⟩) (va_recv C.2.2.2.2.2.2.2.1.1 hO.1 (ci := 2) (q0 := 0) rfl rfl) rfl hl.1 rfl (Nat.le_of_ble_eq_true rfl) dX3_isSame_71 ⟨(Nat.le_of_ble_eq_true rfl), (Nat.le_of_ble_eq_true rfl)⟩ (fun H locs hO => ?_)
            refine lv_aload_n C.1 C.2.1 dX3_isSame_74 rfl (lv_at hl 0 rfl) ?_
            refine gGet (v := .int (s_on S)) (ref := RX3) (Cn := RX3) (T := TX3) (N := 7) C iX3 hO 23 rfl rfl 3 (by decide) w32 (fun _ h9 => h9) rfl dX3_isSame_75 ?_
            refine lv_icmp_ne (tgt := 105) C.1 C.2.1 dX3_isSame_78 (by decide) (fun c_5 => ?_) (fun c_5 => ?_)
            · exact absurd rfl c_5
            · refine lv_aload_n C.1 C.2.1 dX3_isSame_81 rfl (lv_at hl 1 rfl) ?_
              refine gCall_i (mc := 0) (ms := 0) (As := []) (rest := []) C hO (c_X2_storms l E a S mk rk rv (sW E o d S F)  hI) (cwV 0 C.2.2.2.2.1 gX3_isSame_X2_storms rfl rfl rfl (by decide +kernel) ⟨(Nat.le_of_ble_eq_true rfl), (Nat.le_of_ble_eq_true rfl)⟩) (va_recv C.2.2.2.2.2.2.2.1.1 hO.1 (ci := 2) (q0 := 0) rfl rfl) rfl hl.1 rfl (Nat.le_of_ble_eq_true rfl) dX3_isSame_82 ⟨(Nat.le_of_ble_eq_true rfl), (Nat.le_of_ble_eq_true rfl)⟩ (fun H locs hO => ?_)
              refine lv_aload_n C.1 C.2.1 dX3_isSame_85 rfl (lv_at hl 0 rfl) ?_
              refine gGet (v := .ref (d_2 d)) (ref := RX3) (Cn := RX3) (T := TX3) (N := 7) C iX3 hO 23 rfl rfl 5 (by decide) w15 (fun _ h9 => h9) rfl dX3_isSame_86 ?_
              refine va_alen (v := nI (s_sc S)) C.1 C.2.1 C.2.2.2.2.2.2.2.1.1 hO.1 25 0 rfl rfl rfl dX3_isSame_89 ?_
              refine lv_icmp_ne (tgt := 105) C.1 C.2.1 dX3_isSame_90 (by decide) (fun c_6 => ?_) (fun c_6 => ?_)
              · exact absurd rfl c_6
              · refine lv_aload_n C.1 C.2.1 dX3_isSame_93 rfl (lv_at hl 1 rfl) ?_
                refine gCall_i (mc := 0) (ms := 0) (As := []) (rest := []) C hO (c_X2_ships l E a S mk rk rv (sW E o d S F)  hI) (cwV 0 C.2.2.2.2.1 gX3_isSame_X2_ships rfl rfl rfl (by decide +kernel) ⟨(Nat.le_of_ble_eq_true rfl), (Nat.le_of_ble_eq_true rfl)⟩) (va_recv C.2.2.2.2.2.2.2.1.1 hO.1 (ci := 2) (q0 := 0) rfl rfl) rfl hl.1 rfl (Nat.le_of_ble_eq_true rfl) dX3_isSame_94 ⟨(Nat.le_of_ble_eq_true rfl), (Nat.le_of_ble_eq_true rfl)⟩ (fun H locs hO => ?_)
                refine lv_aload_n C.1 C.2.1 dX3_isSame_97 rfl (lv_at hl 0 rfl) ?_
                refine gGet (v := .ref (d_3 d)) (ref := RX3) (Cn := RX3) (T := TX3) (N := 7) C iX3 hO 23 rfl rfl 6 (by decide) w18 (fun _ h9 => h9) rfl dX3_isSame_98 ?_
                refine va_alen (v := nI (s_sh S)) C.1 C.2.1 C.2.2.2.2.2.2.2.1.1 hO.1 26 3 rfl rfl rfl dX3_isSame_101 ?_
                refine lv_icmp_eq (tgt := 107) C.1 C.2.1 dX3_isSame_102 (by decide) (fun c_7 => ?_) (fun c_7 => ?_)
                · refine lv_aload_n C.1 C.2.1 dX3_isSame_107 rfl (lv_at hl 0 rfl) ?_
                  refine gGet (v := .ref (d_2 d)) (ref := RX3) (Cn := RX3) (T := TX3) (N := 7) C iX3 hO 23 rfl rfl 5 (by decide) w15 (fun _ h9 => h9) rfl dX3_isSame_108 ?_
                  refine va_alen (v := nI (s_sc S)) C.1 C.2.1 C.2.2.2.2.2.2.2.1.1 hO.1 25 0 rfl rfl rfl dX3_isSame_111 ?_
                  have hO : gO E A s ((xW E a S mk rk rv) ++ (sW E o d S F)) _ _ := hO
                  refine gNewI (N9 := (s_sc S)) C (C.2.2.2.2.1 (.arrayClass .int) (by decide +kernel)) hO (by first | decide | omega) (Nat.le_of_ble_eq_true rfl) (by show _ ≤ 2400; omega) dX3_isSame_112 (fun q_k H hO => ?_)
                  have hO : gO E A s ((xW E a S mk rk rv) ++ ((q_k, .inl (eI E, (s_sc S), .inl (fun _ => 0))) :: (sW E o d S F))) _ _ := hO
                  refine lv_astore_n (lv' := [(3, .ref q_k), (0, .ref o), (1, .ref (a 0)), (2, .int (nI (s_n S)))]) C.1 C.2.1 dX3_isSame_114 rfl hl (by decide) rfl (fun ls hl => ?_)
                  refine lv_bipush (v := nI 10) C.1 C.2.1 dX3_isSame_115 (by decide) ?_
                  have hO : gO E A s ((xW E a S mk rk rv) ++ ((q_k, .inl (eI E, (s_sc S), .inl (fun _ => 0))) :: (sW E o d S F))) _ _ := hO
                  refine gNewI (N9 := 10) C (C.2.2.2.2.1 (.arrayClass .int) (by decide +kernel)) hO (by first | decide | omega) (Nat.le_of_ble_eq_true rfl) (by show _ ≤ 2400; omega) dX3_isSame_117 (fun q_l H hO => ?_)
                  have hO : gO E A s ((xW E a S mk rk rv) ++ ((q_l, .inl (eI E, 10, .inl (fun _ => 0))) :: ((q_k, .inl (eI E, (s_sc S), .inl (fun _ => 0))) :: (sW E o d S F)))) _ _ := hO
                  refine lv_astore (lv' := [(4, .ref q_l), (3, .ref q_k), (0, .ref o), (1, .ref (a 0)), (2, .int (nI (s_n S)))]) C.1 C.2.1 dX3_isSame_119 hl (by decide) rfl (fun ls hl => ?_)
                  refine lv_bipush (v := nI 10) C.1 C.2.1 dX3_isSame_121 (by decide) ?_
                  have hO : gO E A s ((xW E a S mk rk rv) ++ ((q_l, .inl (eI E, 10, .inl (fun _ => 0))) :: ((q_k, .inl (eI E, (s_sc S), .inl (fun _ => 0))) :: (sW E o d S F)))) _ _ := hO
                  refine gNewI (N9 := 10) C (C.2.2.2.2.1 (.arrayClass .int) (by decide +kernel)) hO (by first | decide | omega) (Nat.le_of_ble_eq_true rfl) (by show _ ≤ 2400; omega) dX3_isSame_123 (fun q_c H hO => ?_)
                  have hO : gO E A s ((xW E a S mk rk rv) ++ ((q_c, .inl (eI E, 10, .inl (fun _ => 0))) :: ((q_l, .inl (eI E, 10, .inl (fun _ => 0))) :: ((q_k, .inl (eI E, (s_sc S), .inl (fun _ => 0))) :: (sW E o d S F))))) _ _ := hO
                  refine lv_astore (lv' := [(5, .ref q_c), (4, .ref q_l), (3, .ref q_k), (0, .ref o), (1, .ref (a 0)), (2, .int (nI (s_n S)))]) C.1 C.2.1 dX3_isSame_125 hl (by decide) rfl (fun ls hl => ?_)
                  refine lv_iconst (v := 0) C.1 C.2.1 dX3_isSame_127 (by decide) ?_
                  refine lv_istore (lv' := [(6, .int 0), (5, .ref q_c), (4, .ref q_l), (3, .ref q_k), (0, .ref o), (1, .ref (a 0)), (2, .int (nI (s_n S)))]) C.1 C.2.1 dX3_isSame_128 hl (by decide) rfl (fun ls hl => ?_)
                  have lp130 : ∀ (f : Nat) (k24 : Nat) (lf24 : Nat → Int32), (11 ≤ k24 + f) → (k24 ≤ 10) → (∀ c, c < k24 → lf24 c = -1) → ∀ (H : Heap) (locs : List Loc), gO E A s ((xW E a S mk rk rv) ++ ((q_c, .inl (eI E, 10, .inl (fun _ => 0))) :: ((q_l, .inl (eI E, 10, .inl lf24)) :: ((q_k, .inl (eI E, (s_sc S), .inl (fun _ => 0))) :: (sW E o d S F))))) H locs → ∀ ls : Array Slot, lv_has ls 11 [(0, .ref o), (1, .ref (a 0)), (3, .ref q_k), (4, .ref q_l), (5, .ref q_c), (6, .int (nI k24))] → W p l e ({ frames := 8, cells := 400, slots := 2400, locals := 126 } : Room) s m args below meth c H locs 3 (s_sc S + 20) (MQ below (gQi E A 1 ((xW E a S mk rk rv) ++ (sW E o d S F))) args s 400 2400 A) (F0 m 130 ls []) := by
                    intro f
                    induction f with
                    | zero =>
                      intro k24 lf24 hf hk24 hl24
                      exact absurd hf (by omega)
                    | succ f ih_lp130 =>
                      intro k24 lf24 hf hk24 hl24 H locs hO ls hl
                      refine lv_iload C.1 C.2.1 dX3_isSame_130 (lv_at hl 5 rfl) ?_
                      refine lv_bipush (v := nI 10) C.1 C.2.1 dX3_isSame_132 (by decide) ?_
                      refine gGeN (x := k24) (y := 10) (tgt := 149) C.1 C.2.1 (by omega) (by omega) dX3_isSame_134 (by decide) (fun c_8 => ?_) (fun c_8 => ?_)
                      · refine lv_aload_n C.1 C.2.1 dX3_isSame_149 rfl (lv_at hl 0 rfl) ?_
                        refine gGet (v := .ref (d_1 d)) (ref := RX3) (Cn := RX3) (T := TX3) (N := 7) C iX3 hO 26 rfl rfl 4 (by decide) w9 (fun _ h9 => h9) rfl dX3_isSame_150 ?_
                        refine lv_astore (lv' := [(6, .ref (d_1 d)), (0, .ref o), (1, .ref (a 0)), (3, .ref q_k), (4, .ref q_l), (5, .ref q_c)]) C.1 C.2.1 dX3_isSame_153 hl (by decide) rfl (fun ls hl => ?_)
                        refine lv_aload C.1 C.2.1 dX3_isSame_155 (lv_at hl 0 rfl) ?_
                        refine va_alen (v := nI (s_n S)) C.1 C.2.1 C.2.2.2.2.2.2.2.1.1 hO.1 27 3 rfl rfl rfl dX3_isSame_157 ?_
                        refine lv_istore (lv' := [(7, .int (nI (s_n S))), (6, .ref (d_1 d)), (0, .ref o), (1, .ref (a 0)), (3, .ref q_k), (4, .ref q_l), (5, .ref q_c)]) C.1 C.2.1 dX3_isSame_158 hl (by decide) rfl (fun ls hl => ?_)
                        refine lv_iconst (v := 0) C.1 C.2.1 dX3_isSame_160 (by decide) ?_
                        refine lv_istore (lv' := [(8, .int 0), (7, .int (nI (s_n S))), (6, .ref (d_1 d)), (0, .ref o), (1, .ref (a 0)), (3, .ref q_k), (4, .ref q_l), (5, .ref q_c)]) C.1 C.2.1 dX3_isSame_161 hl (by decide) rfl (fun ls hl => ?_)
                        have lp163 : ∀ (f : Nat) (k25 : Nat) (kf24 : Nat → Int32) (lf25 : Nat → Int32) (cf24 : Nat → Int32), (s_n S + 1 ≤ k25 + f) → (k25 ≤ s_n S) → (∀ c, c < 10 → lf25 c = loT S c k25) → (∀ c, c < 10 → cf24 c = nI (cnt (s_key S) (nI c) k25)) → (∀ c, c < s_sc S → kf24 c = nI (cnt (s_sto S) (nI c) k25)) → ∀ (H : Heap) (locs : List Loc), gO E A s ((xW E a S mk rk rv) ++ ((q_c, .inl (eI E, 10, .inl cf24)) :: ((q_l, .inl (eI E, 10, .inl lf25)) :: ((q_k, .inl (eI E, (s_sc S), .inl kf24)) :: (sW E o d S F))))) H locs → ∀ ls : Array Slot, lv_has ls 11 [(0, .ref o), (1, .ref (a 0)), (3, .ref q_k), (4, .ref q_l), (5, .ref q_c), (6, .ref (d_1 d)), (7, .int (nI (s_n S))), (8, .int (nI k25))] → W p l e ({ frames := 8, cells := 400, slots := 2400, locals := 126 } : Room) s m args below meth c H locs (3 + 3 * k25) (s_sc S + 20 + 18 * k25) (MQ below (gQi E A 1 ((xW E a S mk rk rv) ++ (sW E o d S F))) args s 400 2400 A) (F0 m 163 ls []) := by
                          intro f
                          induction f with
                          | zero =>
                            intro k25 kf24 lf25 cf24 hf hk25 hlf hcf hkf
                            exact absurd hf (by omega)
                          | succ f ih_lp163 =>
                            intro k25 kf24 lf25 cf24 hf hk25 hlf hcf hkf H locs hO ls hl
                            refine lv_iload C.1 C.2.1 dX3_isSame_163 (lv_at hl 7 rfl) ?_
                            refine lv_iload C.1 C.2.1 dX3_isSame_165 (lv_at hl 6 rfl) ?_
                            refine gGeN (x := k25) (y := (s_n S)) (tgt := 280) C.1 C.2.1 (by omega) (by omega) dX3_isSame_167 (by decide) (fun c_9 => ?_) (fun c_9 => ?_)
                            · have hke9 : k25 = s_n S := by omega
                              refine lv_iconst (v := 0) C.1 C.2.1 dX3_isSame_280 (by decide) ?_
                              refine lv_istore (lv' := [(6, .int 0), (0, .ref o), (1, .ref (a 0)), (3, .ref q_k), (4, .ref q_l), (5, .ref q_c), (7, .int (nI (s_n S))), (8, .int (nI k25))]) C.1 C.2.1 dX3_isSame_281 hl (by decide) rfl (fun ls hl => ?_)
                              have lp283 : ∀ (f : Nat) (c24 : Nat), (11 ≤ c24 + f) → (c24 ≤ 10) → ∀ (H : Heap) (locs : List Loc), gO E A s ((xW E a S mk rk rv) ++ ((q_c, .inl (eI E, 10, .inl cf24)) :: ((q_l, .inl (eI E, 10, .inl lf25)) :: ((q_k, .inl (eI E, (s_sc S), .inl kf24)) :: (sW E o d S F))))) H locs → ∀ ls : Array Slot, lv_has ls 11 [(0, .ref o), (1, .ref (a 0)), (3, .ref q_k), (4, .ref q_l), (5, .ref q_c), (6, .int (nI c24))] → W p l e ({ frames := 8, cells := 400, slots := 2400, locals := 126 } : Room) s m args below meth c H locs (147 + 3 * c24) (s_sc S + 884 + 18 * c24) (MQ below (gQi E A 1 ((xW E a S mk rk rv) ++ (sW E o d S F))) args s 400 2400 A) (F0 m 283 ls []) := by
                                intro f
                                induction f with
                                | zero =>
                                  intro c24 hf hc24
                                  exact absurd hf (by omega)
                                | succ f ih_lp283 =>
                                  intro c24 hf hc24 H locs hO ls hl
                                  refine lv_iload C.1 C.2.1 dX3_isSame_283 (lv_at hl 5 rfl) ?_
                                  refine lv_bipush (v := nI 10) C.1 C.2.1 dX3_isSame_285 (by decide) ?_
                                  refine gGeN (x := c24) (y := 10) (tgt := 341) C.1 C.2.1 (by omega) (by omega) dX3_isSame_287 (by decide) (fun c_10 => ?_) (fun c_10 => ?_)
                                  · have hl : lv_has ls 11 [(0, .ref o), (1, .ref (a 0)), (3, .ref q_k)] := lv_sub hl [0, 1, 2] rfl
                                    refine lv_iconst (v := 0) C.1 C.2.1 dX3_isSame_341 (by decide) ?_
                                    refine lv_istore (lv' := [(6, .int 0), (0, .ref o), (1, .ref (a 0)), (3, .ref q_k)]) C.1 C.2.1 dX3_isSame_342 hl (by decide) rfl (fun ls hl => ?_)
                                    have lp344 : ∀ (f : Nat) (t24 : Nat), (s_sc S + 1 ≤ t24 + f) → (t24 ≤ s_sc S) → ∀ (H : Heap) (locs : List Loc), gO E A s ((xW E a S mk rk rv) ++ ((q_c, .inl (eI E, 10, .inl cf24)) :: ((q_l, .inl (eI E, 10, .inl lf25)) :: ((q_k, .inl (eI E, (s_sc S), .inl kf24)) :: (sW E o d S F))))) H locs → ∀ ls : Array Slot, lv_has ls 11 [(0, .ref o), (1, .ref (a 0)), (3, .ref q_k), (6, .int (nI t24))] → W p l e ({ frames := 8, cells := 400, slots := 2400, locals := 126 } : Room) s m args below meth c H locs (177 + 2 * t24) (s_sc S + 1064 + 12 * t24) (MQ below (gQi E A 1 ((xW E a S mk rk rv) ++ (sW E o d S F))) args s 400 2400 A) (F0 m 344 ls []) := by
                                      intro f
                                      induction f with
                                      | zero =>
                                        intro t24 hf ht24
                                        exact absurd hf (by omega)
                                      | succ f ih_lp344 =>
                                        intro t24 hf ht24 H locs hO ls hl
                                        refine lv_iload C.1 C.2.1 dX3_isSame_344 (lv_at hl 3 rfl) ?_
                                        refine lv_aload_n C.1 C.2.1 dX3_isSame_346 rfl (lv_at hl 0 rfl) ?_
                                        refine gGet (v := .ref (d_2 d)) (ref := RX3) (Cn := RX3) (T := TX3) (N := 7) C iX3 hO 26 rfl rfl 5 (by decide) w15 (fun _ h9 => h9) rfl dX3_isSame_347 ?_
                                        refine va_alen (v := nI (s_sc S)) C.1 C.2.1 C.2.2.2.2.2.2.2.1.1 hO.1 28 0 rfl rfl rfl dX3_isSame_350 ?_
                                        refine gGeN (x := t24) (y := (s_sc S)) (tgt := 391) C.1 C.2.1 (by omega) (by omega) dX3_isSame_351 (by decide) (fun c_11 => ?_) (fun c_11 => ?_)
                                        · have hl : lv_has ls 11 [(0, .ref o), (1, .ref (a 0))] := lv_sub hl [0, 1] rfl
                                          refine lv_iconst (v := (-1)) C.1 C.2.1 dX3_isSame_391 (by decide) ?_
                                          refine lv_istore (lv' := [(6, .int (-1)), (0, .ref o), (1, .ref (a 0))]) C.1 C.2.1 dX3_isSame_392 hl (by decide) rfl (fun ls hl => ?_)
                                          refine lv_iconst (v := 0) C.1 C.2.1 dX3_isSame_394 (by decide) ?_
                                          refine lv_istore (lv' := [(7, .int 0), (6, .int (-1)), (0, .ref o), (1, .ref (a 0))]) C.1 C.2.1 dX3_isSame_395 hl (by decide) rfl (fun ls hl => ?_)
                                          refine lv_iconst (v := 0) C.1 C.2.1 dX3_isSame_397 (by decide) ?_
                                          refine lv_istore (lv' := [(8, .int 0), (7, .int 0), (6, .int (-1)), (0, .ref o), (1, .ref (a 0))]) C.1 C.2.1 dX3_isSame_398 hl (by decide) rfl (fun ls hl => ?_)
                                          have lp400 : ∀ (f : Nat) (i24 : Nat), (s_sh S + 1 ≤ i24 + f) → (i24 ≤ s_sh S) → ∀ (H : Heap) (locs : List Loc), gO E A s ((xW E a S mk rk rv) ++ ((q_c, .inl (eI E, 10, .inl cf24)) :: ((q_l, .inl (eI E, 10, .inl lf25)) :: ((q_k, .inl (eI E, (s_sc S), .inl kf24)) :: (sW E o d S F))))) H locs → ∀ ls : Array Slot, lv_has ls 11 [(0, .ref o), (1, .ref (a 0)), (6, .int (oI (s_fb S i24))), (7, .int (nI (s_sl S i24))), (8, .int (nI i24))] → W p l e ({ frames := 8, cells := 400, slots := 2400, locals := 126 } : Room) s m args below meth c H locs (193 + 25 * i24) (s_sc S + 1160 + 150 * i24) (MQ below (gQi E A 1 ((xW E a S mk rk rv) ++ (sW E o d S F))) args s 400 2400 A) (F0 m 400 ls []) := by
                                            intro f
                                            induction f with
                                            | zero =>
                                              intro i24 hf hi24
                                              exact absurd hf (by omega)
                                            | succ f ih_lp400 =>
                                              intro i24 hf hi24 H locs hO ls hl
                                              refine lv_iload C.1 C.2.1 dX3_isSame_400 (lv_at hl 4 rfl) ?_
                                              refine lv_aload_n C.1 C.2.1 dX3_isSame_402 rfl (lv_at hl 0 rfl) ?_
                                              refine gGet (v := .ref (d_3 d)) (ref := RX3) (Cn := RX3) (T := TX3) (N := 7) C iX3 hO 26 rfl rfl 6 (by decide) w18 (fun _ h9 => h9) rfl dX3_isSame_403 ?_
                                              refine va_alen (v := nI (s_sh S)) C.1 C.2.1 C.2.2.2.2.2.2.2.1.1 hO.1 29 3 rfl rfl rfl dX3_isSame_406 ?_
                                              refine gGeN (x := i24) (y := (s_sh S)) (tgt := 572) C.1 C.2.1 (by omega) (by omega) dX3_isSame_407 (by decide) (fun c_12 => ?_) (fun c_12 => ?_)
                                              · have hsl9 := s_sl_le hn i24
                                                refine lv_aload_n C.1 C.2.1 dX3_isSame_572 rfl (lv_at hl 1 rfl) ?_
                                                refine gCall_i (mc := 0) (ms := 0) (As := []) (rest := []) C hO (c_X2_farthestBehind l E a S mk rk rv ((q_c, .inl (eI E, 10, .inl cf24)) :: ((q_l, .inl (eI E, 10, .inl lf25)) :: ((q_k, .inl (eI E, (s_sc S), .inl kf24)) :: (sW E o d S F))))  hI) (cwV 0 C.2.2.2.2.1 gX3_isSame_X2_farthestBehind rfl rfl rfl (by decide +kernel) ⟨(Nat.le_of_ble_eq_true rfl), (Nat.le_of_ble_eq_true rfl)⟩) (va_recv C.2.2.2.2.2.2.2.1.1 hO.1 (ci := 2) (q0 := 0) rfl rfl) rfl hl.1 rfl (Nat.le_of_ble_eq_true rfl) dX3_isSame_573 ⟨(by show 193 + 25 * i24 + 0 ≤ 400; omega), (by show s_sc S + 1160 + 150 * i24 + 0 ≤ 2400; omega)⟩ (fun H locs hO => ?_)
                                                refine lv_iload C.1 C.2.1 dX3_isSame_576 (lv_at hl 2 rfl) ?_
                                                refine lv_icmp_ne (tgt := 615) C.1 C.2.1 dX3_isSame_578 (by decide) (fun c_13 => ?_) (fun c_13 => ?_)
                                                · exact absurd (by rw [show i24 = s_sh S by omega]) c_13
                                                · refine lv_aload_n C.1 C.2.1 dX3_isSame_581 rfl (lv_at hl 1 rfl) ?_
                                                  refine gCall_d (mc := 0) (ms := 0) (As := []) (rest := []) C hO (c_X2_meanLag l E a S mk rk rv ((q_c, .inl (eI E, 10, .inl cf24)) :: ((q_l, .inl (eI E, 10, .inl lf25)) :: ((q_k, .inl (eI E, (s_sc S), .inl kf24)) :: (sW E o d S F))))  hI) (cwV 0 C.2.2.2.2.1 gX3_isSame_X2_meanLag rfl rfl rfl (by decide +kernel) ⟨(Nat.le_of_ble_eq_true rfl), (Nat.le_of_ble_eq_true rfl)⟩) (va_recv C.2.2.2.2.2.2.2.1.1 hO.1 (ci := 2) (q0 := 0) rfl rfl) rfl hl.1 rfl (Nat.le_of_ble_eq_true rfl) dX3_isSame_582 ⟨(by show 193 + 25 * i24 + 0 + 0 ≤ 400; omega), (by show s_sc S + 1160 + 150 * i24 + 0 + 0 ≤ 2400; omega)⟩ (fun H locs hO => ?_)
                                                  refine lv_aload_n C.1 C.2.1 dX3_isSame_585 rfl (lv_at hl 0 rfl) ?_
                                                  refine gGet (v := .ref (d_3 d)) (ref := RX3) (Cn := RX3) (T := TX3) (N := 7) C iX3 hO 26 rfl rfl 6 (by decide) w18 (fun _ h9 => h9) rfl dX3_isSame_586 ?_
                                                  refine va_alen (v := nI (s_sh S)) C.1 C.2.1 C.2.2.2.2.2.2.2.1.1 hO.1 29 3 rfl rfl rfl dX3_isSame_589 ?_
                                                  refine lv_if_ne (tgt := 597) C.1 C.2.1 dX3_isSame_590 (by decide) (fun c_14 => ?_) (fun c_14 => ?_)
                                                  · have hz9 : ¬ s_sh S = 0 := fun g => c_14 (by rw [g]; rfl)
                                                    refine lv_iload C.1 C.2.1 dX3_isSame_597 (lv_at hl 3 rfl) ?_
                                                    refine lv_i2d C.1 C.2.1 dX3_isSame_599 ?_
                                                    refine lv_aload_n C.1 C.2.1 dX3_isSame_600 rfl (lv_at hl 0 rfl) ?_
                                                    refine gGet (v := .ref (d_3 d)) (ref := RX3) (Cn := RX3) (T := TX3) (N := 7) C iX3 hO 26 rfl rfl 6 (by decide) w18 (fun _ h9 => h9) rfl dX3_isSame_601 ?_
                                                    refine va_alen (v := nI (s_sh S)) C.1 C.2.1 C.2.2.2.2.2.2.2.1.1 hO.1 29 3 rfl rfl rfl dX3_isSame_604 ?_
                                                    refine lv_i2d C.1 C.2.1 dX3_isSame_605 ?_
                                                    refine lv_ddiv C.1 C.2.1 dX3_isSame_606 (ml_nan _ _ (by omega) (by omega) (by omega)) ?_
                                                    refine lv_dcmp C.1 C.2.1 dX3_isSame_607 ?_
                                                    refine lv_eqi (y := 0) (by rw [show i24 = s_sh S by omega]; exact ml_c1 hz9 hn hsh) ?_
                                                    refine lv_if_ne (tgt := 615) C.1 C.2.1 dX3_isSame_608 (by decide) (fun c_15 => ?_) (fun c_15 => ?_)
                                                    · exact absurd rfl c_15
                                                    · refine lv_iconst (v := 1) C.1 C.2.1 dX3_isSame_611 (by decide) ?_
                                                      refine lv_goto (tgt := 616) C.1 C.2.1 dX3_isSame_612 (by decide) ?_
                                                      exact gRi C (gO.drop (W0 := xW E a S mk rk rv) (gO.drop (W0 := xW E a S mk rk rv) (gO.drop (W0 := xW E a S mk rk rv) hO))) rfl rfl dX3_isSame_616 (by omega) (by omega)
                                                  · have hz9 : s_sh S = 0 := nI_z (by omega) c_14
                                                    refine lv_dconst0 C.1 C.2.1 dX3_isSame_593 ?_
                                                    refine lv_goto (tgt := 607) C.1 C.2.1 dX3_isSame_594 (by decide) ?_
                                                    refine lv_dcmp C.1 C.2.1 dX3_isSame_607 ?_
                                                    refine lv_eqi (y := 0) (ml_c0 hz9) ?_
                                                    refine lv_if_ne (tgt := 615) C.1 C.2.1 dX3_isSame_608 (by decide) (fun c_16 => ?_) (fun c_16 => ?_)
                                                    · exact absurd rfl c_16
                                                    · refine lv_iconst (v := 1) C.1 C.2.1 dX3_isSame_611 (by decide) ?_
                                                      refine lv_goto (tgt := 616) C.1 C.2.1 dX3_isSame_612 (by decide) ?_
                                                      exact gRi C (gO.drop (W0 := xW E a S mk rk rv) (gO.drop (W0 := xW E a S mk rk rv) (gO.drop (W0 := xW E a S mk rk rv) hO))) rfl rfl dX3_isSame_616 (by omega) (by omega)
                                              · have hsl9 := s_sl_le hn i24
                                                have hll9 := s_lag_le S i24
                                                refine lv_aload_n C.1 C.2.1 dX3_isSame_410 rfl (lv_at hl 0 rfl) ?_
                                                refine gGet (v := .ref (d_3 d)) (ref := RX3) (Cn := RX3) (T := TX3) (N := 7) C iX3 hO 26 rfl rfl 6 (by decide) w18 (fun _ h9 => h9) rfl dX3_isSame_411 ?_
                                                refine lv_iload C.1 C.2.1 dX3_isSame_414 (lv_at hl 4 rfl) ?_
                                                refine gAaldA (v := (d_a d) i24) (j := i24) C hO 29 rfl (by omega) (by omega) (((hR).2.2 i24 (by omega)).1) dX3_isSame_416 ?_
                                                refine lv_astore (lv' := [(9, .ref ((d_a d) i24)), (0, .ref o), (1, .ref (a 0)), (6, .int (oI (s_fb S i24))), (7, .int (nI (s_sl S i24))), (8, .int (nI i24))]) C.1 C.2.1 dX3_isSame_417 hl (by decide) rfl (fun ls hl => ?_)
                                                refine lv_iload C.1 C.2.1 dX3_isSame_419 (lv_at hl 4 rfl) ?_
                                                refine lv_aload_n C.1 C.2.1 dX3_isSame_421 rfl (lv_at hl 1 rfl) ?_
                                                refine lv_aload C.1 C.2.1 dX3_isSame_422 (lv_at hl 0 rfl) ?_
                                                have hO : gO E A s (((xW E a S mk rk rv) ++ [(q_c, .inl (eI E, 10, .inl cf24)), (q_l, .inl (eI E, 10, .inl lf25)), (q_k, .inl (eI E, (s_sc S), .inl kf24))]) ++ (sW E o d S F)) H locs := hO
                                                have hO := gO.xs hO
                                                refine gCall_i (mc := 0) (ms := 0) (As := [.ref ((d_a d) i24)]) (rest := [.int (nI (s_sl S i24))]) C hO (c_X3_lag l E o d S (((xW E a S mk rk rv) ++ [(q_c, .inl (eI E, 10, .inl cf24)), (q_l, .inl (eI E, 10, .inl lf25)), (q_k, .inl (eI E, (s_sc S), .inl kf24))]) ++ F) i24 (by omega) hR hI hsr) (cwV 1 C.2.2.2.2.1 gX3_isSame_X3_lag rfl rfl rfl (by decide +kernel) ⟨(Nat.le_of_ble_eq_true rfl), (Nat.le_of_ble_eq_true rfl)⟩) (va_recv C.2.2.2.2.2.2.2.1.1 hO.1 (ci := 3) (q0 := 0) rfl rfl) rfl hl.1 rfl (Nat.le_of_ble_eq_true rfl) dX3_isSame_424 ⟨(by show 193 + 25 * i24 + 0 ≤ 400; omega), (by show s_sc S + 1160 + 150 * i24 + 0 ≤ 2400; omega)⟩ (fun H locs hO => ?_)
                                                have hO : gO E A s (((xW E a S mk rk rv) ++ [(q_c, .inl (eI E, 10, .inl cf24)), (q_l, .inl (eI E, 10, .inl lf25)), (q_k, .inl (eI E, (s_sc S), .inl kf24))]) ++ (sW E o d S F)) H locs := gO.sx hO
                                                have hO : gO E A s ((xW E a S mk rk rv) ++ ((q_c, .inl (eI E, 10, .inl cf24)) :: ((q_l, .inl (eI E, 10, .inl lf25)) :: ((q_k, .inl (eI E, (s_sc S), .inl kf24)) :: (sW E o d S F))))) H locs := hO
                                                refine gAddN (x := (s_sl S i24)) (y := (s_lag S i24)) C.1 C.2.1 dX3_isSame_427 ?_
                                                refine lv_eqi (y := nI (s_sl S (i24 + 1))) rfl ?_
                                                refine lv_istore (lv' := [(7, .int (nI (s_sl S (i24 + 1)))), (9, .ref ((d_a d) i24)), (0, .ref o), (1, .ref (a 0)), (6, .int (oI (s_fb S i24))), (8, .int (nI i24))]) C.1 C.2.1 dX3_isSame_428 hl (by decide) rfl (fun ls hl => ?_)
                                                have lb459 : ∀ (H : Heap) (locs : List Loc), gO E A s ((xW E a S mk rk rv) ++ ((q_c, .inl (eI E, 10, .inl cf24)) :: ((q_l, .inl (eI E, 10, .inl lf25)) :: ((q_k, .inl (eI E, (s_sc S), .inl kf24)) :: (sW E o d S F))))) H locs → ∀ ls : Array Slot, lv_has ls 11 [(0, .ref o), (1, .ref (a 0)), (6, .int (oI (s_fb S (i24 + 1)))), (7, .int (nI (s_sl S (i24 + 1)))), (8, .int (nI i24)), (9, .ref ((d_a d) i24))] → W p l e ({ frames := 8, cells := 400, slots := 2400, locals := 126 } : Room) s m args below meth c H locs (193 + 25 * i24) (s_sc S + 1160 + 150 * i24) (MQ below (gQi E A 1 ((xW E a S mk rk rv) ++ (sW E o d S F))) args s 400 2400 A) (F0 m 459 ls []) := by
                                                  intro   H locs hO ls hl
                                                  refine lv_aload_n C.1 C.2.1 dX3_isSame_459 rfl (lv_at hl 1 rfl) ?_
                                                  refine lv_iload C.1 C.2.1 dX3_isSame_460 (lv_at hl 4 rfl) ?_
                                                  refine gXCall_i (mc := 1) (ms := 6) (As := [.int (nI i24)]) (rest := []) C hO (c_X2_offsetOf l E a S mk rk rv ((q_c, .inl (eI E, 10, .inl cf24)) :: ((q_l, .inl (eI E, 10, .inl lf25)) :: ((q_k, .inl (eI E, (s_sc S), .inl kf24)) :: (sW E o d S F)))) (nI i24) hst hI) (cwV 1 C.2.2.2.2.1 gX3_isSame_X2_offsetOf rfl rfl rfl (by decide +kernel) ⟨(Nat.le_of_ble_eq_true rfl), (Nat.le_of_ble_eq_true rfl)⟩) (va_recv C.2.2.2.2.2.2.2.1.1 hO.1 (ci := 2) (q0 := 0) rfl rfl) rfl hl.1 rfl (Nat.le_of_ble_eq_true rfl) dX3_isSame_462 ⟨(by show 193 + 25 * i24 + 1 ≤ 400; omega), (by show s_sc S + 1160 + 150 * i24 + 6 ≤ 2400; omega)⟩ (fun E0 ce q9 H locs hO hcell hcv hcl hbad => ?_) (fun H locs hO _ => ?_)
                                                  · exact absurd (okShip_nI hsh (by omega)) hbad.2
                                                  refine lv_eqi (y := s_at S i24) (by rw [nI_clamp (by omega)]) ?_
                                                  refine lv_aload C.1 C.2.1 dX3_isSame_465 (lv_at hl 5 rfl) ?_
                                                  refine lv_iconst (v := 1) C.1 C.2.1 dX3_isSame_467 (by decide) ?_
                                                  refine gIald (v := s_at S i24) (j := 1) C hO (i24 + 30) (shC_at (by omega)) (by decide) (by first | decide | omega) (((hR).2.2 i24 (by omega)).2.2.1) dX3_isSame_468 ?_
                                                  refine lv_icmp_ne (tgt := 528) C.1 C.2.1 dX3_isSame_469 (by decide) (fun c_18 => ?_) (fun c_18 => ?_)
                                                  · exact absurd rfl c_18
                                                  · refine lv_aload_n C.1 C.2.1 dX3_isSame_472 rfl (lv_at hl 1 rfl) ?_
                                                    refine lv_iload C.1 C.2.1 dX3_isSame_473 (lv_at hl 4 rfl) ?_
                                                    refine gXCall_i (mc := 1) (ms := 6) (As := [.int (nI i24)]) (rest := []) C hO (c_X2_lagOf l E a S mk rk rv ((q_c, .inl (eI E, 10, .inl cf24)) :: ((q_l, .inl (eI E, 10, .inl lf25)) :: ((q_k, .inl (eI E, (s_sc S), .inl kf24)) :: (sW E o d S F)))) (nI i24) hst hI) (cwV 1 C.2.2.2.2.1 gX3_isSame_X2_lagOf rfl rfl rfl (by decide +kernel) ⟨(Nat.le_of_ble_eq_true rfl), (Nat.le_of_ble_eq_true rfl)⟩) (va_recv C.2.2.2.2.2.2.2.1.1 hO.1 (ci := 2) (q0 := 0) rfl rfl) rfl hl.1 rfl (Nat.le_of_ble_eq_true rfl) dX3_isSame_475 ⟨(by show 193 + 25 * i24 + 1 + 1 ≤ 400; omega), (by show s_sc S + 1160 + 150 * i24 + 6 + 6 ≤ 2400; omega)⟩ (fun E0 ce q9 H locs hO hcell hcv hcl hbad => ?_) (fun H locs hO _ => ?_)
                                                    · exact absurd (okShip_nI hsh (by omega)) hbad.2
                                                    refine lv_eqi (y := nI (s_lag S i24)) (by rw [nI_clamp (by omega)]) ?_
                                                    refine lv_aload_n C.1 C.2.1 dX3_isSame_478 rfl (lv_at hl 0 rfl) ?_
                                                    refine lv_aload C.1 C.2.1 dX3_isSame_479 (lv_at hl 5 rfl) ?_
                                                    have hO : gO E A s (((xW E a S mk rk rv) ++ [(q_c, .inl (eI E, 10, .inl cf24)), (q_l, .inl (eI E, 10, .inl lf25)), (q_k, .inl (eI E, (s_sc S), .inl kf24))]) ++ (sW E o d S F)) H locs := hO
                                                    have hO := gO.xs hO
                                                    refine gCall_i (mc := 0) (ms := 0) (As := [.ref ((d_a d) i24)]) (rest := [.int (nI (s_lag S i24))]) C hO (c_X3_lag l E o d S (((xW E a S mk rk rv) ++ [(q_c, .inl (eI E, 10, .inl cf24)), (q_l, .inl (eI E, 10, .inl lf25)), (q_k, .inl (eI E, (s_sc S), .inl kf24))]) ++ F) i24 (by omega) hR hI hsr) (cwV 1 C.2.2.2.2.1 gX3_isSame_X3_lag rfl rfl rfl (by decide +kernel) ⟨(Nat.le_of_ble_eq_true rfl), (Nat.le_of_ble_eq_true rfl)⟩) (va_recv C.2.2.2.2.2.2.2.1.1 hO.1 (ci := 3) (q0 := 0) rfl rfl) rfl hl.1 rfl (Nat.le_of_ble_eq_true rfl) dX3_isSame_481 ⟨(by show 193 + 25 * i24 + 1 + 1 + 0 ≤ 400; omega), (by show s_sc S + 1160 + 150 * i24 + 6 + 6 + 0 ≤ 2400; omega)⟩ (fun H locs hO => ?_)
                                                    have hO : gO E A s (((xW E a S mk rk rv) ++ [(q_c, .inl (eI E, 10, .inl cf24)), (q_l, .inl (eI E, 10, .inl lf25)), (q_k, .inl (eI E, (s_sc S), .inl kf24))]) ++ (sW E o d S F)) H locs := gO.sx hO
                                                    have hO : gO E A s ((xW E a S mk rk rv) ++ ((q_c, .inl (eI E, 10, .inl cf24)) :: ((q_l, .inl (eI E, 10, .inl lf25)) :: ((q_k, .inl (eI E, (s_sc S), .inl kf24)) :: (sW E o d S F))))) H locs := hO
                                                    refine lv_icmp_ne (tgt := 528) C.1 C.2.1 dX3_isSame_484 (by decide) (fun c_20 => ?_) (fun c_20 => ?_)
                                                    · exact absurd rfl c_20
                                                    · refine lv_aload_n C.1 C.2.1 dX3_isSame_487 rfl (lv_at hl 1 rfl) ?_
                                                      refine lv_iload C.1 C.2.1 dX3_isSame_488 (lv_at hl 4 rfl) ?_
                                                      refine gXCall_i (mc := 1) (ms := 6) (As := [.int (nI i24)]) (rest := []) C hO (c_X2_heardBy l E a S mk rk rv ((q_c, .inl (eI E, 10, .inl cf24)) :: ((q_l, .inl (eI E, 10, .inl lf25)) :: ((q_k, .inl (eI E, (s_sc S), .inl kf24)) :: (sW E o d S F)))) (nI i24) hst hI) (cwV 1 C.2.2.2.2.1 gX3_isSame_X2_heardBy rfl rfl rfl (by decide +kernel) ⟨(Nat.le_of_ble_eq_true rfl), (Nat.le_of_ble_eq_true rfl)⟩) (va_recv C.2.2.2.2.2.2.2.1.1 hO.1 (ci := 2) (q0 := 0) rfl rfl) rfl hl.1 rfl (Nat.le_of_ble_eq_true rfl) dX3_isSame_490 ⟨(by show 193 + 25 * i24 + 1 + 1 + 0 + 1 ≤ 400; omega), (by show s_sc S + 1160 + 150 * i24 + 6 + 6 + 0 + 6 ≤ 2400; omega)⟩ (fun E0 ce q9 H locs hO hcell hcv hcl hbad => ?_) (fun H locs hO _ => ?_)
                                                      · exact absurd (okShip_nI hsh (by omega)) hbad.2
                                                      refine lv_eqi (y := s_hd S i24) (by rw [nI_clamp (by omega)]) ?_
                                                      refine lv_aload C.1 C.2.1 dX3_isSame_493 (lv_at hl 5 rfl) ?_
                                                      refine lv_iconst (v := nI 2) C.1 C.2.1 dX3_isSame_495 (by decide) ?_
                                                      refine gIald (v := s_hd S i24) (j := 2) C hO (i24 + 30) (shC_at (by omega)) (by decide) (by first | decide | omega) (((hR).2.2 i24 (by omega)).2.2.2.1) dX3_isSame_496 ?_
                                                      refine lv_icmp_ne (tgt := 528) C.1 C.2.1 dX3_isSame_497 (by decide) (fun c_22 => ?_) (fun c_22 => ?_)
                                                      · exact absurd rfl c_22
                                                      · refine lv_aload_n C.1 C.2.1 dX3_isSame_500 rfl (lv_at hl 1 rfl) ?_
                                                        refine lv_iload C.1 C.2.1 dX3_isSame_501 (lv_at hl 4 rfl) ?_
                                                        refine gXCall_i (mc := 1) (ms := 6) (As := [.int (nI i24)]) (rest := []) C hO (c_X2_missedBy l E a S mk rk rv ((q_c, .inl (eI E, 10, .inl cf24)) :: ((q_l, .inl (eI E, 10, .inl lf25)) :: ((q_k, .inl (eI E, (s_sc S), .inl kf24)) :: (sW E o d S F)))) (nI i24) hst hI) (cwV 1 C.2.2.2.2.1 gX3_isSame_X2_missedBy rfl rfl rfl (by decide +kernel) ⟨(Nat.le_of_ble_eq_true rfl), (Nat.le_of_ble_eq_true rfl)⟩) (va_recv C.2.2.2.2.2.2.2.1.1 hO.1 (ci := 2) (q0 := 0) rfl rfl) rfl hl.1 rfl (Nat.le_of_ble_eq_true rfl) dX3_isSame_503 ⟨(by show 193 + 25 * i24 + 1 + 1 + 0 + 1 + 1 ≤ 400; omega), (by show s_sc S + 1160 + 150 * i24 + 6 + 6 + 0 + 6 + 6 ≤ 2400; omega)⟩ (fun E0 ce q9 H locs hO hcell hcv hcl hbad => ?_) (fun H locs hO _ => ?_)
                                                        · exact absurd (okShip_nI hsh (by omega)) hbad.2
                                                        refine lv_eqi (y := s_ms S i24) (by rw [nI_clamp (by omega)]) ?_
                                                        refine lv_aload C.1 C.2.1 dX3_isSame_506 (lv_at hl 5 rfl) ?_
                                                        refine lv_iconst (v := nI 3) C.1 C.2.1 dX3_isSame_508 (by decide) ?_
                                                        refine gIald (v := s_ms S i24) (j := 3) C hO (i24 + 30) (shC_at (by omega)) (by decide) (by first | decide | omega) (((hR).2.2 i24 (by omega)).2.2.2.2.1) dX3_isSame_509 ?_
                                                        refine lv_icmp_ne (tgt := 528) C.1 C.2.1 dX3_isSame_510 (by decide) (fun c_24 => ?_) (fun c_24 => ?_)
                                                        · exact absurd rfl c_24
                                                        · refine lv_aload_n C.1 C.2.1 dX3_isSame_513 rfl (lv_at hl 1 rfl) ?_
                                                          refine lv_iload C.1 C.2.1 dX3_isSame_514 (lv_at hl 4 rfl) ?_
                                                          refine gXCall_i (mc := 1) (ms := 6) (As := [.int (nI i24)]) (rest := []) C hO (c_X2_errorsOf l E a S mk rk rv ((q_c, .inl (eI E, 10, .inl cf24)) :: ((q_l, .inl (eI E, 10, .inl lf25)) :: ((q_k, .inl (eI E, (s_sc S), .inl kf24)) :: (sW E o d S F)))) (nI i24) hst hI) (cwV 1 C.2.2.2.2.1 gX3_isSame_X2_errorsOf rfl rfl rfl (by decide +kernel) ⟨(Nat.le_of_ble_eq_true rfl), (Nat.le_of_ble_eq_true rfl)⟩) (va_recv C.2.2.2.2.2.2.2.1.1 hO.1 (ci := 2) (q0 := 0) rfl rfl) rfl hl.1 rfl (Nat.le_of_ble_eq_true rfl) dX3_isSame_516 ⟨(by show 193 + 25 * i24 + 1 + 1 + 0 + 1 + 1 + 1 ≤ 400; omega), (by show s_sc S + 1160 + 150 * i24 + 6 + 6 + 0 + 6 + 6 + 6 ≤ 2400; omega)⟩ (fun E0 ce q9 H locs hO hcell hcv hcl hbad => ?_) (fun H locs hO _ => ?_)
                                                          · exact absurd (okShip_nI hsh (by omega)) hbad.2
                                                          refine lv_eqi (y := nI (s_ea S i24 0)) (by rw [nI_clamp (by omega)]) ?_
                                                          refine lv_aload_n C.1 C.2.1 dX3_isSame_519 rfl (lv_at hl 0 rfl) ?_
                                                          refine lv_aload C.1 C.2.1 dX3_isSame_520 (lv_at hl 5 rfl) ?_
                                                          have hO : gO E A s (((xW E a S mk rk rv) ++ [(q_c, .inl (eI E, 10, .inl cf24)), (q_l, .inl (eI E, 10, .inl lf25)), (q_k, .inl (eI E, (s_sc S), .inl kf24))]) ++ (sW E o d S F)) H locs := hO
                                                          have hO := gO.xs hO
                                                          refine gCall_i (mc := 0) (ms := 0) (As := [.ref ((d_a d) i24)]) (rest := [.int (nI (s_ea S i24 0))]) C hO (c_X3_errors l E o d S (((xW E a S mk rk rv) ++ [(q_c, .inl (eI E, 10, .inl cf24)), (q_l, .inl (eI E, 10, .inl lf25)), (q_k, .inl (eI E, (s_sc S), .inl kf24))]) ++ F) i24 (by omega) hR hI hsr) (cwV 1 C.2.2.2.2.1 gX3_isSame_X3_errors rfl rfl rfl (by decide +kernel) ⟨(Nat.le_of_ble_eq_true rfl), (Nat.le_of_ble_eq_true rfl)⟩) (va_recv C.2.2.2.2.2.2.2.1.1 hO.1 (ci := 3) (q0 := 0) rfl rfl) rfl hl.1 rfl (Nat.le_of_ble_eq_true rfl) dX3_isSame_522 ⟨(by show 193 + 25 * i24 + 1 + 1 + 0 + 1 + 1 + 1 + 0 ≤ 400; omega), (by show s_sc S + 1160 + 150 * i24 + 6 + 6 + 0 + 6 + 6 + 6 + 0 ≤ 2400; omega)⟩ (fun H locs hO => ?_)
                                                          have hO : gO E A s (((xW E a S mk rk rv) ++ [(q_c, .inl (eI E, 10, .inl cf24)), (q_l, .inl (eI E, 10, .inl lf25)), (q_k, .inl (eI E, (s_sc S), .inl kf24))]) ++ (sW E o d S F)) H locs := gO.sx hO
                                                          have hO : gO E A s ((xW E a S mk rk rv) ++ ((q_c, .inl (eI E, 10, .inl cf24)) :: ((q_l, .inl (eI E, 10, .inl lf25)) :: ((q_k, .inl (eI E, (s_sc S), .inl kf24)) :: (sW E o d S F))))) H locs := hO
                                                          refine lv_icmp_eq (tgt := 530) C.1 C.2.1 dX3_isSame_525 (by decide) (fun c_26 => ?_) (fun c_26 => ?_)
                                                          · refine lv_iconst (v := 0) C.1 C.2.1 dX3_isSame_530 (by decide) ?_
                                                            refine lv_istore (lv' := [(10, .int 0), (0, .ref o), (1, .ref (a 0)), (6, .int (oI (s_fb S (i24 + 1)))), (7, .int (nI (s_sl S (i24 + 1)))), (8, .int (nI i24)), (9, .ref ((d_a d) i24))]) C.1 C.2.1 dX3_isSame_531 hl (by decide) rfl (fun ls hl => ?_)
                                                            have lp533 : ∀ (f : Nat) (c25 : Nat), (11 ≤ c25 + f) → (c25 ≤ 10) → ∀ (H : Heap) (locs : List Loc), gO E A s ((xW E a S mk rk rv) ++ ((q_c, .inl (eI E, 10, .inl cf24)) :: ((q_l, .inl (eI E, 10, .inl lf25)) :: ((q_k, .inl (eI E, (s_sc S), .inl kf24)) :: (sW E o d S F))))) H locs → ∀ ls : Array Slot, lv_has ls 11 [(0, .ref o), (1, .ref (a 0)), (6, .int (oI (s_fb S (i24 + 1)))), (7, .int (nI (s_sl S (i24 + 1)))), (8, .int (nI i24)), (9, .ref ((d_a d) i24)), (10, .int (nI c25))] → W p l e ({ frames := 8, cells := 400, slots := 2400, locals := 126 } : Room) s m args below meth c H locs (198 + 25 * i24 + 2 * c25) (s_sc S + 1190 + 150 * i24 + 12 * c25) (MQ below (gQi E A 1 ((xW E a S mk rk rv) ++ (sW E o d S F))) args s 400 2400 A) (F0 m 533 ls []) := by
                                                              intro f
                                                              induction f with
                                                              | zero =>
                                                                intro c25 hf hc25
                                                                exact absurd hf (by omega)
                                                              | succ f ih_lp533 =>
                                                                intro c25 hf hc25 H locs hO ls hl
                                                                refine lv_iload C.1 C.2.1 dX3_isSame_533 (lv_at hl 6 rfl) ?_
                                                                refine lv_bipush (v := nI 10) C.1 C.2.1 dX3_isSame_535 (by decide) ?_
                                                                refine gGeN (x := c25) (y := 10) (tgt := 566) C.1 C.2.1 (by omega) (by omega) dX3_isSame_537 (by decide) (fun c_27 => ?_) (fun c_27 => ?_)
                                                                · have hl : lv_has ls 11 [(0, .ref o), (1, .ref (a 0)), (6, .int (oI (s_fb S (i24 + 1)))), (7, .int (nI (s_sl S (i24 + 1)))), (8, .int (nI i24))] := lv_sub hl [0, 1, 2, 3, 4] rfl
                                                                  refine gInc (j := i24) (k := 4) (lv' := [(8, .int (nI (i24 + 1))), (0, .ref o), (1, .ref (a 0)), (6, .int (oI (s_fb S (i24 + 1)))), (7, .int (nI (s_sl S (i24 + 1))))]) C.1 C.2.1 dX3_isSame_566 hl rfl (by decide) rfl (fun ls hl => ?_)
                                                                  refine lv_goto (tgt := 400) C.1 C.2.1 dX3_isSame_569 (by decide) ?_
                                                                  refine W.widen (k := 193 + 25 * (i24 + 1)) (n := s_sc S + 1160 + 150 * (i24 + 1)) (by omega) (by omega) ?_
                                                                  exact ih_lp400 (i24 + 1) (by omega) (by omega) _ _ hO _ (lv_sub hl [1, 2, 3, 4, 0] rfl)
                                                                · refine lv_aload_n C.1 C.2.1 dX3_isSame_540 rfl (lv_at hl 1 rfl) ?_
                                                                  refine lv_iload C.1 C.2.1 dX3_isSame_541 (lv_at hl 4 rfl) ?_
                                                                  refine lv_iload C.1 C.2.1 dX3_isSame_543 (lv_at hl 6 rfl) ?_
                                                                  refine gXCall_i (mc := 2) (ms := 12) (As := [.int (nI i24), .int (nI c25)]) (rest := []) C hO (c_X2_knownBy l E a S mk rk rv ((q_c, .inl (eI E, 10, .inl cf24)) :: ((q_l, .inl (eI E, 10, .inl lf25)) :: ((q_k, .inl (eI E, (s_sc S), .inl kf24)) :: (sW E o d S F)))) (nI i24) (nI c25) hst hI) (cwV 2 C.2.2.2.2.1 gX3_isSame_X2_knownBy rfl rfl rfl (by decide +kernel) ⟨(Nat.le_of_ble_eq_true rfl), (Nat.le_of_ble_eq_true rfl)⟩) (va_recv C.2.2.2.2.2.2.2.1.1 hO.1 (ci := 2) (q0 := 0) rfl rfl) rfl hl.1 rfl (Nat.le_of_ble_eq_true rfl) dX3_isSame_545 ⟨(by show 198 + 25 * i24 + 2 * c25 + 2 ≤ 400; omega), (by show s_sc S + 1190 + 150 * i24 + 12 * c25 + 12 ≤ 2400; omega)⟩ (fun E0 ce q9 H locs hO hcell hcv hcl hbad => ?_) (fun H locs hO _ => ?_)
                                                                  · exact absurd (⟨okShip_nI hsh (by omega), okKey_nI (by omega)⟩ : okShip S (nI i24) ∧ okKey (nI c25)) hbad.2
                                                                  refine lv_eqi (y := s_kn S i24 c25) (by rw [nI_clamp (by omega), nI_clamp (by omega)]) ?_
                                                                  refine lv_aload C.1 C.2.1 dX3_isSame_548 (lv_at hl 5 rfl) ?_
                                                                  refine lv_iconst (v := nI 4) C.1 C.2.1 dX3_isSame_550 (by decide) ?_
                                                                  refine lv_iload C.1 C.2.1 dX3_isSame_551 (lv_at hl 6 rfl) ?_
                                                                  refine gAddN (x := 4) (y := c25) C.1 C.2.1 dX3_isSame_553 ?_
                                                                  refine gIald (v := s_kn S i24 c25) (j := (4 + c25)) C hO (i24 + 30) (shC_at (by omega)) (by omega) (by first | decide | omega) ((hR.2.2 i24 (by omega)).2.2.2.2.2 c25 (by omega)) dX3_isSame_554 ?_
                                                                  refine lv_icmp_eq (tgt := 560) C.1 C.2.1 dX3_isSame_555 (by decide) (fun c_29 => ?_) (fun c_29 => ?_)
                                                                  · refine gInc (j := c25) (k := 6) (lv' := [(10, .int (nI (c25 + 1))), (0, .ref o), (1, .ref (a 0)), (6, .int (oI (s_fb S (i24 + 1)))), (7, .int (nI (s_sl S (i24 + 1)))), (8, .int (nI i24)), (9, .ref ((d_a d) i24))]) C.1 C.2.1 dX3_isSame_560 hl rfl (by decide) rfl (fun ls hl => ?_)
                                                                    refine lv_goto (tgt := 533) C.1 C.2.1 dX3_isSame_563 (by decide) ?_
                                                                    refine W.widen (k := 198 + 25 * i24 + 2 * (c25 + 1)) (n := s_sc S + 1190 + 150 * i24 + 12 * (c25 + 1)) (by omega) (by omega) ?_
                                                                    exact ih_lp533 (c25 + 1) (by omega) (by omega) _ _ hO _ (lv_sub hl [1, 2, 3, 4, 5, 6, 0] rfl)
                                                                  · exact absurd rfl c_29
                                                            refine W.widen (k := 198 + 25 * i24 + 2 * 0) (n := s_sc S + 1190 + 150 * i24 + 12 * 0) (by omega) (by omega) ?_
                                                            exact lp533 11 0 (by omega) (Nat.zero_le _) _ _ hO _ (lv_sub hl [1, 2, 3, 4, 5, 6, 0] rfl)
                                                          · exact absurd rfl c_26
                                                refine lv_iload C.1 C.2.1 dX3_isSame_430 (lv_at hl 4 rfl) ?_
                                                refine lv_if_lt (tgt := 455) C.1 C.2.1 dX3_isSame_432 (by decide) (fun c_30 => ?_) (fun c_30 => ?_)
                                                · have hz9 := fb_neg c_30 (by omega)
                                                  refine lv_iload C.1 C.2.1 dX3_isSame_455 (lv_at hl 5 rfl) ?_
                                                  refine lv_eqi (y := oI (s_fb S (i24 + 1))) (by rw [hz9]; rfl) ?_
                                                  refine lv_istore (lv' := [(6, .int (oI (s_fb S (i24 + 1)))), (7, .int (nI (s_sl S (i24 + 1)))), (9, .ref ((d_a d) i24)), (0, .ref o), (1, .ref (a 0)), (8, .int (nI i24))]) C.1 C.2.1 dX3_isSame_457 hl (by decide) rfl (fun ls hl => ?_)
                                                  refine W.widen (k := 193 + 25 * i24) (n := s_sc S + 1160 + 150 * i24) (by omega) (by omega) ?_
                                                  exact lb459   _ _ hO _ (lv_sub hl [3, 4, 0, 1, 5, 2] rfl)
                                                · obtain ⟨b24, hb24, hbl24⟩ := fb_some c_30 (by omega)
                                                  have hl : lv_has ls 11 [(7, .int (nI (s_sl S (i24 + 1)))), (9, .ref ((d_a d) i24)), (0, .ref o), (1, .ref (a 0)), (6, .int (nI b24)), (8, .int (nI i24))] := by rw [hb24] at hl; exact hl
                                                  have hlb9 := s_lag_le S b24
                                                  refine lv_aload_n C.1 C.2.1 dX3_isSame_435 rfl (lv_at hl 2 rfl) ?_
                                                  refine lv_aload C.1 C.2.1 dX3_isSame_436 (lv_at hl 1 rfl) ?_
                                                  have hO : gO E A s (((xW E a S mk rk rv) ++ [(q_c, .inl (eI E, 10, .inl cf24)), (q_l, .inl (eI E, 10, .inl lf25)), (q_k, .inl (eI E, (s_sc S), .inl kf24))]) ++ (sW E o d S F)) H locs := hO
                                                  have hO := gO.xs hO
                                                  refine gCall_i (mc := 0) (ms := 0) (As := [.ref ((d_a d) i24)]) (rest := []) C hO (c_X3_lag l E o d S (((xW E a S mk rk rv) ++ [(q_c, .inl (eI E, 10, .inl cf24)), (q_l, .inl (eI E, 10, .inl lf25)), (q_k, .inl (eI E, (s_sc S), .inl kf24))]) ++ F) i24 (by omega) hR hI hsr) (cwV 1 C.2.2.2.2.1 gX3_isSame_X3_lag rfl rfl rfl (by decide +kernel) ⟨(Nat.le_of_ble_eq_true rfl), (Nat.le_of_ble_eq_true rfl)⟩) (va_recv C.2.2.2.2.2.2.2.1.1 hO.1 (ci := 3) (q0 := 0) rfl rfl) rfl hl.1 rfl (Nat.le_of_ble_eq_true rfl) dX3_isSame_438 ⟨(by show 193 + 25 * i24 + 0 + 0 ≤ 400; omega), (by show s_sc S + 1160 + 150 * i24 + 0 + 0 ≤ 2400; omega)⟩ (fun H locs hO => ?_)
                                                  have hO : gO E A s (((xW E a S mk rk rv) ++ [(q_c, .inl (eI E, 10, .inl cf24)), (q_l, .inl (eI E, 10, .inl lf25)), (q_k, .inl (eI E, (s_sc S), .inl kf24))]) ++ (sW E o d S F)) H locs := gO.sx hO
                                                  have hO : gO E A s ((xW E a S mk rk rv) ++ ((q_c, .inl (eI E, 10, .inl cf24)) :: ((q_l, .inl (eI E, 10, .inl lf25)) :: ((q_k, .inl (eI E, (s_sc S), .inl kf24)) :: (sW E o d S F))))) H locs := hO
                                                  refine lv_aload_n C.1 C.2.1 dX3_isSame_441 rfl (lv_at hl 2 rfl) ?_
                                                  refine lv_aload_n C.1 C.2.1 dX3_isSame_442 rfl (lv_at hl 2 rfl) ?_
                                                  refine gGet (v := .ref (d_3 d)) (ref := RX3) (Cn := RX3) (T := TX3) (N := 7) C iX3 hO 26 rfl rfl 6 (by decide) w18 (fun _ h9 => h9) rfl dX3_isSame_443 ?_
                                                  refine lv_iload C.1 C.2.1 dX3_isSame_446 (lv_at hl 4 rfl) ?_
                                                  refine gAaldA (v := (d_a d) b24) (j := b24) C hO 29 rfl (by omega) (by omega) (((hR).2.2 b24 (by omega)).1) dX3_isSame_448 ?_
                                                  have hO : gO E A s (((xW E a S mk rk rv) ++ [(q_c, .inl (eI E, 10, .inl cf24)), (q_l, .inl (eI E, 10, .inl lf25)), (q_k, .inl (eI E, (s_sc S), .inl kf24))]) ++ (sW E o d S F)) H locs := hO
                                                  have hO := gO.xs hO
                                                  refine gCall_i (mc := 0) (ms := 0) (As := [.ref ((d_a d) b24)]) (rest := [.int (nI (s_lag S i24))]) C hO (c_X3_lag l E o d S (((xW E a S mk rk rv) ++ [(q_c, .inl (eI E, 10, .inl cf24)), (q_l, .inl (eI E, 10, .inl lf25)), (q_k, .inl (eI E, (s_sc S), .inl kf24))]) ++ F) b24 (by omega) hR hI hsr) (cwV 1 C.2.2.2.2.1 gX3_isSame_X3_lag rfl rfl rfl (by decide +kernel) ⟨(Nat.le_of_ble_eq_true rfl), (Nat.le_of_ble_eq_true rfl)⟩) (va_recv C.2.2.2.2.2.2.2.1.1 hO.1 (ci := 3) (q0 := 0) rfl rfl) rfl hl.1 rfl (Nat.le_of_ble_eq_true rfl) dX3_isSame_449 ⟨(by show 193 + 25 * i24 + 0 + 0 + 0 ≤ 400; omega), (by show s_sc S + 1160 + 150 * i24 + 0 + 0 + 0 ≤ 2400; omega)⟩ (fun H locs hO => ?_)
                                                  have hO : gO E A s (((xW E a S mk rk rv) ++ [(q_c, .inl (eI E, 10, .inl cf24)), (q_l, .inl (eI E, 10, .inl lf25)), (q_k, .inl (eI E, (s_sc S), .inl kf24))]) ++ (sW E o d S F)) H locs := gO.sx hO
                                                  have hO : gO E A s ((xW E a S mk rk rv) ++ ((q_c, .inl (eI E, 10, .inl cf24)) :: ((q_l, .inl (eI E, 10, .inl lf25)) :: ((q_k, .inl (eI E, (s_sc S), .inl kf24)) :: (sW E o d S F))))) H locs := hO
                                                  refine gLeN (x := (s_lag S i24)) (y := (s_lag S b24)) (tgt := 459) C.1 C.2.1 (by omega) (by omega) dX3_isSame_452 (by decide) (fun c_31 => ?_) (fun c_31 => ?_)
                                                  · have hl : lv_has ls 11 [(7, .int (nI (s_sl S (i24 + 1)))), (9, .ref ((d_a d) i24)), (0, .ref o), (1, .ref (a 0)), (6, .int (oI (s_fb S (i24 + 1)))), (8, .int (nI i24))] := by rw [fb_0 hb24 (show ¬ s_lag S b24 < s_lag S i24 by omega), hb24]; exact hl
                                                    refine W.widen (k := 193 + 25 * i24) (n := s_sc S + 1160 + 150 * i24) (by omega) (by omega) ?_
                                                    exact lb459   _ _ hO _ (lv_sub hl [2, 3, 4, 0, 5, 1] rfl)
                                                  · have hz9 := fb_1 hb24 (show s_lag S b24 < s_lag S i24 by omega)
                                                    refine lv_iload C.1 C.2.1 dX3_isSame_455 (lv_at hl 5 rfl) ?_
                                                    refine lv_eqi (y := oI (s_fb S (i24 + 1))) (by rw [hz9]; rfl) ?_
                                                    refine lv_istore (lv' := [(6, .int (oI (s_fb S (i24 + 1)))), (7, .int (nI (s_sl S (i24 + 1)))), (9, .ref ((d_a d) i24)), (0, .ref o), (1, .ref (a 0)), (8, .int (nI i24))]) C.1 C.2.1 dX3_isSame_457 hl (by decide) rfl (fun ls hl => ?_)
                                                    refine W.widen (k := 193 + 25 * i24) (n := s_sc S + 1160 + 150 * i24) (by omega) (by omega) ?_
                                                    exact lb459   _ _ hO _ (lv_sub hl [3, 4, 0, 1, 5, 2] rfl)
                                          refine W.widen (k := 193 + 25 * 0) (n := s_sc S + 1160 + 150 * 0) (by omega) (by omega) ?_
                                          exact lp400 (s_sh S + 1) 0 (by omega) (Nat.zero_le _) _ _ hO _ (lv_sub hl [3, 4, 2, 1, 0] rfl)
                                        · refine lv_aload_n C.1 C.2.1 dX3_isSame_354 rfl (lv_at hl 1 rfl) ?_
                                          refine lv_iload C.1 C.2.1 dX3_isSame_355 (lv_at hl 3 rfl) ?_
                                          refine gXCall_i (mc := 1) (ms := 6) (As := [.int (nI t24)]) (rest := []) C hO (c_X2_saidIn l E a S mk rk rv ((q_c, .inl (eI E, 10, .inl cf24)) :: ((q_l, .inl (eI E, 10, .inl lf25)) :: ((q_k, .inl (eI E, (s_sc S), .inl kf24)) :: (sW E o d S F)))) (nI t24) hst hI) (cwV 1 C.2.2.2.2.1 gX3_isSame_X2_saidIn rfl rfl rfl (by decide +kernel) ⟨(Nat.le_of_ble_eq_true rfl), (Nat.le_of_ble_eq_true rfl)⟩) (va_recv C.2.2.2.2.2.2.2.1.1 hO.1 (ci := 2) (q0 := 0) rfl rfl) rfl hl.1 rfl (Nat.le_of_ble_eq_true rfl) dX3_isSame_357 ⟨(by show 177 + 2 * t24 + 1 ≤ 400; omega), (by show s_sc S + 1064 + 12 * t24 + 6 ≤ 2400; omega)⟩ (fun E0 ce q9 H locs hO hcell hcv hcl hbad => ?_) (fun H locs hO _ => ?_)
                                          · exact absurd (okStorm_nI hsc (by omega)) hbad.2
                                          refine lv_eqi (y := s_said S t24) (by rw [nI_clamp (by omega)]) ?_
                                          refine lv_aload_n C.1 C.2.1 dX3_isSame_360 rfl (lv_at hl 0 rfl) ?_
                                          refine gGet (v := .ref (d_2 d)) (ref := RX3) (Cn := RX3) (T := TX3) (N := 7) C iX3 hO 26 rfl rfl 5 (by decide) w15 (fun _ h9 => h9) rfl dX3_isSame_361 ?_
                                          refine lv_iload C.1 C.2.1 dX3_isSame_364 (lv_at hl 3 rfl) ?_
                                          refine gIald (v := s_said S t24) (j := t24) C hO 28 rfl (by omega) (by first | decide | omega) ((hR).2.1 t24 (by omega)) dX3_isSame_366 ?_
                                          refine lv_icmp_ne (tgt := 383) C.1 C.2.1 dX3_isSame_367 (by decide) (fun c_33 => ?_) (fun c_33 => ?_)
                                          · exact absurd rfl c_33
                                          · refine lv_aload_n C.1 C.2.1 dX3_isSame_370 rfl (lv_at hl 1 rfl) ?_
                                            refine lv_iload C.1 C.2.1 dX3_isSame_371 (lv_at hl 3 rfl) ?_
                                            refine gXCall_i (mc := 1) (ms := 6) (As := [.int (nI t24)]) (rest := []) C hO (c_X2_keptOf l E a S mk rk rv ((q_c, .inl (eI E, 10, .inl cf24)) :: ((q_l, .inl (eI E, 10, .inl lf25)) :: ((q_k, .inl (eI E, (s_sc S), .inl kf24)) :: (sW E o d S F)))) (nI t24) hst hI) (cwV 1 C.2.2.2.2.1 gX3_isSame_X2_keptOf rfl rfl rfl (by decide +kernel) ⟨(Nat.le_of_ble_eq_true rfl), (Nat.le_of_ble_eq_true rfl)⟩) (va_recv C.2.2.2.2.2.2.2.1.1 hO.1 (ci := 2) (q0 := 0) rfl rfl) rfl hl.1 rfl (Nat.le_of_ble_eq_true rfl) dX3_isSame_373 ⟨(by show 177 + 2 * t24 + 1 + 1 ≤ 400; omega), (by show s_sc S + 1064 + 12 * t24 + 6 + 6 ≤ 2400; omega)⟩ (fun E0 ce q9 H locs hO hcell hcv hcl hbad => ?_) (fun H locs hO _ => ?_)
                                            · exact absurd (okStorm_nI hsc (by omega)) hbad.2
                                            refine lv_aload_n C.1 C.2.1 dX3_isSame_376 rfl (lv_at hl 2 rfl) ?_
                                            refine lv_iload C.1 C.2.1 dX3_isSame_377 (lv_at hl 3 rfl) ?_
                                            refine gIald (v := nI (cnt (s_sto S) (nI t24) (s_n S))) (j := t24) C hO 25 rfl (by omega) (by first | decide | omega) ((hkf t24 (by omega)).trans (by rw [hke9])) dX3_isSame_379 ?_
                                            refine lv_icmp_eq (tgt := 385) C.1 C.2.1 dX3_isSame_380 (by decide) (fun c_35 => ?_) (fun c_35 => ?_)
                                            · refine gInc (j := t24) (k := 3) (lv' := [(6, .int (nI (t24 + 1))), (0, .ref o), (1, .ref (a 0)), (3, .ref q_k)]) C.1 C.2.1 dX3_isSame_385 hl rfl (by decide) rfl (fun ls hl => ?_)
                                              refine lv_goto (tgt := 344) C.1 C.2.1 dX3_isSame_388 (by decide) ?_
                                              refine W.widen (k := 177 + 2 * (t24 + 1)) (n := s_sc S + 1064 + 12 * (t24 + 1)) (by omega) (by omega) ?_
                                              exact ih_lp344 (t24 + 1) (by omega) (by omega) _ _ hO _ (lv_sub hl [1, 2, 3, 0] rfl)
                                            · exact absurd rfl c_35
                                    refine W.widen (k := 177 + 2 * 0) (n := s_sc S + 1064 + 12 * 0) (by omega) (by omega) ?_
                                    exact lp344 (s_sc S + 1) 0 (by omega) (Nat.zero_le _) _ _ hO _ (lv_sub hl [1, 2, 3, 0] rfl)
                                  · refine lv_aload_n C.1 C.2.1 dX3_isSame_290 rfl (lv_at hl 1 rfl) ?_
                                    refine lv_iload C.1 C.2.1 dX3_isSame_291 (lv_at hl 5 rfl) ?_
                                    refine gXCall_i (mc := 1) (ms := 6) (As := [.int (nI c24)]) (rest := []) C hO (c_X2_latestOf l E a S mk rk rv ((q_c, .inl (eI E, 10, .inl cf24)) :: ((q_l, .inl (eI E, 10, .inl lf25)) :: ((q_k, .inl (eI E, (s_sc S), .inl kf24)) :: (sW E o d S F)))) (nI c24) hst hI) (cwV 1 C.2.2.2.2.1 gX3_isSame_X2_latestOf rfl rfl rfl (by decide +kernel) ⟨(Nat.le_of_ble_eq_true rfl), (Nat.le_of_ble_eq_true rfl)⟩) (va_recv C.2.2.2.2.2.2.2.1.1 hO.1 (ci := 2) (q0 := 0) rfl rfl) rfl hl.1 rfl (Nat.le_of_ble_eq_true rfl) dX3_isSame_293 ⟨(by show 147 + 3 * c24 + 1 ≤ 400; omega), (by show s_sc S + 884 + 18 * c24 + 6 ≤ 2400; omega)⟩ (fun E0 ce q9 H locs hO hcell hcv hcl hbad => ?_) (fun H locs hO _ => ?_)
                                    · exact absurd (okKey_nI (by omega)) hbad.2
                                    refine lv_aload C.1 C.2.1 dX3_isSame_296 (lv_at hl 3 rfl) ?_
                                    refine lv_iload C.1 C.2.1 dX3_isSame_298 (lv_at hl 5 rfl) ?_
                                    refine gIald (v := s_lo S (nI c24)) (j := c24) C hO 24 rfl (by omega) (by first | decide | omega) ((hlf c24 (by omega)).trans (by rw [hke9]; rfl)) dX3_isSame_300 ?_
                                    refine lv_icmp_ne (tgt := 333) C.1 C.2.1 dX3_isSame_301 (by decide) (fun c_37 => ?_) (fun c_37 => ?_)
                                    · exact absurd rfl c_37
                                    · refine lv_aload_n C.1 C.2.1 dX3_isSame_304 rfl (lv_at hl 1 rfl) ?_
                                      refine lv_iload C.1 C.2.1 dX3_isSame_305 (lv_at hl 5 rfl) ?_
                                      refine gXCall_i (mc := 1) (ms := 6) (As := [.int (nI c24)]) (rest := []) C hO (c_X2_valueOf l E a S mk rk rv ((q_c, .inl (eI E, 10, .inl cf24)) :: ((q_l, .inl (eI E, 10, .inl lf25)) :: ((q_k, .inl (eI E, (s_sc S), .inl kf24)) :: (sW E o d S F)))) (nI c24) hst hI) (cwV 1 C.2.2.2.2.1 gX3_isSame_X2_valueOf rfl rfl rfl (by decide +kernel) ⟨(Nat.le_of_ble_eq_true rfl), (Nat.le_of_ble_eq_true rfl)⟩) (va_recv C.2.2.2.2.2.2.2.1.1 hO.1 (ci := 2) (q0 := 0) rfl rfl) rfl hl.1 rfl (Nat.le_of_ble_eq_true rfl) dX3_isSame_307 ⟨(by show 147 + 3 * c24 + 1 + 1 ≤ 400; omega), (by show s_sc S + 884 + 18 * c24 + 6 + 6 ≤ 2400; omega)⟩ (fun E0 ce q9 H locs hO hcell hcv hcl hbad => ?_) (fun H locs hO _ => ?_)
                                      · exact absurd (okKey_nI (by omega)) hbad.2
                                      refine lv_aload_n C.1 C.2.1 dX3_isSame_310 rfl (lv_at hl 0 rfl) ?_
                                      refine lv_iload C.1 C.2.1 dX3_isSame_311 (lv_at hl 5 rfl) ?_
                                      have hO : gO E A s (((xW E a S mk rk rv) ++ [(q_c, .inl (eI E, 10, .inl cf24)), (q_l, .inl (eI E, 10, .inl lf25)), (q_k, .inl (eI E, (s_sc S), .inl kf24))]) ++ (sW E o d S F)) H locs := hO
                                      have hO := gO.xs hO
                                      refine gCall_i (mc := 0) (ms := 0) (As := [.int (nI c24)]) (rest := [.int (s_wv S (nI c24))]) C hO (c_X3_value l E o d S (((xW E a S mk rk rv) ++ [(q_c, .inl (eI E, 10, .inl cf24)), (q_l, .inl (eI E, 10, .inl lf25)), (q_k, .inl (eI E, (s_sc S), .inl kf24))]) ++ F) (nI c24) hR hn) (cwV 1 C.2.2.2.2.1 gX3_isSame_X3_value rfl rfl rfl (by decide +kernel) ⟨(Nat.le_of_ble_eq_true rfl), (Nat.le_of_ble_eq_true rfl)⟩) (va_recv C.2.2.2.2.2.2.2.1.1 hO.1 (ci := 3) (q0 := 0) rfl rfl) rfl hl.1 rfl (Nat.le_of_ble_eq_true rfl) dX3_isSame_313 ⟨(by show 147 + 3 * c24 + 1 + 1 + 0 ≤ 400; omega), (by show s_sc S + 884 + 18 * c24 + 6 + 6 + 0 ≤ 2400; omega)⟩ (fun H locs hO => ?_)
                                      have hO : gO E A s (((xW E a S mk rk rv) ++ [(q_c, .inl (eI E, 10, .inl cf24)), (q_l, .inl (eI E, 10, .inl lf25)), (q_k, .inl (eI E, (s_sc S), .inl kf24))]) ++ (sW E o d S F)) H locs := gO.sx hO
                                      have hO : gO E A s ((xW E a S mk rk rv) ++ ((q_c, .inl (eI E, 10, .inl cf24)) :: ((q_l, .inl (eI E, 10, .inl lf25)) :: ((q_k, .inl (eI E, (s_sc S), .inl kf24)) :: (sW E o d S F))))) H locs := hO
                                      refine lv_icmp_ne (tgt := 333) C.1 C.2.1 dX3_isSame_316 (by decide) (fun c_39 => ?_) (fun c_39 => ?_)
                                      · exact absurd rfl c_39
                                      · refine lv_aload_n C.1 C.2.1 dX3_isSame_319 rfl (lv_at hl 1 rfl) ?_
                                        refine lv_iload C.1 C.2.1 dX3_isSame_320 (lv_at hl 5 rfl) ?_
                                        refine gXCall_i (mc := 1) (ms := 6) (As := [.int (nI c24)]) (rest := []) C hO (c_X2_countOf l E a S mk rk rv ((q_c, .inl (eI E, 10, .inl cf24)) :: ((q_l, .inl (eI E, 10, .inl lf25)) :: ((q_k, .inl (eI E, (s_sc S), .inl kf24)) :: (sW E o d S F)))) (nI c24) hst hI) (cwV 1 C.2.2.2.2.1 gX3_isSame_X2_countOf rfl rfl rfl (by decide +kernel) ⟨(Nat.le_of_ble_eq_true rfl), (Nat.le_of_ble_eq_true rfl)⟩) (va_recv C.2.2.2.2.2.2.2.1.1 hO.1 (ci := 2) (q0 := 0) rfl rfl) rfl hl.1 rfl (Nat.le_of_ble_eq_true rfl) dX3_isSame_322 ⟨(by show 147 + 3 * c24 + 1 + 1 + 0 + 1 ≤ 400; omega), (by show s_sc S + 884 + 18 * c24 + 6 + 6 + 0 + 6 ≤ 2400; omega)⟩ (fun E0 ce q9 H locs hO hcell hcv hcl hbad => ?_) (fun H locs hO _ => ?_)
                                        · exact absurd (okKey_nI (by omega)) hbad.2
                                        refine lv_aload C.1 C.2.1 dX3_isSame_325 (lv_at hl 4 rfl) ?_
                                        refine lv_iload C.1 C.2.1 dX3_isSame_327 (lv_at hl 5 rfl) ?_
                                        refine gIald (v := nI (cnt (s_key S) (nI c24) (s_n S))) (j := c24) C hO 23 rfl (by omega) (by first | decide | omega) ((hcf c24 (by omega)).trans (by rw [hke9])) dX3_isSame_329 ?_
                                        refine lv_icmp_eq (tgt := 335) C.1 C.2.1 dX3_isSame_330 (by decide) (fun c_41 => ?_) (fun c_41 => ?_)
                                        · refine gInc (j := c24) (k := 5) (lv' := [(6, .int (nI (c24 + 1))), (0, .ref o), (1, .ref (a 0)), (3, .ref q_k), (4, .ref q_l), (5, .ref q_c)]) C.1 C.2.1 dX3_isSame_335 hl rfl (by decide) rfl (fun ls hl => ?_)
                                          refine lv_goto (tgt := 283) C.1 C.2.1 dX3_isSame_338 (by decide) ?_
                                          refine W.widen (k := 147 + 3 * (c24 + 1)) (n := s_sc S + 884 + 18 * (c24 + 1)) (by omega) (by omega) ?_
                                          exact ih_lp283 (c24 + 1) (by omega) (by omega) _ _ hO _ (lv_sub hl [1, 2, 3, 4, 5, 0] rfl)
                                        · exact absurd rfl c_41
                              refine W.widen (k := 147 + 3 * 0) (n := s_sc S + 884 + 18 * 0) (by omega) (by omega) ?_
                              exact lp283 11 0 (by omega) (Nat.zero_le _) _ _ hO _ (lv_sub hl [1, 2, 3, 4, 5, 0] rfl)
                            · refine lv_aload C.1 C.2.1 dX3_isSame_170 (lv_at hl 5 rfl) ?_
                              refine lv_iload C.1 C.2.1 dX3_isSame_172 (lv_at hl 7 rfl) ?_
                              obtain ⟨q_42, f_42, hq_42, hm_42, e0_42, e1_42, e2_42, e3_42⟩ := (hR).1 k25 (by omega)
                              refine gAaldA (v := q_42) (j := k25) C hO 27 rfl (by omega) (by omega) hq_42 dX3_isSame_174 ?_
                              refine lv_astore (lv' := [(9, .ref q_42), (0, .ref o), (1, .ref (a 0)), (3, .ref q_k), (4, .ref q_l), (5, .ref q_c), (6, .ref (d_1 d)), (7, .int (nI (s_n S))), (8, .int (nI k25))]) C.1 C.2.1 dX3_isSame_175 hl (by decide) rfl (fun ls hl => ?_)
                              have hkk9 := hok9 k25 (by omega)
                              refine lv_aload_n C.1 C.2.1 dX3_isSame_177 rfl (lv_at hl 2 rfl) ?_
                              refine lv_aload C.1 C.2.1 dX3_isSame_178 (lv_at hl 0 rfl) ?_
                              refine lv_iconst (v := 0) C.1 C.2.1 dX3_isSame_180 (by decide) ?_
                              have ha_44m : (q_42, (.inl (eI E, 4, .inl f_42) : va_E)) ∈ ((xW E a S mk rk rv) ++ ((q_c, .inl (eI E, 10, .inl cf24)) :: ((q_l, .inl (eI E, 10, .inl lf25)) :: ((q_k, .inl (eI E, (s_sc S), .inl kf24)) :: (sW E o d S F))))) := List.mem_append_right _ (.tail _ (.tail _ (.tail _ (sW_mem hm_42))))
                              obtain ⟨p_43, ha_44⟩ := List.getElem?_of_mem ha_44m
                              refine gIald (v := s_off S k25) (j := 0) C hO p_43 ha_44 (by decide) (by first | decide | omega) e0_42 dX3_isSame_181 ?_
                              refine gCall_i (mc := 0) (ms := 0) (As := [.int (s_off S k25)]) (rest := []) C hO (c_X2_isKept l E a S mk rk rv ((q_c, .inl (eI E, 10, .inl cf24)) :: ((q_l, .inl (eI E, 10, .inl lf25)) :: ((q_k, .inl (eI E, (s_sc S), .inl kf24)) :: (sW E o d S F)))) (s_off S k25) hI) (cwV 1 C.2.2.2.2.1 gX3_isSame_X2_isKept rfl rfl rfl (by decide +kernel) ⟨(Nat.le_of_ble_eq_true rfl), (Nat.le_of_ble_eq_true rfl)⟩) (va_recv C.2.2.2.2.2.2.2.1.1 hO.1 (ci := 2) (q0 := 0) rfl rfl) rfl hl.1 rfl (Nat.le_of_ble_eq_true rfl) dX3_isSame_182 ⟨(by show 3 + 3 * k25 + 0 ≤ 400; omega), (by show s_sc S + 20 + 18 * k25 + 0 ≤ 2400; omega)⟩ (fun H locs hO => ?_)
                              refine lv_eqi (y := 1) (s_kp_at hsr (by omega)) ?_
                              refine lv_if_eq (tgt := 233) C.1 C.2.1 dX3_isSame_185 (by decide) (fun c_45 => ?_) (fun c_45 => ?_)
                              · exact absurd c_45 (by decide)
                              · refine lv_aload_n C.1 C.2.1 dX3_isSame_188 rfl (lv_at hl 2 rfl) ?_
                                refine lv_aload C.1 C.2.1 dX3_isSame_189 (lv_at hl 0 rfl) ?_
                                refine lv_iconst (v := 0) C.1 C.2.1 dX3_isSame_191 (by decide) ?_
                                have ha_47m : (q_42, (.inl (eI E, 4, .inl f_42) : va_E)) ∈ ((xW E a S mk rk rv) ++ ((q_c, .inl (eI E, 10, .inl cf24)) :: ((q_l, .inl (eI E, 10, .inl lf25)) :: ((q_k, .inl (eI E, (s_sc S), .inl kf24)) :: (sW E o d S F))))) := List.mem_append_right _ (.tail _ (.tail _ (.tail _ (sW_mem hm_42))))
                                obtain ⟨p_46, ha_47⟩ := List.getElem?_of_mem ha_47m
                                refine gIald (v := s_off S k25) (j := 0) C hO p_46 ha_47 (by decide) (by first | decide | omega) e0_42 dX3_isSame_192 ?_
                                refine gXCall_i (mc := 1) (ms := 6) (As := [.int (s_off S k25)]) (rest := []) C hO (c_X2_keyAt l E a S mk rk rv ((q_c, .inl (eI E, 10, .inl cf24)) :: ((q_l, .inl (eI E, 10, .inl lf25)) :: ((q_k, .inl (eI E, (s_sc S), .inl kf24)) :: (sW E o d S F)))) (s_off S k25) hst hI) (cwV 1 C.2.2.2.2.1 gX3_isSame_X2_keyAt rfl rfl rfl (by decide +kernel) ⟨(Nat.le_of_ble_eq_true rfl), (Nat.le_of_ble_eq_true rfl)⟩) (va_recv C.2.2.2.2.2.2.2.1.1 hO.1 (ci := 2) (q0 := 0) rfl rfl) rfl hl.1 rfl (Nat.le_of_ble_eq_true rfl) dX3_isSame_193 ⟨(by show 3 + 3 * k25 + 0 + 1 ≤ 400; omega), (by show s_sc S + 20 + 18 * k25 + 0 + 6 ≤ 2400; omega)⟩ (fun E0 ce q9 H locs hO hcell hcv hcl hbad => ?_) (fun H locs hO _ => ?_)
                                · exact absurd hbad.2 (show s_po S (s_off S k25) ≠ none by rw [s_po_at hsr (by omega)]; exact fun q => by cases q)
                                refine lv_eqi (y := s_key S k25) (s_ka_at hsr (by omega) _) ?_
                                refine lv_aload C.1 C.2.1 dX3_isSame_196 (lv_at hl 0 rfl) ?_
                                refine lv_iconst (v := 1) C.1 C.2.1 dX3_isSame_198 (by decide) ?_
                                have ha_50m : (q_42, (.inl (eI E, 4, .inl f_42) : va_E)) ∈ ((xW E a S mk rk rv) ++ ((q_c, .inl (eI E, 10, .inl cf24)) :: ((q_l, .inl (eI E, 10, .inl lf25)) :: ((q_k, .inl (eI E, (s_sc S), .inl kf24)) :: (sW E o d S F))))) := List.mem_append_right _ (.tail _ (.tail _ (.tail _ (sW_mem hm_42))))
                                obtain ⟨p_49, ha_50⟩ := List.getElem?_of_mem ha_50m
                                refine gIald (v := s_key S k25) (j := 1) C hO p_49 ha_50 (by decide) (by first | decide | omega) e1_42 dX3_isSame_199 ?_
                                refine lv_icmp_ne (tgt := 233) C.1 C.2.1 dX3_isSame_200 (by decide) (fun c_51 => ?_) (fun c_51 => ?_)
                                · exact absurd rfl c_51
                                · refine lv_aload_n C.1 C.2.1 dX3_isSame_203 rfl (lv_at hl 2 rfl) ?_
                                  refine lv_aload C.1 C.2.1 dX3_isSame_204 (lv_at hl 0 rfl) ?_
                                  refine lv_iconst (v := 0) C.1 C.2.1 dX3_isSame_206 (by decide) ?_
                                  have ha_53m : (q_42, (.inl (eI E, 4, .inl f_42) : va_E)) ∈ ((xW E a S mk rk rv) ++ ((q_c, .inl (eI E, 10, .inl cf24)) :: ((q_l, .inl (eI E, 10, .inl lf25)) :: ((q_k, .inl (eI E, (s_sc S), .inl kf24)) :: (sW E o d S F))))) := List.mem_append_right _ (.tail _ (.tail _ (.tail _ (sW_mem hm_42))))
                                  obtain ⟨p_52, ha_53⟩ := List.getElem?_of_mem ha_53m
                                  refine gIald (v := s_off S k25) (j := 0) C hO p_52 ha_53 (by decide) (by first | decide | omega) e0_42 dX3_isSame_207 ?_
                                  refine gXCall_i (mc := 1) (ms := 6) (As := [.int (s_off S k25)]) (rest := []) C hO (c_X2_valueAt l E a S mk rk rv ((q_c, .inl (eI E, 10, .inl cf24)) :: ((q_l, .inl (eI E, 10, .inl lf25)) :: ((q_k, .inl (eI E, (s_sc S), .inl kf24)) :: (sW E o d S F)))) (s_off S k25) hst hI) (cwV 1 C.2.2.2.2.1 gX3_isSame_X2_valueAt rfl rfl rfl (by decide +kernel) ⟨(Nat.le_of_ble_eq_true rfl), (Nat.le_of_ble_eq_true rfl)⟩) (va_recv C.2.2.2.2.2.2.2.1.1 hO.1 (ci := 2) (q0 := 0) rfl rfl) rfl hl.1 rfl (Nat.le_of_ble_eq_true rfl) dX3_isSame_208 ⟨(by show 3 + 3 * k25 + 0 + 1 + 1 ≤ 400; omega), (by show s_sc S + 20 + 18 * k25 + 0 + 6 + 6 ≤ 2400; omega)⟩ (fun E0 ce q9 H locs hO hcell hcv hcl hbad => ?_) (fun H locs hO _ => ?_)
                                  · exact absurd hbad.2 (show s_po S (s_off S k25) ≠ none by rw [s_po_at hsr (by omega)]; exact fun q => by cases q)
                                  refine lv_eqi (y := s_val S k25) (s_ka_at hsr (by omega) _) ?_
                                  refine lv_aload C.1 C.2.1 dX3_isSame_211 (lv_at hl 0 rfl) ?_
                                  refine lv_iconst (v := nI 2) C.1 C.2.1 dX3_isSame_213 (by decide) ?_
                                  have ha_56m : (q_42, (.inl (eI E, 4, .inl f_42) : va_E)) ∈ ((xW E a S mk rk rv) ++ ((q_c, .inl (eI E, 10, .inl cf24)) :: ((q_l, .inl (eI E, 10, .inl lf25)) :: ((q_k, .inl (eI E, (s_sc S), .inl kf24)) :: (sW E o d S F))))) := List.mem_append_right _ (.tail _ (.tail _ (.tail _ (sW_mem hm_42))))
                                  obtain ⟨p_55, ha_56⟩ := List.getElem?_of_mem ha_56m
                                  refine gIald (v := s_val S k25) (j := 2) C hO p_55 ha_56 (by decide) (by first | decide | omega) e2_42 dX3_isSame_214 ?_
                                  refine lv_icmp_ne (tgt := 233) C.1 C.2.1 dX3_isSame_215 (by decide) (fun c_57 => ?_) (fun c_57 => ?_)
                                  · exact absurd rfl c_57
                                  · refine lv_aload_n C.1 C.2.1 dX3_isSame_218 rfl (lv_at hl 2 rfl) ?_
                                    refine lv_aload C.1 C.2.1 dX3_isSame_219 (lv_at hl 0 rfl) ?_
                                    refine lv_iconst (v := 0) C.1 C.2.1 dX3_isSame_221 (by decide) ?_
                                    have ha_59m : (q_42, (.inl (eI E, 4, .inl f_42) : va_E)) ∈ ((xW E a S mk rk rv) ++ ((q_c, .inl (eI E, 10, .inl cf24)) :: ((q_l, .inl (eI E, 10, .inl lf25)) :: ((q_k, .inl (eI E, (s_sc S), .inl kf24)) :: (sW E o d S F))))) := List.mem_append_right _ (.tail _ (.tail _ (.tail _ (sW_mem hm_42))))
                                    obtain ⟨p_58, ha_59⟩ := List.getElem?_of_mem ha_59m
                                    refine gIald (v := s_off S k25) (j := 0) C hO p_58 ha_59 (by decide) (by first | decide | omega) e0_42 dX3_isSame_222 ?_
                                    refine gXCall_i (mc := 1) (ms := 6) (As := [.int (s_off S k25)]) (rest := []) C hO (c_X2_stormAt l E a S mk rk rv ((q_c, .inl (eI E, 10, .inl cf24)) :: ((q_l, .inl (eI E, 10, .inl lf25)) :: ((q_k, .inl (eI E, (s_sc S), .inl kf24)) :: (sW E o d S F)))) (s_off S k25) hst hI) (cwV 1 C.2.2.2.2.1 gX3_isSame_X2_stormAt rfl rfl rfl (by decide +kernel) ⟨(Nat.le_of_ble_eq_true rfl), (Nat.le_of_ble_eq_true rfl)⟩) (va_recv C.2.2.2.2.2.2.2.1.1 hO.1 (ci := 2) (q0 := 0) rfl rfl) rfl hl.1 rfl (Nat.le_of_ble_eq_true rfl) dX3_isSame_223 ⟨(by show 3 + 3 * k25 + 0 + 1 + 1 + 1 ≤ 400; omega), (by show s_sc S + 20 + 18 * k25 + 0 + 6 + 6 + 6 ≤ 2400; omega)⟩ (fun E0 ce q9 H locs hO hcell hcv hcl hbad => ?_) (fun H locs hO _ => ?_)
                                    · exact absurd hbad.2 (show s_po S (s_off S k25) ≠ none by rw [s_po_at hsr (by omega)]; exact fun q => by cases q)
                                    refine lv_eqi (y := s_sto S k25) (s_ka_at hsr (by omega) _) ?_
                                    refine lv_aload C.1 C.2.1 dX3_isSame_226 (lv_at hl 0 rfl) ?_
                                    refine lv_iconst (v := nI 3) C.1 C.2.1 dX3_isSame_228 (by decide) ?_
                                    have ha_62m : (q_42, (.inl (eI E, 4, .inl f_42) : va_E)) ∈ ((xW E a S mk rk rv) ++ ((q_c, .inl (eI E, 10, .inl cf24)) :: ((q_l, .inl (eI E, 10, .inl lf25)) :: ((q_k, .inl (eI E, (s_sc S), .inl kf24)) :: (sW E o d S F))))) := List.mem_append_right _ (.tail _ (.tail _ (.tail _ (sW_mem hm_42))))
                                    obtain ⟨p_61, ha_62⟩ := List.getElem?_of_mem ha_62m
                                    refine gIald (v := s_sto S k25) (j := 3) C hO p_61 ha_62 (by decide) (by first | decide | omega) e3_42 dX3_isSame_229 ?_
                                    refine lv_icmp_eq (tgt := 235) C.1 C.2.1 dX3_isSame_230 (by decide) (fun c_63 => ?_) (fun c_63 => ?_)
                                    · refine lv_aload C.1 C.2.1 dX3_isSame_235 (lv_at hl 4 rfl) ?_
                                      refine lv_aload C.1 C.2.1 dX3_isSame_237 (lv_at hl 0 rfl) ?_
                                      refine lv_iconst (v := 1) C.1 C.2.1 dX3_isSame_239 (by decide) ?_
                                      have ha_65m : (q_42, (.inl (eI E, 4, .inl f_42) : va_E)) ∈ ((xW E a S mk rk rv) ++ ((q_c, .inl (eI E, 10, .inl cf24)) :: ((q_l, .inl (eI E, 10, .inl lf25)) :: ((q_k, .inl (eI E, (s_sc S), .inl kf24)) :: (sW E o d S F))))) := List.mem_append_right _ (.tail _ (.tail _ (.tail _ (sW_mem hm_42))))
                                      obtain ⟨p_64, ha_65⟩ := List.getElem?_of_mem ha_65m
                                      refine gIald (v := s_key S k25) (j := 1) C hO p_64 ha_65 (by decide) (by first | decide | omega) e1_42 dX3_isSame_240 ?_
                                      refine lv_eqi (y := nI ((s_key S k25).toNatClampNeg)) hkk9.2 ?_
                                      refine lv_aload C.1 C.2.1 dX3_isSame_241 (lv_at hl 0 rfl) ?_
                                      refine lv_iconst (v := 0) C.1 C.2.1 dX3_isSame_243 (by decide) ?_
                                      have ha_67m : (q_42, (.inl (eI E, 4, .inl f_42) : va_E)) ∈ ((xW E a S mk rk rv) ++ ((q_c, .inl (eI E, 10, .inl cf24)) :: ((q_l, .inl (eI E, 10, .inl lf25)) :: ((q_k, .inl (eI E, (s_sc S), .inl kf24)) :: (sW E o d S F))))) := List.mem_append_right _ (.tail _ (.tail _ (.tail _ (sW_mem hm_42))))
                                      obtain ⟨p_66, ha_67⟩ := List.getElem?_of_mem ha_67m
                                      refine gIald (v := s_off S k25) (j := 0) C hO p_66 ha_67 (by decide) (by first | decide | omega) e0_42 dX3_isSame_244 ?_
                                      refine gIast (j := ((s_key S k25).toNatClampNeg)) (ws' := ((xW E a S mk rk rv) ++ ((q_c, .inl (eI E, 10, .inl cf24)) :: ((q_l, .inl (eI E, 10, .inl (upd lf25 ((s_key S k25).toNatClampNeg) (s_off S k25)))) :: ((q_k, .inl (eI E, (s_sc S), .inl kf24)) :: (sW E o d S F)))))) C hO 24 rfl hkk9.1 (by first | decide | omega) rfl dX3_isSame_245 (fun H locs hO => ?_)
                                      refine lv_aload C.1 C.2.1 dX3_isSame_246 (lv_at hl 5 rfl) ?_
                                      refine lv_aload C.1 C.2.1 dX3_isSame_248 (lv_at hl 0 rfl) ?_
                                      refine lv_iconst (v := 1) C.1 C.2.1 dX3_isSame_250 (by decide) ?_
                                      have ha_69m : (q_42, (.inl (eI E, 4, .inl f_42) : va_E)) ∈ ((xW E a S mk rk rv) ++ ((q_c, .inl (eI E, 10, .inl cf24)) :: ((q_l, .inl (eI E, 10, .inl (upd lf25 ((s_key S k25).toNatClampNeg) (s_off S k25)))) :: ((q_k, .inl (eI E, (s_sc S), .inl kf24)) :: (sW E o d S F))))) := List.mem_append_right _ (.tail _ (.tail _ (.tail _ (sW_mem hm_42))))
                                      obtain ⟨p_68, ha_69⟩ := List.getElem?_of_mem ha_69m
                                      refine gIald (v := s_key S k25) (j := 1) C hO p_68 ha_69 (by decide) (by first | decide | omega) e1_42 dX3_isSame_251 ?_
                                      refine lv_eqi (y := nI ((s_key S k25).toNatClampNeg)) hkk9.2 ?_
                                      refine lv_dup2_11 C.1 C.2.1 dX3_isSame_252 rfl rfl ?_
                                      refine gIald (v := cf24 ((s_key S k25).toNatClampNeg)) (j := ((s_key S k25).toNatClampNeg)) C hO 23 rfl hkk9.1 (by first | decide | omega) rfl dX3_isSame_253 ?_
                                      refine lv_iconst (v := 1) C.1 C.2.1 dX3_isSame_254 (by decide) ?_
                                      refine lv_iadd C.1 C.2.1 dX3_isSame_255 ?_
                                      refine gIast (j := ((s_key S k25).toNatClampNeg)) (ws' := ((xW E a S mk rk rv) ++ ((q_c, .inl (eI E, 10, .inl (upd cf24 ((s_key S k25).toNatClampNeg) ((cf24 ((s_key S k25).toNatClampNeg)) + 1)))) :: ((q_l, .inl (eI E, 10, .inl (upd lf25 ((s_key S k25).toNatClampNeg) (s_off S k25)))) :: ((q_k, .inl (eI E, (s_sc S), .inl kf24)) :: (sW E o d S F)))))) C hO 23 rfl hkk9.1 (by first | decide | omega) rfl dX3_isSame_256 (fun H locs hO => ?_)
                                      refine lv_aload C.1 C.2.1 dX3_isSame_257 (lv_at hl 0 rfl) ?_
                                      refine lv_iconst (v := nI 3) C.1 C.2.1 dX3_isSame_259 (by decide) ?_
                                      have ha_71m : (q_42, (.inl (eI E, 4, .inl f_42) : va_E)) ∈ ((xW E a S mk rk rv) ++ ((q_c, .inl (eI E, 10, .inl (upd cf24 ((s_key S k25).toNatClampNeg) ((cf24 ((s_key S k25).toNatClampNeg)) + 1)))) :: ((q_l, .inl (eI E, 10, .inl (upd lf25 ((s_key S k25).toNatClampNeg) (s_off S k25)))) :: ((q_k, .inl (eI E, (s_sc S), .inl kf24)) :: (sW E o d S F))))) := List.mem_append_right _ (.tail _ (.tail _ (.tail _ (sW_mem hm_42))))
                                      obtain ⟨p_70, ha_71⟩ := List.getElem?_of_mem ha_71m
                                      refine gIald (v := s_sto S k25) (j := 3) C hO p_70 ha_71 (by decide) (by first | decide | omega) e3_42 dX3_isSame_260 ?_
                                      refine lv_if_lt (tgt := 274) C.1 C.2.1 dX3_isSame_261 (by decide) (fun c_72 => ?_) (fun c_72 => ?_)
                                      · have hz9 : s_sto S k25 < 0 := c_72
                                        have hl : lv_has ls 11 [(0, .ref o), (1, .ref (a 0)), (3, .ref q_k), (4, .ref q_l), (5, .ref q_c), (6, .ref (d_1 d)), (7, .int (nI (s_n S))), (8, .int (nI k25))] := lv_sub hl [1, 2, 3, 4, 5, 6, 7, 8] rfl
                                        refine gInc (j := k25) (k := 7) (lv' := [(8, .int (nI (k25 + 1))), (0, .ref o), (1, .ref (a 0)), (3, .ref q_k), (4, .ref q_l), (5, .ref q_c), (6, .ref (d_1 d)), (7, .int (nI (s_n S)))]) C.1 C.2.1 dX3_isSame_274 hl rfl (by decide) rfl (fun ls hl => ?_)
                                        refine lv_goto (tgt := 163) C.1 C.2.1 dX3_isSame_277 (by decide) ?_
                                        refine W.widen (k := 3 + 3 * (k25 + 1)) (n := s_sc S + 20 + 18 * (k25 + 1)) (by omega) (by omega) ?_
                                        exact ih_lp163 (k25 + 1) kf24 (upd lf25 ((s_key S k25).toNatClampNeg) (s_off S k25)) (upd cf24 ((s_key S k25).toNatClampNeg) ((cf24 ((s_key S k25).toNatClampNeg)) + 1)) (by omega) (by omega) (loT_s hlf hkk9.1 hkk9.2) (cnt_up (by omega) hcf hkk9.1 hkk9.2) (cnt_neg (by omega) hkf hz9) _ _ hO _ (lv_sub hl [1, 2, 3, 4, 5, 6, 7, 0] rfl)
                                      · have htt9 := (hto k25 (by omega)).resolve_left c_72
                                        refine lv_aload_n C.1 C.2.1 dX3_isSame_264 rfl (lv_at hl 3 rfl) ?_
                                        refine lv_aload C.1 C.2.1 dX3_isSame_265 (lv_at hl 0 rfl) ?_
                                        refine lv_iconst (v := nI 3) C.1 C.2.1 dX3_isSame_267 (by decide) ?_
                                        have ha_74m : (q_42, (.inl (eI E, 4, .inl f_42) : va_E)) ∈ ((xW E a S mk rk rv) ++ ((q_c, .inl (eI E, 10, .inl (upd cf24 ((s_key S k25).toNatClampNeg) ((cf24 ((s_key S k25).toNatClampNeg)) + 1)))) :: ((q_l, .inl (eI E, 10, .inl (upd lf25 ((s_key S k25).toNatClampNeg) (s_off S k25)))) :: ((q_k, .inl (eI E, (s_sc S), .inl kf24)) :: (sW E o d S F))))) := List.mem_append_right _ (.tail _ (.tail _ (.tail _ (sW_mem hm_42))))
                                        obtain ⟨p_73, ha_74⟩ := List.getElem?_of_mem ha_74m
                                        refine gIald (v := s_sto S k25) (j := 3) C hO p_73 ha_74 (by decide) (by first | decide | omega) e3_42 dX3_isSame_268 ?_
                                        refine lv_eqi (y := nI ((s_sto S k25).toNatClampNeg)) htt9.2 ?_
                                        refine lv_dup2_11 C.1 C.2.1 dX3_isSame_269 rfl rfl ?_
                                        refine gIald (v := kf24 ((s_sto S k25).toNatClampNeg)) (j := ((s_sto S k25).toNatClampNeg)) C hO 25 rfl htt9.1 (by first | decide | omega) rfl dX3_isSame_270 ?_
                                        refine lv_iconst (v := 1) C.1 C.2.1 dX3_isSame_271 (by decide) ?_
                                        refine lv_iadd C.1 C.2.1 dX3_isSame_272 ?_
                                        refine gIast (j := ((s_sto S k25).toNatClampNeg)) (ws' := ((xW E a S mk rk rv) ++ ((q_c, .inl (eI E, 10, .inl (upd cf24 ((s_key S k25).toNatClampNeg) ((cf24 ((s_key S k25).toNatClampNeg)) + 1)))) :: ((q_l, .inl (eI E, 10, .inl (upd lf25 ((s_key S k25).toNatClampNeg) (s_off S k25)))) :: ((q_k, .inl (eI E, (s_sc S), .inl (upd kf24 ((s_sto S k25).toNatClampNeg) ((kf24 ((s_sto S k25).toNatClampNeg)) + 1)))) :: (sW E o d S F)))))) C hO 25 rfl htt9.1 (by first | decide | omega) rfl dX3_isSame_273 (fun H locs hO => ?_)
                                        have hl : lv_has ls 11 [(0, .ref o), (1, .ref (a 0)), (3, .ref q_k), (4, .ref q_l), (5, .ref q_c), (6, .ref (d_1 d)), (7, .int (nI (s_n S))), (8, .int (nI k25))] := lv_sub hl [1, 2, 3, 4, 5, 6, 7, 8] rfl
                                        refine gInc (j := k25) (k := 7) (lv' := [(8, .int (nI (k25 + 1))), (0, .ref o), (1, .ref (a 0)), (3, .ref q_k), (4, .ref q_l), (5, .ref q_c), (6, .ref (d_1 d)), (7, .int (nI (s_n S)))]) C.1 C.2.1 dX3_isSame_274 hl rfl (by decide) rfl (fun ls hl => ?_)
                                        refine lv_goto (tgt := 163) C.1 C.2.1 dX3_isSame_277 (by decide) ?_
                                        refine W.widen (k := 3 + 3 * (k25 + 1)) (n := s_sc S + 20 + 18 * (k25 + 1)) (by omega) (by omega) ?_
                                        exact ih_lp163 (k25 + 1) (upd kf24 ((s_sto S k25).toNatClampNeg) ((kf24 ((s_sto S k25).toNatClampNeg)) + 1)) (upd lf25 ((s_key S k25).toNatClampNeg) (s_off S k25)) (upd cf24 ((s_key S k25).toNatClampNeg) ((cf24 ((s_key S k25).toNatClampNeg)) + 1)) (by omega) (by omega) (loT_s hlf hkk9.1 hkk9.2) (cnt_up (by omega) hcf hkk9.1 hkk9.2) (cnt_up (by omega) hkf htt9.1 htt9.2) _ _ hO _ (lv_sub hl [1, 2, 3, 4, 5, 6, 7, 0] rfl)
                                    · exact absurd rfl c_63
                        refine W.widen (k := 3 + 3 * 0) (n := s_sc S + 20 + 18 * 0) (by omega) (by omega) ?_
                        exact lp163 (s_n S + 1) 0 (fun _ => 0) lf24 (fun _ => 0) (by omega) (Nat.zero_le _) (fun c hc => hl24 c (by omega)) (fun c hc => rfl) (fun c hc => rfl) _ _ hO _ (lv_sub hl [3, 4, 5, 6, 7, 2, 1, 0] rfl)
                      · refine lv_aload C.1 C.2.1 dX3_isSame_137 (lv_at hl 3 rfl) ?_
                        refine lv_iload C.1 C.2.1 dX3_isSame_139 (lv_at hl 5 rfl) ?_
                        refine lv_iconst (v := (-1)) C.1 C.2.1 dX3_isSame_141 (by decide) ?_
                        refine gIast (j := k24) (ws' := ((xW E a S mk rk rv) ++ ((q_c, .inl (eI E, 10, .inl (fun _ => 0))) :: ((q_l, .inl (eI E, 10, .inl (upd lf24 k24 (-1)))) :: ((q_k, .inl (eI E, (s_sc S), .inl (fun _ => 0))) :: (sW E o d S F)))))) C hO 24 rfl (by omega) (by first | decide | omega) rfl dX3_isSame_142 (fun H locs hO => ?_)
                        refine gInc (j := k24) (k := 5) (lv' := [(6, .int (nI (k24 + 1))), (0, .ref o), (1, .ref (a 0)), (3, .ref q_k), (4, .ref q_l), (5, .ref q_c)]) C.1 C.2.1 dX3_isSame_143 hl rfl (by decide) rfl (fun ls hl => ?_)
                        refine lv_goto (tgt := 130) C.1 C.2.1 dX3_isSame_146 (by decide) ?_
                        exact ih_lp130 (k24 + 1) (upd lf24 k24 (-1)) (by omega) (by omega) (fun c hc => by by_cases q : c = k24; (rw [q, upd_at]); (rw [upd, if_neg q]; exact hl24 c (by omega))) _ _ hO _ (lv_sub hl [1, 2, 3, 4, 5, 0] rfl)
                  refine W.widen (k := 3) (n := s_sc S + 20) (by omega) (by omega) ?_
                  exact lp130 11 0 (fun _ => 0) (by omega) (Nat.zero_le _) (fun c hc => absurd hc (Nat.not_lt_zero _)) _ _ hO _ (lv_sub hl [4, 5, 3, 2, 1, 0] rfl)
                · exact absurd rfl c_7
        refine lv_if_ne (tgt := 48) C.1 C.2.1 dX3_isSame_41 (by decide) (fun c_75 => ?_) (fun c_75 => ?_)
        · have hz9 : ¬ s_n S = 0 := fun g => c_75 (by rw [g]; rfl)
          refine lv_aload_n C.1 C.2.1 dX3_isSame_48 rfl (lv_at hl 1 rfl) ?_
          refine gGet (v := .ref (d_1 d)) (ref := RX3) (Cn := RX3) (T := TX3) (N := 7) C iX3 hO 23 rfl rfl 4 (by decide) w9 (fun _ h9 => h9) rfl dX3_isSame_49 ?_
          refine lv_iconst (v := 0) C.1 C.2.1 dX3_isSame_52 (by decide) ?_
          obtain ⟨q_76, f_76, hq_76, hm_76, e0_76, e1_76, e2_76, e3_76⟩ := (hR).1 0 (by omega)
          refine gAaldA (v := q_76) (j := 0) C hO 24 rfl (by omega) (by omega) hq_76 dX3_isSame_53 ?_
          refine lv_iconst (v := 0) C.1 C.2.1 dX3_isSame_54 (by decide) ?_
          have ha_78m : (q_76, (.inl (eI E, 4, .inl f_76) : va_E)) ∈ ((xW E a S mk rk rv) ++ (sW E o d S F)) := List.mem_append_right _ (sW_mem hm_76)
          obtain ⟨p_77, ha_78⟩ := List.getElem?_of_mem ha_78m
          refine gIald (v := s_off S 0) (j := 0) C hO p_77 ha_78 (by decide) (by first | decide | omega) e0_76 dX3_isSame_55 ?_
          refine lv_icmp_ne (tgt := 105) C.1 C.2.1 dX3_isSame_56 (by decide) (fun c_79 => ?_) (fun c_79 => ?_)
          · exact absurd (by first | exact if_neg hz9 | exact if_pos hz9) c_79
          · refine W.widen (k := 0) (n := 0) (by omega) (by omega) ?_
            exact lb59   _ _ hO _ (lv_sub hl [1, 2, 0] rfl)
        · have hz9 : s_n S = 0 := nI_z (by omega) c_75
          refine lv_iconst (v := (-1)) C.1 C.2.1 dX3_isSame_44 (by decide) ?_
          refine lv_goto (tgt := 56) C.1 C.2.1 dX3_isSame_45 (by decide) ?_
          refine lv_icmp_ne (tgt := 105) C.1 C.2.1 dX3_isSame_56 (by decide) (fun c_80 => ?_) (fun c_80 => ?_)
          · exact absurd (by first | exact if_neg hz9 | exact if_pos hz9) c_80
          · refine W.widen (k := 0) (n := 0) (by omega) (by omega) ?_
            exact lb59   _ _ hO _ (lv_sub hl [1, 2, 0] rfl)
