set_option maxHeartbeats 4000000 in
set_option maxRecDepth 100000 in
theorem c_X3_pass (l : Launch) (E : gE) (o : Nat) (d : Dt) (S : St) (F : va_W) (h0 : Nat) (hh : h0 ≤ 60) (hR : Rep E d S) (hI : s_inv S) (hsr : s_srt S) (hx : ∀ i, i < s_n S → 0 ≤ (s_off S i).toInt ∧ (s_off S i).toInt < 2147483647) : gMe l E yX3_pass wsX3_pass ({ frames := 0, cells := 0, slots := 0, locals := 0 }) (sW E o d S F) [.ref o, .int (nI h0)] (fun (r : Int32) (d9 : Dt) => r = nI (s_ph S h0 (s_sh S)) ∧ Rep E d9 (S_pass S (nI h0))) (fun (d9 : Dt) => sW E o d9 (S_pass S (nI h0)) F) 0 0 := by
  refine gMe.of (cc := cX3_pass) (maxL := 13) (ty := .int) (by decide) rfl (Nat.le_of_ble_eq_true rfl) ?_
  intro p e s m args below meth c A C ls hl hO
  have hl : lv_has ls 13 [(0, .ref o), (1, .int (nI h0))] := hl
  have iX3 : ∀ w ∈ u_ws RX3 TX3 7, w ∈ wsX3_pass := by decide +kernel
  have w40 : Cond.fieldLink RX3 40 "ParrotLogLaw$Sim" "hours" "I" ∈ wsX3_pass := by decide +kernel
  have w32 : Cond.fieldLink RX3 32 "ParrotLogLaw$Sim" "isOn" "Z" ∈ wsX3_pass := by decide +kernel
  have w18 : Cond.fieldLink RX3 18 "ParrotLogLaw$Sim" "ships" "[[I" ∈ wsX3_pass := by decide +kernel
  have w9 : Cond.fieldLink RX3 9 "ParrotLogLaw$Sim" "log" "[[I" ∈ wsX3_pass := by decide +kernel
  obtain ⟨hn, hsh, hsc, hOn, hOb, hok9, hpc9, hp0⟩ := hI
  refine lv_iconst (v := 0) C.1 C.2.1 dX3_pass_0 (by decide) ?_
  refine lv_istore_n (lv' := [(2, .int 0), (0, .ref o), (1, .int (nI h0))]) C.1 C.2.1 dX3_pass_1 rfl hl (by decide) rfl (fun ls hl => ?_)
  have hO : gO E A s (sR E o (d_1 d) (d_2 d) (d_3 d) (s_hr S + nI 0) (s_nx S) (s_dr S) (s_on S) (s_n S) (d_l d) (s_sc S) (d_s d) (s_sh S) (d_f d) (shC E (d_a d) (d_r d) (s_sh S) ++ ((d_p d) ++ F))) s.heap [] := by rw [nI_0, Int32.add_zero]; exact hO
  have hl : lv_has ls 13 [(2, .int (nI (sumN (s_dh S 0) (s_sh S)))), (0, .ref o), (1, .int (nI h0))] := by rw [sum_dh0]; exact hl
  refine lv_iconst (v := 0) C.1 C.2.1 dX3_pass_2 (by decide) ?_
  refine lv_istore_n (lv' := [(3, .int 0), (2, .int (nI (sumN (s_dh S 0) (s_sh S)))), (0, .ref o), (1, .int (nI h0))]) C.1 C.2.1 dX3_pass_3 rfl hl (by decide) rfl (fun ls hl => ?_)
  have lp4 : ∀ (f : Nat) (j24 : Nat) (sr24 : Nat → Nat → Int32), (h0 + 1 ≤ j24 + f) → (j24 ≤ h0) → (∀ i, i < s_sh S → hRow S i (s_dh S j24 i) (sr24 i)) → ∀ (H : Heap) (locs : List Loc), gO E A s (sR E o (d_1 d) (d_2 d) (d_3 d) (s_hr S + nI j24) (s_nx S) (s_dr S) (s_on S) (s_n S) (d_l d) (s_sc S) (d_s d) (s_sh S) (d_f d) (shC E (d_a d) sr24 (s_sh S) ++ ((d_p d) ++ F))) H locs → ∀ ls : Array Slot, lv_has ls 13 [(0, .ref o), (1, .int (nI h0)), (2, .int (nI (sumN (s_dh S j24) (s_sh S)))), (3, .int (nI j24))] → W p l e ({ frames := 0, cells := 0, slots := 0, locals := 0 } : Room) s m args below meth c H locs 0 0 (MQ below (gQe E A (fun (r : Int32) (d9 : Dt) => r = nI (s_ph S h0 (s_sh S)) ∧ Rep E d9 (S_pass S (nI h0))) (fun (d9 : Dt) => sW E o d9 (S_pass S (nI h0)) F)) args s 0 0 A) (F0 m 4 ls []) := by
    intro f
    induction f with
    | zero =>
      intro j24 sr24 hf hj24 hs24
      exact absurd hf (by omega)
    | succ f ih_lp4 =>
      intro j24 sr24 hf hj24 hs24 H locs hO ls hl
      refine lv_iload_n C.1 C.2.1 dX3_pass_4 rfl (lv_at hl 3 rfl) ?_
      refine lv_iload_n C.1 C.2.1 dX3_pass_5 rfl (lv_at hl 1 rfl) ?_
      refine gGeN (x := j24) (y := h0) (tgt := 165) C.1 C.2.1 (by omega) (by omega) dX3_pass_6 (by decide) (fun c_1 => ?_) (fun c_1 => ?_)
      · refine lv_iload_n C.1 C.2.1 dX3_pass_165 rfl (lv_at hl 2 rfl) ?_
        have hj9 : j24 = h0 := by omega
        rw [hj9] at hs24 hO
        have hps9 := rep_pass (by omega) hR hs24
        have hO : gO E A s (sW E o (mkD9 (d_1 d) (d_2 d) (d_3 d) (d_l d) (d_s d) (d_f d) (d_a d) sr24 (d_p d)) (S_pass S (nI h0)) F) H locs := by rw [hps9.2]; exact hO
        exact gRe (mkD9 (d_1 d) (d_2 d) (d_3 d) (d_l d) (d_s d) (d_f d) (d_a d) sr24 (d_p d)) C hO rfl (⟨by rw [hj9, (S_ps_pt S h0 (s_sh S)).2.2.2], hps9.1⟩) dX3_pass_166 (Nat.le_of_ble_eq_true rfl) (Nat.le_of_ble_eq_true rfl)
      · refine lv_aload_n C.1 C.2.1 dX3_pass_9 rfl (lv_at hl 0 rfl) ?_
        refine lv_dup C.1 C.2.1 dX3_pass_10 rfl ?_
        refine gGet (v := .int (s_hr S + nI j24)) (ref := RX3) (Cn := RX3) (T := TX3) (N := 7) C iX3 hO 0 rfl rfl 0 (by decide) w40 (fun _ h9 => h9) rfl dX3_pass_11 ?_
        refine lv_iconst (v := 1) C.1 C.2.1 dX3_pass_14 (by decide) ?_
        refine lv_iadd C.1 C.2.1 dX3_pass_15 ?_
        refine lv_eqi (y := s_hr S + nI (j24 + 1)) (by rw [Int32.add_assoc, nI_1]) ?_
        refine gPut (ws' := (sR E o (d_1 d) (d_2 d) (d_3 d) (s_hr S + nI (j24 + 1)) (s_nx S) (s_dr S) (s_on S) (s_n S) (d_l d) (s_sc S) (d_s d) (s_sh S) (d_f d) (shC E (d_a d) sr24 (s_sh S) ++ ((d_p d) ++ F)))) (ref := RX3) (Cn := RX3) (T := TX3) (N := 7) C iX3 tyX3 tyX3_ok nmX3 hO 0 rfl rfl 0 (by decide) w40 (fun _ h9 => h9) rfl (by decide +kernel) rfl rfl (Nat.le_of_ble_eq_true rfl) rfl dX3_pass_16 (fun H locs hO => ?_)
        refine lv_aload_n C.1 C.2.1 dX3_pass_19 rfl (lv_at hl 0 rfl) ?_
        refine gGet (v := .int (s_on S)) (ref := RX3) (Cn := RX3) (T := TX3) (N := 7) C iX3 hO 0 rfl rfl 3 (by decide) w32 (fun _ h9 => h9) rfl dX3_pass_20 ?_
        refine lv_if_eq (tgt := 29) C.1 C.2.1 dX3_pass_23 (by decide) (fun c_2 => ?_) (fun c_2 => ?_)
        · have hon9 : s_on S = 0 := c_2
          refine lv_aload_n C.1 C.2.1 dX3_pass_29 rfl (lv_at hl 0 rfl) ?_
          refine gGet (v := .ref (d_3 d)) (ref := RX3) (Cn := RX3) (T := TX3) (N := 7) C iX3 hO 0 rfl rfl 6 (by decide) w18 (fun _ h9 => h9) rfl dX3_pass_30 ?_
          refine lv_astore (lv' := [(4, .ref (d_3 d)), (0, .ref o), (1, .int (nI h0)), (2, .int (nI (sumN (s_dh S j24) (s_sh S)))), (3, .int (nI j24))]) C.1 C.2.1 dX3_pass_33 hl (by decide) rfl (fun ls hl => ?_)
          refine lv_aload C.1 C.2.1 dX3_pass_35 (lv_at hl 0 rfl) ?_
          refine va_alen (v := nI (s_sh S)) C.1 C.2.1 C.2.2.2.2.2.2.2.1.1 hO.1 3 3 rfl rfl rfl dX3_pass_37 ?_
          refine lv_istore (lv' := [(5, .int (nI (s_sh S))), (4, .ref (d_3 d)), (0, .ref o), (1, .int (nI h0)), (2, .int (nI (sumN (s_dh S j24) (s_sh S)))), (3, .int (nI j24))]) C.1 C.2.1 dX3_pass_38 hl (by decide) rfl (fun ls hl => ?_)
          refine lv_iconst (v := 0) C.1 C.2.1 dX3_pass_40 (by decide) ?_
          refine lv_istore (lv' := [(6, .int 0), (5, .int (nI (s_sh S))), (4, .ref (d_3 d)), (0, .ref o), (1, .int (nI h0)), (2, .int (nI (sumN (s_dh S j24) (s_sh S)))), (3, .int (nI j24))]) C.1 C.2.1 dX3_pass_41 hl (by decide) rfl (fun ls hl => ?_)
          have lp43 : ∀ (f : Nat) (i24 : Nat) (dd24 : Nat → Nat) (sr25 : Nat → Nat → Int32), (s_sh S + 1 ≤ i24 + f) → (i24 ≤ s_sh S) → (∀ i, i < s_sh S → hRow S i (dd24 i) (sr25 i)) → (∀ i, i < i24 → dd24 i = s_dh S (j24 + 1) i) → (∀ i, i24 ≤ i → dd24 i = s_dh S j24 i) → ∀ (H : Heap) (locs : List Loc), gO E A s (sR E o (d_1 d) (d_2 d) (d_3 d) (s_hr S + nI (j24 + 1)) (s_nx S) (s_dr S) (s_on S) (s_n S) (d_l d) (s_sc S) (d_s d) (s_sh S) (d_f d) (shC E (d_a d) sr25 (s_sh S) ++ ((d_p d) ++ F))) H locs → ∀ ls : Array Slot, lv_has ls 13 [(0, .ref o), (1, .int (nI h0)), (2, .int (nI (sumN dd24 (s_sh S)))), (3, .int (nI j24)), (4, .ref (d_3 d)), (5, .int (nI (s_sh S))), (6, .int (nI i24))] → W p l e ({ frames := 0, cells := 0, slots := 0, locals := 0 } : Room) s m args below meth c H locs 0 0 (MQ below (gQe E A (fun (r : Int32) (d9 : Dt) => r = nI (s_ph S h0 (s_sh S)) ∧ Rep E d9 (S_pass S (nI h0))) (fun (d9 : Dt) => sW E o d9 (S_pass S (nI h0)) F)) args s 0 0 A) (F0 m 43 ls []) := by
            intro f
            induction f with
            | zero =>
              intro i24 dd24 sr25 hf hi24 hs25 hdl24 hdg24
              exact absurd hf (by omega)
            | succ f ih_lp43 =>
              intro i24 dd24 sr25 hf hi24 hs25 hdl24 hdg24 H locs hO ls hl
              refine lv_iload C.1 C.2.1 dX3_pass_43 (lv_at hl 6 rfl) ?_
              refine lv_iload C.1 C.2.1 dX3_pass_45 (lv_at hl 5 rfl) ?_
              refine gGeN (x := i24) (y := (s_sh S)) (tgt := 159) C.1 C.2.1 (by omega) (by omega) dX3_pass_47 (by decide) (fun c_3 => ?_) (fun c_3 => ?_)
              · have hl : lv_has ls 13 [(0, .ref o), (1, .int (nI h0)), (2, .int (nI (sumN dd24 (s_sh S)))), (3, .int (nI j24))] := lv_sub hl [0, 1, 2, 3] rfl
                have hz7 : sumN (s_dh S (j24 + 1)) (s_sh S) = sumN dd24 (s_sh S) := sumN_congr _ (fun i hi => (hdl24 i (by omega)).symm)
                have hl : lv_has ls 13 [(0, .ref o), (1, .int (nI h0)), (2, .int (nI (sumN (s_dh S (j24 + 1)) (s_sh S)))), (3, .int (nI j24))] := by rw [hz7]; exact hl
                refine gInc (j := j24) (k := 3) (lv' := [(3, .int (nI (j24 + 1))), (0, .ref o), (1, .int (nI h0)), (2, .int (nI (sumN (s_dh S (j24 + 1)) (s_sh S))))]) C.1 C.2.1 dX3_pass_159 hl rfl (by decide) rfl (fun ls hl => ?_)
                refine lv_goto (tgt := 4) C.1 C.2.1 dX3_pass_162 (by decide) ?_
                exact ih_lp4 (j24 + 1) sr25 (by omega) (by omega) (fun i hi => by rw [← hdl24 i (by omega)]; exact hs25 i hi) _ _ hO _ (lv_sub hl [1, 2, 3, 0] rfl)
              · refine lv_aload C.1 C.2.1 dX3_pass_50 (lv_at hl 4 rfl) ?_
                refine lv_iload C.1 C.2.1 dX3_pass_52 (lv_at hl 6 rfl) ?_
                refine gAaldA (v := (d_a d) i24) (j := i24) C hO 3 rfl (by omega) (by omega) (((hR).2.2 i24 (by omega)).1) dX3_pass_54 ?_
                refine lv_astore (lv' := [(7, .ref ((d_a d) i24)), (0, .ref o), (1, .int (nI h0)), (2, .int (nI (sumN dd24 (s_sh S)))), (3, .int (nI j24)), (4, .ref (d_3 d)), (5, .int (nI (s_sh S))), (6, .int (nI i24))]) C.1 C.2.1 dX3_pass_55 hl (by decide) rfl (fun ls hl => ?_)
                refine lv_aload C.1 C.2.1 dX3_pass_57 (lv_at hl 0 rfl) ?_
                refine lv_iconst (v := 0) C.1 C.2.1 dX3_pass_59 (by decide) ?_
                refine gIald (v := s_pc S i24) (j := 0) C hO (i24 + 4) (shC_at (by omega)) (by omega) (by first | decide | omega) ((hs25 i24 (by omega)).1) dX3_pass_60 ?_
                refine lv_eqi (y := nI (pN S i24)) ((hpc9 i24 (by omega)).2.2) ?_
                refine lv_istore (lv' := [(8, .int (nI (pN S i24))), (7, .ref ((d_a d) i24)), (0, .ref o), (1, .int (nI h0)), (2, .int (nI (sumN dd24 (s_sh S)))), (3, .int (nI j24)), (4, .ref (d_3 d)), (5, .int (nI (s_sh S))), (6, .int (nI i24))]) C.1 C.2.1 dX3_pass_61 hl (by decide) rfl (fun ls hl => ?_)
                refine lv_aload_n C.1 C.2.1 dX3_pass_63 rfl (lv_at hl 2 rfl) ?_
                refine gGet (v := .ref (d_1 d)) (ref := RX3) (Cn := RX3) (T := TX3) (N := 7) C iX3 hO 0 rfl rfl 4 (by decide) w9 (fun _ h9 => h9) rfl dX3_pass_64 ?_
                refine lv_astore (lv' := [(9, .ref (d_1 d)), (8, .int (nI (pN S i24))), (7, .ref ((d_a d) i24)), (0, .ref o), (1, .int (nI h0)), (2, .int (nI (sumN dd24 (s_sh S)))), (3, .int (nI j24)), (4, .ref (d_3 d)), (5, .int (nI (s_sh S))), (6, .int (nI i24))]) C.1 C.2.1 dX3_pass_67 hl (by decide) rfl (fun ls hl => ?_)
                refine lv_aload C.1 C.2.1 dX3_pass_69 (lv_at hl 0 rfl) ?_
                refine va_alen (v := nI (s_n S)) C.1 C.2.1 C.2.2.2.2.2.2.2.1.1 hO.1 1 3 rfl rfl rfl dX3_pass_71 ?_
                refine lv_istore (lv' := [(10, .int (nI (s_n S))), (9, .ref (d_1 d)), (8, .int (nI (pN S i24))), (7, .ref ((d_a d) i24)), (0, .ref o), (1, .int (nI h0)), (2, .int (nI (sumN dd24 (s_sh S)))), (3, .int (nI j24)), (4, .ref (d_3 d)), (5, .int (nI (s_sh S))), (6, .int (nI i24))]) C.1 C.2.1 dX3_pass_72 hl (by decide) rfl (fun ls hl => ?_)
                have hl : lv_has ls 13 [(10, .int (nI (s_n S))), (9, .ref (d_1 d)), (8, .int (nI (pN S i24 - min (pN S i24) (0 - (pf (s_off S) (s_at S i24) (s_n S) + s_dh S j24 i24))))), (7, .ref ((d_a d) i24)), (0, .ref o), (1, .int (nI h0)), (2, .int (nI (sumN dd24 (s_sh S)))), (3, .int (nI j24)), (4, .ref (d_3 d)), (5, .int (nI (s_sh S))), (6, .int (nI i24))] := by rw [show pN S i24 - min (pN S i24) (0 - (pf (s_off S) (s_at S i24) (s_n S) + s_dh S j24 i24)) = pN S i24 by omega]; exact hl
                refine lv_iconst (v := 0) C.1 C.2.1 dX3_pass_74 (by decide) ?_
                refine lv_istore (lv' := [(11, .int 0), (10, .int (nI (s_n S))), (9, .ref (d_1 d)), (8, .int (nI (pN S i24 - min (pN S i24) (0 - (pf (s_off S) (s_at S i24) (s_n S) + s_dh S j24 i24))))), (7, .ref ((d_a d) i24)), (0, .ref o), (1, .int (nI h0)), (2, .int (nI (sumN dd24 (s_sh S)))), (3, .int (nI j24)), (4, .ref (d_3 d)), (5, .int (nI (s_sh S))), (6, .int (nI i24))]) C.1 C.2.1 dX3_pass_75 hl (by decide) rfl (fun ls hl => ?_)
                have lp77 : ∀ (f : Nat) (k24 : Nat) (dd25 : Nat → Nat) (sr26 : Nat → Nat → Int32), (s_n S + 1 ≤ k24 + f) → (k24 ≤ s_n S) → (∀ i, i < s_sh S → hRow S i (dd25 i) (sr26 i)) → (dd25 i24 = s_dh S j24 i24 + min (pN S i24) (k24 - (pf (s_off S) (s_at S i24) (s_n S) + s_dh S j24 i24))) → (∀ i, i ≠ i24 → dd25 i = dd24 i) → ∀ (H : Heap) (locs : List Loc), gO E A s (sR E o (d_1 d) (d_2 d) (d_3 d) (s_hr S + nI (j24 + 1)) (s_nx S) (s_dr S) (s_on S) (s_n S) (d_l d) (s_sc S) (d_s d) (s_sh S) (d_f d) (shC E (d_a d) sr26 (s_sh S) ++ ((d_p d) ++ F))) H locs → ∀ ls : Array Slot, lv_has ls 13 [(0, .ref o), (1, .int (nI h0)), (2, .int (nI (sumN dd25 (s_sh S)))), (3, .int (nI j24)), (4, .ref (d_3 d)), (5, .int (nI (s_sh S))), (6, .int (nI i24)), (7, .ref ((d_a d) i24)), (8, .int (nI (pN S i24 - min (pN S i24) (k24 - (pf (s_off S) (s_at S i24) (s_n S) + s_dh S j24 i24))))), (9, .ref (d_1 d)), (10, .int (nI (s_n S))), (11, .int (nI k24))] → W p l e ({ frames := 0, cells := 0, slots := 0, locals := 0 } : Room) s m args below meth c H locs 0 0 (MQ below (gQe E A (fun (r : Int32) (d9 : Dt) => r = nI (s_ph S h0 (s_sh S)) ∧ Rep E d9 (S_pass S (nI h0))) (fun (d9 : Dt) => sW E o d9 (S_pass S (nI h0)) F)) args s 0 0 A) (F0 m 77 ls []) := by
                  intro f
                  induction f with
                  | zero =>
                    intro k24 dd25 sr26 hf hk24 hs26 hd25 hd26
                    exact absurd hf (by omega)
                  | succ f ih_lp77 =>
                    intro k24 dd25 sr26 hf hk24 hs26 hd25 hd26 H locs hO ls hl
                    refine lv_iload C.1 C.2.1 dX3_pass_77 (lv_at hl 11 rfl) ?_
                    refine lv_iload C.1 C.2.1 dX3_pass_79 (lv_at hl 10 rfl) ?_
                    refine gGeN (x := k24) (y := (s_n S)) (tgt := 153) C.1 C.2.1 (by omega) (by omega) dX3_pass_81 (by decide) (fun c_4 => ?_) (fun c_4 => ?_)
                    · have hl : lv_has ls 13 [(0, .ref o), (1, .int (nI h0)), (2, .int (nI (sumN dd25 (s_sh S)))), (3, .int (nI j24)), (4, .ref (d_3 d)), (5, .int (nI (s_sh S))), (6, .int (nI i24))] := lv_sub hl [0, 1, 2, 3, 4, 5, 6] rfl
                      refine gInc (j := i24) (k := 6) (lv' := [(6, .int (nI (i24 + 1))), (0, .ref o), (1, .int (nI h0)), (2, .int (nI (sumN dd25 (s_sh S)))), (3, .int (nI j24)), (4, .ref (d_3 d)), (5, .int (nI (s_sh S)))]) C.1 C.2.1 dX3_pass_153 hl rfl (by decide) rfl (fun ls hl => ?_)
                      refine lv_goto (tgt := 43) C.1 C.2.1 dX3_pass_156 (by decide) ?_
                      exact ih_lp43 (i24 + 1) dd25 sr26 (by omega) (by omega) hs26 (fun i hi => by by_cases q : i = i24; (rw [q, hd25, show k24 = s_n S by omega]; exact s_dh_s j24 i24 hon9); (rw [hd26 i q]; exact hdl24 i (by omega))) (fun i hi => by rw [hd26 i (by omega)]; exact hdg24 i (by omega)) _ _ hO _ (lv_sub hl [1, 2, 3, 4, 5, 6, 0] rfl)
                    · have hP9 := s_dh_n S j24 i24
                      have hpp9 := hpc9 i24 (by omega)
                      have hle9 : pf (s_off S) (s_at S i24) (s_n S) + dd25 i24 ≤ s_n S := by rw [hd25]; omega
                      refine lv_aload C.1 C.2.1 dX3_pass_84 (lv_at hl 9 rfl) ?_
                      refine lv_iload C.1 C.2.1 dX3_pass_86 (lv_at hl 11 rfl) ?_
                      obtain ⟨q_5, f_5, hq_5, hm_5, e0_5, e1_5, e2_5, e3_5⟩ := (hR).1 k24 (by omega)
                      refine gAaldA (v := q_5) (j := k24) C hO 1 rfl (by omega) (by omega) hq_5 dX3_pass_88 ?_
                      refine lv_astore (lv' := [(12, .ref q_5), (0, .ref o), (1, .int (nI h0)), (2, .int (nI (sumN dd25 (s_sh S)))), (3, .int (nI j24)), (4, .ref (d_3 d)), (5, .int (nI (s_sh S))), (6, .int (nI i24)), (7, .ref ((d_a d) i24)), (8, .int (nI (pN S i24 - min (pN S i24) (k24 - (pf (s_off S) (s_at S i24) (s_n S) + s_dh S j24 i24))))), (9, .ref (d_1 d)), (10, .int (nI (s_n S))), (11, .int (nI k24))]) C.1 C.2.1 dX3_pass_89 hl (by decide) rfl (fun ls hl => ?_)
                      refine lv_aload C.1 C.2.1 dX3_pass_91 (lv_at hl 0 rfl) ?_
                      refine lv_iconst (v := 0) C.1 C.2.1 dX3_pass_93 (by decide) ?_
                      have ha_7m : (q_5, (.inl (eI E, 4, .inl f_5) : va_E)) ∈ (sR E o (d_1 d) (d_2 d) (d_3 d) (s_hr S + nI (j24 + 1)) (s_nx S) (s_dr S) (s_on S) (s_n S) (d_l d) (s_sc S) (d_s d) (s_sh S) (d_f d) (shC E (d_a d) sr26 (s_sh S) ++ ((d_p d) ++ F))) := sR_mem (pl_mem hm_5)
                      obtain ⟨p_6, ha_7⟩ := List.getElem?_of_mem ha_7m
                      refine gIald (v := s_off S k24) (j := 0) C hO p_6 ha_7 (by decide) (by first | decide | omega) e0_5 dX3_pass_94 ?_
                      refine lv_aload C.1 C.2.1 dX3_pass_95 (lv_at hl 8 rfl) ?_
                      refine lv_iconst (v := 1) C.1 C.2.1 dX3_pass_97 (by decide) ?_
                      refine gIald (v := atv S i24 (dd25 i24)) (j := 1) C hO (i24 + 4) (shC_at (by omega)) (by omega) (by first | decide | omega) ((hs26 i24 (by omega)).2.1) dX3_pass_98 ?_
                      refine lv_icmp_lt (tgt := 147) C.1 C.2.1 dX3_pass_99 (by decide) (fun c_8 => ?_) (fun c_8 => ?_)
                      · have hz6 := (atv_lt hsr hx hle9 (show k24 < s_n S by omega)).mp c_8
                        have hz9 : min (pN S i24) (k24 + 1 - (pf (s_off S) (s_at S i24) (s_n S) + s_dh S j24 i24)) = min (pN S i24) (k24 - (pf (s_off S) (s_at S i24) (s_n S) + s_dh S j24 i24)) := by rw [hd25] at hz6; omega
                        have hl : lv_has ls 13 [(0, .ref o), (1, .int (nI h0)), (2, .int (nI (sumN dd25 (s_sh S)))), (3, .int (nI j24)), (4, .ref (d_3 d)), (5, .int (nI (s_sh S))), (6, .int (nI i24)), (7, .ref ((d_a d) i24)), (8, .int (nI (pN S i24 - min (pN S i24) (k24 - (pf (s_off S) (s_at S i24) (s_n S) + s_dh S j24 i24))))), (9, .ref (d_1 d)), (10, .int (nI (s_n S))), (11, .int (nI k24))] := lv_sub hl [1, 2, 3, 4, 5, 6, 7, 8, 9, 10, 11, 12] rfl
                        have hl : lv_has ls 13 [(0, .ref o), (1, .int (nI h0)), (2, .int (nI (sumN dd25 (s_sh S)))), (3, .int (nI j24)), (4, .ref (d_3 d)), (5, .int (nI (s_sh S))), (6, .int (nI i24)), (7, .ref ((d_a d) i24)), (8, .int (nI (pN S i24 - min (pN S i24) ((k24 + 1) - (pf (s_off S) (s_at S i24) (s_n S) + s_dh S j24 i24))))), (9, .ref (d_1 d)), (10, .int (nI (s_n S))), (11, .int (nI k24))] := by rw [hz9]; exact hl
                        refine gInc (j := k24) (k := 11) (lv' := [(11, .int (nI (k24 + 1))), (0, .ref o), (1, .int (nI h0)), (2, .int (nI (sumN dd25 (s_sh S)))), (3, .int (nI j24)), (4, .ref (d_3 d)), (5, .int (nI (s_sh S))), (6, .int (nI i24)), (7, .ref ((d_a d) i24)), (8, .int (nI (pN S i24 - min (pN S i24) ((k24 + 1) - (pf (s_off S) (s_at S i24) (s_n S) + s_dh S j24 i24))))), (9, .ref (d_1 d)), (10, .int (nI (s_n S)))]) C.1 C.2.1 dX3_pass_147 hl rfl (by decide) rfl (fun ls hl => ?_)
                        refine lv_goto (tgt := 77) C.1 C.2.1 dX3_pass_150 (by decide) ?_
                        exact ih_lp77 (k24 + 1) dd25 sr26 (by omega) (by omega) hs26 (by rw [hz9]; exact hd25) hd26 _ _ hO _ (lv_sub hl [1, 2, 3, 4, 5, 6, 7, 8, 9, 10, 11, 0] rfl)
                      · have hz6 : ¬ k24 < pf (s_off S) (s_at S i24) (s_n S) + dd25 i24 := fun q => c_8 ((atv_lt hsr hx hle9 (show k24 < s_n S by omega)).mpr q)
                        refine lv_iload C.1 C.2.1 dX3_pass_102 (lv_at hl 9 rfl) ?_
                        refine lv_if_ne (tgt := 110) C.1 C.2.1 dX3_pass_104 (by decide) (fun c_9 => ?_) (fun c_9 => ?_)
                        · have hz5 : 0 < pN S i24 - min (pN S i24) (k24 - (pf (s_off S) (s_at S i24) (s_n S) + s_dh S j24 i24)) := Nat.pos_of_ne_zero (fun q => c_9 (by rw [q]; rfl))
                          have hkq9 : k24 = pf (s_off S) (s_at S i24) (s_n S) + dd25 i24 := by rw [hd25] at hz6 ⊢; omega
                          have hkk9 := hok9 k24 (by omega)
                          have hkc9 := hkk9.1
                          refine lv_aload C.1 C.2.1 dX3_pass_110 (lv_at hl 8 rfl) ?_
                          refine lv_iconst (v := nI 4) C.1 C.2.1 dX3_pass_112 (by decide) ?_
                          refine lv_aload C.1 C.2.1 dX3_pass_113 (lv_at hl 0 rfl) ?_
                          refine lv_iconst (v := 1) C.1 C.2.1 dX3_pass_115 (by decide) ?_
                          have ha_11m : (q_5, (.inl (eI E, 4, .inl f_5) : va_E)) ∈ (sR E o (d_1 d) (d_2 d) (d_3 d) (s_hr S + nI (j24 + 1)) (s_nx S) (s_dr S) (s_on S) (s_n S) (d_l d) (s_sc S) (d_s d) (s_sh S) (d_f d) (shC E (d_a d) sr26 (s_sh S) ++ ((d_p d) ++ F))) := sR_mem (pl_mem hm_5)
                          obtain ⟨p_10, ha_11⟩ := List.getElem?_of_mem ha_11m
                          refine gIald (v := s_key S k24) (j := 1) C hO p_10 ha_11 (by decide) (by first | decide | omega) e1_5 dX3_pass_116 ?_
                          refine lv_iadd C.1 C.2.1 dX3_pass_117 ?_
                          refine lv_eqi (y := nI (4 + (s_key S k24).toNatClampNeg)) ((congrArg (fun z => nI 4 + z) hkk9.2).trans (nI_add 4 _)) ?_
                          refine lv_aload C.1 C.2.1 dX3_pass_118 (lv_at hl 0 rfl) ?_
                          refine lv_iconst (v := nI 2) C.1 C.2.1 dX3_pass_120 (by decide) ?_
                          have ha_13m : (q_5, (.inl (eI E, 4, .inl f_5) : va_E)) ∈ (sR E o (d_1 d) (d_2 d) (d_3 d) (s_hr S + nI (j24 + 1)) (s_nx S) (s_dr S) (s_on S) (s_n S) (d_l d) (s_sc S) (d_s d) (s_sh S) (d_f d) (shC E (d_a d) sr26 (s_sh S) ++ ((d_p d) ++ F))) := sR_mem (pl_mem hm_5)
                          obtain ⟨p_12, ha_13⟩ := List.getElem?_of_mem ha_13m
                          refine gIald (v := s_val S k24) (j := 2) C hO p_12 ha_13 (by decide) (by first | decide | omega) e2_5 dX3_pass_121 ?_
                          refine gIast (j := (4 + (s_key S k24).toNatClampNeg)) (ws' := (sR E o (d_1 d) (d_2 d) (d_3 d) (s_hr S + nI (j24 + 1)) (s_nx S) (s_dr S) (s_on S) (s_n S) (d_l d) (s_sc S) (d_s d) (s_sh S) (d_f d) (shC E (d_a d) (va_up sr26 i24 (upd (sr26 i24) (4 + (s_key S k24).toNatClampNeg) (s_val S k24))) (s_sh S) ++ ((d_p d) ++ F)))) C hO (i24 + 4) (shC_at (by omega)) (by first | decide | omega) (by first | decide | omega) (congrArg (fun z9 => (sR E o (d_1 d) (d_2 d) (d_3 d) (s_hr S + nI (j24 + 1)) (s_nx S) (s_dr S) (s_on S) (s_n S) (d_l d) (s_sc S) (d_s d) (s_sh S) (d_f d) z9)) (shC_set (by omega) _)) dX3_pass_122 (fun H locs hO => ?_)
                          refine lv_aload C.1 C.2.1 dX3_pass_123 (lv_at hl 8 rfl) ?_
                          refine lv_iconst (v := 1) C.1 C.2.1 dX3_pass_125 (by decide) ?_
                          refine lv_aload C.1 C.2.1 dX3_pass_126 (lv_at hl 0 rfl) ?_
                          refine lv_iconst (v := 0) C.1 C.2.1 dX3_pass_128 (by decide) ?_
                          have ha_15m : (q_5, (.inl (eI E, 4, .inl f_5) : va_E)) ∈ (sR E o (d_1 d) (d_2 d) (d_3 d) (s_hr S + nI (j24 + 1)) (s_nx S) (s_dr S) (s_on S) (s_n S) (d_l d) (s_sc S) (d_s d) (s_sh S) (d_f d) (shC E (d_a d) (va_up sr26 i24 (upd (sr26 i24) (4 + (s_key S k24).toNatClampNeg) (s_val S k24))) (s_sh S) ++ ((d_p d) ++ F))) := sR_mem (pl_mem hm_5)
                          obtain ⟨p_14, ha_15⟩ := List.getElem?_of_mem ha_15m
                          refine gIald (v := s_off S k24) (j := 0) C hO p_14 ha_15 (by decide) (by first | decide | omega) e0_5 dX3_pass_129 ?_
                          refine lv_iconst (v := 1) C.1 C.2.1 dX3_pass_130 (by decide) ?_
                          refine lv_iadd C.1 C.2.1 dX3_pass_131 ?_
                          refine gIast (j := 1) (ws' := (sR E o (d_1 d) (d_2 d) (d_3 d) (s_hr S + nI (j24 + 1)) (s_nx S) (s_dr S) (s_on S) (s_n S) (d_l d) (s_sc S) (d_s d) (s_sh S) (d_f d) (shC E (d_a d) (va_up (va_up sr26 i24 (upd (sr26 i24) (4 + (s_key S k24).toNatClampNeg) (s_val S k24))) i24 (upd ((va_up sr26 i24 (upd (sr26 i24) (4 + (s_key S k24).toNatClampNeg) (s_val S k24))) i24) 1 ((s_off S k24) + 1))) (s_sh S) ++ ((d_p d) ++ F)))) C hO (i24 + 4) (shC_at (by omega)) (by first | decide | omega) (by first | decide | omega) (congrArg (fun z9 => (sR E o (d_1 d) (d_2 d) (d_3 d) (s_hr S + nI (j24 + 1)) (s_nx S) (s_dr S) (s_on S) (s_n S) (d_l d) (s_sc S) (d_s d) (s_sh S) (d_f d) z9)) (shC_set (by omega) _)) dX3_pass_132 (fun H locs hO => ?_)
                          refine lv_aload C.1 C.2.1 dX3_pass_133 (lv_at hl 8 rfl) ?_
                          refine lv_iconst (v := nI 2) C.1 C.2.1 dX3_pass_135 (by decide) ?_
                          refine lv_dup2_11 C.1 C.2.1 dX3_pass_136 rfl rfl ?_
                          refine gIald (v := s_hd S i24 + nI (dd25 i24)) (j := 2) C hO (i24 + 4) (shC_at (by omega)) (by omega) (by first | decide | omega) ((row2_at rfl rfl).trans (hs26 i24 (by omega)).2.2.1) dX3_pass_137 ?_
                          refine lv_iconst (v := 1) C.1 C.2.1 dX3_pass_138 (by decide) ?_
                          refine lv_iadd C.1 C.2.1 dX3_pass_139 ?_
                          refine gIast (j := 2) (ws' := (sR E o (d_1 d) (d_2 d) (d_3 d) (s_hr S + nI (j24 + 1)) (s_nx S) (s_dr S) (s_on S) (s_n S) (d_l d) (s_sc S) (d_s d) (s_sh S) (d_f d) (shC E (d_a d) (va_up (va_up (va_up sr26 i24 (upd (sr26 i24) (4 + (s_key S k24).toNatClampNeg) (s_val S k24))) i24 (upd ((va_up sr26 i24 (upd (sr26 i24) (4 + (s_key S k24).toNatClampNeg) (s_val S k24))) i24) 1 ((s_off S k24) + 1))) i24 (upd ((va_up (va_up sr26 i24 (upd (sr26 i24) (4 + (s_key S k24).toNatClampNeg) (s_val S k24))) i24 (upd ((va_up sr26 i24 (upd (sr26 i24) (4 + (s_key S k24).toNatClampNeg) (s_val S k24))) i24) 1 ((s_off S k24) + 1))) i24) 2 ((s_hd S i24 + nI (dd25 i24)) + 1))) (s_sh S) ++ ((d_p d) ++ F)))) C hO (i24 + 4) (shC_at (by omega)) (by first | decide | omega) (by first | decide | omega) (congrArg (fun z9 => (sR E o (d_1 d) (d_2 d) (d_3 d) (s_hr S + nI (j24 + 1)) (s_nx S) (s_dr S) (s_on S) (s_n S) (d_l d) (s_sc S) (d_s d) (s_sh S) (d_f d) z9)) (shC_set (by omega) _)) dX3_pass_140 (fun H locs hO => ?_)
                          refine lv_iinc (v := nI (pN S i24 - min (pN S i24) ((k24 + 1) - (pf (s_off S) (s_at S i24) (s_n S) + s_dh S j24 i24)))) (lv' := [(8, .int (nI (pN S i24 - min (pN S i24) ((k24 + 1) - (pf (s_off S) (s_at S i24) (s_n S) + s_dh S j24 i24))))), (12, .ref q_5), (0, .ref o), (1, .int (nI h0)), (2, .int (nI (sumN dd25 (s_sh S)))), (3, .int (nI j24)), (4, .ref (d_3 d)), (5, .int (nI (s_sh S))), (6, .int (nI i24)), (7, .ref ((d_a d) i24)), (9, .ref (d_1 d)), (10, .int (nI (s_n S))), (11, .int (nI k24))]) C.1 C.2.1 dX3_pass_141 hl (k := 9) rfl (by rw [show pN S i24 - min (pN S i24) (k24 - (pf (s_off S) (s_at S i24) (s_n S) + s_dh S j24 i24)) = pN S i24 - min (pN S i24) ((k24 + 1) - (pf (s_off S) (s_at S i24) (s_n S) + s_dh S j24 i24)) + 1 by omega]; exact pk_m1 _) (by decide) rfl (fun ls hl => ?_)
                          refine gInc (j := (sumN dd25 (s_sh S))) (k := 4) (lv' := [(2, .int (nI ((sumN dd25 (s_sh S)) + 1))), (8, .int (nI (pN S i24 - min (pN S i24) ((k24 + 1) - (pf (s_off S) (s_at S i24) (s_n S) + s_dh S j24 i24))))), (12, .ref q_5), (0, .ref o), (1, .int (nI h0)), (3, .int (nI j24)), (4, .ref (d_3 d)), (5, .int (nI (s_sh S))), (6, .int (nI i24)), (7, .ref ((d_a d) i24)), (9, .ref (d_1 d)), (10, .int (nI (s_n S))), (11, .int (nI k24))]) C.1 C.2.1 dX3_pass_144 hl rfl (by decide) rfl (fun ls hl => ?_)
                          have hl : lv_has ls 13 [(2, .int (nI ((sumN dd25 (s_sh S)) + 1))), (8, .int (nI (pN S i24 - min (pN S i24) ((k24 + 1) - (pf (s_off S) (s_at S i24) (s_n S) + s_dh S j24 i24))))), (0, .ref o), (1, .int (nI h0)), (3, .int (nI j24)), (4, .ref (d_3 d)), (5, .int (nI (s_sh S))), (6, .int (nI i24)), (7, .ref ((d_a d) i24)), (9, .ref (d_1 d)), (10, .int (nI (s_n S))), (11, .int (nI k24))] := lv_sub hl [0, 1, 3, 4, 5, 6, 7, 8, 9, 10, 11, 12] rfl
                          have hl : lv_has ls 13 [(2, .int (nI (sumN (dup1 dd25 i24) (s_sh S)))), (8, .int (nI (pN S i24 - min (pN S i24) ((k24 + 1) - (pf (s_off S) (s_at S i24) (s_n S) + s_dh S j24 i24))))), (0, .ref o), (1, .int (nI h0)), (3, .int (nI j24)), (4, .ref (d_3 d)), (5, .int (nI (s_sh S))), (6, .int (nI i24)), (7, .ref ((d_a d) i24)), (9, .ref (d_1 d)), (10, .int (nI (s_n S))), (11, .int (nI k24))] := by rw [sumN_dup1, if_pos (by omega)]; exact hl
                          refine gInc (j := k24) (k := 11) (lv' := [(11, .int (nI (k24 + 1))), (2, .int (nI (sumN (dup1 dd25 i24) (s_sh S)))), (8, .int (nI (pN S i24 - min (pN S i24) ((k24 + 1) - (pf (s_off S) (s_at S i24) (s_n S) + s_dh S j24 i24))))), (0, .ref o), (1, .int (nI h0)), (3, .int (nI j24)), (4, .ref (d_3 d)), (5, .int (nI (s_sh S))), (6, .int (nI i24)), (7, .ref ((d_a d) i24)), (9, .ref (d_1 d)), (10, .int (nI (s_n S)))]) C.1 C.2.1 dX3_pass_147 hl rfl (by decide) rfl (fun ls hl => ?_)
                          refine lv_goto (tgt := 77) C.1 C.2.1 dX3_pass_150 (by decide) ?_
                          exact ih_lp77 (k24 + 1) (dup1 dd25 i24) (va_up (va_up (va_up sr26 i24 (upd (sr26 i24) (4 + (s_key S k24).toNatClampNeg) (s_val S k24))) i24 (upd ((va_up sr26 i24 (upd (sr26 i24) (4 + (s_key S k24).toNatClampNeg) (s_val S k24))) i24) 1 ((s_off S k24) + 1))) i24 (upd ((va_up (va_up sr26 i24 (upd (sr26 i24) (4 + (s_key S k24).toNatClampNeg) (s_val S k24))) i24 (upd ((va_up sr26 i24 (upd (sr26 i24) (4 + (s_key S k24).toNatClampNeg) (s_val S k24))) i24) 1 ((s_off S k24) + 1))) i24) 2 ((s_hd S i24 + nI (dd25 i24)) + 1))) (by omega) (by omega) (hRow_all hs26 (by omega) hkq9 rfl hkc9 rfl rfl rfl) (by rw [dup1_z, hd25]; omega) (fun i hi => by rw [dup1_n hi]; exact hd26 i hi) _ _ hO _ (lv_sub hl [3, 4, 1, 5, 6, 7, 8, 9, 2, 10, 11, 0] rfl)
                        · have hz5 := nI_z (by omega) c_9
                          have hz9 : min (pN S i24) (k24 + 1 - (pf (s_off S) (s_at S i24) (s_n S) + s_dh S j24 i24)) = min (pN S i24) (k24 - (pf (s_off S) (s_at S i24) (s_n S) + s_dh S j24 i24)) := by omega
                          refine lv_goto (tgt := 147) C.1 C.2.1 dX3_pass_107 (by decide) ?_
                          have hl : lv_has ls 13 [(0, .ref o), (1, .int (nI h0)), (2, .int (nI (sumN dd25 (s_sh S)))), (3, .int (nI j24)), (4, .ref (d_3 d)), (5, .int (nI (s_sh S))), (6, .int (nI i24)), (7, .ref ((d_a d) i24)), (8, .int (nI (pN S i24 - min (pN S i24) (k24 - (pf (s_off S) (s_at S i24) (s_n S) + s_dh S j24 i24))))), (9, .ref (d_1 d)), (10, .int (nI (s_n S))), (11, .int (nI k24))] := lv_sub hl [1, 2, 3, 4, 5, 6, 7, 8, 9, 10, 11, 12] rfl
                          have hl : lv_has ls 13 [(0, .ref o), (1, .int (nI h0)), (2, .int (nI (sumN dd25 (s_sh S)))), (3, .int (nI j24)), (4, .ref (d_3 d)), (5, .int (nI (s_sh S))), (6, .int (nI i24)), (7, .ref ((d_a d) i24)), (8, .int (nI (pN S i24 - min (pN S i24) ((k24 + 1) - (pf (s_off S) (s_at S i24) (s_n S) + s_dh S j24 i24))))), (9, .ref (d_1 d)), (10, .int (nI (s_n S))), (11, .int (nI k24))] := by rw [hz9]; exact hl
                          refine gInc (j := k24) (k := 11) (lv' := [(11, .int (nI (k24 + 1))), (0, .ref o), (1, .int (nI h0)), (2, .int (nI (sumN dd25 (s_sh S)))), (3, .int (nI j24)), (4, .ref (d_3 d)), (5, .int (nI (s_sh S))), (6, .int (nI i24)), (7, .ref ((d_a d) i24)), (8, .int (nI (pN S i24 - min (pN S i24) ((k24 + 1) - (pf (s_off S) (s_at S i24) (s_n S) + s_dh S j24 i24))))), (9, .ref (d_1 d)), (10, .int (nI (s_n S)))]) C.1 C.2.1 dX3_pass_147 hl rfl (by decide) rfl (fun ls hl => ?_)
                          refine lv_goto (tgt := 77) C.1 C.2.1 dX3_pass_150 (by decide) ?_
                          exact ih_lp77 (k24 + 1) dd25 sr26 (by omega) (by omega) hs26 (by rw [hz9]; exact hd25) hd26 _ _ hO _ (lv_sub hl [1, 2, 3, 4, 5, 6, 7, 8, 9, 10, 11, 0] rfl)
                exact lp77 (s_n S + 1) 0 dd24 sr25 (by omega) (Nat.zero_le _) hs25 (by rw [hdg24 i24 (Nat.le_refl _)]; omega) (fun i _ => rfl) _ _ hO _ (lv_sub hl [5, 6, 7, 8, 9, 10, 11, 4, 3, 2, 1, 0] rfl)
          exact lp43 (s_sh S + 1) 0 (s_dh S j24) sr24 (by omega) (Nat.zero_le _) hs24 (fun i hi => absurd hi (Nat.not_lt_zero _)) (fun i _ => rfl) _ _ hO _ (lv_sub hl [3, 4, 5, 6, 2, 1, 0] rfl)
        · have hon9 : ¬ s_on S = 0 := c_2
          refine lv_goto (tgt := 159) C.1 C.2.1 dX3_pass_26 (by decide) ?_
          have hz7 := sum_dhon hon9 j24 (j24 + 1) (s_sh S)
          have hl : lv_has ls 13 [(0, .ref o), (1, .int (nI h0)), (2, .int (nI (sumN (s_dh S (j24 + 1)) (s_sh S)))), (3, .int (nI j24))] := by rw [hz7]; exact hl
          refine gInc (j := j24) (k := 3) (lv' := [(3, .int (nI (j24 + 1))), (0, .ref o), (1, .int (nI h0)), (2, .int (nI (sumN (s_dh S (j24 + 1)) (s_sh S))))]) C.1 C.2.1 dX3_pass_159 hl rfl (by decide) rfl (fun ls hl => ?_)
          refine lv_goto (tgt := 4) C.1 C.2.1 dX3_pass_162 (by decide) ?_
          exact ih_lp4 (j24 + 1) sr24 (by omega) (by omega) (fun i hi => by have h9 := hs24 i hi; rw [s_dh_on _ _ hon9] at h9 ⊢; exact h9) _ _ hO _ (lv_sub hl [1, 2, 3, 0] rfl)
  exact lp4 (h0 + 1) 0 (d_r d) (by omega) (Nat.zero_le _) (hRow_0 hR) _ _ hO _ (lv_sub hl [2, 3, 1, 0] rfl)
