section LC
variable {p : Program} {l : Launch} {e : Env} {s : State} {m : MethodId} {args : Array Value} {below : List Frame} {meth : Method} {c : Code} {H : Heap} {locs : List Loc} {Q : State → Prop} {E : gE} {A : Nat → Prop} {ret9 : Option FieldType}
variable {a : Nat → Nat} {o : Nat} {d : Dt} {S : St} {mk rk rv : Nat → Int32} {F : va_W} {B : Int} {bs L t z0 nc ns : Nat} {xs : Nat → Int32} {x : Int32} {ls : Array Slot}
set_option maxHeartbeats 4000000 in
set_option maxRecDepth 100000 in
theorem law_F (hst : l.stackTraces = false) (hJ : J9 S B) (hB : B + 100 < 2147480000) (hR : Rep E d S) (ez0 : s_nx S = nI z0) (hz0 : z0 < 2147480000) (hnc : nc ≤ 100000) (hns : ns ≤ 2000000) (C : gCx p s m args meth c cL_law 21 wsL_law RL ret9 E A) (hz1 : z0 < 100000) {q_h q_m q_l : Nat} {fh fm fl mk9 : Nat → Int32} (hhf : ∀ i, i < s_sh S → fh i = s_hd S i) (hmf : ∀ i, i < s_sh S → fm i = s_ms S i) (hlf : ∀ i, i < s_sh S → fl i = nI (s_lag S i)) (hO : gO E A s ((xW E a S mk9 rk rv) ++ ((q_l, .inl (eI E, (s_sh S), .inl fl)) :: ((q_m, .inl (eI E, (s_sh S), .inl fm)) :: ((q_h, .inl (eI E, (s_sh S), .inl fh)) :: (sW E o d S F))))) H locs) (hl : lv_has ls 21 [(0, .ref bs), (1, .ref (a 0)), (2, .ref o), (3, .int (nI t)), (4, .int x), (5, .int (nI (s_n S))), (6, .int (nI z0)), (8, .int (nI (s_sh S))), (12, .ref q_h), (13, .ref q_m), (14, .ref q_l)]) (kk : ∀ (d9 : Dt), (Rep E d9 (S_pass S (nI 1))) → ∀ (H : Heap) (locs : List Loc), gO E A s ((xW E a (S_pass S (nI 1)) mk9 rk rv) ++ (sW E o d9 (S_pass S (nI 1)) F)) H locs → ∀ ls : Array Slot, lv_has ls 21 [(0, .ref bs), (1, .ref (a 0)), (2, .ref o), (3, .int (nI t)), (4, .int x), (5, .int (nI (s_n S))), (6, .int (nI z0)), (16, .int (s_on S))] → W p l e room_1 s m args below meth c H locs (nc + 19) (ns + 114) Q (F0 m 871 ls [])) : W p l e room_1 s m args below meth c H locs nc ns Q (F0 m 702 ls []) := by
  have hI : s_inv S := hJ.1.inv
  obtain ⟨hn, hsh, hsc, hOn, hOb, hok9, hpc9, hp0⟩ := id hI
  have hsr : s_srt S := hJ.1.1.srt
  have hlg := hJ.1.1
  have hxI := hJ.2
  obtain ⟨hnz1, hnz2, hnz3⟩ := nx_sum hxI hn ez0 hz0
  have hq9 := pass_kp S
  have hJ1 : J9 (S_pass S (nI 1)) B := hJ.pass (by omega) (nI 1)
  have hI1 : s_inv (S_pass S (nI 1)) := hJ1.1.inv
  refine lv_aload_n C.1 C.2.1 dL_law_702 rfl (lv_at hl 1 rfl) ?_
  refine gCall_i (mc := 0) (ms := 0) (As := []) (rest := []) C hO (c_X2_hours l E a S mk9 rk rv ((q_l, .inl (eI E, (s_sh S), .inl fl)) :: ((q_m, .inl (eI E, (s_sh S), .inl fm)) :: ((q_h, .inl (eI E, (s_sh S), .inl fh)) :: (sW E o d S F))))  hI) (cwV 0 C.2.2.2.2.1 gL_law_X2_hours rfl rfl rfl (by decide +kernel) ⟨(Nat.le_of_ble_eq_true rfl), (Nat.le_of_ble_eq_true rfl)⟩) (va_recv C.2.2.2.2.2.2.2.1.1 hO.1 (ci := 2) (q0 := 0) rfl rfl) rfl hl.1 rfl (Nat.le_of_ble_eq_true rfl) dL_law_703 ⟨(by show nc + 0 ≤ 600172; omega), (by show ns + 0 ≤ 7300668; omega)⟩ (fun H locs hO => ?_)
  refine lv_istore (lv' := [(15, .int (s_hr S)), (0, .ref bs), (1, .ref (a 0)), (2, .ref o), (3, .int (nI t)), (4, .int x), (5, .int (nI (s_n S))), (6, .int (nI z0)), (8, .int (nI (s_sh S))), (12, .ref q_h), (13, .ref q_m), (14, .ref q_l)]) C.1 C.2.1 dL_law_706 hl (by decide) rfl (fun ls hl => ?_)
  refine lv_aload_n C.1 C.2.1 dL_law_708 rfl (lv_at hl 2 rfl) ?_
  refine gCall_i (mc := 0) (ms := 0) (As := []) (rest := []) C hO (c_X2_isStormy l E a S mk9 rk rv ((q_l, .inl (eI E, (s_sh S), .inl fl)) :: ((q_m, .inl (eI E, (s_sh S), .inl fm)) :: ((q_h, .inl (eI E, (s_sh S), .inl fh)) :: (sW E o d S F))))  hI) (cwV 0 C.2.2.2.2.1 gL_law_X2_isStormy rfl rfl rfl (by decide +kernel) ⟨(Nat.le_of_ble_eq_true rfl), (Nat.le_of_ble_eq_true rfl)⟩) (va_recv C.2.2.2.2.2.2.2.1.1 hO.1 (ci := 2) (q0 := 0) rfl rfl) rfl hl.1 rfl (Nat.le_of_ble_eq_true rfl) dL_law_709 ⟨(by show nc + 0 + 0 ≤ 600172; omega), (by show ns + 0 + 0 ≤ 7300668; omega)⟩ (fun H locs hO => ?_)
  refine lv_istore (lv' := [(16, .int (s_on S)), (15, .int (s_hr S)), (0, .ref bs), (1, .ref (a 0)), (2, .ref o), (3, .int (nI t)), (4, .int x), (5, .int (nI (s_n S))), (6, .int (nI z0)), (8, .int (nI (s_sh S))), (12, .ref q_h), (13, .ref q_m), (14, .ref q_l)]) C.1 C.2.1 dL_law_712 hl (by decide) rfl (fun ls hl => ?_)
  refine lv_aload_n C.1 C.2.1 dL_law_714 rfl (lv_at hl 3 rfl) ?_
  refine lv_iconst (v := 1) C.1 C.2.1 dL_law_715 (by decide) ?_
  refine gXCall_i (mc := 1) (ms := 6) (As := [.int 1]) (rest := []) C hO (c_X2_passHours l E a S mk9 rk rv ((q_l, .inl (eI E, (s_sh S), .inl fl)) :: ((q_m, .inl (eI E, (s_sh S), .inl fm)) :: ((q_h, .inl (eI E, (s_sh S), .inl fh)) :: (sW E o d S F)))) (nI 1) hst hI) (cwV 1 C.2.2.2.2.1 gL_law_X2_passHours rfl rfl rfl (by decide +kernel) ⟨(Nat.le_of_ble_eq_true rfl), (Nat.le_of_ble_eq_true rfl)⟩) (va_recv C.2.2.2.2.2.2.2.1.1 hO.1 (ci := 2) (q0 := 0) rfl rfl) rfl hl.1 rfl (Nat.le_of_ble_eq_true rfl) dL_law_716 ⟨(by show nc + 0 + 0 + 1 ≤ 600172; omega), (by show ns + 0 + 0 + 6 ≤ 7300668; omega)⟩ (fun E0 ce q9 H locs hO hcell hcv hcl hbad => ?_) (fun H locs hO _ => ?_)
  · exact absurd (okHours_nI (by omega) (by omega)) hbad.2
  refine lv_eqi (y := nI (sumN (s_dh S 1) (s_sh S))) (by rw [nI_clamp (by omega), (S_ps_pt S 1 (s_sh S)).2.2.2]) ?_
  refine lv_istore (lv' := [(17, .int (nI (sumN (s_dh S 1) (s_sh S)))), (16, .int (s_on S)), (15, .int (s_hr S)), (0, .ref bs), (1, .ref (a 0)), (2, .ref o), (3, .int (nI t)), (4, .int x), (5, .int (nI (s_n S))), (6, .int (nI z0)), (8, .int (nI (s_sh S))), (12, .ref q_h), (13, .ref q_m), (14, .ref q_l)]) C.1 C.2.1 dL_law_719 hl (by decide) rfl (fun ls hl => ?_)
  refine lv_aload_n C.1 C.2.1 dL_law_721 rfl (lv_at hl 5 rfl) ?_
  refine lv_iconst (v := 1) C.1 C.2.1 dL_law_722 (by decide) ?_
  have hO : gO E A s (((xW E a (S_pass S (nI 1)) mk9 rk rv) ++ [(q_l, .inl (eI E, (s_sh S), .inl fl)), (q_m, .inl (eI E, (s_sh S), .inl fm)), (q_h, .inl (eI E, (s_sh S), .inl fh))]) ++ (sW E o d S F)) H locs := hO
  have hO := gO.xs hO
  refine gCall_e (mc := 0) (ms := 0) (As := [.int 1]) (rest := []) C hO (c_X3_pass l E o d S (((xW E a (S_pass S (nI 1)) mk9 rk rv) ++ [(q_l, .inl (eI E, (s_sh S), .inl fl)), (q_m, .inl (eI E, (s_sh S), .inl fm)), (q_h, .inl (eI E, (s_sh S), .inl fh))]) ++ F) 1 (by omega) hR hI hsr (fun i hi => by have h9 := hlg.2.2.2.1 i hi; rw [ez0, nI_toInt (by omega)] at h9; omega)) (cwV 1 C.2.2.2.2.1 gL_law_X3_pass rfl rfl rfl (by decide +kernel) ⟨(Nat.le_of_ble_eq_true rfl), (Nat.le_of_ble_eq_true rfl)⟩) (va_recv C.2.2.2.2.2.2.2.1.1 hO.1 (ci := 3) (q0 := 0) rfl rfl) rfl hl.1 rfl (Nat.le_of_ble_eq_true rfl) dL_law_723 ⟨(by show nc + 0 + 0 + 1 + 0 ≤ 600172; omega), (by show ns + 0 + 0 + 6 + 0 ≤ 7300668; omega)⟩ (fun r25 d25 H locs ⟨hr25, hR25⟩ hO => ?_)
  have hO : gO E A s (((xW E a (S_pass S (nI 1)) mk9 rk rv) ++ [(q_l, .inl (eI E, (s_sh S), .inl fl)), (q_m, .inl (eI E, (s_sh S), .inl fm)), (q_h, .inl (eI E, (s_sh S), .inl fh))]) ++ (sW E o d25 (S_pass S (nI 1)) F)) H locs := gO.sx hO
  have hO : gO E A s ((xW E a (S_pass S (nI 1)) mk9 rk rv) ++ ((q_l, .inl (eI E, (s_sh S), .inl fl)) :: ((q_m, .inl (eI E, (s_sh S), .inl fm)) :: ((q_h, .inl (eI E, (s_sh S), .inl fh)) :: (sW E o d25 (S_pass S (nI 1)) F))))) H locs := hO
  refine lv_pop C.1 C.2.1 dL_law_726 rfl ?_
  refine lv_iconst (v := 0) C.1 C.2.1 dL_law_727 (by decide) ?_
  refine lv_istore (lv' := [(18, .int 0), (17, .int (nI (sumN (s_dh S 1) (s_sh S)))), (16, .int (s_on S)), (15, .int (s_hr S)), (0, .ref bs), (1, .ref (a 0)), (2, .ref o), (3, .int (nI t)), (4, .int x), (5, .int (nI (s_n S))), (6, .int (nI z0)), (8, .int (nI (s_sh S))), (12, .ref q_h), (13, .ref q_m), (14, .ref q_l)]) C.1 C.2.1 dL_law_728 hl (by decide) rfl (fun ls hl => ?_)
  refine lv_iconst (v := 0) C.1 C.2.1 dL_law_730 (by decide) ?_
  refine lv_istore (lv' := [(19, .int 0), (18, .int 0), (17, .int (nI (sumN (s_dh S 1) (s_sh S)))), (16, .int (s_on S)), (15, .int (s_hr S)), (0, .ref bs), (1, .ref (a 0)), (2, .ref o), (3, .int (nI t)), (4, .int x), (5, .int (nI (s_n S))), (6, .int (nI z0)), (8, .int (nI (s_sh S))), (12, .ref q_h), (13, .ref q_m), (14, .ref q_l)]) C.1 C.2.1 dL_law_731 hl (by decide) rfl (fun ls hl => ?_)
  have lp733 : ∀ (f : Nat) (i24 : Nat), (s_sh S + 1 ≤ i24 + f) → (i24 ≤ s_sh S) → ∀ (H : Heap) (locs : List Loc), gO E A s ((xW E a (S_pass S (nI 1)) mk9 rk rv) ++ ((q_l, .inl (eI E, (s_sh S), .inl fl)) :: ((q_m, .inl (eI E, (s_sh S), .inl fm)) :: ((q_h, .inl (eI E, (s_sh S), .inl fh)) :: (sW E o d25 (S_pass S (nI 1)) F))))) H locs → ∀ ls : Array Slot, lv_has ls 21 [(0, .ref bs), (1, .ref (a 0)), (2, .ref o), (3, .int (nI t)), (4, .int x), (5, .int (nI (s_n S))), (6, .int (nI z0)), (8, .int (nI (s_sh S))), (12, .ref q_h), (13, .ref q_m), (14, .ref q_l), (15, .int (s_hr S)), (16, .int (s_on S)), (17, .int (nI (sumN (s_dh S 1) (s_sh S)))), (18, .int (nI (sumN (s_dh S 1) i24))), (19, .int (nI i24))] → W p l e room_1 s m args below meth c H locs (nc + 1 + 3 * i24) (ns + 6 + 18 * i24) Q (F0 m 733 ls []) := by
    intro f
    induction f with
    | zero =>
      intro i24 hf hi24
      exact absurd hf (by omega)
    | succ f ih_lp733 =>
      intro i24 hf hi24 H locs hO ls hl
      refine lv_iload C.1 C.2.1 dL_law_733 (lv_at hl 15 rfl) ?_
      refine lv_iload C.1 C.2.1 dL_law_735 (lv_at hl 7 rfl) ?_
      refine gGeN (x := i24) (y := (s_sh S)) (tgt := 821) C.1 C.2.1 (by omega) (by omega) dL_law_737 (by decide) (fun c_2 => ?_) (fun c_2 => ?_)
      · have hie9 : i24 = s_sh S := by omega
        have hl : lv_has ls 21 [(0, .ref bs), (1, .ref (a 0)), (2, .ref o), (3, .int (nI t)), (4, .int x), (5, .int (nI (s_n S))), (6, .int (nI z0)), (8, .int (nI (s_sh S))), (12, .ref q_h), (13, .ref q_m), (14, .ref q_l), (15, .int (s_hr S)), (16, .int (s_on S)), (17, .int (nI (sumN (s_dh S 1) (s_sh S)))), (18, .int (nI (sumN (s_dh S 1) (s_sh S)))), (19, .int (nI (s_sh S)))] := by rw [hie9] at hl; exact hl
        refine lv_iload C.1 C.2.1 dL_law_821 (lv_at hl 14 rfl) ?_
        refine lv_iload C.1 C.2.1 dL_law_823 (lv_at hl 13 rfl) ?_
        refine lv_icmp_ne (tgt := 869) C.1 C.2.1 dL_law_825 (by decide) (fun c_3 => ?_) (fun c_3 => ?_)
        · exact absurd rfl c_3
        · refine lv_aload_n C.1 C.2.1 dL_law_828 rfl (lv_at hl 1 rfl) ?_
          refine gCall_i (mc := 0) (ms := 0) (As := []) (rest := []) C hO (c_X2_hours l E a (S_pass S (nI 1)) mk9 rk rv ((q_l, .inl (eI E, (s_sh S), .inl fl)) :: ((q_m, .inl (eI E, (s_sh S), .inl fm)) :: ((q_h, .inl (eI E, (s_sh S), .inl fh)) :: (sW E o d25 (S_pass S (nI 1)) F))))  hI1) (cwV 0 C.2.2.2.2.1 gL_law_X2_hours rfl rfl rfl (by decide +kernel) ⟨(Nat.le_of_ble_eq_true rfl), (Nat.le_of_ble_eq_true rfl)⟩) (va_recv C.2.2.2.2.2.2.2.1.1 hO.1 (ci := 2) (q0 := 0) rfl rfl) rfl hl.1 rfl (Nat.le_of_ble_eq_true rfl) dL_law_829 ⟨(by show nc + 1 + 3 * i24 + 0 ≤ 600172; omega), (by show ns + 6 + 18 * i24 + 0 ≤ 7300668; omega)⟩ (fun H locs hO => ?_)
          refine lv_eqi (y := (s_hr S) + 1) rfl ?_
          refine lv_iload C.1 C.2.1 dL_law_832 (lv_at hl 11 rfl) ?_
          refine lv_iconst (v := 1) C.1 C.2.1 dL_law_834 (by decide) ?_
          refine lv_iadd C.1 C.2.1 dL_law_835 ?_
          refine lv_eqi (y := (s_hr S) + 1) rfl ?_
          refine lv_icmp_ne (tgt := 869) C.1 C.2.1 dL_law_836 (by decide) (fun c_4 => ?_) (fun c_4 => ?_)
          · exact absurd rfl c_4
          · refine lv_aload_n C.1 C.2.1 dL_law_839 rfl (lv_at hl 1 rfl) ?_
            refine gCall_i (mc := 0) (ms := 0) (As := []) (rest := []) C hO (c_X2_phrases l E a (S_pass S (nI 1)) mk9 rk rv ((q_l, .inl (eI E, (s_sh S), .inl fl)) :: ((q_m, .inl (eI E, (s_sh S), .inl fm)) :: ((q_h, .inl (eI E, (s_sh S), .inl fh)) :: (sW E o d25 (S_pass S (nI 1)) F))))  hI1) (cwV 0 C.2.2.2.2.1 gL_law_X2_phrases rfl rfl rfl (by decide +kernel) ⟨(Nat.le_of_ble_eq_true rfl), (Nat.le_of_ble_eq_true rfl)⟩) (va_recv C.2.2.2.2.2.2.2.1.1 hO.1 (ci := 2) (q0 := 0) rfl rfl) rfl hl.1 rfl (Nat.le_of_ble_eq_true rfl) dL_law_840 ⟨(by show nc + 1 + 3 * i24 + 0 + 0 ≤ 600172; omega), (by show ns + 6 + 18 * i24 + 0 + 0 ≤ 7300668; omega)⟩ (fun H locs hO => ?_)
            refine lv_eqi (y := nI (s_n S)) (by rw [hq9.1]) ?_
            refine lv_iload C.1 C.2.1 dL_law_843 (lv_at hl 5 rfl) ?_
            refine lv_icmp_ne (tgt := 869) C.1 C.2.1 dL_law_845 (by decide) (fun c_5 => ?_) (fun c_5 => ?_)
            · exact absurd rfl c_5
            · refine lv_aload_n C.1 C.2.1 dL_law_848 rfl (lv_at hl 1 rfl) ?_
              refine gCall_i (mc := 0) (ms := 0) (As := []) (rest := []) C hO (c_X2_nextOffset l E a (S_pass S (nI 1)) mk9 rk rv ((q_l, .inl (eI E, (s_sh S), .inl fl)) :: ((q_m, .inl (eI E, (s_sh S), .inl fm)) :: ((q_h, .inl (eI E, (s_sh S), .inl fh)) :: (sW E o d25 (S_pass S (nI 1)) F))))  hI1) (cwV 0 C.2.2.2.2.1 gL_law_X2_nextOffset rfl rfl rfl (by decide +kernel) ⟨(Nat.le_of_ble_eq_true rfl), (Nat.le_of_ble_eq_true rfl)⟩) (va_recv C.2.2.2.2.2.2.2.1.1 hO.1 (ci := 2) (q0 := 0) rfl rfl) rfl hl.1 rfl (Nat.le_of_ble_eq_true rfl) dL_law_849 ⟨(by show nc + 1 + 3 * i24 + 0 + 0 + 0 ≤ 600172; omega), (by show ns + 6 + 18 * i24 + 0 + 0 + 0 ≤ 7300668; omega)⟩ (fun H locs hO => ?_)
              refine lv_eqi (y := nI z0) (by rw [hq9.2.2.1, ez0]) ?_
              refine lv_iload C.1 C.2.1 dL_law_852 (lv_at hl 6 rfl) ?_
              refine lv_icmp_ne (tgt := 869) C.1 C.2.1 dL_law_854 (by decide) (fun c_6 => ?_) (fun c_6 => ?_)
              · exact absurd rfl c_6
              · refine lv_aload_n C.1 C.2.1 dL_law_857 rfl (lv_at hl 1 rfl) ?_
                refine gCall_i (mc := 0) (ms := 0) (As := []) (rest := []) C hO (c_X2_dropped l E a (S_pass S (nI 1)) mk9 rk rv ((q_l, .inl (eI E, (s_sh S), .inl fl)) :: ((q_m, .inl (eI E, (s_sh S), .inl fm)) :: ((q_h, .inl (eI E, (s_sh S), .inl fh)) :: (sW E o d25 (S_pass S (nI 1)) F))))  hI1) (cwV 0 C.2.2.2.2.1 gL_law_X2_dropped rfl rfl rfl (by decide +kernel) ⟨(Nat.le_of_ble_eq_true rfl), (Nat.le_of_ble_eq_true rfl)⟩) (va_recv C.2.2.2.2.2.2.2.1.1 hO.1 (ci := 2) (q0 := 0) rfl rfl) rfl hl.1 rfl (Nat.le_of_ble_eq_true rfl) dL_law_858 ⟨(by show nc + 1 + 3 * i24 + 0 + 0 + 0 + 0 ≤ 600172; omega), (by show ns + 6 + 18 * i24 + 0 + 0 + 0 + 0 ≤ 7300668; omega)⟩ (fun H locs hO => ?_)
                refine lv_eqi (y := nI (z0 - s_n S)) (by rw [hq9.2.2.2.1, hnz3]) ?_
                refine lv_iload C.1 C.2.1 dL_law_861 (lv_at hl 6 rfl) ?_
                refine lv_iload C.1 C.2.1 dL_law_863 (lv_at hl 5 rfl) ?_
                refine gSubN (x := z0) (y := (s_n S)) C.1 C.2.1 hnz2 dL_law_865 ?_
                refine lv_eqi (y := nI (z0 - s_n S)) rfl ?_
                refine gEqN (x := (z0 - s_n S)) (y := (z0 - s_n S)) (tgt := 871) C.1 C.2.1 (by omega) (by omega) dL_law_866 (by decide) (fun c_7 => ?_) (fun c_7 => ?_)
                · have hO := gO.drop (gO.drop (gO.drop hO))
                  refine W.widen (k := nc + 19) (n := ns + 114) (by omega) (by omega) ?_
                  exact kk d25 hR25 _ _ hO _ (lv_sub hl [0, 1, 2, 3, 4, 5, 6, 12] rfl)
                · exact absurd rfl c_7
      · have hpt9 := pass_pt (S := S) (i := i24) (by omega)
        have hpn9 := hpc9 i24 (by omega)
        have hdh9 := dh_5 (S := S) (i := i24) hpn9.2.1
        have hll9 := s_lag_le S i24
        refine lv_aload_n C.1 C.2.1 dL_law_740 rfl (lv_at hl 1 rfl) ?_
        refine lv_iload C.1 C.2.1 dL_law_741 (lv_at hl 15 rfl) ?_
        refine gXCall_i (mc := 1) (ms := 6) (As := [.int (nI i24)]) (rest := []) C hO (c_X2_heardBy l E a (S_pass S (nI 1)) mk9 rk rv ((q_l, .inl (eI E, (s_sh S), .inl fl)) :: ((q_m, .inl (eI E, (s_sh S), .inl fm)) :: ((q_h, .inl (eI E, (s_sh S), .inl fh)) :: (sW E o d25 (S_pass S (nI 1)) F)))) (nI i24) hst hI1) (cwV 1 C.2.2.2.2.1 gL_law_X2_heardBy rfl rfl rfl (by decide +kernel) ⟨(Nat.le_of_ble_eq_true rfl), (Nat.le_of_ble_eq_true rfl)⟩) (va_recv C.2.2.2.2.2.2.2.1.1 hO.1 (ci := 2) (q0 := 0) rfl rfl) rfl hl.1 rfl (Nat.le_of_ble_eq_true rfl) dL_law_743 ⟨(by show nc + 1 + 3 * i24 + 1 ≤ 600172; omega), (by show ns + 6 + 18 * i24 + 6 ≤ 7300668; omega)⟩ (fun E0 ce q9 H locs hO hcell hcv hcl hbad => ?_) (fun H locs hO _ => ?_)
        · exact absurd (okShip_nI (by rw [hq9.2.2.2.2.2.2.1]; exact hsh) (by rw [hq9.2.2.2.2.2.2.1]; omega)) hbad.2
        refine lv_eqi (y := s_hd S i24 + nI (s_dh S 1 i24)) (by rw [nI_clamp (by omega)]; exact hpt9.1) ?_
        refine lv_aload C.1 C.2.1 dL_law_746 (lv_at hl 8 rfl) ?_
        refine lv_iload C.1 C.2.1 dL_law_748 (lv_at hl 15 rfl) ?_
        refine gIald (v := s_hd S i24) (j := i24) C hO 25 rfl (by omega) (by first | decide | omega | (show s_sc S ≤ 100; omega)) (hhf i24 (by omega)) dL_law_750 ?_
        refine lv_isub C.1 C.2.1 dL_law_751 ?_
        refine lv_eqi (y := nI (s_dh S 1 i24)) (by rw [Int32.add_comm, Int32.add_sub_cancel]) ?_
        refine lv_istore (lv' := [(20, .int (nI (s_dh S 1 i24))), (0, .ref bs), (1, .ref (a 0)), (2, .ref o), (3, .int (nI t)), (4, .int x), (5, .int (nI (s_n S))), (6, .int (nI z0)), (8, .int (nI (s_sh S))), (12, .ref q_h), (13, .ref q_m), (14, .ref q_l), (15, .int (s_hr S)), (16, .int (s_on S)), (17, .int (nI (sumN (s_dh S 1) (s_sh S)))), (18, .int (nI (sumN (s_dh S 1) i24))), (19, .int (nI i24))]) C.1 C.2.1 dL_law_752 hl (by decide) rfl (fun ls hl => ?_)
        refine lv_iload C.1 C.2.1 dL_law_754 (lv_at hl 15 rfl) ?_
        refine lv_iload C.1 C.2.1 dL_law_756 (lv_at hl 0 rfl) ?_
        refine gAddN (x := (sumN (s_dh S 1) i24)) (y := (s_dh S 1 i24)) C.1 C.2.1 dL_law_758 ?_
        refine lv_eqi (y := nI (sumN (s_dh S 1) (i24 + 1))) rfl ?_
        refine lv_istore (lv' := [(18, .int (nI (sumN (s_dh S 1) (i24 + 1)))), (20, .int (nI (s_dh S 1 i24))), (0, .ref bs), (1, .ref (a 0)), (2, .ref o), (3, .int (nI t)), (4, .int x), (5, .int (nI (s_n S))), (6, .int (nI z0)), (8, .int (nI (s_sh S))), (12, .ref q_h), (13, .ref q_m), (14, .ref q_l), (15, .int (s_hr S)), (16, .int (s_on S)), (17, .int (nI (sumN (s_dh S 1) (s_sh S)))), (19, .int (nI i24))]) C.1 C.2.1 dL_law_759 hl (by decide) rfl (fun ls hl => ?_)
        refine lv_iload C.1 C.2.1 dL_law_761 (lv_at hl 1 rfl) ?_
        refine lv_if_lt (tgt := 813) C.1 C.2.1 dL_law_763 (by decide) (fun c_9 => ?_) (fun c_9 => ?_)
        · exact absurd c_9 (nI_pos (by omega))
        · refine lv_iload C.1 C.2.1 dL_law_766 (lv_at hl 1 rfl) ?_
          refine lv_iconst (v := nI 5) C.1 C.2.1 dL_law_768 (by decide) ?_
          refine gGtN (x := (s_dh S 1 i24)) (y := 5) (tgt := 813) C.1 C.2.1 (by omega) (by omega) dL_law_769 (by decide) (fun c_10 => ?_) (fun c_10 => ?_)
          · exact absurd c_10 (by omega)
          · refine lv_iload C.1 C.2.1 dL_law_772 (lv_at hl 14 rfl) ?_
            refine lv_if_eq (tgt := 782) C.1 C.2.1 dL_law_774 (by decide) (fun c_11 => ?_) (fun c_11 => ?_)
            · have hon9 : s_on S = 0 := c_11
              refine lv_aload_n C.1 C.2.1 dL_law_782 rfl (lv_at hl 3 rfl) ?_
              refine lv_iload C.1 C.2.1 dL_law_783 (lv_at hl 16 rfl) ?_
              refine gXCall_i (mc := 1) (ms := 6) (As := [.int (nI i24)]) (rest := []) C hO (c_X2_lagOf l E a (S_pass S (nI 1)) mk9 rk rv ((q_l, .inl (eI E, (s_sh S), .inl fl)) :: ((q_m, .inl (eI E, (s_sh S), .inl fm)) :: ((q_h, .inl (eI E, (s_sh S), .inl fh)) :: (sW E o d25 (S_pass S (nI 1)) F)))) (nI i24) hst hI1) (cwV 1 C.2.2.2.2.1 gL_law_X2_lagOf rfl rfl rfl (by decide +kernel) ⟨(Nat.le_of_ble_eq_true rfl), (Nat.le_of_ble_eq_true rfl)⟩) (va_recv C.2.2.2.2.2.2.2.1.1 hO.1 (ci := 2) (q0 := 0) rfl rfl) rfl hl.1 rfl (Nat.le_of_ble_eq_true rfl) dL_law_785 ⟨(by show nc + 1 + 3 * i24 + 1 + 1 ≤ 600172; omega), (by show ns + 6 + 18 * i24 + 6 + 6 ≤ 7300668; omega)⟩ (fun E0 ce q9 H locs hO hcell hcv hcl hbad => ?_) (fun H locs hO _ => ?_)
              · exact absurd (okShip_nI (by rw [hq9.2.2.2.2.2.2.1]; exact hsh) (by rw [hq9.2.2.2.2.2.2.1]; omega)) hbad.2
              refine lv_eqi (y := nI (s_lag S i24 - s_dh S 1 i24)) (by rw [nI_clamp (by omega), pass_lag hlg (by omega) (by omega)]) ?_
              refine lv_aload C.1 C.2.1 dL_law_788 (lv_at hl 12 rfl) ?_
              refine lv_iload C.1 C.2.1 dL_law_790 (lv_at hl 16 rfl) ?_
              refine gIald (v := nI (s_lag S i24)) (j := i24) C hO 23 rfl (by omega) (by first | decide | omega | (show s_sc S ≤ 100; omega)) (hlf i24 (by omega)) dL_law_792 ?_
              refine lv_iload C.1 C.2.1 dL_law_793 (lv_at hl 1 rfl) ?_
              refine gSubN (x := (s_lag S i24)) (y := (s_dh S 1 i24)) C.1 C.2.1 hdh9.2 dL_law_795 ?_
              refine lv_eqi (y := nI (s_lag S i24 - s_dh S 1 i24)) rfl ?_
              refine lv_icmp_ne (tgt := 813) C.1 C.2.1 dL_law_796 (by decide) (fun c_13 => ?_) (fun c_13 => ?_)
              · exact absurd rfl c_13
              · refine lv_aload_n C.1 C.2.1 dL_law_799 rfl (lv_at hl 3 rfl) ?_
                refine lv_iload C.1 C.2.1 dL_law_800 (lv_at hl 16 rfl) ?_
                refine gXCall_i (mc := 1) (ms := 6) (As := [.int (nI i24)]) (rest := []) C hO (c_X2_missedBy l E a (S_pass S (nI 1)) mk9 rk rv ((q_l, .inl (eI E, (s_sh S), .inl fl)) :: ((q_m, .inl (eI E, (s_sh S), .inl fm)) :: ((q_h, .inl (eI E, (s_sh S), .inl fh)) :: (sW E o d25 (S_pass S (nI 1)) F)))) (nI i24) hst hI1) (cwV 1 C.2.2.2.2.1 gL_law_X2_missedBy rfl rfl rfl (by decide +kernel) ⟨(Nat.le_of_ble_eq_true rfl), (Nat.le_of_ble_eq_true rfl)⟩) (va_recv C.2.2.2.2.2.2.2.1.1 hO.1 (ci := 2) (q0 := 0) rfl rfl) rfl hl.1 rfl (Nat.le_of_ble_eq_true rfl) dL_law_802 ⟨(by show nc + 1 + 3 * i24 + 1 + 1 + 1 ≤ 600172; omega), (by show ns + 6 + 18 * i24 + 6 + 6 + 6 ≤ 7300668; omega)⟩ (fun E0 ce q9 H locs hO hcell hcv hcl hbad => ?_) (fun H locs hO _ => ?_)
                · exact absurd (okShip_nI (by rw [hq9.2.2.2.2.2.2.1]; exact hsh) (by rw [hq9.2.2.2.2.2.2.1]; omega)) hbad.2
                refine lv_eqi (y := s_ms S i24) (by rw [nI_clamp (by omega)]; exact hpt9.2.1) ?_
                refine lv_aload C.1 C.2.1 dL_law_805 (lv_at hl 11 rfl) ?_
                refine lv_iload C.1 C.2.1 dL_law_807 (lv_at hl 16 rfl) ?_
                refine gIald (v := s_ms S i24) (j := i24) C hO 24 rfl (by omega) (by first | decide | omega | (show s_sc S ≤ 100; omega)) (hmf i24 (by omega)) dL_law_809 ?_
                refine lv_icmp_eq (tgt := 815) C.1 C.2.1 dL_law_810 (by decide) (fun c_15 => ?_) (fun c_15 => ?_)
                · have hl : lv_has ls 21 [(18, .int (nI (sumN (s_dh S 1) (i24 + 1)))), (0, .ref bs), (1, .ref (a 0)), (2, .ref o), (3, .int (nI t)), (4, .int x), (5, .int (nI (s_n S))), (6, .int (nI z0)), (8, .int (nI (s_sh S))), (12, .ref q_h), (13, .ref q_m), (14, .ref q_l), (15, .int (s_hr S)), (16, .int (s_on S)), (17, .int (nI (sumN (s_dh S 1) (s_sh S)))), (19, .int (nI i24))] := lv_sub hl [0, 2, 3, 4, 5, 6, 7, 8, 9, 10, 11, 12, 13, 14, 15, 16] rfl
                  refine gInc (j := i24) (k := 15) (lv' := [(19, .int (nI (i24 + 1))), (18, .int (nI (sumN (s_dh S 1) (i24 + 1)))), (0, .ref bs), (1, .ref (a 0)), (2, .ref o), (3, .int (nI t)), (4, .int x), (5, .int (nI (s_n S))), (6, .int (nI z0)), (8, .int (nI (s_sh S))), (12, .ref q_h), (13, .ref q_m), (14, .ref q_l), (15, .int (s_hr S)), (16, .int (s_on S)), (17, .int (nI (sumN (s_dh S 1) (s_sh S))))]) C.1 C.2.1 dL_law_815 hl rfl (by decide) rfl (fun ls hl => ?_)
                  refine lv_goto (tgt := 733) C.1 C.2.1 dL_law_818 (by decide) ?_
                  refine W.widen (k := nc + 1 + 3 * (i24 + 1)) (n := ns + 6 + 18 * (i24 + 1)) (by omega) (by omega) ?_
                  exact ih_lp733 (i24 + 1) (by omega) (by omega) _ _ hO _ (lv_sub hl [2, 3, 4, 5, 6, 7, 8, 9, 10, 11, 12, 13, 14, 15, 1, 0] rfl)
                · exact absurd rfl c_15
            · have hon9 : ¬ s_on S = 0 := c_11
              refine lv_iload C.1 C.2.1 dL_law_777 (lv_at hl 1 rfl) ?_
              refine lv_if_gt (tgt := 813) C.1 C.2.1 dL_law_779 (by decide) (fun c_16 => ?_) (fun c_16 => ?_)
              · exact absurd c_16 (by rw [s_dh_on 1 i24 hon9]; decide)
              · refine lv_aload_n C.1 C.2.1 dL_law_782 rfl (lv_at hl 3 rfl) ?_
                refine lv_iload C.1 C.2.1 dL_law_783 (lv_at hl 16 rfl) ?_
                refine gXCall_i (mc := 1) (ms := 6) (As := [.int (nI i24)]) (rest := []) C hO (c_X2_lagOf l E a (S_pass S (nI 1)) mk9 rk rv ((q_l, .inl (eI E, (s_sh S), .inl fl)) :: ((q_m, .inl (eI E, (s_sh S), .inl fm)) :: ((q_h, .inl (eI E, (s_sh S), .inl fh)) :: (sW E o d25 (S_pass S (nI 1)) F)))) (nI i24) hst hI1) (cwV 1 C.2.2.2.2.1 gL_law_X2_lagOf rfl rfl rfl (by decide +kernel) ⟨(Nat.le_of_ble_eq_true rfl), (Nat.le_of_ble_eq_true rfl)⟩) (va_recv C.2.2.2.2.2.2.2.1.1 hO.1 (ci := 2) (q0 := 0) rfl rfl) rfl hl.1 rfl (Nat.le_of_ble_eq_true rfl) dL_law_785 ⟨(by show nc + 1 + 3 * i24 + 1 + 1 ≤ 600172; omega), (by show ns + 6 + 18 * i24 + 6 + 6 ≤ 7300668; omega)⟩ (fun E0 ce q9 H locs hO hcell hcv hcl hbad => ?_) (fun H locs hO _ => ?_)
                · exact absurd (okShip_nI (by rw [hq9.2.2.2.2.2.2.1]; exact hsh) (by rw [hq9.2.2.2.2.2.2.1]; omega)) hbad.2
                refine lv_eqi (y := nI (s_lag S i24 - s_dh S 1 i24)) (by rw [nI_clamp (by omega), pass_lag hlg (by omega) (by omega)]) ?_
                refine lv_aload C.1 C.2.1 dL_law_788 (lv_at hl 12 rfl) ?_
                refine lv_iload C.1 C.2.1 dL_law_790 (lv_at hl 16 rfl) ?_
                refine gIald (v := nI (s_lag S i24)) (j := i24) C hO 23 rfl (by omega) (by first | decide | omega | (show s_sc S ≤ 100; omega)) (hlf i24 (by omega)) dL_law_792 ?_
                refine lv_iload C.1 C.2.1 dL_law_793 (lv_at hl 1 rfl) ?_
                refine gSubN (x := (s_lag S i24)) (y := (s_dh S 1 i24)) C.1 C.2.1 hdh9.2 dL_law_795 ?_
                refine lv_eqi (y := nI (s_lag S i24 - s_dh S 1 i24)) rfl ?_
                refine lv_icmp_ne (tgt := 813) C.1 C.2.1 dL_law_796 (by decide) (fun c_18 => ?_) (fun c_18 => ?_)
                · exact absurd rfl c_18
                · refine lv_aload_n C.1 C.2.1 dL_law_799 rfl (lv_at hl 3 rfl) ?_
                  refine lv_iload C.1 C.2.1 dL_law_800 (lv_at hl 16 rfl) ?_
                  refine gXCall_i (mc := 1) (ms := 6) (As := [.int (nI i24)]) (rest := []) C hO (c_X2_missedBy l E a (S_pass S (nI 1)) mk9 rk rv ((q_l, .inl (eI E, (s_sh S), .inl fl)) :: ((q_m, .inl (eI E, (s_sh S), .inl fm)) :: ((q_h, .inl (eI E, (s_sh S), .inl fh)) :: (sW E o d25 (S_pass S (nI 1)) F)))) (nI i24) hst hI1) (cwV 1 C.2.2.2.2.1 gL_law_X2_missedBy rfl rfl rfl (by decide +kernel) ⟨(Nat.le_of_ble_eq_true rfl), (Nat.le_of_ble_eq_true rfl)⟩) (va_recv C.2.2.2.2.2.2.2.1.1 hO.1 (ci := 2) (q0 := 0) rfl rfl) rfl hl.1 rfl (Nat.le_of_ble_eq_true rfl) dL_law_802 ⟨(by show nc + 1 + 3 * i24 + 1 + 1 + 1 ≤ 600172; omega), (by show ns + 6 + 18 * i24 + 6 + 6 + 6 ≤ 7300668; omega)⟩ (fun E0 ce q9 H locs hO hcell hcv hcl hbad => ?_) (fun H locs hO _ => ?_)
                  · exact absurd (okShip_nI (by rw [hq9.2.2.2.2.2.2.1]; exact hsh) (by rw [hq9.2.2.2.2.2.2.1]; omega)) hbad.2
                  refine lv_eqi (y := s_ms S i24) (by rw [nI_clamp (by omega)]; exact hpt9.2.1) ?_
                  refine lv_aload C.1 C.2.1 dL_law_805 (lv_at hl 11 rfl) ?_
                  refine lv_iload C.1 C.2.1 dL_law_807 (lv_at hl 16 rfl) ?_
                  refine gIald (v := s_ms S i24) (j := i24) C hO 24 rfl (by omega) (by first | decide | omega | (show s_sc S ≤ 100; omega)) (hmf i24 (by omega)) dL_law_809 ?_
                  refine lv_icmp_eq (tgt := 815) C.1 C.2.1 dL_law_810 (by decide) (fun c_20 => ?_) (fun c_20 => ?_)
                  · have hl : lv_has ls 21 [(18, .int (nI (sumN (s_dh S 1) (i24 + 1)))), (0, .ref bs), (1, .ref (a 0)), (2, .ref o), (3, .int (nI t)), (4, .int x), (5, .int (nI (s_n S))), (6, .int (nI z0)), (8, .int (nI (s_sh S))), (12, .ref q_h), (13, .ref q_m), (14, .ref q_l), (15, .int (s_hr S)), (16, .int (s_on S)), (17, .int (nI (sumN (s_dh S 1) (s_sh S)))), (19, .int (nI i24))] := lv_sub hl [0, 2, 3, 4, 5, 6, 7, 8, 9, 10, 11, 12, 13, 14, 15, 16] rfl
                    refine gInc (j := i24) (k := 15) (lv' := [(19, .int (nI (i24 + 1))), (18, .int (nI (sumN (s_dh S 1) (i24 + 1)))), (0, .ref bs), (1, .ref (a 0)), (2, .ref o), (3, .int (nI t)), (4, .int x), (5, .int (nI (s_n S))), (6, .int (nI z0)), (8, .int (nI (s_sh S))), (12, .ref q_h), (13, .ref q_m), (14, .ref q_l), (15, .int (s_hr S)), (16, .int (s_on S)), (17, .int (nI (sumN (s_dh S 1) (s_sh S))))]) C.1 C.2.1 dL_law_815 hl rfl (by decide) rfl (fun ls hl => ?_)
                    refine lv_goto (tgt := 733) C.1 C.2.1 dL_law_818 (by decide) ?_
                    refine W.widen (k := nc + 1 + 3 * (i24 + 1)) (n := ns + 6 + 18 * (i24 + 1)) (by omega) (by omega) ?_
                    exact ih_lp733 (i24 + 1) (by omega) (by omega) _ _ hO _ (lv_sub hl [2, 3, 4, 5, 6, 7, 8, 9, 10, 11, 12, 13, 14, 15, 1, 0] rfl)
                  · exact absurd rfl c_20
  refine W.widen (k := nc + 1 + 3 * 0) (n := ns + 6 + 18 * 0) (by omega) (by omega) ?_
  exact lp733 (s_sh S + 1) 0 (by omega) (Nat.zero_le _) _ _ hO _ (lv_sub hl [5, 6, 7, 8, 9, 10, 11, 12, 13, 14, 15, 4, 3, 2, 1, 0] rfl)
end LC
