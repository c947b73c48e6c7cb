section LC
variable {p : Program} {l : Launch} {e : Env} {s : State} {m : MethodId} {args : Array Value} {below : List Frame} {meth : Method} {c : Code} {H : Heap} {locs : List Loc} {Q : State → Prop} {E : gE} {A : Nat → Prop} {ret9 : Option FieldType}
variable {a : Nat → Nat} {o : Nat} {d : Dt} {S : St} {mk rk rv : Nat → Int32} {F : va_W} {B : Int} {bs L t z0 nc ns : Nat} {xs : Nat → Int32} {x : Int32} {ls : Array Slot}
set_option maxHeartbeats 4000000 in
set_option maxRecDepth 100000 in
theorem law_E (hst : l.stackTraces = false) (hJ : J9 S B) (hB : B + 100 < 2147480000) (hR : Rep E d S) (ez0 : s_nx S = nI z0) (hz0 : z0 < 2147480000) (hnc : nc ≤ 100000) (hns : ns ≤ 2000000) (C : gCx p s m args meth c cL_law 21 wsL_law RL ret9 E A)  (hO : gO E A s ((xW E a S mk rk rv) ++ (sW E o d S F)) H locs) (hl : lv_has ls 21 [(0, .ref bs), (1, .ref (a 0)), (2, .ref o), (3, .int (nI t)), (4, .int x), (5, .int (nI (s_n S))), (6, .int (nI z0)), (8, .int (nI (s_sh S)))]) (kk : ∀ (q_h : Nat) (q_m : Nat) (q_l : Nat) (fh : Nat → Int32) (fm : Nat → Int32) (fl : Nat → Int32) (mk9 : Nat → Int32), (∀ i, i < s_sh S → fh i = s_hd S i) → (∀ i, i < s_sh S → fm i = s_ms S i) → (∀ i, i < s_sh S → fl i = nI (s_lag S i)) → ∀ (H : Heap) (locs : List Loc), gO E A s ((xW E a S mk9 rk rv) ++ ((q_l, .inl (eI E, (s_sh S), .inl fl)) :: ((q_m, .inl (eI E, (s_sh S), .inl fm)) :: ((q_h, .inl (eI E, (s_sh S), .inl fh)) :: (sW E o d S F))))) H locs → ∀ ls : Array Slot, lv_has ls 21 [(0, .ref bs), (1, .ref (a 0)), (2, .ref o), (3, .int (nI t)), (4, .int x), (5, .int (nI (s_n S))), (6, .int (nI z0)), (8, .int (nI (s_sh S))), (12, .ref q_h), (13, .ref q_m), (14, .ref q_l)] → W p l e room_1 s m args below meth c H locs (nc + 69) (ns + 414) Q (F0 m 702 ls [])) : W p l e room_1 s m args below meth c H locs nc ns Q (F0 m 464 ls []) := by
  have hI : s_inv S := hJ.1.inv
  obtain ⟨hn, hsh, hsc, hOn, hOb, hok9, hpc9, hp0⟩ := id hI
  have hsr : s_srt S := hJ.1.1.srt
  have hlg := hJ.1.1
  have hxI := hJ.2
  obtain ⟨hnz1, hnz2, hnz3⟩ := nx_sum hxI hn ez0 hz0
  refine lv_iconst (v := 0) C.1 C.2.1 dL_law_464 (by decide) ?_
  refine lv_istore (lv' := [(11, .int 0), (0, .ref bs), (1, .ref (a 0)), (2, .ref o), (3, .int (nI t)), (4, .int x), (5, .int (nI (s_n S))), (6, .int (nI z0)), (8, .int (nI (s_sh S)))]) C.1 C.2.1 dL_law_465 hl (by decide) rfl (fun ls hl => ?_)
  refine lv_iload C.1 C.2.1 dL_law_467 (lv_at hl 8 rfl) ?_
  have hO : gO E A s ((xW E a S mk rk rv) ++ (sW E o d S F)) _ _ := hO
  refine gNewI (N9 := (s_sh S)) C (C.2.2.2.2.1 (.arrayClass .int) (by decide +kernel)) hO (by first | decide | omega) (by show _ ≤ 600172; omega) (by show _ ≤ 7300668; omega) dL_law_469 (fun q_h H hO => ?_)
  have hO : gO E A s ((xW E a S mk rk rv) ++ ((q_h, .inl (eI E, s_sh S, .inl (fun _ => 0))) :: (sW E o d S F))) _ _ := hO
  refine lv_astore (lv' := [(12, .ref q_h), (11, .int 0), (0, .ref bs), (1, .ref (a 0)), (2, .ref o), (3, .int (nI t)), (4, .int x), (5, .int (nI (s_n S))), (6, .int (nI z0)), (8, .int (nI (s_sh S)))]) C.1 C.2.1 dL_law_471 hl (by decide) rfl (fun ls hl => ?_)
  refine lv_iload C.1 C.2.1 dL_law_473 (lv_at hl 9 rfl) ?_
  have hO : gO E A s ((xW E a S mk rk rv) ++ ((q_h, .inl (eI E, s_sh S, .inl (fun _ => 0))) :: (sW E o d S F))) _ _ := hO
  refine gNewI (N9 := (s_sh S)) C (C.2.2.2.2.1 (.arrayClass .int) (by decide +kernel)) hO (by first | decide | omega) (by show _ ≤ 600172; omega) (by show _ ≤ 7300668; omega) dL_law_475 (fun q_m H hO => ?_)
  have hO : gO E A s ((xW E a S mk rk rv) ++ ((q_m, .inl (eI E, s_sh S, .inl (fun _ => 0))) :: ((q_h, .inl (eI E, s_sh S, .inl (fun _ => 0))) :: (sW E o d S F)))) _ _ := hO
  refine lv_astore (lv' := [(13, .ref q_m), (12, .ref q_h), (11, .int 0), (0, .ref bs), (1, .ref (a 0)), (2, .ref o), (3, .int (nI t)), (4, .int x), (5, .int (nI (s_n S))), (6, .int (nI z0)), (8, .int (nI (s_sh S)))]) C.1 C.2.1 dL_law_477 hl (by decide) rfl (fun ls hl => ?_)
  refine lv_iload C.1 C.2.1 dL_law_479 (lv_at hl 10 rfl) ?_
  have hO : gO E A s ((xW E a S mk rk rv) ++ ((q_m, .inl (eI E, s_sh S, .inl (fun _ => 0))) :: ((q_h, .inl (eI E, s_sh S, .inl (fun _ => 0))) :: (sW E o d S F)))) _ _ := hO
  refine gNewI (N9 := (s_sh S)) C (C.2.2.2.2.1 (.arrayClass .int) (by decide +kernel)) hO (by first | decide | omega) (by show _ ≤ 600172; omega) (by show _ ≤ 7300668; omega) dL_law_481 (fun q_l H hO => ?_)
  have hO : gO E A s ((xW E a S mk rk rv) ++ ((q_l, .inl (eI E, s_sh S, .inl (fun _ => 0))) :: ((q_m, .inl (eI E, s_sh S, .inl (fun _ => 0))) :: ((q_h, .inl (eI E, s_sh S, .inl (fun _ => 0))) :: (sW E o d S F))))) _ _ := hO
  refine lv_astore (lv' := [(14, .ref q_l), (13, .ref q_m), (12, .ref q_h), (11, .int 0), (0, .ref bs), (1, .ref (a 0)), (2, .ref o), (3, .int (nI t)), (4, .int x), (5, .int (nI (s_n S))), (6, .int (nI z0)), (8, .int (nI (s_sh S)))]) C.1 C.2.1 dL_law_483 hl (by decide) rfl (fun ls hl => ?_)
  refine lv_iconst (v := 0) C.1 C.2.1 dL_law_485 (by decide) ?_
  refine lv_istore (lv' := [(15, .int 0), (14, .ref q_l), (13, .ref q_m), (12, .ref q_h), (11, .int 0), (0, .ref bs), (1, .ref (a 0)), (2, .ref o), (3, .int (nI t)), (4, .int x), (5, .int (nI (s_n S))), (6, .int (nI z0)), (8, .int (nI (s_sh S)))]) C.1 C.2.1 dL_law_486 hl (by decide) rfl (fun ls hl => ?_)
  have lp488 : ∀ (f : Nat) (i24 : Nat) (fh : Nat → Int32) (fm : Nat → Int32) (fl : Nat → Int32) (mk24 : Nat → Int32), (s_sh S + 1 ≤ i24 + f) → (i24 ≤ s_sh S) → (∀ i, i < i24 → fh i = s_hd S i) → (∀ i, i < i24 → fm i = s_ms S i) → (∀ i, i < i24 → fl i = nI (s_lag S i)) → ∀ (H : Heap) (locs : List Loc), gO E A s ((xW E a S mk24 rk rv) ++ ((q_l, .inl (eI E, (s_sh S), .inl fl)) :: ((q_m, .inl (eI E, (s_sh S), .inl fm)) :: ((q_h, .inl (eI E, (s_sh S), .inl fh)) :: (sW E o d S F))))) H locs → ∀ ls : Array Slot, lv_has ls 21 [(0, .ref bs), (1, .ref (a 0)), (2, .ref o), (3, .int (nI t)), (4, .int x), (5, .int (nI (s_n S))), (6, .int (nI z0)), (8, .int (nI (s_sh S))), (11, .int (nI (s_sl S i24))), (12, .ref q_h), (13, .ref q_m), (14, .ref q_l), (15, .int (nI i24))] → W p l e room_1 s m args below meth c H locs (nc + 3 + 11 * i24) (ns + 18 + 66 * i24) Q (F0 m 488 ls []) := by
    intro f
    induction f with
    | zero =>
      intro i24 fh fm fl mk24 hf hi24 hhf hmf hlf
      exact absurd hf (by omega)
    | succ f ih_lp488 =>
      intro i24 fh fm fl mk24 hf hi24 hhf hmf hlf H locs hO ls hl
      refine lv_iload C.1 C.2.1 dL_law_488 (lv_at hl 12 rfl) ?_
      refine lv_iload C.1 C.2.1 dL_law_490 (lv_at hl 7 rfl) ?_
      refine gGeN (x := i24) (y := (s_sh S)) (tgt := 676) C.1 C.2.1 (by omega) (by omega) dL_law_492 (by decide) (fun c_1 => ?_) (fun c_1 => ?_)
      · have hie9 : i24 = s_sh S := by omega
        have hsl9 := s_sl_le hn i24
        refine lv_aload_n C.1 C.2.1 dL_law_676 rfl (lv_at hl 1 rfl) ?_
        refine gCall_d (mc := 0) (ms := 0) (As := []) (rest := []) C hO (c_X2_meanLag l E a S mk24 rk rv ((q_l, .inl (eI E, (s_sh S), .inl fl)) :: ((q_m, .inl (eI E, (s_sh S), .inl fm)) :: ((q_h, .inl (eI E, (s_sh S), .inl fh)) :: (sW E o d S F))))  hI) (cwV 0 C.2.2.2.2.1 gL_law_X2_meanLag rfl rfl rfl (by decide +kernel) ⟨(Nat.le_of_ble_eq_true rfl), (Nat.le_of_ble_eq_true rfl)⟩) (va_recv C.2.2.2.2.2.2.2.1.1 hO.1 (ci := 2) (q0 := 0) rfl rfl) rfl hl.1 rfl (Nat.le_of_ble_eq_true rfl) dL_law_677 ⟨(by show nc + 3 + 11 * i24 + 0 ≤ 600172; omega), (by show ns + 18 + 66 * i24 + 0 ≤ 7300668; omega)⟩ (fun H locs hO => ?_)
        refine lv_iload C.1 C.2.1 dL_law_680 (lv_at hl 7 rfl) ?_
        refine lv_if_ne (tgt := 689) C.1 C.2.1 dL_law_682 (by decide) (fun c_2 => ?_) (fun c_2 => ?_)
        · have hz9 : ¬ s_sh S = 0 := fun g => c_2 (by rw [g]; rfl)
          refine lv_iload C.1 C.2.1 dL_law_689 (lv_at hl 8 rfl) ?_
          refine lv_i2d C.1 C.2.1 dL_law_691 ?_
          refine lv_iload C.1 C.2.1 dL_law_692 (lv_at hl 7 rfl) ?_
          refine lv_i2d C.1 C.2.1 dL_law_694 ?_
          refine lv_ddiv C.1 C.2.1 dL_law_695 (ml_nan _ _ (by omega) (by omega) (by omega)) ?_
          refine lv_dcmp C.1 C.2.1 dL_law_696 ?_
          refine lv_eqi (y := 0) (by rw [show i24 = s_sh S by omega]; exact ml_c1 hz9 hn hsh) ?_
          refine lv_if_eq (tgt := 702) C.1 C.2.1 dL_law_697 (by decide) (fun c_3 => ?_) (fun c_3 => ?_)
          · refine W.widen (k := nc + 69) (n := ns + 414) (by omega) (by omega) ?_
            exact kk q_h q_m q_l fh fm fl mk24 (fun i hi => hhf i (by omega)) (fun i hi => hmf i (by omega)) (fun i hi => hlf i (by omega)) _ _ hO _ (lv_sub hl [0, 1, 2, 3, 4, 5, 6, 7, 9, 10, 11] rfl)
          · exact absurd rfl c_3
        · have hz9 : s_sh S = 0 := nI_z (by omega) c_2
          refine lv_dconst0 C.1 C.2.1 dL_law_685 ?_
          refine lv_goto (tgt := 696) C.1 C.2.1 dL_law_686 (by decide) ?_
          refine lv_dcmp C.1 C.2.1 dL_law_696 ?_
          refine lv_eqi (y := 0) (ml_c0 hz9) ?_
          refine lv_if_eq (tgt := 702) C.1 C.2.1 dL_law_697 (by decide) (fun c_4 => ?_) (fun c_4 => ?_)
          · refine W.widen (k := nc + 69) (n := ns + 414) (by omega) (by omega) ?_
            exact kk q_h q_m q_l fh fm fl mk24 (fun i hi => hhf i (by omega)) (fun i hi => hmf i (by omega)) (fun i hi => hlf i (by omega)) _ _ hO _ (lv_sub hl [0, 1, 2, 3, 4, 5, 6, 7, 9, 10, 11] rfl)
          · exact absurd rfl c_4
      · have hat9 := hxI.2.1 i24 (by omega)
        have hll9 := s_lag_le S i24
        have hsl9 := s_sl_le hn i24
        have hea9 := s_er_le S i24 (pf (s_off S) (s_at S i24) (s_n S)) (s_to S i24 0) 10
        have hea8 : s_ea S i24 0 ≤ 10 := hea9
        obtain ⟨b9, hb9, hbl9⟩ := fb_ex (S := S) (k := s_sh S) (by omega)
        have hbm9 := fb_max (s_sh S) b9 hb9 i24 (by omega)
        have hlb9 := s_lag_le S b9
        have hwm9 := wm_le S i24
        have hwc9 := wc_le S
        refine lv_aload C.1 C.2.1 dL_law_495 (lv_at hl 9 rfl) ?_
        refine lv_iload C.1 C.2.1 dL_law_497 (lv_at hl 12 rfl) ?_
        refine lv_aload_n C.1 C.2.1 dL_law_499 rfl (lv_at hl 1 rfl) ?_
        refine lv_iload C.1 C.2.1 dL_law_500 (lv_at hl 12 rfl) ?_
        refine gXCall_i (mc := 1) (ms := 6) (As := [.int (nI i24)]) (rest := [.int (nI i24), .ref q_h]) C hO (c_X2_heardBy l E a S mk24 rk rv ((q_l, .inl (eI E, (s_sh S), .inl fl)) :: ((q_m, .inl (eI E, (s_sh S), .inl fm)) :: ((q_h, .inl (eI E, (s_sh S), .inl fh)) :: (sW E o d S F)))) (nI i24) hst hI) (cwV 1 C.2.2.2.2.1 gL_law_X2_heardBy rfl rfl rfl (by decide +kernel) ⟨(Nat.le_of_ble_eq_true rfl), (Nat.le_of_ble_eq_true rfl)⟩) (va_recv C.2.2.2.2.2.2.2.1.1 hO.1 (ci := 2) (q0 := 0) rfl rfl) rfl hl.1 rfl (Nat.le_of_ble_eq_true rfl) dL_law_502 ⟨(by show nc + 3 + 11 * i24 + 1 ≤ 600172; omega), (by show ns + 18 + 66 * i24 + 6 ≤ 7300668; omega)⟩ (fun E0 ce q9 H locs hO hcell hcv hcl hbad => ?_) (fun H locs hO _ => ?_)
        · exact absurd (okShip_nI hsh (by omega)) hbad.2
        refine lv_eqi (y := s_hd S i24) (by rw [nI_clamp (by omega)]) ?_
        refine gIast (j := i24) (ws' := ((xW E a S mk24 rk rv) ++ ((q_l, .inl (eI E, (s_sh S), .inl fl)) :: ((q_m, .inl (eI E, (s_sh S), .inl fm)) :: ((q_h, .inl (eI E, (s_sh S), .inl (upd fh i24 (s_hd S i24)))) :: (sW E o d S F)))))) C hO 25 rfl (by omega) (by first | decide | omega) rfl dL_law_505 (fun H locs hO => ?_)
        refine lv_aload C.1 C.2.1 dL_law_506 (lv_at hl 10 rfl) ?_
        refine lv_iload C.1 C.2.1 dL_law_508 (lv_at hl 12 rfl) ?_
        refine lv_aload_n C.1 C.2.1 dL_law_510 rfl (lv_at hl 1 rfl) ?_
        refine lv_iload C.1 C.2.1 dL_law_511 (lv_at hl 12 rfl) ?_
        refine gXCall_i (mc := 1) (ms := 6) (As := [.int (nI i24)]) (rest := [.int (nI i24), .ref q_m]) C hO (c_X2_missedBy l E a S mk24 rk rv ((q_l, .inl (eI E, (s_sh S), .inl fl)) :: ((q_m, .inl (eI E, (s_sh S), .inl fm)) :: ((q_h, .inl (eI E, (s_sh S), .inl (upd fh i24 (s_hd S i24)))) :: (sW E o d S F)))) (nI i24) hst hI) (cwV 1 C.2.2.2.2.1 gL_law_X2_missedBy rfl rfl rfl (by decide +kernel) ⟨(Nat.le_of_ble_eq_true rfl), (Nat.le_of_ble_eq_true rfl)⟩) (va_recv C.2.2.2.2.2.2.2.1.1 hO.1 (ci := 2) (q0 := 0) rfl rfl) rfl hl.1 rfl (Nat.le_of_ble_eq_true rfl) dL_law_513 ⟨(by show nc + 3 + 11 * i24 + 1 + 1 ≤ 600172; omega), (by show ns + 18 + 66 * i24 + 6 + 6 ≤ 7300668; omega)⟩ (fun E0 ce q9 H locs hO hcell hcv hcl hbad => ?_) (fun H locs hO _ => ?_)
        · exact absurd (okShip_nI hsh (by omega)) hbad.2
        refine lv_eqi (y := s_ms S i24) (by rw [nI_clamp (by omega)]) ?_
        refine gIast (j := i24) (ws' := ((xW E a S mk24 rk rv) ++ ((q_l, .inl (eI E, (s_sh S), .inl fl)) :: ((q_m, .inl (eI E, (s_sh S), .inl (upd fm i24 (s_ms S i24)))) :: ((q_h, .inl (eI E, (s_sh S), .inl (upd fh i24 (s_hd S i24)))) :: (sW E o d S F)))))) C hO 24 rfl (by omega) (by first | decide | omega) rfl dL_law_516 (fun H locs hO => ?_)
        refine lv_aload C.1 C.2.1 dL_law_517 (lv_at hl 11 rfl) ?_
        refine lv_iload C.1 C.2.1 dL_law_519 (lv_at hl 12 rfl) ?_
        refine lv_aload_n C.1 C.2.1 dL_law_521 rfl (lv_at hl 1 rfl) ?_
        refine lv_iload C.1 C.2.1 dL_law_522 (lv_at hl 12 rfl) ?_
        refine gXCall_i (mc := 1) (ms := 6) (As := [.int (nI i24)]) (rest := [.int (nI i24), .ref q_l]) C hO (c_X2_lagOf l E a S mk24 rk rv ((q_l, .inl (eI E, (s_sh S), .inl fl)) :: ((q_m, .inl (eI E, (s_sh S), .inl (upd fm i24 (s_ms S i24)))) :: ((q_h, .inl (eI E, (s_sh S), .inl (upd fh i24 (s_hd S i24)))) :: (sW E o d S F)))) (nI i24) hst hI) (cwV 1 C.2.2.2.2.1 gL_law_X2_lagOf rfl rfl rfl (by decide +kernel) ⟨(Nat.le_of_ble_eq_true rfl), (Nat.le_of_ble_eq_true rfl)⟩) (va_recv C.2.2.2.2.2.2.2.1.1 hO.1 (ci := 2) (q0 := 0) rfl rfl) rfl hl.1 rfl (Nat.le_of_ble_eq_true rfl) dL_law_524 ⟨(by show nc + 3 + 11 * i24 + 1 + 1 + 1 ≤ 600172; omega), (by show ns + 18 + 66 * i24 + 6 + 6 + 6 ≤ 7300668; omega)⟩ (fun E0 ce q9 H locs hO hcell hcv hcl hbad => ?_) (fun H locs hO _ => ?_)
        · exact absurd (okShip_nI hsh (by omega)) hbad.2
        refine lv_eqi (y := nI (s_lag S i24)) (by rw [nI_clamp (by omega)]) ?_
        refine gIast (j := i24) (ws' := ((xW E a S mk24 rk rv) ++ ((q_l, .inl (eI E, (s_sh S), .inl (upd fl i24 (nI (s_lag S i24))))) :: ((q_m, .inl (eI E, (s_sh S), .inl (upd fm i24 (s_ms S i24)))) :: ((q_h, .inl (eI E, (s_sh S), .inl (upd fh i24 (s_hd S i24)))) :: (sW E o d S F)))))) C hO 23 rfl (by omega) (by first | decide | omega) rfl dL_law_527 (fun H locs hO => ?_)
        refine lv_iload C.1 C.2.1 dL_law_528 (lv_at hl 8 rfl) ?_
        refine lv_aload C.1 C.2.1 dL_law_530 (lv_at hl 11 rfl) ?_
        refine lv_iload C.1 C.2.1 dL_law_532 (lv_at hl 12 rfl) ?_
        refine gIald (v := nI (s_lag S i24)) (j := i24) C hO 23 rfl (by omega) (by first | decide | omega | (show s_sc S ≤ 100; omega)) (upd_at _ _ _) dL_law_534 ?_
        refine gAddN (x := (s_sl S i24)) (y := (s_lag S i24)) C.1 C.2.1 dL_law_535 ?_
        refine lv_eqi (y := nI (s_sl S (i24 + 1))) rfl ?_
        refine lv_istore (lv' := [(11, .int (nI (s_sl S (i24 + 1)))), (0, .ref bs), (1, .ref (a 0)), (2, .ref o), (3, .int (nI t)), (4, .int x), (5, .int (nI (s_n S))), (6, .int (nI z0)), (8, .int (nI (s_sh S))), (12, .ref q_h), (13, .ref q_m), (14, .ref q_l), (15, .int (nI i24))]) C.1 C.2.1 dL_law_536 hl (by decide) rfl (fun ls hl => ?_)
        refine lv_aload_n C.1 C.2.1 dL_law_538 rfl (lv_at hl 2 rfl) ?_
        refine lv_iload C.1 C.2.1 dL_law_539 (lv_at hl 12 rfl) ?_
        refine gXCall_i (mc := 1) (ms := 6) (As := [.int (nI i24)]) (rest := []) C hO (c_X2_offsetOf l E a S mk24 rk rv ((q_l, .inl (eI E, (s_sh S), .inl (upd fl i24 (nI (s_lag S i24))))) :: ((q_m, .inl (eI E, (s_sh S), .inl (upd fm i24 (s_ms S i24)))) :: ((q_h, .inl (eI E, (s_sh S), .inl (upd fh i24 (s_hd S i24)))) :: (sW E o d S F)))) (nI i24) hst hI) (cwV 1 C.2.2.2.2.1 gL_law_X2_offsetOf rfl rfl rfl (by decide +kernel) ⟨(Nat.le_of_ble_eq_true rfl), (Nat.le_of_ble_eq_true rfl)⟩) (va_recv C.2.2.2.2.2.2.2.1.1 hO.1 (ci := 2) (q0 := 0) rfl rfl) rfl hl.1 rfl (Nat.le_of_ble_eq_true rfl) dL_law_541 ⟨(by show nc + 3 + 11 * i24 + 1 + 1 + 1 + 1 ≤ 600172; omega), (by show ns + 18 + 66 * i24 + 6 + 6 + 6 + 6 ≤ 7300668; omega)⟩ (fun E0 ce q9 H locs hO hcell hcv hcl hbad => ?_) (fun H locs hO _ => ?_)
        · exact absurd (okShip_nI hsh (by omega)) hbad.2
        refine lv_eqi (y := s_at S i24) (by rw [nI_clamp (by omega)]) ?_
        refine lv_if_lt (tgt := 668) C.1 C.2.1 dL_law_544 (by decide) (fun c_9 => ?_) (fun c_9 => ?_)
        · exact absurd c_9 (by rw [Int32.lt_iff_toInt_lt, show (0 : Int32).toInt = 0 from rfl]; omega)
        · refine lv_aload_n C.1 C.2.1 dL_law_547 rfl (lv_at hl 2 rfl) ?_
          refine lv_iload C.1 C.2.1 dL_law_548 (lv_at hl 12 rfl) ?_
          refine gXCall_i (mc := 1) (ms := 6) (As := [.int (nI i24)]) (rest := []) C hO (c_X2_offsetOf l E a S mk24 rk rv ((q_l, .inl (eI E, (s_sh S), .inl (upd fl i24 (nI (s_lag S i24))))) :: ((q_m, .inl (eI E, (s_sh S), .inl (upd fm i24 (s_ms S i24)))) :: ((q_h, .inl (eI E, (s_sh S), .inl (upd fh i24 (s_hd S i24)))) :: (sW E o d S F)))) (nI i24) hst hI) (cwV 1 C.2.2.2.2.1 gL_law_X2_offsetOf rfl rfl rfl (by decide +kernel) ⟨(Nat.le_of_ble_eq_true rfl), (Nat.le_of_ble_eq_true rfl)⟩) (va_recv C.2.2.2.2.2.2.2.1.1 hO.1 (ci := 2) (q0 := 0) rfl rfl) rfl hl.1 rfl (Nat.le_of_ble_eq_true rfl) dL_law_550 ⟨(by show nc + 3 + 11 * i24 + 1 + 1 + 1 + 1 + 1 ≤ 600172; omega), (by show ns + 18 + 66 * i24 + 6 + 6 + 6 + 6 + 6 ≤ 7300668; omega)⟩ (fun E0 ce q9 H locs hO hcell hcv hcl hbad => ?_) (fun H locs hO _ => ?_)
          · exact absurd (okShip_nI hsh (by omega)) hbad.2
          refine lv_eqi (y := s_at S i24) (by rw [nI_clamp (by omega)]) ?_
          refine lv_iload C.1 C.2.1 dL_law_553 (lv_at hl 7 rfl) ?_
          refine lv_icmp_gt (tgt := 668) C.1 C.2.1 dL_law_555 (by decide) (fun c_11 => ?_) (fun c_11 => ?_)
          · exact absurd c_11 (by rw [← ez0, Int32.lt_iff_toInt_lt]; omega)
          · refine lv_aload C.1 C.2.1 dL_law_558 (lv_at hl 11 rfl) ?_
            refine lv_iload C.1 C.2.1 dL_law_560 (lv_at hl 12 rfl) ?_
            refine gIald (v := nI (s_lag S i24)) (j := i24) C hO 23 rfl (by omega) (by first | decide | omega | (show s_sc S ≤ 100; omega)) (upd_at _ _ _) dL_law_562 ?_
            refine lv_if_lt (tgt := 668) C.1 C.2.1 dL_law_563 (by decide) (fun c_12 => ?_) (fun c_12 => ?_)
            · exact absurd c_12 (nI_pos (by omega))
            · refine lv_aload C.1 C.2.1 dL_law_566 (lv_at hl 11 rfl) ?_
              refine lv_iload C.1 C.2.1 dL_law_568 (lv_at hl 12 rfl) ?_
              refine gIald (v := nI (s_lag S i24)) (j := i24) C hO 23 rfl (by omega) (by first | decide | omega | (show s_sc S ≤ 100; omega)) (upd_at _ _ _) dL_law_570 ?_
              refine lv_iload C.1 C.2.1 dL_law_571 (lv_at hl 6 rfl) ?_
              refine gGtN (x := (s_lag S i24)) (y := (s_n S)) (tgt := 668) C.1 C.2.1 (by omega) (by omega) dL_law_573 (by decide) (fun c_13 => ?_) (fun c_13 => ?_)
              · exact absurd c_13 (by omega)
              · refine lv_aload C.1 C.2.1 dL_law_576 (lv_at hl 11 rfl) ?_
                refine lv_iload C.1 C.2.1 dL_law_578 (lv_at hl 12 rfl) ?_
                refine gIald (v := nI (s_lag S i24)) (j := i24) C hO 23 rfl (by omega) (by first | decide | omega | (show s_sc S ≤ 100; omega)) (upd_at _ _ _) dL_law_580 ?_
                refine lv_iload C.1 C.2.1 dL_law_581 (lv_at hl 7 rfl) ?_
                refine lv_aload_n C.1 C.2.1 dL_law_583 rfl (lv_at hl 2 rfl) ?_
                refine lv_iload C.1 C.2.1 dL_law_584 (lv_at hl 12 rfl) ?_
                refine gXCall_i (mc := 1) (ms := 6) (As := [.int (nI i24)]) (rest := [.int (nI z0), .int (nI (s_lag S i24))]) C hO (c_X2_offsetOf l E a S mk24 rk rv ((q_l, .inl (eI E, (s_sh S), .inl (upd fl i24 (nI (s_lag S i24))))) :: ((q_m, .inl (eI E, (s_sh S), .inl (upd fm i24 (s_ms S i24)))) :: ((q_h, .inl (eI E, (s_sh S), .inl (upd fh i24 (s_hd S i24)))) :: (sW E o d S F)))) (nI i24) hst hI) (cwV 1 C.2.2.2.2.1 gL_law_X2_offsetOf rfl rfl rfl (by decide +kernel) ⟨(Nat.le_of_ble_eq_true rfl), (Nat.le_of_ble_eq_true rfl)⟩) (va_recv C.2.2.2.2.2.2.2.1.1 hO.1 (ci := 2) (q0 := 0) rfl rfl) rfl hl.1 rfl (Nat.le_of_ble_eq_true rfl) dL_law_586 ⟨(by show nc + 3 + 11 * i24 + 1 + 1 + 1 + 1 + 1 + 1 ≤ 600172; omega), (by show ns + 18 + 66 * i24 + 6 + 6 + 6 + 6 + 6 + 6 ≤ 7300668; omega)⟩ (fun E0 ce q9 H locs hO hcell hcv hcl hbad => ?_) (fun H locs hO _ => ?_)
                · exact absurd (okShip_nI hsh (by omega)) hbad.2
                refine lv_eqi (y := s_at S i24) (by rw [nI_clamp (by omega)]) ?_
                refine lv_isub C.1 C.2.1 dL_law_589 ?_
                refine lv_icmp_gt (tgt := 668) C.1 C.2.1 dL_law_590 (by decide) (fun c_15 => ?_) (fun c_15 => ?_)
                · exact absurd c_15 (lag_k hlg ez0 hz0 hat9.1 hat9.2.1 hn)
                · refine lv_aload_n C.1 C.2.1 dL_law_593 rfl (lv_at hl 2 rfl) ?_
                  refine lv_iload C.1 C.2.1 dL_law_594 (lv_at hl 12 rfl) ?_
                  refine gXCall_i (mc := 1) (ms := 6) (As := [.int (nI i24)]) (rest := []) C hO (c_X2_errorsOf l E a S mk24 rk rv ((q_l, .inl (eI E, (s_sh S), .inl (upd fl i24 (nI (s_lag S i24))))) :: ((q_m, .inl (eI E, (s_sh S), .inl (upd fm i24 (s_ms S i24)))) :: ((q_h, .inl (eI E, (s_sh S), .inl (upd fh i24 (s_hd S i24)))) :: (sW E o d S F)))) (nI i24) hst hI) (cwV 1 C.2.2.2.2.1 gL_law_X2_errorsOf rfl rfl rfl (by decide +kernel) ⟨(Nat.le_of_ble_eq_true rfl), (Nat.le_of_ble_eq_true rfl)⟩) (va_recv C.2.2.2.2.2.2.2.1.1 hO.1 (ci := 2) (q0 := 0) rfl rfl) rfl hl.1 rfl (Nat.le_of_ble_eq_true rfl) dL_law_596 ⟨(by show nc + 3 + 11 * i24 + 1 + 1 + 1 + 1 + 1 + 1 + 1 ≤ 600172; omega), (by show ns + 18 + 66 * i24 + 6 + 6 + 6 + 6 + 6 + 6 + 6 ≤ 7300668; omega)⟩ (fun E0 ce q9 H locs hO hcell hcv hcl hbad => ?_) (fun H locs hO _ => ?_)
                  · exact absurd (okShip_nI hsh (by omega)) hbad.2
                  refine lv_eqi (y := nI (s_ea S i24 0)) (by rw [nI_clamp (by omega)]) ?_
                  refine lv_if_lt (tgt := 668) C.1 C.2.1 dL_law_599 (by decide) (fun c_17 => ?_) (fun c_17 => ?_)
                  · exact absurd c_17 (nI_pos (by omega))
                  · refine lv_aload_n C.1 C.2.1 dL_law_602 rfl (lv_at hl 2 rfl) ?_
                    refine lv_iload C.1 C.2.1 dL_law_603 (lv_at hl 12 rfl) ?_
                    refine gXCall_i (mc := 1) (ms := 6) (As := [.int (nI i24)]) (rest := []) C hO (c_X2_errorsOf l E a S mk24 rk rv ((q_l, .inl (eI E, (s_sh S), .inl (upd fl i24 (nI (s_lag S i24))))) :: ((q_m, .inl (eI E, (s_sh S), .inl (upd fm i24 (s_ms S i24)))) :: ((q_h, .inl (eI E, (s_sh S), .inl (upd fh i24 (s_hd S i24)))) :: (sW E o d S F)))) (nI i24) hst hI) (cwV 1 C.2.2.2.2.1 gL_law_X2_errorsOf rfl rfl rfl (by decide +kernel) ⟨(Nat.le_of_ble_eq_true rfl), (Nat.le_of_ble_eq_true rfl)⟩) (va_recv C.2.2.2.2.2.2.2.1.1 hO.1 (ci := 2) (q0 := 0) rfl rfl) rfl hl.1 rfl (Nat.le_of_ble_eq_true rfl) dL_law_605 ⟨(by show nc + 3 + 11 * i24 + 1 + 1 + 1 + 1 + 1 + 1 + 1 + 1 ≤ 600172; omega), (by show ns + 18 + 66 * i24 + 6 + 6 + 6 + 6 + 6 + 6 + 6 + 6 ≤ 7300668; omega)⟩ (fun E0 ce q9 H locs hO hcell hcv hcl hbad => ?_) (fun H locs hO _ => ?_)
                    · exact absurd (okShip_nI hsh (by omega)) hbad.2
                    refine lv_eqi (y := nI (s_ea S i24 0)) (by rw [nI_clamp (by omega)]) ?_
                    refine lv_bipush (v := nI 10) C.1 C.2.1 dL_law_608 (by decide) ?_
                    refine gGtN (x := (s_ea S i24 0)) (y := 10) (tgt := 668) C.1 C.2.1 (by omega) (by omega) dL_law_610 (by decide) (fun c_19 => ?_) (fun c_19 => ?_)
                    · exact absurd c_19 (by omega)
                    · refine lv_aload C.1 C.2.1 dL_law_613 (lv_at hl 11 rfl) ?_
                      refine lv_iload C.1 C.2.1 dL_law_615 (lv_at hl 12 rfl) ?_
                      refine gIald (v := nI (s_lag S i24)) (j := i24) C hO 23 rfl (by omega) (by first | decide | omega | (show s_sc S ≤ 100; omega)) (upd_at _ _ _) dL_law_617 ?_
                      refine lv_aload_n C.1 C.2.1 dL_law_618 rfl (lv_at hl 2 rfl) ?_
                      refine lv_aload_n C.1 C.2.1 dL_law_619 rfl (lv_at hl 2 rfl) ?_
                      refine gCall_i (mc := 0) (ms := 0) (As := []) (rest := [.ref (a 0), .int (nI (s_lag S i24))]) C hO (c_X2_farthestBehind l E a S mk24 rk rv ((q_l, .inl (eI E, (s_sh S), .inl (upd fl i24 (nI (s_lag S i24))))) :: ((q_m, .inl (eI E, (s_sh S), .inl (upd fm i24 (s_ms S i24)))) :: ((q_h, .inl (eI E, (s_sh S), .inl (upd fh i24 (s_hd S i24)))) :: (sW E o d S F))))  hI) (cwV 0 C.2.2.2.2.1 gL_law_X2_farthestBehind rfl rfl rfl (by decide +kernel) ⟨(Nat.le_of_ble_eq_true rfl), (Nat.le_of_ble_eq_true rfl)⟩) (va_recv C.2.2.2.2.2.2.2.1.1 hO.1 (ci := 2) (q0 := 0) rfl rfl) rfl hl.1 rfl (Nat.le_of_ble_eq_true rfl) dL_law_620 ⟨(by show nc + 3 + 11 * i24 + 1 + 1 + 1 + 1 + 1 + 1 + 1 + 1 + 0 ≤ 600172; omega), (by show ns + 18 + 66 * i24 + 6 + 6 + 6 + 6 + 6 + 6 + 6 + 6 + 0 ≤ 7300668; omega)⟩ (fun H locs hO => ?_)
                      refine lv_eqi (y := nI b9) (by rw [hb9]; rfl) ?_
                      refine gXCall_i (mc := 1) (ms := 6) (As := [.int (nI b9)]) (rest := [.int (nI (s_lag S i24))]) C hO (c_X2_lagOf l E a S mk24 rk rv ((q_l, .inl (eI E, (s_sh S), .inl (upd fl i24 (nI (s_lag S i24))))) :: ((q_m, .inl (eI E, (s_sh S), .inl (upd fm i24 (s_ms S i24)))) :: ((q_h, .inl (eI E, (s_sh S), .inl (upd fh i24 (s_hd S i24)))) :: (sW E o d S F)))) (nI b9) hst hI) (cwV 1 C.2.2.2.2.1 gL_law_X2_lagOf rfl rfl rfl (by decide +kernel) ⟨(Nat.le_of_ble_eq_true rfl), (Nat.le_of_ble_eq_true rfl)⟩) (va_recv C.2.2.2.2.2.2.2.1.1 hO.1 (ci := 2) (q0 := 0) rfl rfl) rfl hl.1 rfl (Nat.le_of_ble_eq_true rfl) dL_law_623 ⟨(by show nc + 3 + 11 * i24 + 1 + 1 + 1 + 1 + 1 + 1 + 1 + 1 + 0 + 1 ≤ 600172; omega), (by show ns + 18 + 66 * i24 + 6 + 6 + 6 + 6 + 6 + 6 + 6 + 6 + 0 + 6 ≤ 7300668; omega)⟩ (fun E0 ce q9 H locs hO hcell hcv hcl hbad => ?_) (fun H locs hO _ => ?_)
                      · exact absurd (okShip_nI hsh hbl9) hbad.2
                      refine lv_eqi (y := nI (s_lag S b9)) (by rw [nI_clamp (by omega)]) ?_
                      refine gGtN (x := (s_lag S i24)) (y := (s_lag S b9)) (tgt := 668) C.1 C.2.1 (by omega) (by omega) dL_law_626 (by decide) (fun c_21 => ?_) (fun c_21 => ?_)
                      · exact absurd c_21 (by omega)
                      · refine lv_aload_n C.1 C.2.1 dL_law_629 rfl (lv_at hl 2 rfl) ?_
                        refine lv_iload C.1 C.2.1 dL_law_630 (lv_at hl 12 rfl) ?_
                        refine gXCall_i (mc := 1) (ms := 6) (As := [.int (nI i24)]) (rest := []) C hO (c_X2_wouldMiss l E a S mk24 rk rv ((q_l, .inl (eI E, (s_sh S), .inl (upd fl i24 (nI (s_lag S i24))))) :: ((q_m, .inl (eI E, (s_sh S), .inl (upd fm i24 (s_ms S i24)))) :: ((q_h, .inl (eI E, (s_sh S), .inl (upd fh i24 (s_hd S i24)))) :: (sW E o d S F)))) (nI i24) hst hI) (cwV 1 C.2.2.2.2.1 gL_law_X2_wouldMiss rfl rfl rfl (by decide +kernel) ⟨(Nat.le_of_ble_eq_true rfl), (Nat.le_of_ble_eq_true rfl)⟩) (va_recv C.2.2.2.2.2.2.2.1.1 hO.1 (ci := 2) (q0 := 0) rfl rfl) rfl hl.1 rfl (Nat.le_of_ble_eq_true rfl) dL_law_632 ⟨(by show nc + 3 + 11 * i24 + 1 + 1 + 1 + 1 + 1 + 1 + 1 + 1 + 0 + 1 + 1 ≤ 600172; omega), (by show ns + 18 + 66 * i24 + 6 + 6 + 6 + 6 + 6 + 6 + 6 + 6 + 0 + 6 + 6 ≤ 7300668; omega)⟩ (fun E0 ce q9 H locs hO hcell hcv hcl hbad => ?_) (fun H locs hO _ => ?_)
                        · exact absurd (okShip_nI hsh (by omega)) hbad.2
                        refine lv_eqi (y := nI (s_wm S i24)) (by rw [nI_clamp (by omega)]) ?_
                        refine lv_aload C.1 C.2.1 dL_law_635 (lv_at hl 11 rfl) ?_
                        refine lv_iload C.1 C.2.1 dL_law_637 (lv_at hl 12 rfl) ?_
                        refine gIald (v := nI (s_lag S i24)) (j := i24) C hO 23 rfl (by omega) (by first | decide | omega | (show s_sc S ≤ 100; omega)) (upd_at _ _ _) dL_law_639 ?_
                        refine gGtN (x := (s_wm S i24)) (y := (s_lag S i24)) (tgt := 668) C.1 C.2.1 (by omega) (by omega) dL_law_640 (by decide) (fun c_23 => ?_) (fun c_23 => ?_)
                        · exact absurd c_23 (by omega)
                        · refine lv_aload_n C.1 C.2.1 dL_law_643 rfl (lv_at hl 2 rfl) ?_
                          refine lv_iload C.1 C.2.1 dL_law_644 (lv_at hl 12 rfl) ?_
                          refine gXCall_i (mc := 1) (ms := 6) (As := [.int (nI i24)]) (rest := []) C hO (c_X2_wouldMiss l E a S (mkU (s_cm S) mk24 (s_n S)) rk rv ((q_l, .inl (eI E, (s_sh S), .inl (upd fl i24 (nI (s_lag S i24))))) :: ((q_m, .inl (eI E, (s_sh S), .inl (upd fm i24 (s_ms S i24)))) :: ((q_h, .inl (eI E, (s_sh S), .inl (upd fh i24 (s_hd S i24)))) :: (sW E o d S F)))) (nI i24) hst hI) (cwV 1 C.2.2.2.2.1 gL_law_X2_wouldMiss rfl rfl rfl (by decide +kernel) ⟨(Nat.le_of_ble_eq_true rfl), (Nat.le_of_ble_eq_true rfl)⟩) (va_recv C.2.2.2.2.2.2.2.1.1 hO.1 (ci := 2) (q0 := 0) rfl rfl) rfl hl.1 rfl (Nat.le_of_ble_eq_true rfl) dL_law_646 ⟨(by show nc + 3 + 11 * i24 + 1 + 1 + 1 + 1 + 1 + 1 + 1 + 1 + 0 + 1 + 1 + 1 ≤ 600172; omega), (by show ns + 18 + 66 * i24 + 6 + 6 + 6 + 6 + 6 + 6 + 6 + 6 + 0 + 6 + 6 + 6 ≤ 7300668; omega)⟩ (fun E0 ce q9 H locs hO hcell hcv hcl hbad => ?_) (fun H locs hO _ => ?_)
                          · exact absurd (okShip_nI hsh (by omega)) hbad.2
                          refine lv_eqi (y := nI (s_wm S i24)) (by rw [nI_clamp (by omega)]) ?_
                          refine lv_aload_n C.1 C.2.1 dL_law_649 rfl (lv_at hl 2 rfl) ?_
                          refine gCall_i (mc := 0) (ms := 0) (As := []) (rest := [.int (nI (s_wm S i24))]) C hO (c_X2_wouldCompact l E a S (mkU (s_cm S) (mkU (s_cm S) mk24 (s_n S)) (s_n S)) rk rv ((q_l, .inl (eI E, (s_sh S), .inl (upd fl i24 (nI (s_lag S i24))))) :: ((q_m, .inl (eI E, (s_sh S), .inl (upd fm i24 (s_ms S i24)))) :: ((q_h, .inl (eI E, (s_sh S), .inl (upd fh i24 (s_hd S i24)))) :: (sW E o d S F))))  hI) (cwV 0 C.2.2.2.2.1 gL_law_X2_wouldCompact rfl rfl rfl (by decide +kernel) ⟨(Nat.le_of_ble_eq_true rfl), (Nat.le_of_ble_eq_true rfl)⟩) (va_recv C.2.2.2.2.2.2.2.1.1 hO.1 (ci := 2) (q0 := 0) rfl rfl) rfl hl.1 rfl (Nat.le_of_ble_eq_true rfl) dL_law_650 ⟨(by show nc + 3 + 11 * i24 + 1 + 1 + 1 + 1 + 1 + 1 + 1 + 1 + 0 + 1 + 1 + 1 + 0 ≤ 600172; omega), (by show ns + 18 + 66 * i24 + 6 + 6 + 6 + 6 + 6 + 6 + 6 + 6 + 0 + 6 + 6 + 6 + 0 ≤ 7300668; omega)⟩ (fun H locs hO => ?_)
                          have hO : gO E A s ((xW E a S (mkU (s_cm S) (mkU (s_cm S) (mkU (s_cm S) mk24 (s_n S)) (s_n S)) (s_n S)) rk rv) ++ ((q_l, .inl (eI E, (s_sh S), .inl (upd fl i24 (nI (s_lag S i24))))) :: ((q_m, .inl (eI E, (s_sh S), .inl (upd fm i24 (s_ms S i24)))) :: ((q_h, .inl (eI E, (s_sh S), .inl (upd fh i24 (s_hd S i24)))) :: (sW E o d S F))))) H locs := hO
                          refine gGtN (x := (s_wm S i24)) (y := (s_wc S)) (tgt := 668) C.1 C.2.1 (by omega) (by omega) dL_law_653 (by decide) (fun c_25 => ?_) (fun c_25 => ?_)
                          · exact absurd c_25 (by omega)
                          · refine lv_aload C.1 C.2.1 dL_law_656 (lv_at hl 10 rfl) ?_
                            refine lv_iload C.1 C.2.1 dL_law_658 (lv_at hl 12 rfl) ?_
                            refine gIald (v := s_ms S i24) (j := i24) C hO 24 rfl (by omega) (by first | decide | omega | (show s_sc S ≤ 100; omega)) (upd_at _ _ _) dL_law_660 ?_
                            refine lv_aload_n C.1 C.2.1 dL_law_661 rfl (lv_at hl 2 rfl) ?_
                            refine gCall_i (mc := 0) (ms := 0) (As := []) (rest := [.int (s_ms S i24)]) C hO (c_X2_dropped l E a S (mkU (s_cm S) (mkU (s_cm S) (mkU (s_cm S) mk24 (s_n S)) (s_n S)) (s_n S)) rk rv ((q_l, .inl (eI E, (s_sh S), .inl (upd fl i24 (nI (s_lag S i24))))) :: ((q_m, .inl (eI E, (s_sh S), .inl (upd fm i24 (s_ms S i24)))) :: ((q_h, .inl (eI E, (s_sh S), .inl (upd fh i24 (s_hd S i24)))) :: (sW E o d S F))))  hI) (cwV 0 C.2.2.2.2.1 gL_law_X2_dropped rfl rfl rfl (by decide +kernel) ⟨(Nat.le_of_ble_eq_true rfl), (Nat.le_of_ble_eq_true rfl)⟩) (va_recv C.2.2.2.2.2.2.2.1.1 hO.1 (ci := 2) (q0 := 0) rfl rfl) rfl hl.1 rfl (Nat.le_of_ble_eq_true rfl) dL_law_662 ⟨(by show nc + 3 + 11 * i24 + 1 + 1 + 1 + 1 + 1 + 1 + 1 + 1 + 0 + 1 + 1 + 1 + 0 + 0 ≤ 600172; omega), (by show ns + 18 + 66 * i24 + 6 + 6 + 6 + 6 + 6 + 6 + 6 + 6 + 0 + 6 + 6 + 6 + 0 + 0 ≤ 7300668; omega)⟩ (fun H locs hO => ?_)
                            refine gLeI (tgt := 670) C.1 C.2.1 dL_law_665 (by decide) (fun c_26 => ?_) (fun c_26 => ?_)
                            · refine gInc (j := i24) (k := 12) (lv' := [(15, .int (nI (i24 + 1))), (11, .int (nI (s_sl S (i24 + 1)))), (0, .ref bs), (1, .ref (a 0)), (2, .ref o), (3, .int (nI t)), (4, .int x), (5, .int (nI (s_n S))), (6, .int (nI z0)), (8, .int (nI (s_sh S))), (12, .ref q_h), (13, .ref q_m), (14, .ref q_l)]) C.1 C.2.1 dL_law_670 hl rfl (by decide) rfl (fun ls hl => ?_)
                              refine lv_goto (tgt := 488) C.1 C.2.1 dL_law_673 (by decide) ?_
                              refine W.widen (k := nc + 3 + 11 * (i24 + 1)) (n := ns + 18 + 66 * (i24 + 1)) (by omega) (by omega) ?_
                              exact ih_lp488 (i24 + 1) (upd fh i24 (s_hd S i24)) (upd fm i24 (s_ms S i24)) (upd fl i24 (nI (s_lag S i24))) (mkU (s_cm S) (mkU (s_cm S) (mkU (s_cm S) mk24 (s_n S)) (s_n S)) (s_n S)) (by omega) (by omega) (fun i hi => by by_cases q : i = i24; (rw [q, upd_at]); (rw [upd, if_neg q]; exact hhf i (by omega))) (fun i hi => by by_cases q : i = i24; (rw [q, upd_at]); (rw [upd, if_neg q]; exact hmf i (by omega))) (fun i hi => by by_cases q : i = i24; (rw [q, upd_at]); (rw [upd, if_neg q]; exact hlf i (by omega))) _ _ hO _ (lv_sub hl [2, 3, 4, 5, 6, 7, 8, 9, 1, 10, 11, 12, 0] rfl)
                            · exact absurd c_26 (by rw [Int32.lt_iff_toInt_lt]; omega)
  refine W.widen (k := nc + 3 + 11 * 0) (n := ns + 18 + 66 * 0) (by omega) (by omega) ?_
  exact lp488 (s_sh S + 1) 0 (fun _ => 0) (fun _ => 0) (fun _ => 0) mk (by omega) (Nat.zero_le _) (fun i hi => absurd hi (Nat.not_lt_zero _)) (fun i hi => absurd hi (Nat.not_lt_zero _)) (fun i hi => absurd hi (Nat.not_lt_zero _)) _ _ hO _ (lv_sub hl [5, 6, 7, 8, 9, 10, 11, 12, 4, 3, 2, 1, 0] rfl)
end LC
