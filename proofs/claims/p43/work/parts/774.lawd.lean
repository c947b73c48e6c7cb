section LC
variable {p : Program} {l : Launch} {e : Env} {s : State} {m : MethodId} {args : Array Value} {below : List Frame} {meth : Method} {c : Code} {H : Heap} {locs : List Loc} {Q : State → Prop} {E : gE} {A : Nat → Prop} {ret9 : Option FieldType}
variable {a : Nat → Nat} {o : Nat} {d : Dt} {S : St} {mk rk rv : Nat → Int32} {F : va_W} {B : Int} {bs L t z0 nc ns : Nat} {xs : Nat → Int32} {x : Int32} {ls : Array Slot}
set_option maxHeartbeats 4000000 in
set_option maxRecDepth 100000 in
theorem law_D (hst : l.stackTraces = false) (hJ : J9 S B) (hB : B + 100 < 2147480000) (hR : Rep E d S) (ez0 : s_nx S = nI z0) (hz0 : z0 < 2147480000) (hnc : nc ≤ 100000) (hns : ns ≤ 2000000) (C : gCx p s m args meth c cL_law 21 wsL_law RL ret9 E A)  (hO : gO E A s ((xW E a S mk rk rv) ++ (sW E o d S F)) H locs) (hl : lv_has ls 21 [(0, .ref bs), (1, .ref (a 0)), (2, .ref o), (3, .int (nI t)), (4, .int x), (5, .int (nI (s_n S))), (6, .int (nI z0)), (7, .int (s_first S)), (8, .int (nI (s_sh S))), (9, .int (nI (s_n S))), (10, .int (nI (s_n S)))]) (kk : ∀ (mk9 : Nat → Int32), ∀ (H : Heap) (locs : List Loc), gO E A s ((xW E a S mk9 rk rv) ++ (sW E o d S F)) H locs → ∀ ls : Array Slot, lv_has ls 21 [(0, .ref bs), (1, .ref (a 0)), (2, .ref o), (3, .int (nI t)), (4, .int x), (5, .int (nI (s_n S))), (6, .int (nI z0)), (8, .int (nI (s_sh S)))] → W p l e room_1 s m args below meth c H locs (nc + 24) (ns + 144) Q (F0 m 464 ls [])) : W p l e room_1 s m args below meth c H locs nc ns Q (F0 m 383 ls []) := by
  have hI : s_inv S := hJ.1.inv
  obtain ⟨hn, hsh, hsc, hOn, hOb, hok9, hpc9, hp0⟩ := id hI
  have hsr : s_srt S := hJ.1.1.srt
  have hlg := hJ.1.1
  have hxI := hJ.2
  obtain ⟨hnz1, hnz2, hnz3⟩ := nx_sum hxI hn ez0 hz0
  refine lv_iload C.1 C.2.1 dL_law_383 (lv_at hl 10 rfl) ?_
  refine lv_iload C.1 C.2.1 dL_law_385 (lv_at hl 5 rfl) ?_
  refine lv_icmp_ne (tgt := 418) C.1 C.2.1 dL_law_387 (by decide) (fun c_1 => ?_) (fun c_1 => ?_)
  · exact absurd rfl c_1
  · refine lv_iload C.1 C.2.1 dL_law_390 (lv_at hl 9 rfl) ?_
    refine lv_iload C.1 C.2.1 dL_law_392 (lv_at hl 5 rfl) ?_
    refine lv_icmp_ne (tgt := 418) C.1 C.2.1 dL_law_394 (by decide) (fun c_2 => ?_) (fun c_2 => ?_)
    · exact absurd rfl c_2
    · refine lv_aload_n C.1 C.2.1 dL_law_397 rfl (lv_at hl 1 rfl) ?_
      refine gCall_i (mc := 0) (ms := 0) (As := []) (rest := []) C hO (c_X2_wouldCompact l E a S mk rk rv (sW E o d S F)  hI) (cwV 0 C.2.2.2.2.1 gL_law_X2_wouldCompact rfl rfl rfl (by decide +kernel) ⟨(Nat.le_of_ble_eq_true rfl), (Nat.le_of_ble_eq_true rfl)⟩) (va_recv C.2.2.2.2.2.2.2.1.1 hO.1 (ci := 2) (q0 := 0) rfl rfl) rfl hl.1 rfl (Nat.le_of_ble_eq_true rfl) dL_law_398 ⟨(by show nc + 0 ≤ 600172; omega), (by show ns + 0 ≤ 7300668; omega)⟩ (fun H locs hO => ?_)
      have hO : gO E A s ((xW E a S (mkU (s_cm S) mk (s_n S)) rk rv) ++ (sW E o d S F)) H locs := hO
      have hwl9 := wc_le S
      refine lv_iload C.1 C.2.1 dL_law_401 (lv_at hl 5 rfl) ?_
      refine gGtN (x := (s_wc S)) (y := (s_n S)) (tgt := 418) C.1 C.2.1 (by omega) (by omega) dL_law_403 (by decide) (fun c_3 => ?_) (fun c_3 => ?_)
      · exact absurd (wc_le S) (by omega)
      · refine lv_aload_n C.1 C.2.1 dL_law_406 rfl (lv_at hl 1 rfl) ?_
        refine gCall_i (mc := 0) (ms := 0) (As := []) (rest := []) C hO (c_X2_wouldCompact l E a S (mkU (s_cm S) mk (s_n S)) rk rv (sW E o d S F)  hI) (cwV 0 C.2.2.2.2.1 gL_law_X2_wouldCompact rfl rfl rfl (by decide +kernel) ⟨(Nat.le_of_ble_eq_true rfl), (Nat.le_of_ble_eq_true rfl)⟩) (va_recv C.2.2.2.2.2.2.2.1.1 hO.1 (ci := 2) (q0 := 0) rfl rfl) rfl hl.1 rfl (Nat.le_of_ble_eq_true rfl) dL_law_407 ⟨(by show nc + 0 + 0 ≤ 600172; omega), (by show ns + 0 + 0 ≤ 7300668; omega)⟩ (fun H locs hO => ?_)
        have hO : gO E A s ((xW E a S (mkU (s_cm S) (mkU (s_cm S) mk (s_n S)) (s_n S)) rk rv) ++ (sW E o d S F)) H locs := hO
        refine lv_iload C.1 C.2.1 dL_law_410 (lv_at hl 5 rfl) ?_
        refine lv_bipush (v := nI 10) C.1 C.2.1 dL_law_412 (by decide) ?_
        refine lv_isub C.1 C.2.1 dL_law_414 ?_
        refine gGeI (tgt := 420) C.1 C.2.1 dL_law_415 (by decide) (fun c_4 => ?_) (fun c_4 => ?_)
        · have hl : lv_has ls 21 [(0, .ref bs), (1, .ref (a 0)), (2, .ref o), (3, .int (nI t)), (4, .int x), (5, .int (nI (s_n S))), (6, .int (nI z0)), (8, .int (nI (s_sh S)))] := lv_sub hl [0, 1, 2, 3, 4, 5, 6, 8] rfl
          refine lv_iconst (v := 0) C.1 C.2.1 dL_law_420 (by decide) ?_
          refine lv_istore (lv' := [(11, .int 0), (0, .ref bs), (1, .ref (a 0)), (2, .ref o), (3, .int (nI t)), (4, .int x), (5, .int (nI (s_n S))), (6, .int (nI z0)), (8, .int (nI (s_sh S)))]) C.1 C.2.1 dL_law_421 hl (by decide) rfl (fun ls hl => ?_)
          have lp423 : ∀ (f : Nat) (t24 : Nat) (mk24 : Nat → Int32), (s_sc S + 1 ≤ t24 + f) → (t24 ≤ s_sc S) → ∀ (H : Heap) (locs : List Loc), gO E A s ((xW E a S mk24 rk rv) ++ (sW E o d S F)) H locs → ∀ ls : Array Slot, lv_has ls 21 [(0, .ref bs), (1, .ref (a 0)), (2, .ref o), (3, .int (nI t)), (4, .int x), (5, .int (nI (s_n S))), (6, .int (nI z0)), (8, .int (nI (s_sh S))), (11, .int (nI t24))] → W p l e room_1 s m args below meth c H locs (nc + 3 * t24) (ns + 18 * t24) Q (F0 m 423 ls []) := by
            intro f
            induction f with
            | zero =>
              intro t24 mk24 hf ht24
              exact absurd hf (by omega)
            | succ f ih_lp423 =>
              intro t24 mk24 hf ht24 H locs hO ls hl
              refine lv_iload C.1 C.2.1 dL_law_423 (lv_at hl 8 rfl) ?_
              refine lv_aload_n C.1 C.2.1 dL_law_425 rfl (lv_at hl 1 rfl) ?_
              refine gCall_i (mc := 0) (ms := 0) (As := []) (rest := [.int (nI t24)]) C hO (c_X2_storms l E a S mk24 rk rv (sW E o d S F)  hI) (cwV 0 C.2.2.2.2.1 gL_law_X2_storms rfl rfl rfl (by decide +kernel) ⟨(Nat.le_of_ble_eq_true rfl), (Nat.le_of_ble_eq_true rfl)⟩) (va_recv C.2.2.2.2.2.2.2.1.1 hO.1 (ci := 2) (q0 := 0) rfl rfl) rfl hl.1 rfl (Nat.le_of_ble_eq_true rfl) dL_law_426 ⟨(by show nc + 3 * t24 + 0 ≤ 600172; omega), (by show ns + 18 * t24 + 0 ≤ 7300668; omega)⟩ (fun H locs hO => ?_)
              refine gGeN (x := t24) (y := (s_sc S)) (tgt := 464) C.1 C.2.1 (by omega) (by omega) dL_law_429 (by decide) (fun c_5 => ?_) (fun c_5 => ?_)
              · refine W.widen (k := nc + 24) (n := ns + 144) (by omega) (by omega) ?_
                exact kk mk24  _ _ hO _ (lv_sub hl [0, 1, 2, 3, 4, 5, 6, 7] rfl)
              · refine lv_aload_n C.1 C.2.1 dL_law_432 rfl (lv_at hl 1 rfl) ?_
                refine lv_iload C.1 C.2.1 dL_law_433 (lv_at hl 8 rfl) ?_
                refine gXCall_i (mc := 1) (ms := 6) (As := [.int (nI t24)]) (rest := []) C hO (c_X2_keptOf l E a S mk24 rk rv (sW E o d S F) (nI t24) hst hI) (cwV 1 C.2.2.2.2.1 gL_law_X2_keptOf rfl rfl rfl (by decide +kernel) ⟨(Nat.le_of_ble_eq_true rfl), (Nat.le_of_ble_eq_true rfl)⟩) (va_recv C.2.2.2.2.2.2.2.1.1 hO.1 (ci := 2) (q0 := 0) rfl rfl) rfl hl.1 rfl (Nat.le_of_ble_eq_true rfl) dL_law_435 ⟨(by show nc + 3 * t24 + 0 + 1 ≤ 600172; omega), (by show ns + 18 * t24 + 0 + 6 ≤ 7300668; omega)⟩ (fun E0 ce q9 H locs hO hcell hcv hcl hbad => ?_) (fun H locs hO _ => ?_)
                · exact absurd (okStorm_nI hsc (by omega)) hbad.2
                refine lv_aload_n C.1 C.2.1 dL_law_438 rfl (lv_at hl 1 rfl) ?_
                refine lv_iload C.1 C.2.1 dL_law_439 (lv_at hl 8 rfl) ?_
                refine gXCall_i (mc := 1) (ms := 6) (As := [.int (nI t24)]) (rest := [.int (nI (cnt (s_sto S) (nI t24) (s_n S)))]) C hO (c_X2_saidIn l E a S mk24 rk rv (sW E o d S F) (nI t24) hst hI) (cwV 1 C.2.2.2.2.1 gL_law_X2_saidIn rfl rfl rfl (by decide +kernel) ⟨(Nat.le_of_ble_eq_true rfl), (Nat.le_of_ble_eq_true rfl)⟩) (va_recv C.2.2.2.2.2.2.2.1.1 hO.1 (ci := 2) (q0 := 0) rfl rfl) rfl hl.1 rfl (Nat.le_of_ble_eq_true rfl) dL_law_441 ⟨(by show nc + 3 * t24 + 0 + 1 + 1 ≤ 600172; omega), (by show ns + 18 * t24 + 0 + 6 + 6 ≤ 7300668; omega)⟩ (fun E0 ce q9 H locs hO hcell hcv hcl hbad => ?_) (fun H locs hO _ => ?_)
                · exact absurd (okStorm_nI hsc (by omega)) hbad.2
                refine lv_eqi (y := s_said S t24) (by rw [nI_clamp (by omega)]) ?_
                refine lv_icmp_gt (tgt := 456) C.1 C.2.1 dL_law_444 (by decide) (fun c_8 => ?_) (fun c_8 => ?_)
                · exact absurd c_8 (by rw [Int32.lt_iff_toInt_lt, nI_toInt (by have h8 := cnt_le (s_sto S) (nI t24) (s_n S); omega)]; have h9 := (hxI.2.2.2.2.2 t24 (by omega)).1; omega)
                · refine lv_aload_n C.1 C.2.1 dL_law_447 rfl (lv_at hl 1 rfl) ?_
                  refine lv_iload C.1 C.2.1 dL_law_448 (lv_at hl 8 rfl) ?_
                  refine gXCall_i (mc := 1) (ms := 6) (As := [.int (nI t24)]) (rest := []) C hO (c_X2_keptOf l E a S mk24 rk rv (sW E o d S F) (nI t24) hst hI) (cwV 1 C.2.2.2.2.1 gL_law_X2_keptOf rfl rfl rfl (by decide +kernel) ⟨(Nat.le_of_ble_eq_true rfl), (Nat.le_of_ble_eq_true rfl)⟩) (va_recv C.2.2.2.2.2.2.2.1.1 hO.1 (ci := 2) (q0 := 0) rfl rfl) rfl hl.1 rfl (Nat.le_of_ble_eq_true rfl) dL_law_450 ⟨(by show nc + 3 * t24 + 0 + 1 + 1 + 1 ≤ 600172; omega), (by show ns + 18 * t24 + 0 + 6 + 6 + 6 ≤ 7300668; omega)⟩ (fun E0 ce q9 H locs hO hcell hcv hcl hbad => ?_) (fun H locs hO _ => ?_)
                  · exact absurd (okStorm_nI hsc (by omega)) hbad.2
                  refine gGe0 (tgt := 458) C.1 C.2.1 dL_law_453 (by decide) (fun c_10 => ?_) (fun c_10 => ?_)
                  · refine gInc (j := t24) (k := 8) (lv' := [(11, .int (nI (t24 + 1))), (0, .ref bs), (1, .ref (a 0)), (2, .ref o), (3, .int (nI t)), (4, .int x), (5, .int (nI (s_n S))), (6, .int (nI z0)), (8, .int (nI (s_sh S)))]) C.1 C.2.1 dL_law_458 hl rfl (by decide) rfl (fun ls hl => ?_)
                    refine lv_goto (tgt := 423) C.1 C.2.1 dL_law_461 (by decide) ?_
                    refine W.widen (k := nc + 3 * (t24 + 1)) (n := ns + 18 * (t24 + 1)) (by omega) (by omega) ?_
                    exact ih_lp423 (t24 + 1) mk24 (by omega) (by omega) _ _ hO _ (lv_sub hl [1, 2, 3, 4, 5, 6, 7, 8, 0] rfl)
                  · exact absurd c_10 (nI_pos (by have h8 := cnt_le (s_sto S) (nI t24) (s_n S); omega))
          refine W.widen (k := nc + 3 * 0) (n := ns + 18 * 0) (by omega) (by omega) ?_
          exact lp423 (s_sc S + 1) 0 (mkU (s_cm S) (mkU (s_cm S) mk (s_n S)) (s_n S)) (by omega) (Nat.zero_le _) _ _ hO _ (lv_sub hl [1, 2, 3, 4, 5, 6, 7, 8, 0] rfl)
        · exact absurd c_4 (wc_k hn (fun i hi => hlg.2.1 i hi))
end LC
