section LC
variable {p : Program} {l : Launch} {e : Env} {s : State} {m : MethodId} {args : Array Value} {below : List Frame} {meth : Method} {c : Code} {H : Heap} {locs : List Loc} {Q : State → Prop} {E : gE} {A : Nat → Prop} {ret9 : Option FieldType}
variable {a : Nat → Nat} {o : Nat} {d : Dt} {S : St} {mk rk rv : Nat → Int32} {F : va_W} {B : Int} {bs L t z0 nc ns : Nat} {xs : Nat → Int32} {x : Int32} {ls : Array Slot}
set_option maxHeartbeats 4000000 in
set_option maxRecDepth 100000 in
theorem law_C (hst : l.stackTraces = false) (hJ : J9 S B) (hB : B + 100 < 2147480000) (hR : Rep E d S) (ez0 : s_nx S = nI z0) (hz0 : z0 < 2147480000) (hnc : nc ≤ 100000) (hns : ns ≤ 2000000) (C : gCx p s m args meth c cL_law 21 wsL_law RL ret9 E A) (hz1 : z0 < 100000)  (hO : gO E A s ((xW E a S mk rk rv) ++ (sW E o d S F)) H locs) (hl : lv_has ls 21 [(0, .ref bs), (1, .ref (a 0)), (2, .ref o), (3, .int (nI t)), (4, .int x), (5, .int (nI (s_n S))), (6, .int (nI z0)), (7, .int (s_first S)), (8, .int (nI (s_sh S))), (9, .int (nI (s_n S)))]) (kk : ∀ (H : Heap) (locs : List Loc), gO E A s ((xW E a S mk rk rv) ++ (sW E o d S F)) H locs → ∀ ls : Array Slot, lv_has ls 21 [(0, .ref bs), (1, .ref (a 0)), (2, .ref o), (3, .int (nI t)), (4, .int x), (5, .int (nI (s_n S))), (6, .int (nI z0)), (7, .int (s_first S)), (8, .int (nI (s_sh S))), (9, .int (nI (s_n S))), (10, .int (nI (s_n S)))] → W p l e room_1 s m args below meth c H locs (nc + 3 * s_n S) (ns + 18 * s_n S) Q (F0 m 383 ls [])) : W p l e room_1 s m args below meth c H locs nc ns Q (F0 m 302 ls []) := by
  have hI : s_inv S := hJ.1.inv
  obtain ⟨hn, hsh, hsc, hOn, hOb, hok9, hpc9, hp0⟩ := id hI
  have hsr : s_srt S := hJ.1.1.srt
  have hlg := hJ.1.1
  have hxI := hJ.2
  obtain ⟨hnz1, hnz2, hnz3⟩ := nx_sum hxI hn ez0 hz0
  refine lv_iconst (v := 0) C.1 C.2.1 dL_law_302 (by decide) ?_
  refine lv_istore (lv' := [(10, .int 0), (0, .ref bs), (1, .ref (a 0)), (2, .ref o), (3, .int (nI t)), (4, .int x), (5, .int (nI (s_n S))), (6, .int (nI z0)), (7, .int (s_first S)), (8, .int (nI (s_sh S))), (9, .int (nI (s_n S)))]) C.1 C.2.1 dL_law_303 hl (by decide) rfl (fun ls hl => ?_)
  refine lv_iconst (v := 0) C.1 C.2.1 dL_law_305 (by decide) ?_
  have hl : lv_has ls 21 [(10, .int (nI (pf (s_off S) (nI 0) (s_n S)))), (0, .ref bs), (1, .ref (a 0)), (2, .ref o), (3, .int (nI t)), (4, .int x), (5, .int (nI (s_n S))), (6, .int (nI z0)), (7, .int (s_first S)), (8, .int (nI (s_sh S))), (9, .int (nI (s_n S)))] := by rw [pf_zero hlg]; exact hl
  refine lv_istore (lv' := [(11, .int 0), (10, .int (nI (pf (s_off S) (nI 0) (s_n S)))), (0, .ref bs), (1, .ref (a 0)), (2, .ref o), (3, .int (nI t)), (4, .int x), (5, .int (nI (s_n S))), (6, .int (nI z0)), (7, .int (s_first S)), (8, .int (nI (s_sh S))), (9, .int (nI (s_n S)))]) C.1 C.2.1 dL_law_306 hl (by decide) rfl (fun ls hl => ?_)
  have lp308 : ∀ (f : Nat) (o24 : Nat), (z0 + 1 ≤ o24 + f) → (o24 ≤ z0) → ∀ (H : Heap) (locs : List Loc), gO E A s ((xW E a S mk rk rv) ++ (sW E o d S F)) H locs → ∀ ls : Array Slot, lv_has ls 21 [(0, .ref bs), (1, .ref (a 0)), (2, .ref o), (3, .int (nI t)), (4, .int x), (5, .int (nI (s_n S))), (6, .int (nI z0)), (7, .int (s_first S)), (8, .int (nI (s_sh S))), (9, .int (nI (s_n S))), (10, .int (nI (pf (s_off S) (nI o24) (s_n S)))), (11, .int (nI o24))] → W p l e room_1 s m args below meth c H locs (nc + 3 * pf (s_off S) (nI o24) (s_n S)) (ns + 18 * pf (s_off S) (nI o24) (s_n S)) Q (F0 m 308 ls []) := by
    intro f
    induction f with
    | zero =>
      intro o24 hf ho24
      exact absurd hf (by omega)
    | succ f ih_lp308 =>
      intro o24 hf ho24 H locs hO ls hl
      have hpl9 := pf_le (s_off S) (nI o24) (s_n S)
      refine lv_iload C.1 C.2.1 dL_law_308 (lv_at hl 11 rfl) ?_
      refine lv_iload C.1 C.2.1 dL_law_310 (lv_at hl 6 rfl) ?_
      refine gGeN (x := o24) (y := z0) (tgt := 383) C.1 C.2.1 (by omega) (by omega) dL_law_312 (by decide) (fun c_1 => ?_) (fun c_1 => ?_)
      · have hoe9 : o24 = z0 := by omega
        have hpe9 := pf_end hlg ez0
        have hl : lv_has ls 21 [(0, .ref bs), (1, .ref (a 0)), (2, .ref o), (3, .int (nI t)), (4, .int x), (5, .int (nI (s_n S))), (6, .int (nI z0)), (7, .int (s_first S)), (8, .int (nI (s_sh S))), (9, .int (nI (s_n S))), (10, .int (nI (s_n S))), (11, .int (nI z0))] := by rw [hoe9, hpe9] at hl; exact hl
        refine W.widen (k := nc + 3 * s_n S) (n := ns + 18 * s_n S) (by omega) (by omega) ?_
        exact kk   _ _ hO _ (lv_sub hl [0, 1, 2, 3, 4, 5, 6, 7, 8, 9, 10] rfl)
      · refine lv_aload_n C.1 C.2.1 dL_law_315 rfl (lv_at hl 1 rfl) ?_
        refine lv_iload C.1 C.2.1 dL_law_316 (lv_at hl 11 rfl) ?_
        refine gCall_i (mc := 0) (ms := 0) (As := [.int (nI o24)]) (rest := []) C hO (c_X2_isKept l E a S mk rk rv (sW E o d S F) (nI o24) hI) (cwV 1 C.2.2.2.2.1 gL_law_X2_isKept rfl rfl rfl (by decide +kernel) ⟨(Nat.le_of_ble_eq_true rfl), (Nat.le_of_ble_eq_true rfl)⟩) (va_recv C.2.2.2.2.2.2.2.1.1 hO.1 (ci := 2) (q0 := 0) rfl rfl) rfl hl.1 rfl (Nat.le_of_ble_eq_true rfl) dL_law_318 ⟨(by show nc + 3 * pf (s_off S) (nI o24) (s_n S) + 0 ≤ 600172; omega), (by show ns + 18 * pf (s_off S) (nI o24) (s_n S) + 0 ≤ 7300668; omega)⟩ (fun H locs hO => ?_)
        refine lv_if_ne (tgt := 327) C.1 C.2.1 dL_law_321 (by decide) (fun c_2 => ?_) (fun c_2 => ?_)
        · obtain ⟨i9, hpo9⟩ : ∃ i, s_po S (nI o24) = some i := Option.ne_none_iff_exists'.mp (fun q => c_2 (if_pos q))
          obtain ⟨hpp9, hi9, hof9⟩ := po_some hpo9
          refine gInc (j := (pf (s_off S) (nI o24) (s_n S))) (k := 10) (lv' := [(10, .int (nI ((pf (s_off S) (nI o24) (s_n S)) + 1))), (0, .ref bs), (1, .ref (a 0)), (2, .ref o), (3, .int (nI t)), (4, .int x), (5, .int (nI (s_n S))), (6, .int (nI z0)), (7, .int (s_first S)), (8, .int (nI (s_sh S))), (9, .int (nI (s_n S))), (11, .int (nI o24))]) C.1 C.2.1 dL_law_327 hl rfl (by decide) rfl (fun ls hl => ?_)
          refine lv_aload_n C.1 C.2.1 dL_law_330 rfl (lv_at hl 2 rfl) ?_
          refine lv_iload C.1 C.2.1 dL_law_331 (lv_at hl 11 rfl) ?_
          refine gXCall_i (mc := 1) (ms := 6) (As := [.int (nI o24)]) (rest := []) C hO (c_X2_stormAt l E a S mk rk rv (sW E o d S F) (nI o24) hst hI) (cwV 1 C.2.2.2.2.1 gL_law_X2_stormAt rfl rfl rfl (by decide +kernel) ⟨(Nat.le_of_ble_eq_true rfl), (Nat.le_of_ble_eq_true rfl)⟩) (va_recv C.2.2.2.2.2.2.2.1.1 hO.1 (ci := 2) (q0 := 0) rfl rfl) rfl hl.1 rfl (Nat.le_of_ble_eq_true rfl) dL_law_333 ⟨(by show nc + 3 * pf (s_off S) (nI o24) (s_n S) + 0 + 1 ≤ 600172; omega), (by show ns + 18 * pf (s_off S) (nI o24) (s_n S) + 0 + 6 ≤ 7300668; omega)⟩ (fun E0 ce q9 H locs hO hcell hcv hcl hbad => ?_) (fun H locs hO _ => ?_)
          · exact absurd hbad.2 (show s_po S (nI o24) ≠ none by rw [hpo9]; exact fun q => by cases q)
          refine lv_eqi (y := s_sto S i9) (s_ka_some hpo9 _) ?_
          refine lv_istore (lv' := [(12, .int (s_sto S i9)), (10, .int (nI ((pf (s_off S) (nI o24) (s_n S)) + 1))), (0, .ref bs), (1, .ref (a 0)), (2, .ref o), (3, .int (nI t)), (4, .int x), (5, .int (nI (s_n S))), (6, .int (nI z0)), (7, .int (s_first S)), (8, .int (nI (s_sh S))), (9, .int (nI (s_n S))), (11, .int (nI o24))]) C.1 C.2.1 dL_law_336 hl (by decide) rfl (fun ls hl => ?_)
          refine lv_iload C.1 C.2.1 dL_law_338 (lv_at hl 12 rfl) ?_
          refine lv_iload C.1 C.2.1 dL_law_340 (lv_at hl 9 rfl) ?_
          refine lv_icmp_lt (tgt := 375) C.1 C.2.1 dL_law_342 (by decide) (fun c_4 => ?_) (fun c_4 => ?_)
          · exact absurd c_4 (by rw [← hof9]; exact first_le hlg hi9)
          · refine lv_aload_n C.1 C.2.1 dL_law_345 rfl (lv_at hl 3 rfl) ?_
            refine lv_aload_n C.1 C.2.1 dL_law_346 rfl (lv_at hl 3 rfl) ?_
            refine lv_iload C.1 C.2.1 dL_law_347 (lv_at hl 12 rfl) ?_
            refine gXCall_i (mc := 1) (ms := 6) (As := [.int (nI o24)]) (rest := [.ref (a 0)]) C hO (c_X2_keyAt l E a S mk rk rv (sW E o d S F) (nI o24) hst hI) (cwV 1 C.2.2.2.2.1 gL_law_X2_keyAt rfl rfl rfl (by decide +kernel) ⟨(Nat.le_of_ble_eq_true rfl), (Nat.le_of_ble_eq_true rfl)⟩) (va_recv C.2.2.2.2.2.2.2.1.1 hO.1 (ci := 2) (q0 := 0) rfl rfl) rfl hl.1 rfl (Nat.le_of_ble_eq_true rfl) dL_law_349 ⟨(by show nc + 3 * pf (s_off S) (nI o24) (s_n S) + 0 + 1 + 1 ≤ 600172; omega), (by show ns + 18 * pf (s_off S) (nI o24) (s_n S) + 0 + 6 + 6 ≤ 7300668; omega)⟩ (fun E0 ce q9 H locs hO hcell hcv hcl hbad => ?_) (fun H locs hO _ => ?_)
            · exact absurd hbad.2 (show s_po S (nI o24) ≠ none by rw [hpo9]; exact fun q => by cases q)
            refine lv_eqi (y := s_key S i9) (s_ka_some hpo9 _) ?_
            refine gXCall_i (mc := 1) (ms := 6) (As := [.int (s_key S i9)]) (rest := []) C hO (c_X2_latestOf l E a S mk rk rv (sW E o d S F) (s_key S i9) hst hI) (cwV 1 C.2.2.2.2.1 gL_law_X2_latestOf rfl rfl rfl (by decide +kernel) ⟨(Nat.le_of_ble_eq_true rfl), (Nat.le_of_ble_eq_true rfl)⟩) (va_recv C.2.2.2.2.2.2.2.1.1 hO.1 (ci := 2) (q0 := 0) rfl rfl) rfl hl.1 rfl (Nat.le_of_ble_eq_true rfl) dL_law_352 ⟨(by show nc + 3 * pf (s_off S) (nI o24) (s_n S) + 0 + 1 + 1 + 1 ≤ 600172; omega), (by show ns + 18 * pf (s_off S) (nI o24) (s_n S) + 0 + 6 + 6 + 6 ≤ 7300668; omega)⟩ (fun E0 ce q9 H locs hO hcell hcv hcl hbad => ?_) (fun H locs hO _ => ?_)
            · exact absurd (show okKey (s_key S i9) from by rw [(hok9 i9 hi9).2]; exact okKey_nI (hok9 i9 hi9).1) hbad.2
            refine lv_iload C.1 C.2.1 dL_law_355 (lv_at hl 12 rfl) ?_
            refine lv_icmp_lt (tgt := 375) C.1 C.2.1 dL_law_357 (by decide) (fun c_7 => ?_) (fun c_7 => ?_)
            · exact absurd c_7 (by rw [← hof9]; exact lo_ge hlg hi9)
            · refine lv_iload C.1 C.2.1 dL_law_360 (lv_at hl 0 rfl) ?_
              refine lv_iconst (v := (-1)) C.1 C.2.1 dL_law_362 (by decide) ?_
              refine lv_icmp_lt (tgt := 375) C.1 C.2.1 dL_law_363 (by decide) (fun c_8 => ?_) (fun c_8 => ?_)
              · exact absurd c_8 (by rcases hxI.2.2.2.2.1 i9 hi9 with q | ⟨t9, q1, q2⟩; (rw [q]; decide); (rw [q2, Int32.lt_iff_toInt_lt, nI_toInt (by omega), show (-1 : Int32).toInt = -1 from rfl]; omega))
              · refine lv_iload C.1 C.2.1 dL_law_366 (lv_at hl 0 rfl) ?_
                refine lv_aload_n C.1 C.2.1 dL_law_368 rfl (lv_at hl 3 rfl) ?_
                refine gCall_i (mc := 0) (ms := 0) (As := []) (rest := [.int (s_sto S i9)]) C hO (c_X2_storms l E a S mk rk rv (sW E o d S F)  hI) (cwV 0 C.2.2.2.2.1 gL_law_X2_storms rfl rfl rfl (by decide +kernel) ⟨(Nat.le_of_ble_eq_true rfl), (Nat.le_of_ble_eq_true rfl)⟩) (va_recv C.2.2.2.2.2.2.2.1.1 hO.1 (ci := 2) (q0 := 0) rfl rfl) rfl hl.1 rfl (Nat.le_of_ble_eq_true rfl) dL_law_369 ⟨(by show nc + 3 * pf (s_off S) (nI o24) (s_n S) + 0 + 1 + 1 + 1 + 0 ≤ 600172; omega), (by show ns + 18 * pf (s_off S) (nI o24) (s_n S) + 0 + 6 + 6 + 6 + 0 ≤ 7300668; omega)⟩ (fun H locs hO => ?_)
                refine lv_icmp_lt (tgt := 377) C.1 C.2.1 dL_law_372 (by decide) (fun c_9 => ?_) (fun c_9 => ?_)
                · have hl : lv_has ls 21 [(10, .int (nI ((pf (s_off S) (nI o24) (s_n S)) + 1))), (0, .ref bs), (1, .ref (a 0)), (2, .ref o), (3, .int (nI t)), (4, .int x), (5, .int (nI (s_n S))), (6, .int (nI z0)), (7, .int (s_first S)), (8, .int (nI (s_sh S))), (9, .int (nI (s_n S))), (11, .int (nI o24))] := lv_sub hl [1, 2, 3, 4, 5, 6, 7, 8, 9, 10, 11, 12] rfl
                  have hpf9 := pf_hit hlg (by omega) hpo9
                  have hl : lv_has ls 21 [(10, .int (nI (pf (s_off S) (nI (o24 + 1)) (s_n S)))), (0, .ref bs), (1, .ref (a 0)), (2, .ref o), (3, .int (nI t)), (4, .int x), (5, .int (nI (s_n S))), (6, .int (nI z0)), (7, .int (s_first S)), (8, .int (nI (s_sh S))), (9, .int (nI (s_n S))), (11, .int (nI o24))] := by rw [hpf9]; exact hl
                  refine gInc (j := o24) (k := 11) (lv' := [(11, .int (nI (o24 + 1))), (10, .int (nI (pf (s_off S) (nI (o24 + 1)) (s_n S)))), (0, .ref bs), (1, .ref (a 0)), (2, .ref o), (3, .int (nI t)), (4, .int x), (5, .int (nI (s_n S))), (6, .int (nI z0)), (7, .int (s_first S)), (8, .int (nI (s_sh S))), (9, .int (nI (s_n S)))]) C.1 C.2.1 dL_law_377 hl rfl (by decide) rfl (fun ls hl => ?_)
                  refine lv_goto (tgt := 308) C.1 C.2.1 dL_law_380 (by decide) ?_
                  refine W.widen (k := nc + 3 * pf (s_off S) (nI (o24 + 1)) (s_n S)) (n := ns + 18 * pf (s_off S) (nI (o24 + 1)) (s_n S)) (by omega) (by omega) ?_
                  exact ih_lp308 (o24 + 1) (by omega) (by omega) _ _ hO _ (lv_sub hl [2, 3, 4, 5, 6, 7, 8, 9, 10, 11, 1, 0] rfl)
                · exact absurd (by rcases hxI.2.2.2.2.1 i9 hi9 with q | ⟨t9, q1, q2⟩; (rw [q, Int32.lt_iff_toInt_lt, nI_toInt (by omega), show (-1 : Int32).toInt = -1 from rfl]; omega); (rw [q2]; exact (nI_ltI (by omega) (by omega)).mpr q1)) c_9
        · have hpo9 : s_po S (nI o24) = none := Classical.byContradiction (fun q => absurd ((if_neg q).symm.trans c_2) (by decide))
          refine lv_goto (tgt := 377) C.1 C.2.1 dL_law_324 (by decide) ?_
          have hpf9 := pf_skip hlg (by omega) hpo9
          have hl : lv_has ls 21 [(0, .ref bs), (1, .ref (a 0)), (2, .ref o), (3, .int (nI t)), (4, .int x), (5, .int (nI (s_n S))), (6, .int (nI z0)), (7, .int (s_first S)), (8, .int (nI (s_sh S))), (9, .int (nI (s_n S))), (10, .int (nI (pf (s_off S) (nI (o24 + 1)) (s_n S)))), (11, .int (nI o24))] := by rw [hpf9]; exact hl
          refine gInc (j := o24) (k := 11) (lv' := [(11, .int (nI (o24 + 1))), (0, .ref bs), (1, .ref (a 0)), (2, .ref o), (3, .int (nI t)), (4, .int x), (5, .int (nI (s_n S))), (6, .int (nI z0)), (7, .int (s_first S)), (8, .int (nI (s_sh S))), (9, .int (nI (s_n S))), (10, .int (nI (pf (s_off S) (nI (o24 + 1)) (s_n S))))]) C.1 C.2.1 dL_law_377 hl rfl (by decide) rfl (fun ls hl => ?_)
          refine lv_goto (tgt := 308) C.1 C.2.1 dL_law_380 (by decide) ?_
          refine W.widen (k := nc + 3 * pf (s_off S) (nI (o24 + 1)) (s_n S)) (n := ns + 18 * pf (s_off S) (nI (o24 + 1)) (s_n S)) (by omega) (by omega) ?_
          exact ih_lp308 (o24 + 1) (by omega) (by omega) _ _ hO _ (lv_sub hl [1, 2, 3, 4, 5, 6, 7, 8, 9, 10, 11, 0] rfl)
  refine W.widen (k := nc + 3 * pf (s_off S) (nI 0) (s_n S)) (n := ns + 18 * pf (s_off S) (nI 0) (s_n S)) (by omega) (by omega) ?_
  exact lp308 (z0 + 1) 0 (by omega) (Nat.zero_le _) _ _ hO _ (lv_sub hl [2, 3, 4, 5, 6, 7, 8, 9, 10, 11, 1, 0] rfl)
end LC
