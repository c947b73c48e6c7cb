section AC
variable {p : Program} {l : Launch} {e : Env} {s : State} {m : MethodId} {args : Array Value} {below : List Frame} {meth : Method} {c : Code} {H : Heap} {locs : List Loc} {E : gE} {A : Nat → Prop}
variable {a : Nat → Nat} {o : Nat} {d : Dt} {S : St} {mk rk rv : Nat → Int32} {F : va_W} {B : Int} {x : Int32} {ls : Array Slot}
set_option maxHeartbeats 4000000 in
set_option maxRecDepth 100000 in
theorem act_344 (hst : l.stackTraces = false) (hJ : J9 S B) (hB : B + 48 < 2147480000) (hR : Rep E d S) (C : gCx p s m args meth c cL_act 17 wsL_act RL (some .boolean) E A) (hO : gO E A s (sW E o d S ((xW E a S mk rk rv) ++ F)) H locs) (hl : lv_has ls 17 [(4, .int (nI (s_sc S))), (3, .int (nI (s_sh S))), (0, .ref (a 0)), (1, .ref o), (2, .int x)]) : W p l e aR s m args below meth c H locs 0 0 (MQ below (gQe E A (aP E (B + 48)) (aW E o a F)) args s 200 6000 A) (F0 m 344 ls []) := by
  have hI : s_inv S := hJ.1.inv
  obtain ⟨hn, hsh, hsc, hOn, hOb, hok9, hpc9, hp0⟩ := id hI
  have hsr : s_srt S := hJ.1.1.srt
  obtain ⟨z0, hz0, ez0, hzB⟩ := nx_of hJ.1 (by omega)
  have iX3 : ∀ w ∈ u_ws RX3 TX3 7, w ∈ wsL_act := by decide +kernel
  have w41 : Cond.fieldLink RL 41 "ParrotLogLaw$Sim" "isOn" "Z" ∈ wsL_act := by decide +kernel
  have w52 : Cond.fieldLink RL 52 "ParrotLogLaw$Sim" "log" "[[I" ∈ wsL_act := by decide +kernel
  refine lv_aload_n C.1 C.2.1 dL_act_344 rfl (lv_at hl 3 rfl) ?_
  refine gGet (v := .int (s_on S)) (ref := RX3) (Cn := RX3) (T := TX3) (N := 7) C iX3 hO 0 rfl rfl 3 (by decide) w41 (fun _ h9 => h9) rfl dL_act_345 ?_
  refine lv_if_ne (tgt := 356) C.1 C.2.1 dL_act_348 (by decide) (fun c_1 => ?_) (fun c_1 => ?_)
  · refine lv_iconst (v := 1) C.1 C.2.1 dL_act_356 (by decide) ?_
    exact gRe (S, d, mk, rk, rv) C hO rfl (⟨rfl, hJ.mono (by omega), hR⟩) dL_act_357 (Nat.le_of_ble_eq_true rfl) (Nat.le_of_ble_eq_true rfl)
  · have hon9 : s_on S = 0 := c_1
    refine lv_iload C.1 C.2.1 dL_act_351 (lv_at hl 0 rfl) ?_
    refine lv_if_ne (tgt := 358) C.1 C.2.1 dL_act_353 (by decide) (fun c_2 => ?_) (fun c_2 => ?_)
    · have hz9 : ¬ s_sc S = 0 := fun g => c_2 (by rw [g]; rfl)
      refine lv_iload_n C.1 C.2.1 dL_act_358 rfl (lv_at hl 4 rfl) ?_
      refine lv_iconst (v := nI 2) C.1 C.2.1 dL_act_359 (by decide) ?_
      refine lv_ishr C.1 C.2.1 dL_act_360 ?_
      refine lv_iload C.1 C.2.1 dL_act_361 (lv_at hl 0 rfl) ?_
      refine gCallS_i (mc := 0) (ms := 0) (As := [.int (x >>> ((nI 2) &&& 31)), .int (nI (s_sc S))]) (rest := []) C hO (c_L_below l E (sW E o d S ((xW E a S mk rk rv) ++ F)) (x >>> ((nI 2) &&& 31)) (nI (s_sc S)) (fun q => by have h9 := (nI_eq (b := 0) (by omega) (by omega)).mp q; omega)) (cwS 2 C.2.2.2.2.1 gL_act_L_below rfl rfl rfl (by decide +kernel) ⟨(Nat.le_of_ble_eq_true rfl), (Nat.le_of_ble_eq_true rfl)⟩) rfl hl.1 rfl (Nat.le_of_ble_eq_true rfl) dL_act_363 ⟨(Nat.le_of_ble_eq_true rfl), (Nat.le_of_ble_eq_true rfl)⟩ (fun H locs hO => ?_)
      obtain ⟨j1, hj1, ej1⟩ := bw_lt (x >>> ((nI 2) &&& 31)) (z := (s_sc S)) (by omega) (by omega)
      refine lv_eqi (y := nI j1) ej1 ?_
      refine lv_istore (lv' := [(9, .int (nI j1)), (4, .int (nI (s_sc S))), (3, .int (nI (s_sh S))), (0, .ref (a 0)), (1, .ref o), (2, .int x)]) C.1 C.2.1 dL_act_366 hl (by decide) rfl (fun ls hl => ?_)
      refine lv_aload_n C.1 C.2.1 dL_act_368 rfl (lv_at hl 4 rfl) ?_
      refine gGet (v := .ref (d_1 d)) (ref := RX3) (Cn := RX3) (T := TX3) (N := 7) C iX3 hO 0 rfl rfl 4 (by decide) w52 (fun _ h9 => h9) rfl dL_act_369 ?_
      refine lv_astore (lv' := [(10, .ref (d_1 d)), (9, .int (nI j1)), (4, .int (nI (s_sc S))), (3, .int (nI (s_sh S))), (0, .ref (a 0)), (1, .ref o), (2, .int x)]) C.1 C.2.1 dL_act_372 hl (by decide) rfl (fun ls hl => ?_)
      refine lv_iconst (v := 0) C.1 C.2.1 dL_act_374 (by decide) ?_
      refine lv_istore (lv' := [(11, .int 0), (10, .ref (d_1 d)), (9, .int (nI j1)), (4, .int (nI (s_sc S))), (3, .int (nI (s_sh S))), (0, .ref (a 0)), (1, .ref o), (2, .int x)]) C.1 C.2.1 dL_act_375 hl (by decide) rfl (fun ls hl => ?_)
      refine lv_aload C.1 C.2.1 dL_act_377 (lv_at hl 1 rfl) ?_
      refine lv_astore (lv' := [(12, .ref (d_1 d)), (11, .int 0), (10, .ref (d_1 d)), (9, .int (nI j1)), (4, .int (nI (s_sc S))), (3, .int (nI (s_sh S))), (0, .ref (a 0)), (1, .ref o), (2, .int x)]) C.1 C.2.1 dL_act_379 hl (by decide) rfl (fun ls hl => ?_)
      refine lv_aload C.1 C.2.1 dL_act_381 (lv_at hl 0 rfl) ?_
      refine va_alen (v := nI (s_n S)) C.1 C.2.1 C.2.2.2.2.2.2.2.1.1 hO.1 1 3 rfl rfl rfl dL_act_383 ?_
      refine lv_istore (lv' := [(13, .int (nI (s_n S))), (12, .ref (d_1 d)), (11, .int 0), (10, .ref (d_1 d)), (9, .int (nI j1)), (4, .int (nI (s_sc S))), (3, .int (nI (s_sh S))), (0, .ref (a 0)), (1, .ref o), (2, .int x)]) C.1 C.2.1 dL_act_384 hl (by decide) rfl (fun ls hl => ?_)
      refine lv_iconst (v := 0) C.1 C.2.1 dL_act_386 (by decide) ?_
      refine lv_istore (lv' := [(14, .int 0), (13, .int (nI (s_n S))), (12, .ref (d_1 d)), (11, .int (nI (cnt (s_sto S) (nI j1) 0))), (10, .ref (d_1 d)), (9, .int (nI j1)), (4, .int (nI (s_sc S))), (3, .int (nI (s_sh S))), (0, .ref (a 0)), (1, .ref o), (2, .int x)]) C.1 C.2.1 dL_act_387 hl (by decide) rfl (fun ls hl => ?_)
      have lp389 : ∀ (f : Nat) (k24 : Nat) (d24 : Dt), (s_n S + 1 ≤ k24 + f) → (k24 ≤ s_n S) → (Rep E d24 (S_rp S (s_rk S (nI j1)) (s_rv S (nI j1)) (cnt (s_sto S) (nI j1) k24))) → (∀ x ∈ d_p d, x ∈ d_p d24) → ((d_1 d, (.inl (eL E, s_n S, .inr (.inr (.inr (.inr (d_l d))))) : va_E)) = (d_1 d24, (.inl (eL E, s_n (S_rp S (s_rk S (nI j1)) (s_rv S (nI j1)) (cnt (s_sto S) (nI j1) k24)), .inr (.inr (.inr (.inr (d_l d24))))) : va_E)) ∨ (d_1 d, (.inl (eL E, s_n S, .inr (.inr (.inr (.inr (d_l d))))) : va_E)) ∈ d_p d24) → ∀ (H : Heap) (locs : List Loc), gO E A s (sW E o d24 (S_rp S (s_rk S (nI j1)) (s_rv S (nI j1)) (cnt (s_sto S) (nI j1) k24)) ((xW E a S mk rk rv) ++ F)) H locs → ∀ ls : Array Slot, lv_has ls 17 [(0, .ref (a 0)), (1, .ref o), (9, .int (nI j1)), (11, .int (nI (cnt (s_sto S) (nI j1) k24))), (12, .ref (d_1 d)), (13, .int (nI (s_n S))), (14, .int (nI k24))] → W p l e aR s m args below meth c H locs (3 * k24) (100 * k24) (MQ below (gQe E A (aP E (B + 48)) (aW E o a F)) args s 200 6000 A) (F0 m 389 ls []) := by
        intro f
        induction f with
        | zero =>
          intro k24 d24 hf hk24 hR24 hp24 ho24
          exact absurd hf (by omega)
        | succ f ih_lp389 =>
          intro k24 d24 hf hk24 hR24 hp24 ho24 H locs hO ls hl
          refine lv_iload C.1 C.2.1 dL_act_389 (lv_at hl 6 rfl) ?_
          refine lv_iload C.1 C.2.1 dL_act_391 (lv_at hl 5 rfl) ?_
          refine gGeN (x := k24) (y := (s_n S)) (tgt := 437) C.1 C.2.1 (by omega) (by omega) dL_act_393 (by decide) (fun c_3 => ?_) (fun c_3 => ?_)
          · have hke9 : k24 = s_n S := by omega
            rw [hke9] at hR24 hO hl
            have hR24 : Rep E d24 (S_rpl S (nI j1)) := hR24
            have hO : gO E A s (sW E o d24 (S_rpl S (nI j1)) (xW E a S mk rk rv ++ F)) H locs := hO
            refine lv_aload_n C.1 C.2.1 dL_act_437 rfl (lv_at hl 0 rfl) ?_
            refine lv_iload C.1 C.2.1 dL_act_438 (lv_at hl 2 rfl) ?_
            have hO : gO E A s ((xW E a S mk rk rv) ++ (sW E o d24 (S_rpl S (nI j1)) F)) H locs := gO.sx hO
            refine gXCall_i (mc := 2) (ms := 12) (As := [.int (nI j1)]) (rest := []) C hO (c_X2_replay l E a S mk rk rv (sW E o d24 (S_rpl S (nI j1)) F) (nI j1) hst hI) (cwV 1 C.2.2.2.2.1 gL_act_X2_replay rfl rfl rfl (by decide +kernel) ⟨(Nat.le_of_ble_eq_true rfl), (Nat.le_of_ble_eq_true rfl)⟩) (va_recv C.2.2.2.2.2.2.2.1.1 hO.1 (ci := 2) (q0 := 0) rfl rfl) rfl hl.1 rfl (Nat.le_of_ble_eq_true rfl) dL_act_440 ⟨(by show 3 * k24 + 2 ≤ 200; omega), (by show 100 * k24 + 12 ≤ 6000; omega)⟩ (fun E0 ce q9 H locs hO hcell hcv hcl hbad => ?_) (fun H locs hO _ => ?_)
            · exact hbad.elim (fun q => absurd (okStorm_nI hsc hj1) q.2) (fun q => absurd hon9 q.2.2)
            have hO : gO E A s (sW E o d24 (S_rpl S (nI j1)) ((xW E a (S_rpl S (nI j1)) (mk_rpl S (nI j1) mk) (flF (s_key S) (s_sto S) (nI j1) rk (s_n S)) (flF (s_val S) (s_sto S) (nI j1) rv (s_n S))) ++ F)) H locs := gO.xs hO
            refine lv_iload C.1 C.2.1 dL_act_443 (lv_at hl 3 rfl) ?_
            refine lv_icmp_ne (tgt := 452) C.1 C.2.1 dL_act_445 (by decide) (fun c_5 => ?_) (fun c_5 => ?_)
            · exact absurd rfl c_5
            · refine lv_iconst (v := 1) C.1 C.2.1 dL_act_448 (by decide) ?_
              refine lv_goto (tgt := 453) C.1 C.2.1 dL_act_449 (by decide) ?_
              exact gRe ((S_rpl S (nI j1)), d24, (mk_rpl S (nI j1) mk), (flF (s_key S) (s_sto S) (nI j1) rk (s_n S)), (flF (s_val S) (s_sto S) (nI j1) rv (s_n S))) C hO rfl (⟨rfl, hJ.rpl (by omega) (nI j1), hR24⟩) dL_act_453 (by omega) (by omega)
          · have hcm9 := cnt_mono (s_sto S) (nI j1) (s_n S) (show k24 ≤ s_n S from hk24)
            have hcl9 := cnt_le (s_sto S) (nI j1) (s_n S)
            have hck9 := cnt_le (s_sto S) (nI j1) k24
            have hJ24 := hJ.rp (s_rk S (nI j1)) (s_rv S (nI j1)) (cnt (s_sto S) (nI j1) k24) (fun i hi => hJ.1.rk (nI j1) i (by omega)) (by omega)
            refine lv_aload C.1 C.2.1 dL_act_396 (lv_at hl 4 rfl) ?_
            refine lv_iload C.1 C.2.1 dL_act_398 (lv_at hl 6 rfl) ?_
            have ha_7m : ((d_1 d, .inl (eL E, s_n S, .inr (.inr (.inr (.inr (d_l d)))))) : Nat × va_E) ∈ (sW E o d24 (S_rp S (s_rk S (nI j1)) (s_rv S (nI j1)) (cnt (s_sto S) (nI j1) k24)) ((xW E a S mk rk rv) ++ F)) := ho24.elim (fun h => by rw [h]; exact .tail _ (.head _)) (fun h => sW_mem h)
            obtain ⟨p_6, ha_7⟩ := List.getElem?_of_mem ha_7m
            obtain ⟨q_r, f_r, hq_r, hm_r, e0_r, e1_r, e2_r, e3_r⟩ := hR.1 k24 (by omega)
            refine gAaldA (v := q_r) (j := k24) C hO p_6 ha_7 (by omega) (by omega) hq_r dL_act_400 ?_
            refine lv_astore (lv' := [(15, .ref q_r), (0, .ref (a 0)), (1, .ref o), (9, .int (nI j1)), (11, .int (nI (cnt (s_sto S) (nI j1) k24))), (12, .ref (d_1 d)), (13, .int (nI (s_n S))), (14, .int (nI k24))]) C.1 C.2.1 dL_act_401 hl (by decide) rfl (fun ls hl => ?_)
            refine lv_aload C.1 C.2.1 dL_act_403 (lv_at hl 0 rfl) ?_
            refine lv_iconst (v := nI 3) C.1 C.2.1 dL_act_405 (by decide) ?_
            have ha_9m : (q_r, (.inl (eI E, 4, .inl f_r) : va_E)) ∈ (sW E o d24 (S_rp S (s_rk S (nI j1)) (s_rv S (nI j1)) (cnt (s_sto S) (nI j1) k24)) ((xW E a S mk rk rv) ++ F)) := sR_mem (pl_mem (hp24 _ hm_r))
            obtain ⟨p_8, ha_9⟩ := List.getElem?_of_mem ha_9m
            refine gIald (v := s_sto S k24) (j := 3) C hO p_8 ha_9 (by decide) (by first | decide | omega | (show s_sc S ≤ 100; omega)) e3_r dL_act_406 ?_
            refine lv_iload C.1 C.2.1 dL_act_407 (lv_at hl 3 rfl) ?_
            refine lv_icmp_eq (tgt := 415) C.1 C.2.1 dL_act_409 (by decide) (fun c_10 => ?_) (fun c_10 => ?_)
            · have heq9 : s_sto S k24 = nI j1 := c_10
              refine lv_aload_n C.1 C.2.1 dL_act_415 rfl (lv_at hl 2 rfl) ?_
              refine lv_aload C.1 C.2.1 dL_act_416 (lv_at hl 0 rfl) ?_
              refine lv_iconst (v := 1) C.1 C.2.1 dL_act_418 (by decide) ?_
              have ha_12m : (q_r, (.inl (eI E, 4, .inl f_r) : va_E)) ∈ (sW E o d24 (S_rp S (s_rk S (nI j1)) (s_rv S (nI j1)) (cnt (s_sto S) (nI j1) k24)) ((xW E a S mk rk rv) ++ F)) := sR_mem (pl_mem (hp24 _ hm_r))
              obtain ⟨p_11, ha_12⟩ := List.getElem?_of_mem ha_12m
              refine gIald (v := s_key S k24) (j := 1) C hO p_11 ha_12 (by decide) (by first | decide | omega | (show s_sc S ≤ 100; omega)) e1_r dL_act_419 ?_
              refine lv_aload C.1 C.2.1 dL_act_420 (lv_at hl 0 rfl) ?_
              refine lv_iconst (v := nI 2) C.1 C.2.1 dL_act_422 (by decide) ?_
              have ha_14m : (q_r, (.inl (eI E, 4, .inl f_r) : va_E)) ∈ (sW E o d24 (S_rp S (s_rk S (nI j1)) (s_rv S (nI j1)) (cnt (s_sto S) (nI j1) k24)) ((xW E a S mk rk rv) ++ F)) := sR_mem (pl_mem (hp24 _ hm_r))
              obtain ⟨p_13, ha_14⟩ := List.getElem?_of_mem ha_14m
              refine gIald (v := s_val S k24) (j := 2) C hO p_13 ha_14 (by decide) (by first | decide | omega | (show s_sc S ≤ 100; omega)) e2_r dL_act_423 ?_
              refine gCall_e (mc := 3) (ms := 100) (As := [.int (s_key S k24), .int (s_val S k24)]) (rest := []) C hO (c_X3_say l E o d24 (S_rp S (s_rk S (nI j1)) (s_rv S (nI j1)) (cnt (s_sto S) (nI j1) k24)) ((xW E a S mk rk rv) ++ F) (s_key S k24) (s_val S k24) hR24 hJ24.1.inv hJ24.1.1.srt) (cwV 2 C.2.2.2.2.1 gL_act_X3_say rfl rfl rfl (by decide +kernel) ⟨(Nat.le_of_ble_eq_true rfl), (Nat.le_of_ble_eq_true rfl)⟩) (va_recv C.2.2.2.2.2.2.2.1.1 hO.1 (ci := 3) (q0 := 0) rfl rfl) rfl hl.1 rfl (Nat.le_of_ble_eq_true rfl) dL_act_424 ⟨(by show 3 * k24 + 3 ≤ 200; omega), (by show 100 * k24 + 100 ≤ 6000; omega)⟩ (fun r25 d25 H locs ⟨hr25, hR25, hp25, ho25⟩ hO => ?_)
              refine lv_pop C.1 C.2.1 dL_act_427 rfl ?_
              refine gInc (j := (cnt (s_sto S) (nI j1) k24)) (k := 4) (lv' := [(11, .int (nI ((cnt (s_sto S) (nI j1) k24) + 1))), (15, .ref q_r), (0, .ref (a 0)), (1, .ref o), (9, .int (nI j1)), (12, .ref (d_1 d)), (13, .int (nI (s_n S))), (14, .int (nI k24))]) C.1 C.2.1 dL_act_428 hl rfl (by decide) rfl (fun ls hl => ?_)
              have hl : lv_has ls 17 [(11, .int (nI ((cnt (s_sto S) (nI j1) k24) + 1))), (0, .ref (a 0)), (1, .ref o), (9, .int (nI j1)), (12, .ref (d_1 d)), (13, .int (nI (s_n S))), (14, .int (nI k24))] := lv_sub hl [0, 2, 3, 4, 5, 6, 7] rfl
              have hct9 : cnt (s_sto S) (nI j1) (k24 + 1) = cnt (s_sto S) (nI j1) k24 + 1 := cnt_s1 heq9
              have hl : lv_has ls 17 [(11, .int (nI (cnt (s_sto S) (nI j1) (k24 + 1)))), (0, .ref (a 0)), (1, .ref o), (9, .int (nI j1)), (12, .ref (d_1 d)), (13, .int (nI (s_n S))), (14, .int (nI k24))] := by rw [hct9]; exact hl
              rw [rp_next (by omega) heq9] at hO
              refine gInc (j := k24) (k := 6) (lv' := [(14, .int (nI (k24 + 1))), (11, .int (nI (cnt (s_sto S) (nI j1) (k24 + 1)))), (0, .ref (a 0)), (1, .ref o), (9, .int (nI j1)), (12, .ref (d_1 d)), (13, .int (nI (s_n S)))]) C.1 C.2.1 dL_act_431 hl rfl (by decide) rfl (fun ls hl => ?_)
              refine lv_goto (tgt := 389) C.1 C.2.1 dL_act_434 (by decide) ?_
              refine W.widen (k := 3 * (k24 + 1)) (n := 100 * (k24 + 1)) (by omega) (by omega) ?_
              exact ih_lp389 (k24 + 1) d25 (by omega) (by omega) (by rw [← rp_next (by omega) heq9]; exact hR25) (fun x hx => hp25 x (hp24 x hx)) (Or.inr (ho24.elim (fun h => h ▸ ho25) (fun h => hp25 _ h))) _ _ hO _ (lv_sub hl [2, 3, 4, 1, 5, 6, 0] rfl)
            · have heq9 : ¬ s_sto S k24 = nI j1 := c_10
              refine lv_goto (tgt := 431) C.1 C.2.1 dL_act_412 (by decide) ?_
              have hl : lv_has ls 17 [(0, .ref (a 0)), (1, .ref o), (9, .int (nI j1)), (11, .int (nI (cnt (s_sto S) (nI j1) k24))), (12, .ref (d_1 d)), (13, .int (nI (s_n S))), (14, .int (nI k24))] := lv_sub hl [1, 2, 3, 4, 5, 6, 7] rfl
              have hct9 : cnt (s_sto S) (nI j1) (k24 + 1) = cnt (s_sto S) (nI j1) k24 := cnt_s0 heq9
              have hl : lv_has ls 17 [(0, .ref (a 0)), (1, .ref o), (9, .int (nI j1)), (11, .int (nI (cnt (s_sto S) (nI j1) (k24 + 1)))), (12, .ref (d_1 d)), (13, .int (nI (s_n S))), (14, .int (nI k24))] := by rw [hct9]; exact hl
              rw [← cnt_s0 heq9] at hO
              refine gInc (j := k24) (k := 6) (lv' := [(14, .int (nI (k24 + 1))), (0, .ref (a 0)), (1, .ref o), (9, .int (nI j1)), (11, .int (nI (cnt (s_sto S) (nI j1) (k24 + 1)))), (12, .ref (d_1 d)), (13, .int (nI (s_n S)))]) C.1 C.2.1 dL_act_431 hl rfl (by decide) rfl (fun ls hl => ?_)
              refine lv_goto (tgt := 389) C.1 C.2.1 dL_act_434 (by decide) ?_
              refine W.widen (k := 3 * (k24 + 1)) (n := 100 * (k24 + 1)) (by omega) (by omega) ?_
              exact ih_lp389 (k24 + 1) d24 (by omega) (by omega) (by rw [cnt_s0 heq9]; exact hR24) hp24 (by rw [cnt_s0 heq9]; exact ho24) _ _ hO _ (lv_sub hl [1, 2, 3, 4, 5, 6, 0] rfl)
      refine W.widen (k := 3 * 0) (n := 100 * 0) (by omega) (by omega) ?_
      exact lp389 (s_n S + 1) 0 d (by omega) (Nat.zero_le _) hR (fun x hx => hx) (Or.inl rfl) _ _ hO _ (lv_sub hl [8, 9, 5, 3, 2, 1, 0] rfl)
    · refine lv_iconst (v := 1) C.1 C.2.1 dL_act_356 (by decide) ?_
      exact gRe (S, d, mk, rk, rv) C hO rfl (⟨rfl, hJ.mono (by omega), hR⟩) dL_act_357 (Nat.le_of_ble_eq_true rfl) (Nat.le_of_ble_eq_true rfl)

set_option maxHeartbeats 4000000 in
set_option maxRecDepth 100000 in
theorem act_454 (hst : l.stackTraces = false) (hJ : J9 S B) (hB : B + 48 < 2147480000) (hR : Rep E d S) (C : gCx p s m args meth c cL_act 17 wsL_act RL (some .boolean) E A) (hO : gO E A s (sW E o d S ((xW E a S mk rk rv) ++ F)) H locs) (hl : lv_has ls 17 [(4, .int (nI (s_sc S))), (3, .int (nI (s_sh S))), (0, .ref (a 0)), (1, .ref o), (2, .int x)]) : W p l e aR s m args below meth c H locs 0 0 (MQ below (gQe E A (aP E (B + 48)) (aW E o a F)) args s 200 6000 A) (F0 m 454 ls []) := by
  have hI : s_inv S := hJ.1.inv
  obtain ⟨hn, hsh, hsc, hOn, hOb, hok9, hpc9, hp0⟩ := id hI
  have hsr : s_srt S := hJ.1.1.srt
  obtain ⟨z0, hz0, ez0, hzB⟩ := nx_of hJ.1 (by omega)
  refine lv_iload_n C.1 C.2.1 dL_act_454 rfl (lv_at hl 4 rfl) ?_
  refine lv_iconst (v := nI 3) C.1 C.2.1 dL_act_455 (by decide) ?_
  refine gCallS_i (mc := 0) (ms := 0) (As := [.int x, .int (nI 3)]) (rest := []) C hO (c_L_below l E (sW E o d S ((xW E a S mk rk rv) ++ F)) x (nI 3) (by decide)) (cwS 2 C.2.2.2.2.1 gL_act_L_below rfl rfl rfl (by decide +kernel) ⟨(Nat.le_of_ble_eq_true rfl), (Nat.le_of_ble_eq_true rfl)⟩) rfl hl.1 rfl (Nat.le_of_ble_eq_true rfl) dL_act_456 ⟨(Nat.le_of_ble_eq_true rfl), (Nat.le_of_ble_eq_true rfl)⟩ (fun H locs hO => ?_)
  refine gLe0 (tgt := 464) C.1 C.2.1 dL_act_459 (by decide) (fun c_1 => ?_) (fun c_1 => ?_)
  · refine lv_aload_n C.1 C.2.1 dL_act_464 rfl (lv_at hl 2 rfl) ?_
    have hO : gO E A s ((xW E a S mk rk rv) ++ (sW E o d S F)) H locs := gO.sx hO
    refine gCall_i (mc := 0) (ms := 0) (As := []) (rest := []) C hO (c_X2_compact l E a S mk rk rv (sW E o d S F)  hI) (cwV 0 C.2.2.2.2.1 gL_act_X2_compact rfl rfl rfl (by decide +kernel) ⟨(Nat.le_of_ble_eq_true rfl), (Nat.le_of_ble_eq_true rfl)⟩) (va_recv C.2.2.2.2.2.2.2.1.1 hO.1 (ci := 2) (q0 := 0) rfl rfl) rfl hl.1 rfl (Nat.le_of_ble_eq_true rfl) dL_act_465 ⟨(Nat.le_of_ble_eq_true rfl), (Nat.le_of_ble_eq_true rfl)⟩ (fun H locs hO => ?_)
    have hO : gO E A s (sW E o d S ((xW E a (S_drop S (s_cm S)) (mkU (s_cm S) mk (s_n S)) rk rv) ++ F)) H locs := gO.xs hO
    refine lv_aload_n C.1 C.2.1 dL_act_468 rfl (lv_at hl 3 rfl) ?_
    refine gCall_e (mc := 96) (ms := 4512) (As := []) (rest := [.int (nI (s_n S - cpN (s_cm S) (s_n S)))]) C hO (c_X3_compact l E o d S ((xW E a (S_drop S (s_cm S)) (mkU (s_cm S) mk (s_n S)) rk rv) ++ F) hR hI hsr (fun i hi => Int32.lt_iff_toInt_lt.mpr (hJ.1.1.2.2.2.1 i hi).2)) (cwV 0 C.2.2.2.2.1 gL_act_X3_compact rfl rfl rfl (by decide +kernel) ⟨(Nat.le_of_ble_eq_true rfl), (Nat.le_of_ble_eq_true rfl)⟩) (va_recv C.2.2.2.2.2.2.2.1.1 hO.1 (ci := 3) (q0 := 0) rfl rfl) rfl hl.1 rfl (Nat.le_of_ble_eq_true rfl) dL_act_469 ⟨(Nat.le_of_ble_eq_true rfl), (Nat.le_of_ble_eq_true rfl)⟩ (fun r25 d25 H locs ⟨hr25, hR25⟩ hO => ?_)
    refine lv_eqi (y := nI (s_n S - cpN (s_cm S) (s_n S))) hr25 ?_
    refine lv_icmp_ne (tgt := 479) C.1 C.2.1 dL_act_472 (by decide) (fun c_2 => ?_) (fun c_2 => ?_)
    · exact absurd rfl c_2
    · refine lv_iconst (v := 1) C.1 C.2.1 dL_act_475 (by decide) ?_
      refine lv_goto (tgt := 480) C.1 C.2.1 dL_act_476 (by decide) ?_
      exact gRe ((S_drop S (s_cm S)), d25, (mkU (s_cm S) mk (s_n S)), rk, rv) C hO rfl (⟨rfl, (hJ.drop (by omega) (s_cm S)).mono (by omega), hR25⟩) dL_act_480 (Nat.le_of_ble_eq_true rfl) (Nat.le_of_ble_eq_true rfl)
  · refine lv_iconst (v := 1) C.1 C.2.1 dL_act_462 (by decide) ?_
    exact gRe (S, d, mk, rk, rv) C hO rfl (⟨rfl, hJ.mono (by omega), hR⟩) dL_act_463 (Nat.le_of_ble_eq_true rfl) (Nat.le_of_ble_eq_true rfl)
end AC
