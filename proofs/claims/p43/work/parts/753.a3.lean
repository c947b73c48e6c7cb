section AC
variable {p : Program} {l : Launch} {e : Env} {s : State} {m : MethodId} {args : Array Value} {below : List Frame} {meth : Method} {c : Code} {H : Heap} {locs : List Loc} {E : gE} {A : Nat → Prop}
variable {a : Nat → Nat} {o : Nat} {d : Dt} {S : St} {mk rk rv : Nat → Int32} {F : va_W} {B : Int} {x : Int32} {ls : Array Slot}
set_option maxHeartbeats 4000000 in
set_option maxRecDepth 100000 in
theorem act_481 (hst : l.stackTraces = false) (hJ : J9 S B) (hB : B + 48 < 2147480000) (hR : Rep E d S) (C : gCx p s m args meth c cL_act 17 wsL_act RL (some .boolean) E A) (hO : gO E A s (sW E o d S ((xW E a S mk rk rv) ++ F)) H locs) (hl : lv_has ls 17 [(4, .int (nI (s_sc S))), (3, .int (nI (s_sh S))), (0, .ref (a 0)), (1, .ref o), (2, .int x)]) : W p l e aR s m args below meth c H locs 0 0 (MQ below (gQe E A (aP E (B + 48)) (aW E o a F)) args s 200 6000 A) (F0 m 481 ls []) := by
  have hI : s_inv S := hJ.1.inv
  obtain ⟨hn, hsh, hsc, hOn, hOb, hok9, hpc9, hp0⟩ := id hI
  have hsr : s_srt S := hJ.1.1.srt
  obtain ⟨z0, hz0, ez0, hzB⟩ := nx_of hJ.1 (by omega)
  have iX3 : ∀ w ∈ u_ws RX3 TX3 7, w ∈ wsL_act := by decide +kernel
  have w25 : Cond.fieldLink RL 25 "ParrotLogLaw$Sim" "next" "I" ∈ wsL_act := by decide +kernel
  have w52 : Cond.fieldLink RL 52 "ParrotLogLaw$Sim" "log" "[[I" ∈ wsL_act := by decide +kernel
  refine lv_iload_n C.1 C.2.1 dL_act_481 rfl (lv_at hl 4 rfl) ?_
  refine lv_iconst (v := nI 2) C.1 C.2.1 dL_act_482 (by decide) ?_
  refine lv_ishr C.1 C.2.1 dL_act_483 ?_
  refine lv_aload_n C.1 C.2.1 dL_act_484 rfl (lv_at hl 3 rfl) ?_
  refine gGet (v := .int (s_nx S)) (ref := RX3) (Cn := RX3) (T := TX3) (N := 7) C iX3 hO 0 rfl rfl 1 (by decide) w25 (fun _ h9 => h9) rfl dL_act_485 ?_
  refine lv_iconst (v := 1) C.1 C.2.1 dL_act_488 (by decide) ?_
  refine lv_iadd C.1 C.2.1 dL_act_489 ?_
  refine lv_eqi (y := nI (z0 + 1)) (by rw [ez0, nI_1]) ?_
  refine gCallS_i (mc := 0) (ms := 0) (As := [.int (x >>> ((nI 2) &&& 31)), .int (nI (z0 + 1))]) (rest := []) C hO (c_L_below l E (sW E o d S ((xW E a S mk rk rv) ++ F)) (x >>> ((nI 2) &&& 31)) (nI (z0 + 1)) (fun q => by have h9 := (nI_eq (b := 0) (by omega) (by omega)).mp q; omega)) (cwS 2 C.2.2.2.2.1 gL_act_L_below rfl rfl rfl (by decide +kernel) ⟨(Nat.le_of_ble_eq_true rfl), (Nat.le_of_ble_eq_true rfl)⟩) rfl hl.1 rfl (Nat.le_of_ble_eq_true rfl) dL_act_490 ⟨(Nat.le_of_ble_eq_true rfl), (Nat.le_of_ble_eq_true rfl)⟩ (fun H locs hO => ?_)
  obtain ⟨j2, hj2, ej2⟩ := bw_lt (x >>> ((nI 2) &&& 31)) (z := (z0 + 1)) (by omega) (by omega)
  refine lv_eqi (y := nI j2) ej2 ?_
  refine lv_istore (lv' := [(12, .int (nI j2)), (4, .int (nI (s_sc S))), (3, .int (nI (s_sh S))), (0, .ref (a 0)), (1, .ref o), (2, .int x)]) C.1 C.2.1 dL_act_493 hl (by decide) rfl (fun ls hl => ?_)
  refine lv_iload_n C.1 C.2.1 dL_act_495 rfl (lv_at hl 5 rfl) ?_
  refine lv_iconst (v := nI 3) C.1 C.2.1 dL_act_496 (by decide) ?_
  refine gCallS_i (mc := 0) (ms := 0) (As := [.int x, .int (nI 3)]) (rest := []) C hO (c_L_below l E (sW E o d S ((xW E a S mk rk rv) ++ F)) x (nI 3) (by decide)) (cwS 2 C.2.2.2.2.1 gL_act_L_below rfl rfl rfl (by decide +kernel) ⟨(Nat.le_of_ble_eq_true rfl), (Nat.le_of_ble_eq_true rfl)⟩) rfl hl.1 rfl (Nat.le_of_ble_eq_true rfl) dL_act_497 ⟨(Nat.le_of_ble_eq_true rfl), (Nat.le_of_ble_eq_true rfl)⟩ (fun H locs hO => ?_)
  refine gLe0 (tgt := 505) C.1 C.2.1 dL_act_500 (by decide) (fun c_1 => ?_) (fun c_1 => ?_)
  · refine lv_iconst (v := 0) C.1 C.2.1 dL_act_505 (by decide) ?_
    refine lv_istore (lv' := [(13, .int 0), (12, .int (nI j2)), (4, .int (nI (s_sc S))), (3, .int (nI (s_sh S))), (0, .ref (a 0)), (1, .ref o), (2, .int x)]) C.1 C.2.1 dL_act_506 hl (by decide) rfl (fun ls hl => ?_)
    have lp508 : ∀ (f : Nat) (k24 : Nat) (d24 : Dt) (T24 : St) (g24 : Nat → Int32) (s24 : Nat → Nat), (s_n S + 1 ≤ k24 + f) → (s_n T24 + k24 = s_n S) → (Rep E d24 T24) → (dR S g24 T24 s24) → (∀ i, i < s_n S → (g24 i = 0 ↔ ¬ i < k24)) → (∀ i, i < k24 → s_off S i < nI j2) → ∀ (H : Heap) (locs : List Loc), gO E A s (sW E o d24 T24 ((xW E a S mk rk rv) ++ F)) H locs → ∀ ls : Array Slot, lv_has ls 17 [(0, .ref (a 0)), (1, .ref o), (12, .int (nI j2)), (13, .int (nI k24))] → W p l e aR s m args below meth c H locs k24 (47 * k24) (MQ below (gQe E A (aP E (B + 48)) (aW E o a F)) args s 200 6000 A) (F0 m 508 ls []) := by
      intro f
      induction f with
      | zero =>
        intro k24 d24 T24 g24 s24 hf hk24 hR24 hD24 hg24 hf24
        exact absurd hf (by omega)
      | succ f ih_lp508 =>
        intro k24 d24 T24 g24 s24 hf hk24 hR24 hD24 hg24 hf24 H locs hO ls hl
        have hnt8 : s_n T24 ≤ s_n S := by omega
        refine lv_aload_n C.1 C.2.1 dL_act_508 rfl (lv_at hl 1 rfl) ?_
        refine gGet (v := .ref (d_1 d24)) (ref := RX3) (Cn := RX3) (T := TX3) (N := 7) C iX3 hO 0 rfl rfl 4 (by decide) w52 (fun _ h9 => h9) rfl dL_act_509 ?_
        refine va_alen (v := nI (s_n T24)) C.1 C.2.1 C.2.2.2.2.2.2.2.1.1 hO.1 1 3 rfl rfl rfl dL_act_512 ?_
        refine gLe0 (tgt := 540) C.1 C.2.1 dL_act_513 (by decide) (fun c_2 => ?_) (fun c_2 => ?_)
        · have hn09 : s_n T24 = 0 := Nat.eq_zero_of_not_pos (fun q => c_2 ((nI_ltI (a := 0) (by omega) (by omega)).mpr q))
          have hst9 : k24 < s_n S → ¬ s_off S k24 < nI j2 := fun q => by omega
          have hge9 := trim_end hsr hg24 hf24 hst9
          obtain ⟨sgC, hC9⟩ := dR_drop hsr (gAhead (s_off S) (nI j2))
          obtain ⟨hRC, hWC⟩ := hD24.same hC9 hge9 hR24
          have hnC : s_n T24 = cpN (gAhead (s_off S) (nI j2)) (s_n S) := (hD24.uniq hC9 hge9).1
          have hO : gO E A s (sW E o d24 (S_drop S (gAhead (s_off S) (nI j2))) ((xW E a S mk rk rv) ++ F)) H locs := by rw [← hWC]; exact hO
          have hl : lv_has ls 17 [(0, .ref (a 0)), (1, .ref o), (12, .int (nI j2)), (13, .int (nI (s_n S - cpN (gAhead (s_off S) (nI j2)) (s_n S))))] := by rw [← hnC, show s_n S - s_n T24 = k24 by omega]; exact hl
          refine lv_aload_n C.1 C.2.1 dL_act_540 rfl (lv_at hl 0 rfl) ?_
          refine lv_iload C.1 C.2.1 dL_act_541 (lv_at hl 2 rfl) ?_
          have hO : gO E A s ((xW E a S mk rk rv) ++ (sW E o d24 (S_drop S (gAhead (s_off S) (nI j2))) F)) H locs := gO.sx hO
          refine gXCall_i (mc := 1) (ms := 6) (As := [.int (nI j2)]) (rest := []) C hO (c_X2_trimTo l E a S mk rk rv (sW E o d24 (S_drop S (gAhead (s_off S) (nI j2))) F) (nI j2) hst hI) (cwV 1 C.2.2.2.2.1 gL_act_X2_trimTo rfl rfl rfl (by decide +kernel) ⟨(Nat.le_of_ble_eq_true rfl), (Nat.le_of_ble_eq_true rfl)⟩) (va_recv C.2.2.2.2.2.2.2.1.1 hO.1 (ci := 2) (q0 := 0) rfl rfl) rfl hl.1 rfl (Nat.le_of_ble_eq_true rfl) dL_act_543 ⟨(by show k24 + 1 ≤ 200; omega), (by show 47 * k24 + 6 ≤ 6000; omega)⟩ (fun E0 ce q9 H locs hO hcell hcv hcl hbad => ?_) (fun H locs hO _ => ?_)
          · exact absurd (okOff_nI ez0 hz0 (by omega)) hbad.2
          have hO : gO E A s (sW E o d24 (S_drop S (gAhead (s_off S) (nI j2))) ((xW E a (S_drop S (gAhead (s_off S) (nI j2))) (mkU (gAhead (s_off S) (nI j2)) mk (s_n S)) rk rv) ++ F)) H locs := gO.xs hO
          refine lv_iload C.1 C.2.1 dL_act_546 (lv_at hl 3 rfl) ?_
          refine lv_icmp_ne (tgt := 555) C.1 C.2.1 dL_act_548 (by decide) (fun c_4 => ?_) (fun c_4 => ?_)
          · exact absurd rfl c_4
          · refine lv_iconst (v := 1) C.1 C.2.1 dL_act_551 (by decide) ?_
            refine lv_goto (tgt := 556) C.1 C.2.1 dL_act_552 (by decide) ?_
            exact gRe ((S_drop S (gAhead (s_off S) (nI j2))), d24, (mkU (gAhead (s_off S) (nI j2)) mk (s_n S)), rk, rv) C hO rfl (⟨rfl, (hJ.drop (by omega) (gAhead (s_off S) (nI j2))).mono (by omega), hRC⟩) dL_act_556 (by omega) (by omega)
        · have hnt9 : 0 < s_n T24 := (nI_ltI (a := 0) (by omega) (by omega)).mp c_2
          have htf9 := trim_first hD24 hg24 hnt9
          have hof8 : s_off T24 0 = s_off S k24 := by rw [(hD24.2.2.2.2.1 0 hnt9).1, htf9.1]
          refine lv_aload_n C.1 C.2.1 dL_act_516 rfl (lv_at hl 1 rfl) ?_
          refine gGet (v := .ref (d_1 d24)) (ref := RX3) (Cn := RX3) (T := TX3) (N := 7) C iX3 hO 0 rfl rfl 4 (by decide) w52 (fun _ h9 => h9) rfl dL_act_517 ?_
          refine lv_iconst (v := 0) C.1 C.2.1 dL_act_520 (by decide) ?_
          obtain ⟨q_5, f_5, hq_5, hm_5, e0_5, e1_5, e2_5, e3_5⟩ := (hR24).1 0 (by omega)
          refine gAaldA (v := q_5) (j := 0) C hO 1 rfl (by omega) (by omega) hq_5 dL_act_521 ?_
          refine lv_iconst (v := 0) C.1 C.2.1 dL_act_522 (by decide) ?_
          have ha_7m : (q_5, (.inl (eI E, 4, .inl f_5) : va_E)) ∈ (sW E o d24 T24 ((xW E a S mk rk rv) ++ F)) := sR_mem (pl_mem hm_5)
          obtain ⟨p_6, ha_7⟩ := List.getElem?_of_mem ha_7m
          refine gIald (v := s_off T24 0) (j := 0) C hO p_6 ha_7 (by decide) (by first | decide | omega | (show s_sc S ≤ 100; omega)) e0_5 dL_act_523 ?_
          refine lv_iload C.1 C.2.1 dL_act_524 (lv_at hl 2 rfl) ?_
          refine gGeI (tgt := 540) C.1 C.2.1 dL_act_526 (by decide) (fun c_8 => ?_) (fun c_8 => ?_)
          · have hst9 : k24 < s_n S → ¬ s_off S k24 < nI j2 := fun _ => by rw [← hof8]; exact c_8
            have hge9 := trim_end hsr hg24 hf24 hst9
            obtain ⟨sgC, hC9⟩ := dR_drop hsr (gAhead (s_off S) (nI j2))
            obtain ⟨hRC, hWC⟩ := hD24.same hC9 hge9 hR24
            have hnC : s_n T24 = cpN (gAhead (s_off S) (nI j2)) (s_n S) := (hD24.uniq hC9 hge9).1
            have hO : gO E A s (sW E o d24 (S_drop S (gAhead (s_off S) (nI j2))) ((xW E a S mk rk rv) ++ F)) H locs := by rw [← hWC]; exact hO
            have hl : lv_has ls 17 [(0, .ref (a 0)), (1, .ref o), (12, .int (nI j2)), (13, .int (nI (s_n S - cpN (gAhead (s_off S) (nI j2)) (s_n S))))] := by rw [← hnC, show s_n S - s_n T24 = k24 by omega]; exact hl
            refine lv_aload_n C.1 C.2.1 dL_act_540 rfl (lv_at hl 0 rfl) ?_
            refine lv_iload C.1 C.2.1 dL_act_541 (lv_at hl 2 rfl) ?_
            have hO : gO E A s ((xW E a S mk rk rv) ++ (sW E o d24 (S_drop S (gAhead (s_off S) (nI j2))) F)) H locs := gO.sx hO
            refine gXCall_i (mc := 1) (ms := 6) (As := [.int (nI j2)]) (rest := []) C hO (c_X2_trimTo l E a S mk rk rv (sW E o d24 (S_drop S (gAhead (s_off S) (nI j2))) F) (nI j2) hst hI) (cwV 1 C.2.2.2.2.1 gL_act_X2_trimTo rfl rfl rfl (by decide +kernel) ⟨(Nat.le_of_ble_eq_true rfl), (Nat.le_of_ble_eq_true rfl)⟩) (va_recv C.2.2.2.2.2.2.2.1.1 hO.1 (ci := 2) (q0 := 0) rfl rfl) rfl hl.1 rfl (Nat.le_of_ble_eq_true rfl) dL_act_543 ⟨(by show k24 + 1 ≤ 200; omega), (by show 47 * k24 + 6 ≤ 6000; omega)⟩ (fun E0 ce q9 H locs hO hcell hcv hcl hbad => ?_) (fun H locs hO _ => ?_)
            · exact absurd (okOff_nI ez0 hz0 (by omega)) hbad.2
            have hO : gO E A s (sW E o d24 (S_drop S (gAhead (s_off S) (nI j2))) ((xW E a (S_drop S (gAhead (s_off S) (nI j2))) (mkU (gAhead (s_off S) (nI j2)) mk (s_n S)) rk rv) ++ F)) H locs := gO.xs hO
            refine lv_iload C.1 C.2.1 dL_act_546 (lv_at hl 3 rfl) ?_
            refine lv_icmp_ne (tgt := 555) C.1 C.2.1 dL_act_548 (by decide) (fun c_10 => ?_) (fun c_10 => ?_)
            · exact absurd rfl c_10
            · refine lv_iconst (v := 1) C.1 C.2.1 dL_act_551 (by decide) ?_
              refine lv_goto (tgt := 556) C.1 C.2.1 dL_act_552 (by decide) ?_
              exact gRe ((S_drop S (gAhead (s_off S) (nI j2))), d24, (mkU (gAhead (s_off S) (nI j2)) mk (s_n S)), rk, rv) C hO rfl (⟨rfl, (hJ.drop (by omega) (gAhead (s_off S) (nI j2))).mono (by omega), hRC⟩) dL_act_556 (by omega) (by omega)
          · have hof9 : s_off S k24 < nI j2 := by rw [← hof8]; exact c_8
            refine lv_aload_n C.1 C.2.1 dL_act_529 rfl (lv_at hl 1 rfl) ?_
            refine lv_iconst (v := 0) C.1 C.2.1 dL_act_530 (by decide) ?_
            refine gCall_f (mc := 1) (ms := 47) (As := [.int 0]) (rest := []) C hO (c_X3_dropAt l E o d24 T24 ((xW E a S mk rk rv) ++ F) 0 hnt9 (by omega) (by rw [hD24.sh]; exact hsh) (hD24.srt hsr) hR24) (cwV 1 C.2.2.2.2.1 gL_act_X3_dropAt rfl rfl rfl (by decide +kernel) ⟨(Nat.le_of_ble_eq_true rfl), (Nat.le_of_ble_eq_true rfl)⟩) (va_recv C.2.2.2.2.2.2.2.1.1 hO.1 (ci := 3) (q0 := 0) rfl rfl) rfl hl.1 rfl (Nat.le_of_ble_eq_true rfl) dL_act_531 ⟨(by show k24 + 1 ≤ 200; omega), (by show 47 * k24 + 47 ≤ 6000; omega)⟩ (fun d25 H locs ⟨hR25, _, _⟩ hO => ?_)
            refine gInc (j := k24) (k := 3) (lv' := [(13, .int (nI (k24 + 1))), (0, .ref (a 0)), (1, .ref o), (12, .int (nI j2))]) C.1 C.2.1 dL_act_534 hl rfl (by decide) rfl (fun ls hl => ?_)
            refine lv_goto (tgt := 508) C.1 C.2.1 dL_act_537 (by decide) ?_
            refine W.widen (k := (k24 + 1)) (n := 47 * (k24 + 1)) (by omega) (by omega) ?_
            exact ih_lp508 (k24 + 1) d25 (S_drop T24 (g1 0)) (upd g24 k24 1) (fun j => s24 (if j < 0 then j else j + 1)) (by omega) (by show cpN (g1 0) (s_n T24) + (k24 + 1) = s_n S; rw [cpN_g1z hnt9]; omega) hR25 (by have h9 := hD24.step hsr hnt9; rw [htf9.1] at h9; exact h9) (trim_up hg24) (fun i hi => by by_cases q : i = k24; (rw [q]; exact hof9); (exact hf24 i (by omega))) _ _ hO _ (lv_sub hl [1, 2, 3, 0] rfl)
    refine W.widen (k := 0) (n := 47 * 0) (by omega) (by omega) ?_
    exact lp508 (s_n S + 1) 0 d S (fun _ => 0) (fun j => j) (by omega) rfl hR (dR_0 S) (fun i _ => ⟨fun _ => Nat.not_lt_zero _, fun _ => rfl⟩) (fun i hi => absurd hi (Nat.not_lt_zero _)) _ _ hO _ (lv_sub hl [4, 5, 1, 0] rfl)
  · refine lv_iconst (v := 1) C.1 C.2.1 dL_act_503 (by decide) ?_
    exact gRe (S, d, mk, rk, rv) C hO rfl (⟨rfl, hJ.mono (by omega), hR⟩) dL_act_504 (Nat.le_of_ble_eq_true rfl) (Nat.le_of_ble_eq_true rfl)

set_option maxHeartbeats 4000000 in
set_option maxRecDepth 100000 in
theorem act_557 (hst : l.stackTraces = false) (hJ : J9 S B) (hB : B + 48 < 2147480000) (hR : Rep E d S) (C : gCx p s m args meth c cL_act 17 wsL_act RL (some .boolean) E A) (hO : gO E A s (sW E o d S ((xW E a S mk rk rv) ++ F)) H locs) (hl : lv_has ls 17 [(4, .int (nI (s_sc S))), (3, .int (nI (s_sh S))), (0, .ref (a 0)), (1, .ref o), (2, .int x)]) : W p l e aR s m args below meth c H locs 0 0 (MQ below (gQe E A (aP E (B + 48)) (aW E o a F)) args s 200 6000 A) (F0 m 557 ls []) := by
  have hI : s_inv S := hJ.1.inv
  obtain ⟨hn, hsh, hsc, hOn, hOb, hok9, hpc9, hp0⟩ := id hI
  have hsr : s_srt S := hJ.1.1.srt
  obtain ⟨z0, hz0, ez0, hzB⟩ := nx_of hJ.1 (by omega)
  refine lv_iconst (v := 1) C.1 C.2.1 dL_act_557 (by decide) ?_
  refine lv_iload_n C.1 C.2.1 dL_act_558 rfl (lv_at hl 4 rfl) ?_
  refine lv_iconst (v := nI 2) C.1 C.2.1 dL_act_559 (by decide) ?_
  refine lv_ishr C.1 C.2.1 dL_act_560 ?_
  refine lv_iload_n C.1 C.2.1 dL_act_561 rfl (lv_at hl 4 rfl) ?_
  refine lv_bipush (v := nI 6) C.1 C.2.1 dL_act_562 (by decide) ?_
  refine gCallS_i (mc := 0) (ms := 0) (As := [.int x, .int (nI 6)]) (rest := [.int (x >>> ((nI 2) &&& 31)), .int 1]) C hO (c_L_below l E (sW E o d S ((xW E a S mk rk rv) ++ F)) x (nI 6) (by decide)) (cwS 2 C.2.2.2.2.1 gL_act_L_below rfl rfl rfl (by decide +kernel) ⟨(Nat.le_of_ble_eq_true rfl), (Nat.le_of_ble_eq_true rfl)⟩) rfl hl.1 rfl (Nat.le_of_ble_eq_true rfl) dL_act_564 ⟨(Nat.le_of_ble_eq_true rfl), (Nat.le_of_ble_eq_true rfl)⟩ (fun H locs hO => ?_)
  refine lv_if_ne (tgt := 575) C.1 C.2.1 dL_act_567 (by decide) (fun c_1 => ?_) (fun c_1 => ?_)
  · refine lv_iconst (v := nI 3) C.1 C.2.1 dL_act_575 (by decide) ?_
    refine gCallS_i (mc := 0) (ms := 0) (As := [.int (x >>> ((nI 2) &&& 31)), .int (nI 3)]) (rest := [.int 1]) C hO (c_L_below l E (sW E o d S ((xW E a S mk rk rv) ++ F)) (x >>> ((nI 2) &&& 31)) (nI 3) (by decide)) (cwS 2 C.2.2.2.2.1 gL_act_L_below rfl rfl rfl (by decide +kernel) ⟨(Nat.le_of_ble_eq_true rfl), (Nat.le_of_ble_eq_true rfl)⟩) rfl hl.1 rfl (Nat.le_of_ble_eq_true rfl) dL_act_576 ⟨(Nat.le_of_ble_eq_true rfl), (Nat.le_of_ble_eq_true rfl)⟩ (fun H locs hO => ?_)
    obtain ⟨j2, hj2, ej2⟩ := bw_lt (x >>> ((nI 2) &&& 31)) (z := 3) (by decide) (by decide)
    refine lv_eqi (y := nI j2) ej2 ?_
    refine gAddN (x := 1) (y := j2) C.1 C.2.1 dL_act_579 ?_
    refine lv_istore (lv' := [(14, .int (nI (1 + j2))), (4, .int (nI (s_sc S))), (3, .int (nI (s_sh S))), (0, .ref (a 0)), (1, .ref o), (2, .int x)]) C.1 C.2.1 dL_act_580 hl (by decide) rfl (fun ls hl => ?_)
    refine lv_aload_n C.1 C.2.1 dL_act_582 rfl (lv_at hl 3 rfl) ?_
    refine lv_iload C.1 C.2.1 dL_act_583 (lv_at hl 0 rfl) ?_
    have hO : gO E A s ((xW E a S mk rk rv) ++ (sW E o d S F)) H locs := gO.sx hO
    refine gXCall_i (mc := 1) (ms := 6) (As := [.int (nI (1 + j2))]) (rest := []) C hO (c_X2_passHours l E a S mk rk rv (sW E o d S F) (nI (1 + j2)) hst hI) (cwV 1 C.2.2.2.2.1 gL_act_X2_passHours rfl rfl rfl (by decide +kernel) ⟨(Nat.le_of_ble_eq_true rfl), (Nat.le_of_ble_eq_true rfl)⟩) (va_recv C.2.2.2.2.2.2.2.1.1 hO.1 (ci := 2) (q0 := 0) rfl rfl) rfl hl.1 rfl (Nat.le_of_ble_eq_true rfl) dL_act_585 ⟨(Nat.le_of_ble_eq_true rfl), (Nat.le_of_ble_eq_true rfl)⟩ (fun E0 ce q9 H locs hO hcell hcv hcl hbad => ?_) (fun H locs hO _ => ?_)
    · exact absurd (okHours_nI (by omega) (by omega)) hbad.2
    have hO : gO E A s (sW E o d S ((xW E a (S_pass S (nI (1 + j2))) mk rk rv) ++ F)) H locs := gO.xs hO
    refine lv_eqi (y := nI (s_ph S (1 + j2) (s_sh S))) (by rw [nI_clamp (by omega)]) ?_
    refine lv_aload_n C.1 C.2.1 dL_act_588 rfl (lv_at hl 4 rfl) ?_
    refine lv_iload C.1 C.2.1 dL_act_589 (lv_at hl 0 rfl) ?_
    refine gCall_e (mc := 0) (ms := 0) (As := [.int (nI (1 + j2))]) (rest := [.int (nI (s_ph S (1 + j2) (s_sh S)))]) C hO (c_X3_pass l E o d S ((xW E a (S_pass S (nI (1 + j2))) mk rk rv) ++ F) (1 + j2) (by omega) hR hI hsr (fun i hi => by have h9 := hJ.1.1.2.2.2.1 i hi; rw [ez0, nI_toInt (by omega)] at h9; omega)) (cwV 1 C.2.2.2.2.1 gL_act_X3_pass rfl rfl rfl (by decide +kernel) ⟨(Nat.le_of_ble_eq_true rfl), (Nat.le_of_ble_eq_true rfl)⟩) (va_recv C.2.2.2.2.2.2.2.1.1 hO.1 (ci := 3) (q0 := 0) rfl rfl) rfl hl.1 rfl (Nat.le_of_ble_eq_true rfl) dL_act_591 ⟨(Nat.le_of_ble_eq_true rfl), (Nat.le_of_ble_eq_true rfl)⟩ (fun r25 d25 H locs ⟨hr25, hR25⟩ hO => ?_)
    refine lv_eqi (y := nI (s_ph S (1 + j2) (s_sh S))) hr25 ?_
    refine lv_icmp_ne (tgt := 601) C.1 C.2.1 dL_act_594 (by decide) (fun c_3 => ?_) (fun c_3 => ?_)
    · exact absurd rfl c_3
    · refine lv_iconst (v := 1) C.1 C.2.1 dL_act_597 (by decide) ?_
      refine lv_goto (tgt := 602) C.1 C.2.1 dL_act_598 (by decide) ?_
      exact gRe ((S_pass S (nI (1 + j2))), d25, mk, rk, rv) C hO rfl (⟨rfl, (hJ.pass (by omega) _).mono (by omega), hR25⟩) dL_act_602 (Nat.le_of_ble_eq_true rfl) (Nat.le_of_ble_eq_true rfl)
  · refine lv_bipush (v := nI 60) C.1 C.2.1 dL_act_570 (by decide) ?_
    refine lv_goto (tgt := 576) C.1 C.2.1 dL_act_572 (by decide) ?_
    refine gCallS_i (mc := 0) (ms := 0) (As := [.int (x >>> ((nI 2) &&& 31)), .int (nI 60)]) (rest := [.int 1]) C hO (c_L_below l E (sW E o d S ((xW E a S mk rk rv) ++ F)) (x >>> ((nI 2) &&& 31)) (nI 60) (by decide)) (cwS 2 C.2.2.2.2.1 gL_act_L_below rfl rfl rfl (by decide +kernel) ⟨(Nat.le_of_ble_eq_true rfl), (Nat.le_of_ble_eq_true rfl)⟩) rfl hl.1 rfl (Nat.le_of_ble_eq_true rfl) dL_act_576 ⟨(Nat.le_of_ble_eq_true rfl), (Nat.le_of_ble_eq_true rfl)⟩ (fun H locs hO => ?_)
    obtain ⟨j2, hj2, ej2⟩ := bw_lt (x >>> ((nI 2) &&& 31)) (z := 60) (by decide) (by decide)
    refine lv_eqi (y := nI j2) ej2 ?_
    refine gAddN (x := 1) (y := j2) C.1 C.2.1 dL_act_579 ?_
    refine lv_istore (lv' := [(14, .int (nI (1 + j2))), (4, .int (nI (s_sc S))), (3, .int (nI (s_sh S))), (0, .ref (a 0)), (1, .ref o), (2, .int x)]) C.1 C.2.1 dL_act_580 hl (by decide) rfl (fun ls hl => ?_)
    refine lv_aload_n C.1 C.2.1 dL_act_582 rfl (lv_at hl 3 rfl) ?_
    refine lv_iload C.1 C.2.1 dL_act_583 (lv_at hl 0 rfl) ?_
    have hO : gO E A s ((xW E a S mk rk rv) ++ (sW E o d S F)) H locs := gO.sx hO
    refine gXCall_i (mc := 1) (ms := 6) (As := [.int (nI (1 + j2))]) (rest := []) C hO (c_X2_passHours l E a S mk rk rv (sW E o d S F) (nI (1 + j2)) hst hI) (cwV 1 C.2.2.2.2.1 gL_act_X2_passHours rfl rfl rfl (by decide +kernel) ⟨(Nat.le_of_ble_eq_true rfl), (Nat.le_of_ble_eq_true rfl)⟩) (va_recv C.2.2.2.2.2.2.2.1.1 hO.1 (ci := 2) (q0 := 0) rfl rfl) rfl hl.1 rfl (Nat.le_of_ble_eq_true rfl) dL_act_585 ⟨(Nat.le_of_ble_eq_true rfl), (Nat.le_of_ble_eq_true rfl)⟩ (fun E0 ce q9 H locs hO hcell hcv hcl hbad => ?_) (fun H locs hO _ => ?_)
    · exact absurd (okHours_nI (by omega) (by omega)) hbad.2
    have hO : gO E A s (sW E o d S ((xW E a (S_pass S (nI (1 + j2))) mk rk rv) ++ F)) H locs := gO.xs hO
    refine lv_eqi (y := nI (s_ph S (1 + j2) (s_sh S))) (by rw [nI_clamp (by omega)]) ?_
    refine lv_aload_n C.1 C.2.1 dL_act_588 rfl (lv_at hl 4 rfl) ?_
    refine lv_iload C.1 C.2.1 dL_act_589 (lv_at hl 0 rfl) ?_
    refine gCall_e (mc := 0) (ms := 0) (As := [.int (nI (1 + j2))]) (rest := [.int (nI (s_ph S (1 + j2) (s_sh S)))]) C hO (c_X3_pass l E o d S ((xW E a (S_pass S (nI (1 + j2))) mk rk rv) ++ F) (1 + j2) (by omega) hR hI hsr (fun i hi => by have h9 := hJ.1.1.2.2.2.1 i hi; rw [ez0, nI_toInt (by omega)] at h9; omega)) (cwV 1 C.2.2.2.2.1 gL_act_X3_pass rfl rfl rfl (by decide +kernel) ⟨(Nat.le_of_ble_eq_true rfl), (Nat.le_of_ble_eq_true rfl)⟩) (va_recv C.2.2.2.2.2.2.2.1.1 hO.1 (ci := 3) (q0 := 0) rfl rfl) rfl hl.1 rfl (Nat.le_of_ble_eq_true rfl) dL_act_591 ⟨(Nat.le_of_ble_eq_true rfl), (Nat.le_of_ble_eq_true rfl)⟩ (fun r25 d25 H locs ⟨hr25, hR25⟩ hO => ?_)
    refine lv_eqi (y := nI (s_ph S (1 + j2) (s_sh S))) hr25 ?_
    refine lv_icmp_ne (tgt := 601) C.1 C.2.1 dL_act_594 (by decide) (fun c_5 => ?_) (fun c_5 => ?_)
    · exact absurd rfl c_5
    · refine lv_iconst (v := 1) C.1 C.2.1 dL_act_597 (by decide) ?_
      refine lv_goto (tgt := 602) C.1 C.2.1 dL_act_598 (by decide) ?_
      exact gRe ((S_pass S (nI (1 + j2))), d25, mk, rk, rv) C hO rfl (⟨rfl, (hJ.pass (by omega) _).mono (by omega), hR25⟩) dL_act_602 (Nat.le_of_ble_eq_true rfl) (Nat.le_of_ble_eq_true rfl)

set_option maxHeartbeats 4000000 in
set_option maxRecDepth 100000 in
theorem act_603 (hst : l.stackTraces = false) (hJ : J9 S B) (hB : B + 48 < 2147480000) (hR : Rep E d S) (C : gCx p s m args meth c cL_act 17 wsL_act RL (some .boolean) E A) (hO : gO E A s (sW E o d S ((xW E a S mk rk rv) ++ F)) H locs) (hl : lv_has ls 17 [(4, .int (nI (s_sc S))), (3, .int (nI (s_sh S))), (0, .ref (a 0)), (1, .ref o), (2, .int x)]) : W p l e aR s m args below meth c H locs 0 0 (MQ below (gQe E A (aP E (B + 48)) (aW E o a F)) args s 200 6000 A) (F0 m 603 ls []) := by
  have hI : s_inv S := hJ.1.inv
  obtain ⟨hn, hsh, hsc, hOn, hOb, hok9, hpc9, hp0⟩ := id hI
  have hsr : s_srt S := hJ.1.1.srt
  obtain ⟨z0, hz0, ez0, hzB⟩ := nx_of hJ.1 (by omega)
  refine lv_iload_n C.1 C.2.1 dL_act_603 rfl (lv_at hl 4 rfl) ?_
  refine lv_iconst (v := 1) C.1 C.2.1 dL_act_604 (by decide) ?_
  refine lv_ishr C.1 C.2.1 dL_act_605 ?_
  refine lv_iload_n C.1 C.2.1 dL_act_606 rfl (lv_at hl 4 rfl) ?_
  refine lv_iconst (v := nI 2) C.1 C.2.1 dL_act_607 (by decide) ?_
  refine gCallS_i (mc := 0) (ms := 0) (As := [.int x, .int (nI 2)]) (rest := [.int (x >>> (1 &&& 31))]) C hO (c_L_below l E (sW E o d S ((xW E a S mk rk rv) ++ F)) x (nI 2) (by decide)) (cwS 2 C.2.2.2.2.1 gL_act_L_below rfl rfl rfl (by decide +kernel) ⟨(Nat.le_of_ble_eq_true rfl), (Nat.le_of_ble_eq_true rfl)⟩) rfl hl.1 rfl (Nat.le_of_ble_eq_true rfl) dL_act_608 ⟨(Nat.le_of_ble_eq_true rfl), (Nat.le_of_ble_eq_true rfl)⟩ (fun H locs hO => ?_)
  refine lv_if_ne (tgt := 619) C.1 C.2.1 dL_act_611 (by decide) (fun c_1 => ?_) (fun c_1 => ?_)
  · refine lv_iconst (v := nI 4) C.1 C.2.1 dL_act_619 (by decide) ?_
    refine gCallS_i (mc := 0) (ms := 0) (As := [.int (x >>> (1 &&& 31)), .int (nI 4)]) (rest := []) C hO (c_L_below l E (sW E o d S ((xW E a S mk rk rv) ++ F)) (x >>> (1 &&& 31)) (nI 4) (by decide)) (cwS 2 C.2.2.2.2.1 gL_act_L_below rfl rfl rfl (by decide +kernel) ⟨(Nat.le_of_ble_eq_true rfl), (Nat.le_of_ble_eq_true rfl)⟩) rfl hl.1 rfl (Nat.le_of_ble_eq_true rfl) dL_act_620 ⟨(Nat.le_of_ble_eq_true rfl), (Nat.le_of_ble_eq_true rfl)⟩ (fun H locs hO => ?_)
    obtain ⟨j1, hj1, ej1⟩ := bw_lt (x >>> (1 &&& 31)) (z := 4) (by decide) (by decide)
    refine lv_eqi (y := nI j1) ej1 ?_
    refine lv_istore (lv' := [(15, .int (nI j1)), (4, .int (nI (s_sc S))), (3, .int (nI (s_sh S))), (0, .ref (a 0)), (1, .ref o), (2, .int x)]) C.1 C.2.1 dL_act_623 hl (by decide) rfl (fun ls hl => ?_)
    refine lv_iload_n C.1 C.2.1 dL_act_625 rfl (lv_at hl 5 rfl) ?_
    refine lv_iconst (v := nI 4) C.1 C.2.1 dL_act_626 (by decide) ?_
    refine gCallS_i (mc := 0) (ms := 0) (As := [.int x, .int (nI 4)]) (rest := []) C hO (c_L_below l E (sW E o d S ((xW E a S mk rk rv) ++ F)) x (nI 4) (by decide)) (cwS 2 C.2.2.2.2.1 gL_act_L_below rfl rfl rfl (by decide +kernel) ⟨(Nat.le_of_ble_eq_true rfl), (Nat.le_of_ble_eq_true rfl)⟩) rfl hl.1 rfl (Nat.le_of_ble_eq_true rfl) dL_act_627 ⟨(Nat.le_of_ble_eq_true rfl), (Nat.le_of_ble_eq_true rfl)⟩ (fun H locs hO => ?_)
    refine lv_if_ne (tgt := 637) C.1 C.2.1 dL_act_630 (by decide) (fun c_2 => ?_) (fun c_2 => ?_)
    · refine lv_iload_n C.1 C.2.1 dL_act_637 rfl (lv_at hl 5 rfl) ?_
      refine lv_iconst (v := nI 3) C.1 C.2.1 dL_act_638 (by decide) ?_
      refine lv_ishr C.1 C.2.1 dL_act_639 ?_
      refine lv_sipush (v := nI 1999) C.1 C.2.1 dL_act_640 (by decide) ?_
      refine gCallS_i (mc := 0) (ms := 0) (As := [.int (x >>> ((nI 3) &&& 31)), .int (nI 1999)]) (rest := []) C hO (c_L_below l E (sW E o d S ((xW E a S mk rk rv) ++ F)) (x >>> ((nI 3) &&& 31)) (nI 1999) (by decide)) (cwS 2 C.2.2.2.2.1 gL_act_L_below rfl rfl rfl (by decide +kernel) ⟨(Nat.le_of_ble_eq_true rfl), (Nat.le_of_ble_eq_true rfl)⟩) rfl hl.1 rfl (Nat.le_of_ble_eq_true rfl) dL_act_643 ⟨(Nat.le_of_ble_eq_true rfl), (Nat.le_of_ble_eq_true rfl)⟩ (fun H locs hO => ?_)
      obtain ⟨j2, hj2, ej2⟩ := bw_lt (x >>> ((nI 3) &&& 31)) (z := 1999) (by decide) (by decide)
      refine lv_eqi (y := nI j2) ej2 ?_
      refine lv_sipush (v := nI 999) C.1 C.2.1 dL_act_646 (by decide) ?_
      refine lv_isub C.1 C.2.1 dL_act_649 ?_
      have hov9 : okVal ((nI j2) - (nI 999)) := okVal_b hj2
      refine lv_istore (lv' := [(16, .int ((nI j2) - (nI 999))), (15, .int (nI j1)), (4, .int (nI (s_sc S))), (3, .int (nI (s_sh S))), (0, .ref (a 0)), (1, .ref o), (2, .int x)]) C.1 C.2.1 dL_act_650 hl (by decide) rfl (fun ls hl => ?_)
      refine lv_aload_n C.1 C.2.1 dL_act_652 rfl (lv_at hl 4 rfl) ?_
      refine lv_iload C.1 C.2.1 dL_act_653 (lv_at hl 1 rfl) ?_
      refine lv_iload C.1 C.2.1 dL_act_655 (lv_at hl 0 rfl) ?_
      have hO : gO E A s ((xW E a S mk rk rv) ++ (sW E o d S F)) H locs := gO.sx hO
      refine gXCall_i (mc := 1) (ms := 6) (As := [.int (nI j1), .int ((nI j2) - (nI 999))]) (rest := []) C hO (c_X2_say l E a S mk rk rv (sW E o d S F) (nI j1) ((nI j2) - (nI 999)) hst hI) (cwV 2 C.2.2.2.2.1 gL_act_X2_say rfl rfl rfl (by decide +kernel) ⟨(Nat.le_of_ble_eq_true rfl), (Nat.le_of_ble_eq_true rfl)⟩) (va_recv C.2.2.2.2.2.2.2.1.1 hO.1 (ci := 2) (q0 := 0) rfl rfl) rfl hl.1 rfl (Nat.le_of_ble_eq_true rfl) dL_act_657 ⟨(Nat.le_of_ble_eq_true rfl), (Nat.le_of_ble_eq_true rfl)⟩ (fun E0 ce q9 H locs hO hcell hcv hcl hbad => ?_) (fun H locs hO _ => ?_)
      · exact absurd ⟨okKey_nI (by omega), hov9⟩ hbad.2
      have hO : gO E A s (sW E o d S ((xW E a (S_spk S (nI j1) ((nI j2) - (nI 999))) (mk_spk S mk) rk rv) ++ F)) H locs := gO.xs hO
      refine lv_aload_n C.1 C.2.1 dL_act_660 rfl (lv_at hl 5 rfl) ?_
      refine lv_iload C.1 C.2.1 dL_act_661 (lv_at hl 1 rfl) ?_
      refine lv_iload C.1 C.2.1 dL_act_663 (lv_at hl 0 rfl) ?_
      refine gCall_e (mc := 3) (ms := 100) (As := [.int (nI j1), .int ((nI j2) - (nI 999))]) (rest := [.int (s_nx S)]) C hO (c_X3_say l E o d S ((xW E a (S_spk S (nI j1) ((nI j2) - (nI 999))) (mk_spk S mk) rk rv) ++ F) (nI j1) ((nI j2) - (nI 999)) hR hI hsr) (cwV 2 C.2.2.2.2.1 gL_act_X3_say rfl rfl rfl (by decide +kernel) ⟨(Nat.le_of_ble_eq_true rfl), (Nat.le_of_ble_eq_true rfl)⟩) (va_recv C.2.2.2.2.2.2.2.1.1 hO.1 (ci := 3) (q0 := 0) rfl rfl) rfl hl.1 rfl (Nat.le_of_ble_eq_true rfl) dL_act_665 ⟨(Nat.le_of_ble_eq_true rfl), (Nat.le_of_ble_eq_true rfl)⟩ (fun r25 d25 H locs ⟨hr25, hR25, _, _⟩ hO => ?_)
      refine lv_eqi (y := s_nx S) hr25 ?_
      refine lv_icmp_ne (tgt := 675) C.1 C.2.1 dL_act_668 (by decide) (fun c_4 => ?_) (fun c_4 => ?_)
      · exact absurd rfl c_4
      · refine lv_iconst (v := 1) C.1 C.2.1 dL_act_671 (by decide) ?_
        refine lv_goto (tgt := 676) C.1 C.2.1 dL_act_672 (by decide) ?_
        exact gRe ((S_spk S (nI j1) ((nI j2) - (nI 999))), d25, (mk_spk S mk), rk, rv) C hO rfl (⟨rfl, (hJ.spk (by omega) (ky9_nI (by omega)) _).mono (by omega), hR25⟩) dL_act_676 (Nat.le_of_ble_eq_true rfl) (Nat.le_of_ble_eq_true rfl)
    · refine lv_iconst (v := 0) C.1 C.2.1 dL_act_633 (by decide) ?_
      refine lv_goto (tgt := 650) C.1 C.2.1 dL_act_634 (by decide) ?_
      have hov9 : okVal 0 := okVal_0
      refine lv_istore (lv' := [(16, .int 0), (15, .int (nI j1)), (4, .int (nI (s_sc S))), (3, .int (nI (s_sh S))), (0, .ref (a 0)), (1, .ref o), (2, .int x)]) C.1 C.2.1 dL_act_650 hl (by decide) rfl (fun ls hl => ?_)
      refine lv_aload_n C.1 C.2.1 dL_act_652 rfl (lv_at hl 4 rfl) ?_
      refine lv_iload C.1 C.2.1 dL_act_653 (lv_at hl 1 rfl) ?_
      refine lv_iload C.1 C.2.1 dL_act_655 (lv_at hl 0 rfl) ?_
      have hO : gO E A s ((xW E a S mk rk rv) ++ (sW E o d S F)) H locs := gO.sx hO
      refine gXCall_i (mc := 1) (ms := 6) (As := [.int (nI j1), .int 0]) (rest := []) C hO (c_X2_say l E a S mk rk rv (sW E o d S F) (nI j1) 0 hst hI) (cwV 2 C.2.2.2.2.1 gL_act_X2_say rfl rfl rfl (by decide +kernel) ⟨(Nat.le_of_ble_eq_true rfl), (Nat.le_of_ble_eq_true rfl)⟩) (va_recv C.2.2.2.2.2.2.2.1.1 hO.1 (ci := 2) (q0 := 0) rfl rfl) rfl hl.1 rfl (Nat.le_of_ble_eq_true rfl) dL_act_657 ⟨(Nat.le_of_ble_eq_true rfl), (Nat.le_of_ble_eq_true rfl)⟩ (fun E0 ce q9 H locs hO hcell hcv hcl hbad => ?_) (fun H locs hO _ => ?_)
      · exact absurd ⟨okKey_nI (by omega), hov9⟩ hbad.2
      have hO : gO E A s (sW E o d S ((xW E a (S_spk S (nI j1) 0) (mk_spk S mk) rk rv) ++ F)) H locs := gO.xs hO
      refine lv_aload_n C.1 C.2.1 dL_act_660 rfl (lv_at hl 5 rfl) ?_
      refine lv_iload C.1 C.2.1 dL_act_661 (lv_at hl 1 rfl) ?_
      refine lv_iload C.1 C.2.1 dL_act_663 (lv_at hl 0 rfl) ?_
      refine gCall_e (mc := 3) (ms := 100) (As := [.int (nI j1), .int 0]) (rest := [.int (s_nx S)]) C hO (c_X3_say l E o d S ((xW E a (S_spk S (nI j1) 0) (mk_spk S mk) rk rv) ++ F) (nI j1) 0 hR hI hsr) (cwV 2 C.2.2.2.2.1 gL_act_X3_say rfl rfl rfl (by decide +kernel) ⟨(Nat.le_of_ble_eq_true rfl), (Nat.le_of_ble_eq_true rfl)⟩) (va_recv C.2.2.2.2.2.2.2.1.1 hO.1 (ci := 3) (q0 := 0) rfl rfl) rfl hl.1 rfl (Nat.le_of_ble_eq_true rfl) dL_act_665 ⟨(Nat.le_of_ble_eq_true rfl), (Nat.le_of_ble_eq_true rfl)⟩ (fun r25 d25 H locs ⟨hr25, hR25, _, _⟩ hO => ?_)
      refine lv_eqi (y := s_nx S) hr25 ?_
      refine lv_icmp_ne (tgt := 675) C.1 C.2.1 dL_act_668 (by decide) (fun c_6 => ?_) (fun c_6 => ?_)
      · exact absurd rfl c_6
      · refine lv_iconst (v := 1) C.1 C.2.1 dL_act_671 (by decide) ?_
        refine lv_goto (tgt := 676) C.1 C.2.1 dL_act_672 (by decide) ?_
        exact gRe ((S_spk S (nI j1) 0), d25, (mk_spk S mk), rk, rv) C hO rfl (⟨rfl, (hJ.spk (by omega) (ky9_nI (by omega)) _).mono (by omega), hR25⟩) dL_act_676 (Nat.le_of_ble_eq_true rfl) (Nat.le_of_ble_eq_true rfl)
  · refine lv_bipush (v := nI 10) C.1 C.2.1 dL_act_614 (by decide) ?_
    refine lv_goto (tgt := 620) C.1 C.2.1 dL_act_616 (by decide) ?_
    refine gCallS_i (mc := 0) (ms := 0) (As := [.int (x >>> (1 &&& 31)), .int (nI 10)]) (rest := []) C hO (c_L_below l E (sW E o d S ((xW E a S mk rk rv) ++ F)) (x >>> (1 &&& 31)) (nI 10) (by decide)) (cwS 2 C.2.2.2.2.1 gL_act_L_below rfl rfl rfl (by decide +kernel) ⟨(Nat.le_of_ble_eq_true rfl), (Nat.le_of_ble_eq_true rfl)⟩) rfl hl.1 rfl (Nat.le_of_ble_eq_true rfl) dL_act_620 ⟨(Nat.le_of_ble_eq_true rfl), (Nat.le_of_ble_eq_true rfl)⟩ (fun H locs hO => ?_)
    obtain ⟨j1, hj1, ej1⟩ := bw_lt (x >>> (1 &&& 31)) (z := 10) (by decide) (by decide)
    refine lv_eqi (y := nI j1) ej1 ?_
    refine lv_istore (lv' := [(15, .int (nI j1)), (4, .int (nI (s_sc S))), (3, .int (nI (s_sh S))), (0, .ref (a 0)), (1, .ref o), (2, .int x)]) C.1 C.2.1 dL_act_623 hl (by decide) rfl (fun ls hl => ?_)
    refine lv_iload_n C.1 C.2.1 dL_act_625 rfl (lv_at hl 5 rfl) ?_
    refine lv_iconst (v := nI 4) C.1 C.2.1 dL_act_626 (by decide) ?_
    refine gCallS_i (mc := 0) (ms := 0) (As := [.int x, .int (nI 4)]) (rest := []) C hO (c_L_below l E (sW E o d S ((xW E a S mk rk rv) ++ F)) x (nI 4) (by decide)) (cwS 2 C.2.2.2.2.1 gL_act_L_below rfl rfl rfl (by decide +kernel) ⟨(Nat.le_of_ble_eq_true rfl), (Nat.le_of_ble_eq_true rfl)⟩) rfl hl.1 rfl (Nat.le_of_ble_eq_true rfl) dL_act_627 ⟨(Nat.le_of_ble_eq_true rfl), (Nat.le_of_ble_eq_true rfl)⟩ (fun H locs hO => ?_)
    refine lv_if_ne (tgt := 637) C.1 C.2.1 dL_act_630 (by decide) (fun c_7 => ?_) (fun c_7 => ?_)
    · refine lv_iload_n C.1 C.2.1 dL_act_637 rfl (lv_at hl 5 rfl) ?_
      refine lv_iconst (v := nI 3) C.1 C.2.1 dL_act_638 (by decide) ?_
      refine lv_ishr C.1 C.2.1 dL_act_639 ?_
      refine lv_sipush (v := nI 1999) C.1 C.2.1 dL_act_640 (by decide) ?_
      refine gCallS_i (mc := 0) (ms := 0) (As := [.int (x >>> ((nI 3) &&& 31)), .int (nI 1999)]) (rest := []) C hO (c_L_below l E (sW E o d S ((xW E a S mk rk rv) ++ F)) (x >>> ((nI 3) &&& 31)) (nI 1999) (by decide)) (cwS 2 C.2.2.2.2.1 gL_act_L_below rfl rfl rfl (by decide +kernel) ⟨(Nat.le_of_ble_eq_true rfl), (Nat.le_of_ble_eq_true rfl)⟩) rfl hl.1 rfl (Nat.le_of_ble_eq_true rfl) dL_act_643 ⟨(Nat.le_of_ble_eq_true rfl), (Nat.le_of_ble_eq_true rfl)⟩ (fun H locs hO => ?_)
      obtain ⟨j2, hj2, ej2⟩ := bw_lt (x >>> ((nI 3) &&& 31)) (z := 1999) (by decide) (by decide)
      refine lv_eqi (y := nI j2) ej2 ?_
      refine lv_sipush (v := nI 999) C.1 C.2.1 dL_act_646 (by decide) ?_
      refine lv_isub C.1 C.2.1 dL_act_649 ?_
      have hov9 : okVal ((nI j2) - (nI 999)) := okVal_b hj2
      refine lv_istore (lv' := [(16, .int ((nI j2) - (nI 999))), (15, .int (nI j1)), (4, .int (nI (s_sc S))), (3, .int (nI (s_sh S))), (0, .ref (a 0)), (1, .ref o), (2, .int x)]) C.1 C.2.1 dL_act_650 hl (by decide) rfl (fun ls hl => ?_)
      refine lv_aload_n C.1 C.2.1 dL_act_652 rfl (lv_at hl 4 rfl) ?_
      refine lv_iload C.1 C.2.1 dL_act_653 (lv_at hl 1 rfl) ?_
      refine lv_iload C.1 C.2.1 dL_act_655 (lv_at hl 0 rfl) ?_
      have hO : gO E A s ((xW E a S mk rk rv) ++ (sW E o d S F)) H locs := gO.sx hO
      refine gXCall_i (mc := 1) (ms := 6) (As := [.int (nI j1), .int ((nI j2) - (nI 999))]) (rest := []) C hO (c_X2_say l E a S mk rk rv (sW E o d S F) (nI j1) ((nI j2) - (nI 999)) hst hI) (cwV 2 C.2.2.2.2.1 gL_act_X2_say rfl rfl rfl (by decide +kernel) ⟨(Nat.le_of_ble_eq_true rfl), (Nat.le_of_ble_eq_true rfl)⟩) (va_recv C.2.2.2.2.2.2.2.1.1 hO.1 (ci := 2) (q0 := 0) rfl rfl) rfl hl.1 rfl (Nat.le_of_ble_eq_true rfl) dL_act_657 ⟨(Nat.le_of_ble_eq_true rfl), (Nat.le_of_ble_eq_true rfl)⟩ (fun E0 ce q9 H locs hO hcell hcv hcl hbad => ?_) (fun H locs hO _ => ?_)
      · exact absurd ⟨okKey_nI (by omega), hov9⟩ hbad.2
      have hO : gO E A s (sW E o d S ((xW E a (S_spk S (nI j1) ((nI j2) - (nI 999))) (mk_spk S mk) rk rv) ++ F)) H locs := gO.xs hO
      refine lv_aload_n C.1 C.2.1 dL_act_660 rfl (lv_at hl 5 rfl) ?_
      refine lv_iload C.1 C.2.1 dL_act_661 (lv_at hl 1 rfl) ?_
      refine lv_iload C.1 C.2.1 dL_act_663 (lv_at hl 0 rfl) ?_
      refine gCall_e (mc := 3) (ms := 100) (As := [.int (nI j1), .int ((nI j2) - (nI 999))]) (rest := [.int (s_nx S)]) C hO (c_X3_say l E o d S ((xW E a (S_spk S (nI j1) ((nI j2) - (nI 999))) (mk_spk S mk) rk rv) ++ F) (nI j1) ((nI j2) - (nI 999)) hR hI hsr) (cwV 2 C.2.2.2.2.1 gL_act_X3_say rfl rfl rfl (by decide +kernel) ⟨(Nat.le_of_ble_eq_true rfl), (Nat.le_of_ble_eq_true rfl)⟩) (va_recv C.2.2.2.2.2.2.2.1.1 hO.1 (ci := 3) (q0 := 0) rfl rfl) rfl hl.1 rfl (Nat.le_of_ble_eq_true rfl) dL_act_665 ⟨(Nat.le_of_ble_eq_true rfl), (Nat.le_of_ble_eq_true rfl)⟩ (fun r25 d25 H locs ⟨hr25, hR25, _, _⟩ hO => ?_)
      refine lv_eqi (y := s_nx S) hr25 ?_
      refine lv_icmp_ne (tgt := 675) C.1 C.2.1 dL_act_668 (by decide) (fun c_9 => ?_) (fun c_9 => ?_)
      · exact absurd rfl c_9
      · refine lv_iconst (v := 1) C.1 C.2.1 dL_act_671 (by decide) ?_
        refine lv_goto (tgt := 676) C.1 C.2.1 dL_act_672 (by decide) ?_
        exact gRe ((S_spk S (nI j1) ((nI j2) - (nI 999))), d25, (mk_spk S mk), rk, rv) C hO rfl (⟨rfl, (hJ.spk (by omega) (ky9_nI (by omega)) _).mono (by omega), hR25⟩) dL_act_676 (Nat.le_of_ble_eq_true rfl) (Nat.le_of_ble_eq_true rfl)
    · refine lv_iconst (v := 0) C.1 C.2.1 dL_act_633 (by decide) ?_
      refine lv_goto (tgt := 650) C.1 C.2.1 dL_act_634 (by decide) ?_
      have hov9 : okVal 0 := okVal_0
      refine lv_istore (lv' := [(16, .int 0), (15, .int (nI j1)), (4, .int (nI (s_sc S))), (3, .int (nI (s_sh S))), (0, .ref (a 0)), (1, .ref o), (2, .int x)]) C.1 C.2.1 dL_act_650 hl (by decide) rfl (fun ls hl => ?_)
      refine lv_aload_n C.1 C.2.1 dL_act_652 rfl (lv_at hl 4 rfl) ?_
      refine lv_iload C.1 C.2.1 dL_act_653 (lv_at hl 1 rfl) ?_
      refine lv_iload C.1 C.2.1 dL_act_655 (lv_at hl 0 rfl) ?_
      have hO : gO E A s ((xW E a S mk rk rv) ++ (sW E o d S F)) H locs := gO.sx hO
      refine gXCall_i (mc := 1) (ms := 6) (As := [.int (nI j1), .int 0]) (rest := []) C hO (c_X2_say l E a S mk rk rv (sW E o d S F) (nI j1) 0 hst hI) (cwV 2 C.2.2.2.2.1 gL_act_X2_say rfl rfl rfl (by decide +kernel) ⟨(Nat.le_of_ble_eq_true rfl), (Nat.le_of_ble_eq_true rfl)⟩) (va_recv C.2.2.2.2.2.2.2.1.1 hO.1 (ci := 2) (q0 := 0) rfl rfl) rfl hl.1 rfl (Nat.le_of_ble_eq_true rfl) dL_act_657 ⟨(Nat.le_of_ble_eq_true rfl), (Nat.le_of_ble_eq_true rfl)⟩ (fun E0 ce q9 H locs hO hcell hcv hcl hbad => ?_) (fun H locs hO _ => ?_)
      · exact absurd ⟨okKey_nI (by omega), hov9⟩ hbad.2
      have hO : gO E A s (sW E o d S ((xW E a (S_spk S (nI j1) 0) (mk_spk S mk) rk rv) ++ F)) H locs := gO.xs hO
      refine lv_aload_n C.1 C.2.1 dL_act_660 rfl (lv_at hl 5 rfl) ?_
      refine lv_iload C.1 C.2.1 dL_act_661 (lv_at hl 1 rfl) ?_
      refine lv_iload C.1 C.2.1 dL_act_663 (lv_at hl 0 rfl) ?_
      refine gCall_e (mc := 3) (ms := 100) (As := [.int (nI j1), .int 0]) (rest := [.int (s_nx S)]) C hO (c_X3_say l E o d S ((xW E a (S_spk S (nI j1) 0) (mk_spk S mk) rk rv) ++ F) (nI j1) 0 hR hI hsr) (cwV 2 C.2.2.2.2.1 gL_act_X3_say rfl rfl rfl (by decide +kernel) ⟨(Nat.le_of_ble_eq_true rfl), (Nat.le_of_ble_eq_true rfl)⟩) (va_recv C.2.2.2.2.2.2.2.1.1 hO.1 (ci := 3) (q0 := 0) rfl rfl) rfl hl.1 rfl (Nat.le_of_ble_eq_true rfl) dL_act_665 ⟨(Nat.le_of_ble_eq_true rfl), (Nat.le_of_ble_eq_true rfl)⟩ (fun r25 d25 H locs ⟨hr25, hR25, _, _⟩ hO => ?_)
      refine lv_eqi (y := s_nx S) hr25 ?_
      refine lv_icmp_ne (tgt := 675) C.1 C.2.1 dL_act_668 (by decide) (fun c_11 => ?_) (fun c_11 => ?_)
      · exact absurd rfl c_11
      · refine lv_iconst (v := 1) C.1 C.2.1 dL_act_671 (by decide) ?_
        refine lv_goto (tgt := 676) C.1 C.2.1 dL_act_672 (by decide) ?_
        exact gRe ((S_spk S (nI j1) 0), d25, (mk_spk S mk), rk, rv) C hO rfl (⟨rfl, (hJ.spk (by omega) (ky9_nI (by omega)) _).mono (by omega), hR25⟩) dL_act_676 (Nat.le_of_ble_eq_true rfl) (Nat.le_of_ble_eq_true rfl)
end AC
