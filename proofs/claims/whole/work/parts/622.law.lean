set_option maxHeartbeats 4000000 in
set_option maxRecDepth 100000 in
theorem st_p561 {p : Program} {l : Launch} {e : Env} {s : State} {m : MethodId} {args : Array Value} {below : List Frame} {meth : Method} {c : Code} {H : Heap} {locs : List Loc} {cells slots : Nat} {Q : State → Prop} {E : gE} {A : Nat → Prop} {bs L : Nat} {xs : Nat → Int32} {a b : Nat → Nat} {o i : Nat} {S : St} {mkA rk rv : Nat → Int32} {f : Nat → Int64} {mkB : Nat → Int32} {th : Int32} {B : Int} {ls : Array Slot} (C : gCx p s m args meth c cL_law 9 wsL_law RL ret E A) (hst : l.stackTraces = false) (hX : va_X bs L xs s s.heap) (hbl : bs < s.heap.size) (hbA : ¬ A bs) (hL : L ≤ 1536) (hi : i + 2 < L) (hw9 : lwI S B) (hB : B + 48 < 2147483647) (hc9 : cells ≤ 600000) (hs9 : slots ≤ 7000000) (hO : gO E A s (lwW E a b o S mkA rk rv f mkB th) H locs) (hl : lv_has ls 9 (lwV bs a b o i)) (kk : lwK p l e s m args below meth c E A bs a b o i (cells + 32) (slots + 400) (B + 48) Q) : W p l e room_1 s m args below meth c H locs cells slots Q (F0 m 561 ls []) := by
  have hI := hw9.inv
  have hsr := hw9.1.srt
  by_cases hp9 : okShip S (xs (i + 1))
  · by_cases hq9 : okOff S (xs (i + 2))
    · have hok : (okShip S (xs (i + 1)) ∧ okOff S (xs (i + 2))) := by first | exact ⟨hp9, hq9⟩ | exact ⟨hp9.1, hp9.2, hq9⟩
      refine lv_aload_n C.1 C.2.1 dL_law_561 rfl (lv_at hl 1 rfl) ?_
      refine lv_aload_n C.1 C.2.1 dL_law_562 rfl (lv_at hl 0 rfl) ?_
      refine lv_iload C.1 C.2.1 dL_law_563 (lv_at hl 4 rfl) ?_
      refine lv_iconst (v := 1) C.1 C.2.1 dL_law_565 (by decide) ?_
      refine lv_iadd C.1 C.2.1 dL_law_566 ?_
      refine gSld (j := i + 1) C hX hbl hbA hO (nI_succ i).symm (by omega) hL dL_law_567 ?_
      refine lv_aload_n C.1 C.2.1 dL_law_568 rfl (lv_at hl 0 rfl) ?_
      refine lv_iload C.1 C.2.1 dL_law_569 (lv_at hl 4 rfl) ?_
      refine lv_iconst (v := 2) C.1 C.2.1 dL_law_571 (by decide) ?_
      refine lv_iadd C.1 C.2.1 dL_law_572 ?_
      refine gSld (j := i + 2) C hX hbl hbA hO (ni_2 i) (by omega) hL dL_law_573 ?_
      refine lv_aload_n C.1 C.2.1 dL_law_574 rfl (lv_at hl 3 rfl) ?_
      refine gCallW_i (As := [.ref (a 0), .int (xs (i + 1)), .int (xs (i + 2)), .ref o]) (rest := []) C hO (c_L_seek_ok l E a S mkA rk rv (mW E b S th mkB) o f (xs (i + 1)) (xs (i + 2)) hst hI hok) (vx_cwSW 4 C.2.2.2.2.1 gL_law_L_seek rfl rfl rfl (by decide +kernel) ⟨(Nat.le_of_ble_eq_true rfl), (Nat.le_of_ble_eq_true rfl)⟩) rfl hl.1 rfl (Nat.le_of_ble_eq_true rfl) dL_law_575 ⟨by show _ ≤ 601024; omega, by show _ ≤ 7293034; omega⟩ (fun H locs hO => ?_)
      refine lv_istore (lv' := (5, .int 0) :: lwV bs a b o i) C.1 C.2.1 dL_law_578 hl (by decide) rfl (fun ls hl => ?_)
      have hO := hO.flip
      refine lv_aload_n C.1 C.2.1 dL_law_580 rfl (lv_at hl 3 rfl) ?_
      refine lv_aload_n C.1 C.2.1 dL_law_581 rfl (lv_at hl 1 rfl) ?_
      refine lv_iload C.1 C.2.1 dL_law_582 (lv_at hl 5 rfl) ?_
      refine lv_iconst (v := 1) C.1 C.2.1 dL_law_584 (by decide) ?_
      refine lv_iadd C.1 C.2.1 dL_law_585 ?_
      refine gSld (j := i + 1) C hX hbl hbA hO (nI_succ i).symm (by omega) hL dL_law_586 ?_
      refine lv_aload_n C.1 C.2.1 dL_law_587 rfl (lv_at hl 1 rfl) ?_
      refine lv_iload C.1 C.2.1 dL_law_588 (lv_at hl 5 rfl) ?_
      refine lv_iconst (v := 2) C.1 C.2.1 dL_law_590 (by decide) ?_
      refine lv_iadd C.1 C.2.1 dL_law_591 ?_
      refine gSld (j := i + 2) C hX hbl hbA hO (ni_2 i) (by omega) hL dL_law_592 ?_
      refine gCall_i (As := [.int (xs (i + 1)), .int (xs (i + 2))]) (rest := []) C hO (c_X3_seek_ok l E b S th mkB _ (xs (i + 1)) (xs (i + 2)) hI hsr hok) (cwV 2 C.2.2.2.2.1 gL_law_X3_seek rfl rfl rfl (by decide +kernel) ⟨(Nat.le_of_ble_eq_true rfl), (Nat.le_of_ble_eq_true rfl)⟩) (va_recv C.2.2.2.2.2.2.2.1.1 hO.1 (ci := 3) (q0 := 0) rfl rfl) rfl hl.1 rfl (Nat.le_of_ble_eq_true rfl) dL_law_593 ⟨by show _ ≤ 601024; omega, by show _ ≤ 7293034; omega⟩ (fun H locs hO => ?_)
      refine lv_istore (lv' := (6, .int (s_at S (xs (i + 1)).toNatClampNeg)) :: (5, .int 0) :: lwV bs a b o i) C.1 C.2.1 dL_law_596 hl (by decide) rfl (fun ls hl => ?_)
      refine lv_aload_n C.1 C.2.1 dL_law_598 rfl (lv_at hl 4 rfl) ?_
      refine gCall_i (As := []) (rest := []) C hO (c_X3_thrown l E b _ 0 _ _) (cwV 0 C.2.2.2.2.1 gL_law_X3_thrown rfl rfl rfl (by decide +kernel) ⟨(Nat.le_of_ble_eq_true rfl), (Nat.le_of_ble_eq_true rfl)⟩) (va_recv C.2.2.2.2.2.2.2.1.1 hO.1 (ci := 3) (q0 := 0) rfl rfl) rfl hl.1 rfl (Nat.le_of_ble_eq_true rfl) dL_law_599 ⟨by show _ ≤ 601024; omega, by show _ ≤ 7293034; omega⟩ (fun H locs hO => ?_)
      have hO := hO.flop
      refine lv_iload C.1 C.2.1 dL_law_602 (lv_at hl 1 rfl) ?_
      refine lv_icmp_eq (tgt := 609) C.1 C.2.1 dL_law_604 (by decide) (fun _ => ?_) (fun z9 => absurd rfl z9)
      refine lv_iload C.1 C.2.1 dL_law_609 (lv_at hl 1 rfl) ?_
      refine lv_if_ne (tgt := 626) C.1 C.2.1 dL_law_611 (by decide) (fun z9 => absurd rfl z9) (fun _ => ?_)
      refine lv_aload_n C.1 C.2.1 dL_law_614 rfl (lv_at hl 5 rfl) ?_
      refine lv_iconst (v := 0) C.1 C.2.1 dL_law_615 (by decide) ?_
      refine gLald C hO dL_law_616 ?_
      rw [vp_u09]
      refine lv_iload C.1 C.2.1 dL_law_617 (lv_at hl 0 rfl) ?_
      refine lv_i2l C.1 C.2.1 dL_law_619 rfl ?_
      refine W.lcmp C.1 C.2.1 dL_law_620 ?_
      refine lv_if_eq (tgt := 626) C.1 C.2.1 dL_law_621 (by decide) (fun _ => ?_) (fun z9 => absurd (lcm9 _) z9)
      refine lv_goto (tgt := 1939) C.1 C.2.1 dL_law_626 (by decide) ?_
      exact W.widen (show _ ≤ cells + 32 by omega) (show _ ≤ slots + 400 by omega) (kk _ _ _ _ _ _ _ _ _ _ ((hw9.at_ _).mono (by omega)) hO (lv_sub hl [2, 3, 4, 5, 6] rfl))
    · have hno : okShip S (xs (i + 1)) ∧ ¬ okOff S (xs (i + 2)) := by first | exact ⟨hp9, hq9⟩ | exact ⟨hp9.1, hp9.2, hq9⟩
      have hno3 : okShip S (xs (i + 1)) ∧ ¬ okOff S (xs (i + 2)) := by first | exact hno | exact ⟨hp9, hq9⟩
      refine lv_aload_n C.1 C.2.1 dL_law_561 rfl (lv_at hl 1 rfl) ?_
      refine lv_aload_n C.1 C.2.1 dL_law_562 rfl (lv_at hl 0 rfl) ?_
      refine lv_iload C.1 C.2.1 dL_law_563 (lv_at hl 4 rfl) ?_
      refine lv_iconst (v := 1) C.1 C.2.1 dL_law_565 (by decide) ?_
      refine lv_iadd C.1 C.2.1 dL_law_566 ?_
      refine gSld (j := i + 1) C hX hbl hbA hO (nI_succ i).symm (by omega) hL dL_law_567 ?_
      refine lv_aload_n C.1 C.2.1 dL_law_568 rfl (lv_at hl 0 rfl) ?_
      refine lv_iload C.1 C.2.1 dL_law_569 (lv_at hl 4 rfl) ?_
      refine lv_iconst (v := 2) C.1 C.2.1 dL_law_571 (by decide) ?_
      refine lv_iadd C.1 C.2.1 dL_law_572 ?_
      refine gSld (j := i + 2) C hX hbl hbA hO (ni_2 i) (by omega) hL dL_law_573 ?_
      refine lv_aload_n C.1 C.2.1 dL_law_574 rfl (lv_at hl 3 rfl) ?_
      refine gCallW_i (As := [.ref (a 0), .int (xs (i + 1)), .int (xs (i + 2)), .ref o]) (rest := []) C hO (c_L_seek_no2 l E a S mkA rk rv (mW E b S th mkB) o f (xs (i + 1)) (xs (i + 2)) hst hI hno) (vx_cwSW 4 C.2.2.2.2.1 gL_law_L_seek rfl rfl rfl (by decide +kernel) ⟨(Nat.le_of_ble_eq_true rfl), (Nat.le_of_ble_eq_true rfl)⟩) rfl hl.1 rfl (Nat.le_of_ble_eq_true rfl) dL_law_575 ⟨by show _ ≤ 601024; omega, by show _ ≤ 7293034; omega⟩ (fun H locs hO => ?_)
      refine lv_istore (lv' := (5, .int 2) :: lwV bs a b o i) C.1 C.2.1 dL_law_578 hl (by decide) rfl (fun ls hl => ?_)
      have hO := hO.flip
      refine lv_aload_n C.1 C.2.1 dL_law_580 rfl (lv_at hl 3 rfl) ?_
      refine lv_aload_n C.1 C.2.1 dL_law_581 rfl (lv_at hl 1 rfl) ?_
      refine lv_iload C.1 C.2.1 dL_law_582 (lv_at hl 5 rfl) ?_
      refine lv_iconst (v := 1) C.1 C.2.1 dL_law_584 (by decide) ?_
      refine lv_iadd C.1 C.2.1 dL_law_585 ?_
      refine gSld (j := i + 1) C hX hbl hbA hO (nI_succ i).symm (by omega) hL dL_law_586 ?_
      refine lv_aload_n C.1 C.2.1 dL_law_587 rfl (lv_at hl 1 rfl) ?_
      refine lv_iload C.1 C.2.1 dL_law_588 (lv_at hl 5 rfl) ?_
      refine lv_iconst (v := 2) C.1 C.2.1 dL_law_590 (by decide) ?_
      refine lv_iadd C.1 C.2.1 dL_law_591 ?_
      refine gSld (j := i + 2) C hX hbl hbA hO (ni_2 i) (by omega) hL dL_law_592 ?_
      refine gCall_i (As := [.int (xs (i + 1)), .int (xs (i + 2))]) (rest := []) C hO (c_X3_seek_no2 l E b S th mkB _ (xs (i + 1)) (xs (i + 2)) hI hsr hno3) (cwV 2 C.2.2.2.2.1 gL_law_X3_seek rfl rfl rfl (by decide +kernel) ⟨(Nat.le_of_ble_eq_true rfl), (Nat.le_of_ble_eq_true rfl)⟩) (va_recv C.2.2.2.2.2.2.2.1.1 hO.1 (ci := 3) (q0 := 0) rfl rfl) rfl hl.1 rfl (Nat.le_of_ble_eq_true rfl) dL_law_593 ⟨by show _ ≤ 601024; omega, by show _ ≤ 7293034; omega⟩ (fun H locs hO => ?_)
      refine lv_istore (lv' := (6, .int 0) :: (5, .int 2) :: lwV bs a b o i) C.1 C.2.1 dL_law_596 hl (by decide) rfl (fun ls hl => ?_)
      refine lv_aload_n C.1 C.2.1 dL_law_598 rfl (lv_at hl 4 rfl) ?_
      refine gCall_i (As := []) (rest := []) C hO (c_X3_thrown l E b _ 2 _ _) (cwV 0 C.2.2.2.2.1 gL_law_X3_thrown rfl rfl rfl (by decide +kernel) ⟨(Nat.le_of_ble_eq_true rfl), (Nat.le_of_ble_eq_true rfl)⟩) (va_recv C.2.2.2.2.2.2.2.1.1 hO.1 (ci := 3) (q0 := 0) rfl rfl) rfl hl.1 rfl (Nat.le_of_ble_eq_true rfl) dL_law_599 ⟨by show _ ≤ 601024; omega, by show _ ≤ 7293034; omega⟩ (fun H locs hO => ?_)
      have hO := hO.flop
      refine lv_iload C.1 C.2.1 dL_law_602 (lv_at hl 1 rfl) ?_
      refine lv_icmp_eq (tgt := 609) C.1 C.2.1 dL_law_604 (by decide) (fun _ => ?_) (fun z9 => absurd rfl z9)
      refine lv_iload C.1 C.2.1 dL_law_609 (lv_at hl 1 rfl) ?_
      refine lv_if_ne (tgt := 626) C.1 C.2.1 dL_law_611 (by decide) (fun _ => ?_) (fun z9 => absurd z9 (by decide))
      refine lv_goto (tgt := 1939) C.1 C.2.1 dL_law_626 (by decide) ?_
      exact W.widen (show _ ≤ cells + 32 by omega) (show _ ≤ slots + 400 by omega) (kk _ _ _ _ _ _ _ _ _ _ (hw9.mono (by omega)) hO (lv_sub hl [2, 3, 4, 5, 6] rfl))
  · have hno : ¬ okShip S (xs (i + 1)) := hp9
    have hno3 : ¬ okShip S (xs (i + 1)) := by first | exact hno | exact hp9
    refine lv_aload_n C.1 C.2.1 dL_law_561 rfl (lv_at hl 1 rfl) ?_
    refine lv_aload_n C.1 C.2.1 dL_law_562 rfl (lv_at hl 0 rfl) ?_
    refine lv_iload C.1 C.2.1 dL_law_563 (lv_at hl 4 rfl) ?_
    refine lv_iconst (v := 1) C.1 C.2.1 dL_law_565 (by decide) ?_
    refine lv_iadd C.1 C.2.1 dL_law_566 ?_
    refine gSld (j := i + 1) C hX hbl hbA hO (nI_succ i).symm (by omega) hL dL_law_567 ?_
    refine lv_aload_n C.1 C.2.1 dL_law_568 rfl (lv_at hl 0 rfl) ?_
    refine lv_iload C.1 C.2.1 dL_law_569 (lv_at hl 4 rfl) ?_
    refine lv_iconst (v := 2) C.1 C.2.1 dL_law_571 (by decide) ?_
    refine lv_iadd C.1 C.2.1 dL_law_572 ?_
    refine gSld (j := i + 2) C hX hbl hbA hO (ni_2 i) (by omega) hL dL_law_573 ?_
    refine lv_aload_n C.1 C.2.1 dL_law_574 rfl (lv_at hl 3 rfl) ?_
    refine gCallW_i (As := [.ref (a 0), .int (xs (i + 1)), .int (xs (i + 2)), .ref o]) (rest := []) C hO (c_L_seek_no1 l E a S mkA rk rv (mW E b S th mkB) o f (xs (i + 1)) (xs (i + 2)) hst hI hno) (vx_cwSW 4 C.2.2.2.2.1 gL_law_L_seek rfl rfl rfl (by decide +kernel) ⟨(Nat.le_of_ble_eq_true rfl), (Nat.le_of_ble_eq_true rfl)⟩) rfl hl.1 rfl (Nat.le_of_ble_eq_true rfl) dL_law_575 ⟨by show _ ≤ 601024; omega, by show _ ≤ 7293034; omega⟩ (fun H locs hO => ?_)
    refine lv_istore (lv' := (5, .int 1) :: lwV bs a b o i) C.1 C.2.1 dL_law_578 hl (by decide) rfl (fun ls hl => ?_)
    have hO := hO.flip
    refine lv_aload_n C.1 C.2.1 dL_law_580 rfl (lv_at hl 3 rfl) ?_
    refine lv_aload_n C.1 C.2.1 dL_law_581 rfl (lv_at hl 1 rfl) ?_
    refine lv_iload C.1 C.2.1 dL_law_582 (lv_at hl 5 rfl) ?_
    refine lv_iconst (v := 1) C.1 C.2.1 dL_law_584 (by decide) ?_
    refine lv_iadd C.1 C.2.1 dL_law_585 ?_
    refine gSld (j := i + 1) C hX hbl hbA hO (nI_succ i).symm (by omega) hL dL_law_586 ?_
    refine lv_aload_n C.1 C.2.1 dL_law_587 rfl (lv_at hl 1 rfl) ?_
    refine lv_iload C.1 C.2.1 dL_law_588 (lv_at hl 5 rfl) ?_
    refine lv_iconst (v := 2) C.1 C.2.1 dL_law_590 (by decide) ?_
    refine lv_iadd C.1 C.2.1 dL_law_591 ?_
    refine gSld (j := i + 2) C hX hbl hbA hO (ni_2 i) (by omega) hL dL_law_592 ?_
    refine gCall_i (As := [.int (xs (i + 1)), .int (xs (i + 2))]) (rest := []) C hO (c_X3_seek_no l E b S th mkB _ (xs (i + 1)) (xs (i + 2)) hI hsr hno3) (cwV 2 C.2.2.2.2.1 gL_law_X3_seek rfl rfl rfl (by decide +kernel) ⟨(Nat.le_of_ble_eq_true rfl), (Nat.le_of_ble_eq_true rfl)⟩) (va_recv C.2.2.2.2.2.2.2.1.1 hO.1 (ci := 3) (q0 := 0) rfl rfl) rfl hl.1 rfl (Nat.le_of_ble_eq_true rfl) dL_law_593 ⟨by show _ ≤ 601024; omega, by show _ ≤ 7293034; omega⟩ (fun H locs hO => ?_)
    refine lv_istore (lv' := (6, .int 0) :: (5, .int 1) :: lwV bs a b o i) C.1 C.2.1 dL_law_596 hl (by decide) rfl (fun ls hl => ?_)
    refine lv_aload_n C.1 C.2.1 dL_law_598 rfl (lv_at hl 4 rfl) ?_
    refine gCall_i (As := []) (rest := []) C hO (c_X3_thrown l E b _ 1 _ _) (cwV 0 C.2.2.2.2.1 gL_law_X3_thrown rfl rfl rfl (by decide +kernel) ⟨(Nat.le_of_ble_eq_true rfl), (Nat.le_of_ble_eq_true rfl)⟩) (va_recv C.2.2.2.2.2.2.2.1.1 hO.1 (ci := 3) (q0 := 0) rfl rfl) rfl hl.1 rfl (Nat.le_of_ble_eq_true rfl) dL_law_599 ⟨by show _ ≤ 601024; omega, by show _ ≤ 7293034; omega⟩ (fun H locs hO => ?_)
    have hO := hO.flop
    refine lv_iload C.1 C.2.1 dL_law_602 (lv_at hl 1 rfl) ?_
    refine lv_icmp_eq (tgt := 609) C.1 C.2.1 dL_law_604 (by decide) (fun _ => ?_) (fun z9 => absurd rfl z9)
    refine lv_iload C.1 C.2.1 dL_law_609 (lv_at hl 1 rfl) ?_
    refine lv_if_ne (tgt := 626) C.1 C.2.1 dL_law_611 (by decide) (fun _ => ?_) (fun z9 => absurd z9 (by decide))
    refine lv_goto (tgt := 1939) C.1 C.2.1 dL_law_626 (by decide) ?_
    exact W.widen (show _ ≤ cells + 32 by omega) (show _ ≤ slots + 400 by omega) (kk _ _ _ _ _ _ _ _ _ _ (hw9.mono (by omega)) hO (lv_sub hl [2, 3, 4, 5, 6] rfl))
set_option maxHeartbeats 4000000 in
set_option maxRecDepth 100000 in
theorem st_p629 {p : Program} {l : Launch} {e : Env} {s : State} {m : MethodId} {args : Array Value} {below : List Frame} {meth : Method} {c : Code} {H : Heap} {locs : List Loc} {cells slots : Nat} {Q : State → Prop} {E : gE} {A : Nat → Prop} {bs L : Nat} {xs : Nat → Int32} {a b : Nat → Nat} {o i : Nat} {S : St} {mkA rk rv : Nat → Int32} {f : Nat → Int64} {mkB : Nat → Int32} {th : Int32} {B : Int} {ls : Array Slot} (C : gCx p s m args meth c cL_law 9 wsL_law RL ret E A) (hst : l.stackTraces = false) (hX : va_X bs L xs s s.heap) (hbl : bs < s.heap.size) (hbA : ¬ A bs) (hL : L ≤ 1536) (hi : i + 2 < L) (hw9 : lwI S B) (hB : B + 48 < 2147483647) (hc9 : cells ≤ 600000) (hs9 : slots ≤ 7000000) (hO : gO E A s (lwW E a b o S mkA rk rv f mkB th) H locs) (hl : lv_has ls 9 (lwV bs a b o i)) (kk : lwK p l e s m args below meth c E A bs a b o i (cells + 32) (slots + 400) (B + 48) Q) : W p l e room_1 s m args below meth c H locs cells slots Q (F0 m 629 ls []) := by
  have hI := hw9.inv
  have hsr := hw9.1.srt
  by_cases hok : (okHours (xs (i + 1)))
  · refine lv_aload_n C.1 C.2.1 dL_law_629 rfl (lv_at hl 1 rfl) ?_
    refine lv_aload_n C.1 C.2.1 dL_law_630 rfl (lv_at hl 0 rfl) ?_
    refine lv_iload C.1 C.2.1 dL_law_631 (lv_at hl 4 rfl) ?_
    refine lv_iconst (v := 1) C.1 C.2.1 dL_law_633 (by decide) ?_
    refine lv_iadd C.1 C.2.1 dL_law_634 ?_
    refine gSld (j := i + 1) C hX hbl hbA hO (nI_succ i).symm (by omega) hL dL_law_635 ?_
    refine lv_aload_n C.1 C.2.1 dL_law_636 rfl (lv_at hl 3 rfl) ?_
    refine gCallW_i (As := [.ref (a 0), .int (xs (i + 1)), .ref o]) (rest := []) C hO (c_L_passHours_ok l E a S mkA rk rv (mW E b S th mkB) o f (xs (i + 1)) hst hI hok) (vx_cwSW 3 C.2.2.2.2.1 gL_law_L_passHours rfl rfl rfl (by decide +kernel) ⟨(Nat.le_of_ble_eq_true rfl), (Nat.le_of_ble_eq_true rfl)⟩) rfl hl.1 rfl (Nat.le_of_ble_eq_true rfl) dL_law_637 ⟨by show _ ≤ 601024; omega, by show _ ≤ 7293034; omega⟩ (fun H locs hO => ?_)
    refine lv_istore (lv' := (5, .int 0) :: lwV bs a b o i) C.1 C.2.1 dL_law_640 hl (by decide) rfl (fun ls hl => ?_)
    have hO := hO.flip
    refine lv_aload_n C.1 C.2.1 dL_law_642 rfl (lv_at hl 3 rfl) ?_
    refine lv_aload_n C.1 C.2.1 dL_law_643 rfl (lv_at hl 1 rfl) ?_
    refine lv_iload C.1 C.2.1 dL_law_644 (lv_at hl 5 rfl) ?_
    refine lv_iconst (v := 1) C.1 C.2.1 dL_law_646 (by decide) ?_
    refine lv_iadd C.1 C.2.1 dL_law_647 ?_
    refine gSld (j := i + 1) C hX hbl hbA hO (nI_succ i).symm (by omega) hL dL_law_648 ?_
    refine gCall_i (As := [.int (xs (i + 1))]) (rest := []) C hO (c_X3_passHours_ok l E b S th mkB _ (xs (i + 1)) hI hsr hok) (cwV 1 C.2.2.2.2.1 gL_law_X3_passHours rfl rfl rfl (by decide +kernel) ⟨(Nat.le_of_ble_eq_true rfl), (Nat.le_of_ble_eq_true rfl)⟩) (va_recv C.2.2.2.2.2.2.2.1.1 hO.1 (ci := 3) (q0 := 0) rfl rfl) rfl hl.1 rfl (Nat.le_of_ble_eq_true rfl) dL_law_649 ⟨by show _ ≤ 601024; omega, by show _ ≤ 7293034; omega⟩ (fun H locs hO => ?_)
    refine lv_istore (lv' := (6, .int (nI (s_ph S ((xs (i + 1)).toNatClampNeg) (s_sh S)))) :: (5, .int 0) :: lwV bs a b o i) C.1 C.2.1 dL_law_652 hl (by decide) rfl (fun ls hl => ?_)
    refine lv_aload_n C.1 C.2.1 dL_law_654 rfl (lv_at hl 4 rfl) ?_
    refine gCall_i (As := []) (rest := []) C hO (c_X3_thrown l E b _ 0 _ _) (cwV 0 C.2.2.2.2.1 gL_law_X3_thrown rfl rfl rfl (by decide +kernel) ⟨(Nat.le_of_ble_eq_true rfl), (Nat.le_of_ble_eq_true rfl)⟩) (va_recv C.2.2.2.2.2.2.2.1.1 hO.1 (ci := 3) (q0 := 0) rfl rfl) rfl hl.1 rfl (Nat.le_of_ble_eq_true rfl) dL_law_655 ⟨by show _ ≤ 601024; omega, by show _ ≤ 7293034; omega⟩ (fun H locs hO => ?_)
    have hO := hO.flop
    refine lv_iload C.1 C.2.1 dL_law_658 (lv_at hl 1 rfl) ?_
    refine lv_icmp_eq (tgt := 665) C.1 C.2.1 dL_law_660 (by decide) (fun _ => ?_) (fun z9 => absurd rfl z9)
    refine lv_iload C.1 C.2.1 dL_law_665 (lv_at hl 1 rfl) ?_
    refine lv_if_ne (tgt := 682) C.1 C.2.1 dL_law_667 (by decide) (fun z9 => absurd rfl z9) (fun _ => ?_)
    refine lv_aload_n C.1 C.2.1 dL_law_670 rfl (lv_at hl 5 rfl) ?_
    refine lv_iconst (v := 0) C.1 C.2.1 dL_law_671 (by decide) ?_
    refine gLald C hO dL_law_672 ?_
    rw [vp_u09]
    refine lv_iload C.1 C.2.1 dL_law_673 (lv_at hl 0 rfl) ?_
    refine lv_i2l C.1 C.2.1 dL_law_675 rfl ?_
    refine W.lcmp C.1 C.2.1 dL_law_676 ?_
    refine lv_if_eq (tgt := 682) C.1 C.2.1 dL_law_677 (by decide) (fun _ => ?_) (fun z9 => absurd (lcm9 _) z9)
    refine lv_goto (tgt := 1939) C.1 C.2.1 dL_law_682 (by decide) ?_
    exact W.widen (show _ ≤ cells + 32 by omega) (show _ ≤ slots + 400 by omega) (kk _ _ _ _ _ _ _ _ _ _ ((hw9.pass _).mono (by omega)) hO (lv_sub hl [2, 3, 4, 5, 6] rfl))
  · have hno : ¬ okHours (xs (i + 1)) := by first | exact hok | exact Classical.not_not.mp hok
    have hno3 : ¬ okHours (xs (i + 1)) := by first | exact hno | exact hok
    refine lv_aload_n C.1 C.2.1 dL_law_629 rfl (lv_at hl 1 rfl) ?_
    refine lv_aload_n C.1 C.2.1 dL_law_630 rfl (lv_at hl 0 rfl) ?_
    refine lv_iload C.1 C.2.1 dL_law_631 (lv_at hl 4 rfl) ?_
    refine lv_iconst (v := 1) C.1 C.2.1 dL_law_633 (by decide) ?_
    refine lv_iadd C.1 C.2.1 dL_law_634 ?_
    refine gSld (j := i + 1) C hX hbl hbA hO (nI_succ i).symm (by omega) hL dL_law_635 ?_
    refine lv_aload_n C.1 C.2.1 dL_law_636 rfl (lv_at hl 3 rfl) ?_
    refine gCallW_i (As := [.ref (a 0), .int (xs (i + 1)), .ref o]) (rest := []) C hO (c_L_passHours_no l E a S mkA rk rv (mW E b S th mkB) o f (xs (i + 1)) hst hI hno) (vx_cwSW 3 C.2.2.2.2.1 gL_law_L_passHours rfl rfl rfl (by decide +kernel) ⟨(Nat.le_of_ble_eq_true rfl), (Nat.le_of_ble_eq_true rfl)⟩) rfl hl.1 rfl (Nat.le_of_ble_eq_true rfl) dL_law_637 ⟨by show _ ≤ 601024; omega, by show _ ≤ 7293034; omega⟩ (fun H locs hO => ?_)
    refine lv_istore (lv' := (5, .int 1) :: lwV bs a b o i) C.1 C.2.1 dL_law_640 hl (by decide) rfl (fun ls hl => ?_)
    have hO := hO.flip
    refine lv_aload_n C.1 C.2.1 dL_law_642 rfl (lv_at hl 3 rfl) ?_
    refine lv_aload_n C.1 C.2.1 dL_law_643 rfl (lv_at hl 1 rfl) ?_
    refine lv_iload C.1 C.2.1 dL_law_644 (lv_at hl 5 rfl) ?_
    refine lv_iconst (v := 1) C.1 C.2.1 dL_law_646 (by decide) ?_
    refine lv_iadd C.1 C.2.1 dL_law_647 ?_
    refine gSld (j := i + 1) C hX hbl hbA hO (nI_succ i).symm (by omega) hL dL_law_648 ?_
    refine gCall_i (As := [.int (xs (i + 1))]) (rest := []) C hO (c_X3_passHours_no l E b S th mkB _ (xs (i + 1)) hI hsr hno3) (cwV 1 C.2.2.2.2.1 gL_law_X3_passHours rfl rfl rfl (by decide +kernel) ⟨(Nat.le_of_ble_eq_true rfl), (Nat.le_of_ble_eq_true rfl)⟩) (va_recv C.2.2.2.2.2.2.2.1.1 hO.1 (ci := 3) (q0 := 0) rfl rfl) rfl hl.1 rfl (Nat.le_of_ble_eq_true rfl) dL_law_649 ⟨by show _ ≤ 601024; omega, by show _ ≤ 7293034; omega⟩ (fun H locs hO => ?_)
    refine lv_istore (lv' := (6, .int 0) :: (5, .int 1) :: lwV bs a b o i) C.1 C.2.1 dL_law_652 hl (by decide) rfl (fun ls hl => ?_)
    refine lv_aload_n C.1 C.2.1 dL_law_654 rfl (lv_at hl 4 rfl) ?_
    refine gCall_i (As := []) (rest := []) C hO (c_X3_thrown l E b _ 1 _ _) (cwV 0 C.2.2.2.2.1 gL_law_X3_thrown rfl rfl rfl (by decide +kernel) ⟨(Nat.le_of_ble_eq_true rfl), (Nat.le_of_ble_eq_true rfl)⟩) (va_recv C.2.2.2.2.2.2.2.1.1 hO.1 (ci := 3) (q0 := 0) rfl rfl) rfl hl.1 rfl (Nat.le_of_ble_eq_true rfl) dL_law_655 ⟨by show _ ≤ 601024; omega, by show _ ≤ 7293034; omega⟩ (fun H locs hO => ?_)
    have hO := hO.flop
    refine lv_iload C.1 C.2.1 dL_law_658 (lv_at hl 1 rfl) ?_
    refine lv_icmp_eq (tgt := 665) C.1 C.2.1 dL_law_660 (by decide) (fun _ => ?_) (fun z9 => absurd rfl z9)
    refine lv_iload C.1 C.2.1 dL_law_665 (lv_at hl 1 rfl) ?_
    refine lv_if_ne (tgt := 682) C.1 C.2.1 dL_law_667 (by decide) (fun _ => ?_) (fun z9 => absurd z9 (by decide))
    refine lv_goto (tgt := 1939) C.1 C.2.1 dL_law_682 (by decide) ?_
    exact W.widen (show _ ≤ cells + 32 by omega) (show _ ≤ slots + 400 by omega) (kk _ _ _ _ _ _ _ _ _ _ (hw9.mono (by omega)) hO (lv_sub hl [2, 3, 4, 5, 6] rfl))
set_option maxHeartbeats 4000000 in
set_option maxRecDepth 100000 in
theorem st_p685 {p : Program} {l : Launch} {e : Env} {s : State} {m : MethodId} {args : Array Value} {below : List Frame} {meth : Method} {c : Code} {H : Heap} {locs : List Loc} {cells slots : Nat} {Q : State → Prop} {E : gE} {A : Nat → Prop} {bs L : Nat} {xs : Nat → Int32} {a b : Nat → Nat} {o i : Nat} {S : St} {mkA rk rv : Nat → Int32} {f : Nat → Int64} {mkB : Nat → Int32} {th : Int32} {B : Int} {ls : Array Slot} (C : gCx p s m args meth c cL_law 9 wsL_law RL ret E A) (hst : l.stackTraces = false) (hX : va_X bs L xs s s.heap) (hbl : bs < s.heap.size) (hbA : ¬ A bs) (hL : L ≤ 1536) (hi : i + 2 < L) (hw9 : lwI S B) (hB : B + 48 < 2147483647) (hc9 : cells ≤ 600000) (hs9 : slots ≤ 7000000) (hO : gO E A s (lwW E a b o S mkA rk rv f mkB th) H locs) (hl : lv_has ls 9 (lwV bs a b o i)) (kk : lwK p l e s m args below meth c E A bs a b o i (cells + 32) (slots + 400) (B + 48) Q) : W p l e room_1 s m args below meth c H locs cells slots Q (F0 m 685 ls []) := by
  have hI := hw9.inv
  have hsr := hw9.1.srt
  refine lv_aload_n C.1 C.2.1 dL_law_685 rfl (lv_at hl 1 rfl) ?_
  refine gCall_i (As := []) (rest := []) C hO (c_X2_hours l E a S mkA rk rv _  hI) (cwV 0 C.2.2.2.2.1 gL_law_X2_hours rfl rfl rfl (by decide +kernel) ⟨(Nat.le_of_ble_eq_true rfl), (Nat.le_of_ble_eq_true rfl)⟩) (va_recv C.2.2.2.2.2.2.2.1.1 hO.1 (ci := 2) (q0 := 0) rfl rfl) rfl hl.1 rfl (Nat.le_of_ble_eq_true rfl) dL_law_686 ⟨by show _ ≤ 601024; omega, by show _ ≤ 7293034; omega⟩ (fun H locs hO => ?_)
  have hO := hO.flip
  refine lv_aload_n C.1 C.2.1 dL_law_689 rfl (lv_at hl 2 rfl) ?_
  refine gCall_i (As := []) (rest := [.int _]) C hO (c_X3_hours l E b S th mkB _  hI hsr) (cwV 0 C.2.2.2.2.1 gL_law_X3_hours rfl rfl rfl (by decide +kernel) ⟨(Nat.le_of_ble_eq_true rfl), (Nat.le_of_ble_eq_true rfl)⟩) (va_recv C.2.2.2.2.2.2.2.1.1 hO.1 (ci := 3) (q0 := 0) rfl rfl) rfl hl.1 rfl (Nat.le_of_ble_eq_true rfl) dL_law_690 ⟨by show _ ≤ 601024; omega, by show _ ≤ 7293034; omega⟩ (fun H locs hO => ?_)
  have hO := hO.flop
  refine lv_icmp_eq (tgt := 1939) C.1 C.2.1 dL_law_693 (by decide) (fun _ => ?_) (fun z9 => absurd rfl z9)
  exact W.widen (show _ ≤ cells + 32 by omega) (show _ ≤ slots + 400 by omega) (kk _ _ _ _ _ _ _ _ _ _ (hw9.mono (by omega)) hO (lv_sub hl [0, 1, 2, 3, 4] rfl))
set_option maxHeartbeats 4000000 in
set_option maxRecDepth 100000 in
theorem st_p698 {p : Program} {l : Launch} {e : Env} {s : State} {m : MethodId} {args : Array Value} {below : List Frame} {meth : Method} {c : Code} {H : Heap} {locs : List Loc} {cells slots : Nat} {Q : State → Prop} {E : gE} {A : Nat → Prop} {bs L : Nat} {xs : Nat → Int32} {a b : Nat → Nat} {o i : Nat} {S : St} {mkA rk rv : Nat → Int32} {f : Nat → Int64} {mkB : Nat → Int32} {th : Int32} {B : Int} {ls : Array Slot} (C : gCx p s m args meth c cL_law 9 wsL_law RL ret E A) (hst : l.stackTraces = false) (hX : va_X bs L xs s s.heap) (hbl : bs < s.heap.size) (hbA : ¬ A bs) (hL : L ≤ 1536) (hi : i + 2 < L) (hw9 : lwI S B) (hB : B + 48 < 2147483647) (hc9 : cells ≤ 600000) (hs9 : slots ≤ 7000000) (hO : gO E A s (lwW E a b o S mkA rk rv f mkB th) H locs) (hl : lv_has ls 9 (lwV bs a b o i)) (kk : lwK p l e s m args below meth c E A bs a b o i (cells + 32) (slots + 400) (B + 48) Q) : W p l e room_1 s m args below meth c H locs cells slots Q (F0 m 698 ls []) := by
  have hI := hw9.inv
  have hsr := hw9.1.srt
  refine lv_aload_n C.1 C.2.1 dL_law_698 rfl (lv_at hl 1 rfl) ?_
  refine gCall_i (As := []) (rest := []) C hO (c_X2_phrases l E a S mkA rk rv _  hI) (cwV 0 C.2.2.2.2.1 gL_law_X2_phrases rfl rfl rfl (by decide +kernel) ⟨(Nat.le_of_ble_eq_true rfl), (Nat.le_of_ble_eq_true rfl)⟩) (va_recv C.2.2.2.2.2.2.2.1.1 hO.1 (ci := 2) (q0 := 0) rfl rfl) rfl hl.1 rfl (Nat.le_of_ble_eq_true rfl) dL_law_699 ⟨by show _ ≤ 601024; omega, by show _ ≤ 7293034; omega⟩ (fun H locs hO => ?_)
  have hO := hO.flip
  refine lv_aload_n C.1 C.2.1 dL_law_702 rfl (lv_at hl 2 rfl) ?_
  refine gCall_i (As := []) (rest := [.int _]) C hO (c_X3_phrases l E b S th mkB _  hI hsr) (cwV 0 C.2.2.2.2.1 gL_law_X3_phrases rfl rfl rfl (by decide +kernel) ⟨(Nat.le_of_ble_eq_true rfl), (Nat.le_of_ble_eq_true rfl)⟩) (va_recv C.2.2.2.2.2.2.2.1.1 hO.1 (ci := 3) (q0 := 0) rfl rfl) rfl hl.1 rfl (Nat.le_of_ble_eq_true rfl) dL_law_703 ⟨by show _ ≤ 601024; omega, by show _ ≤ 7293034; omega⟩ (fun H locs hO => ?_)
  have hO := hO.flop
  refine lv_icmp_eq (tgt := 1939) C.1 C.2.1 dL_law_706 (by decide) (fun _ => ?_) (fun z9 => absurd rfl z9)
  exact W.widen (show _ ≤ cells + 32 by omega) (show _ ≤ slots + 400 by omega) (kk _ _ _ _ _ _ _ _ _ _ (hw9.mono (by omega)) hO (lv_sub hl [0, 1, 2, 3, 4] rfl))
set_option maxHeartbeats 4000000 in
set_option maxRecDepth 100000 in
theorem st_p711 {p : Program} {l : Launch} {e : Env} {s : State} {m : MethodId} {args : Array Value} {below : List Frame} {meth : Method} {c : Code} {H : Heap} {locs : List Loc} {cells slots : Nat} {Q : State → Prop} {E : gE} {A : Nat → Prop} {bs L : Nat} {xs : Nat → Int32} {a b : Nat → Nat} {o i : Nat} {S : St} {mkA rk rv : Nat → Int32} {f : Nat → Int64} {mkB : Nat → Int32} {th : Int32} {B : Int} {ls : Array Slot} (C : gCx p s m args meth c cL_law 9 wsL_law RL ret E A) (hst : l.stackTraces = false) (hX : va_X bs L xs s s.heap) (hbl : bs < s.heap.size) (hbA : ¬ A bs) (hL : L ≤ 1536) (hi : i + 2 < L) (hw9 : lwI S B) (hB : B + 48 < 2147483647) (hc9 : cells ≤ 600000) (hs9 : slots ≤ 7000000) (hO : gO E A s (lwW E a b o S mkA rk rv f mkB th) H locs) (hl : lv_has ls 9 (lwV bs a b o i)) (kk : lwK p l e s m args below meth c E A bs a b o i (cells + 32) (slots + 400) (B + 48) Q) : W p l e room_1 s m args below meth c H locs cells slots Q (F0 m 711 ls []) := by
  have hI := hw9.inv
  have hsr := hw9.1.srt
  refine lv_aload_n C.1 C.2.1 dL_law_711 rfl (lv_at hl 1 rfl) ?_
  refine gCall_i (As := []) (rest := []) C hO (c_X2_nextOffset l E a S mkA rk rv _  hI) (cwV 0 C.2.2.2.2.1 gL_law_X2_nextOffset rfl rfl rfl (by decide +kernel) ⟨(Nat.le_of_ble_eq_true rfl), (Nat.le_of_ble_eq_true rfl)⟩) (va_recv C.2.2.2.2.2.2.2.1.1 hO.1 (ci := 2) (q0 := 0) rfl rfl) rfl hl.1 rfl (Nat.le_of_ble_eq_true rfl) dL_law_712 ⟨by show _ ≤ 601024; omega, by show _ ≤ 7293034; omega⟩ (fun H locs hO => ?_)
  have hO := hO.flip
  refine lv_aload_n C.1 C.2.1 dL_law_715 rfl (lv_at hl 2 rfl) ?_
  refine gCall_i (As := []) (rest := [.int _]) C hO (c_X3_nextOffset l E b S th mkB _  hI hsr) (cwV 0 C.2.2.2.2.1 gL_law_X3_nextOffset rfl rfl rfl (by decide +kernel) ⟨(Nat.le_of_ble_eq_true rfl), (Nat.le_of_ble_eq_true rfl)⟩) (va_recv C.2.2.2.2.2.2.2.1.1 hO.1 (ci := 3) (q0 := 0) rfl rfl) rfl hl.1 rfl (Nat.le_of_ble_eq_true rfl) dL_law_716 ⟨by show _ ≤ 601024; omega, by show _ ≤ 7293034; omega⟩ (fun H locs hO => ?_)
  have hO := hO.flop
  refine lv_icmp_eq (tgt := 1939) C.1 C.2.1 dL_law_719 (by decide) (fun _ => ?_) (fun z9 => absurd rfl z9)
  exact W.widen (show _ ≤ cells + 32 by omega) (show _ ≤ slots + 400 by omega) (kk _ _ _ _ _ _ _ _ _ _ (hw9.mono (by omega)) hO (lv_sub hl [0, 1, 2, 3, 4] rfl))
set_option maxHeartbeats 4000000 in
set_option maxRecDepth 100000 in
theorem st_p724 {p : Program} {l : Launch} {e : Env} {s : State} {m : MethodId} {args : Array Value} {below : List Frame} {meth : Method} {c : Code} {H : Heap} {locs : List Loc} {cells slots : Nat} {Q : State → Prop} {E : gE} {A : Nat → Prop} {bs L : Nat} {xs : Nat → Int32} {a b : Nat → Nat} {o i : Nat} {S : St} {mkA rk rv : Nat → Int32} {f : Nat → Int64} {mkB : Nat → Int32} {th : Int32} {B : Int} {ls : Array Slot} (C : gCx p s m args meth c cL_law 9 wsL_law RL ret E A) (hst : l.stackTraces = false) (hX : va_X bs L xs s s.heap) (hbl : bs < s.heap.size) (hbA : ¬ A bs) (hL : L ≤ 1536) (hi : i + 2 < L) (hw9 : lwI S B) (hB : B + 48 < 2147483647) (hc9 : cells ≤ 600000) (hs9 : slots ≤ 7000000) (hO : gO E A s (lwW E a b o S mkA rk rv f mkB th) H locs) (hl : lv_has ls 9 (lwV bs a b o i)) (kk : lwK p l e s m args below meth c E A bs a b o i (cells + 32) (slots + 400) (B + 48) Q) : W p l e room_1 s m args below meth c H locs cells slots Q (F0 m 724 ls []) := by
  have hI := hw9.inv
  have hsr := hw9.1.srt
  refine lv_aload_n C.1 C.2.1 dL_law_724 rfl (lv_at hl 1 rfl) ?_
  refine gCall_i (As := []) (rest := []) C hO (c_X2_firstOffset l E a S mkA rk rv _  hI) (cwV 0 C.2.2.2.2.1 gL_law_X2_firstOffset rfl rfl rfl (by decide +kernel) ⟨(Nat.le_of_ble_eq_true rfl), (Nat.le_of_ble_eq_true rfl)⟩) (va_recv C.2.2.2.2.2.2.2.1.1 hO.1 (ci := 2) (q0 := 0) rfl rfl) rfl hl.1 rfl (Nat.le_of_ble_eq_true rfl) dL_law_725 ⟨by show _ ≤ 601024; omega, by show _ ≤ 7293034; omega⟩ (fun H locs hO => ?_)
  have hO := hO.flip
  refine lv_aload_n C.1 C.2.1 dL_law_728 rfl (lv_at hl 2 rfl) ?_
  refine gCall_i (As := []) (rest := [.int _]) C hO (c_X3_firstOffset l E b S th mkB _  hI hsr) (cwV 0 C.2.2.2.2.1 gL_law_X3_firstOffset rfl rfl rfl (by decide +kernel) ⟨(Nat.le_of_ble_eq_true rfl), (Nat.le_of_ble_eq_true rfl)⟩) (va_recv C.2.2.2.2.2.2.2.1.1 hO.1 (ci := 3) (q0 := 0) rfl rfl) rfl hl.1 rfl (Nat.le_of_ble_eq_true rfl) dL_law_729 ⟨by show _ ≤ 601024; omega, by show _ ≤ 7293034; omega⟩ (fun H locs hO => ?_)
  have hO := hO.flop
  refine lv_icmp_eq (tgt := 1939) C.1 C.2.1 dL_law_732 (by decide) (fun _ => ?_) (fun z9 => absurd rfl z9)
  exact W.widen (show _ ≤ cells + 32 by omega) (show _ ≤ slots + 400 by omega) (kk _ _ _ _ _ _ _ _ _ _ (hw9.mono (by omega)) hO (lv_sub hl [0, 1, 2, 3, 4] rfl))
set_option maxHeartbeats 4000000 in
set_option maxRecDepth 100000 in
theorem st_p737 {p : Program} {l : Launch} {e : Env} {s : State} {m : MethodId} {args : Array Value} {below : List Frame} {meth : Method} {c : Code} {H : Heap} {locs : List Loc} {cells slots : Nat} {Q : State → Prop} {E : gE} {A : Nat → Prop} {bs L : Nat} {xs : Nat → Int32} {a b : Nat → Nat} {o i : Nat} {S : St} {mkA rk rv : Nat → Int32} {f : Nat → Int64} {mkB : Nat → Int32} {th : Int32} {B : Int} {ls : Array Slot} (C : gCx p s m args meth c cL_law 9 wsL_law RL ret E A) (hst : l.stackTraces = false) (hX : va_X bs L xs s s.heap) (hbl : bs < s.heap.size) (hbA : ¬ A bs) (hL : L ≤ 1536) (hi : i + 2 < L) (hw9 : lwI S B) (hB : B + 48 < 2147483647) (hc9 : cells ≤ 600000) (hs9 : slots ≤ 7000000) (hO : gO E A s (lwW E a b o S mkA rk rv f mkB th) H locs) (hl : lv_has ls 9 (lwV bs a b o i)) (kk : lwK p l e s m args below meth c E A bs a b o i (cells + 32) (slots + 400) (B + 48) Q) : W p l e room_1 s m args below meth c H locs cells slots Q (F0 m 737 ls []) := by
  have hI := hw9.inv
  have hsr := hw9.1.srt
  refine lv_aload_n C.1 C.2.1 dL_law_737 rfl (lv_at hl 1 rfl) ?_
  refine gCall_i (As := []) (rest := []) C hO (c_X2_dropped l E a S mkA rk rv _  hI) (cwV 0 C.2.2.2.2.1 gL_law_X2_dropped rfl rfl rfl (by decide +kernel) ⟨(Nat.le_of_ble_eq_true rfl), (Nat.le_of_ble_eq_true rfl)⟩) (va_recv C.2.2.2.2.2.2.2.1.1 hO.1 (ci := 2) (q0 := 0) rfl rfl) rfl hl.1 rfl (Nat.le_of_ble_eq_true rfl) dL_law_738 ⟨by show _ ≤ 601024; omega, by show _ ≤ 7293034; omega⟩ (fun H locs hO => ?_)
  have hO := hO.flip
  refine lv_aload_n C.1 C.2.1 dL_law_741 rfl (lv_at hl 2 rfl) ?_
  refine gCall_i (As := []) (rest := [.int _]) C hO (c_X3_dropped l E b S th mkB _  hI hsr) (cwV 0 C.2.2.2.2.1 gL_law_X3_dropped rfl rfl rfl (by decide +kernel) ⟨(Nat.le_of_ble_eq_true rfl), (Nat.le_of_ble_eq_true rfl)⟩) (va_recv C.2.2.2.2.2.2.2.1.1 hO.1 (ci := 3) (q0 := 0) rfl rfl) rfl hl.1 rfl (Nat.le_of_ble_eq_true rfl) dL_law_742 ⟨by show _ ≤ 601024; omega, by show _ ≤ 7293034; omega⟩ (fun H locs hO => ?_)
  have hO := hO.flop
  refine lv_icmp_eq (tgt := 1939) C.1 C.2.1 dL_law_745 (by decide) (fun _ => ?_) (fun z9 => absurd rfl z9)
  exact W.widen (show _ ≤ cells + 32 by omega) (show _ ≤ slots + 400 by omega) (kk _ _ _ _ _ _ _ _ _ _ (hw9.mono (by omega)) hO (lv_sub hl [0, 1, 2, 3, 4] rfl))
