set_option maxHeartbeats 4000000 in
set_option maxRecDepth 100000 in
theorem st_p750 {p : Program} {l : Launch} {e : Env} {s : State} {m : MethodId} {args : Array Value} {below : List Frame} {meth : Method} {c : Code} {H : Heap} {locs : List Loc} {cells slots : Nat} {Q : State → Prop} {E : gE} {A : Nat → Prop} {bs L : Nat} {xs : Nat → Int32} {a b : Nat → Nat} {o i : Nat} {S : St} {mkA rk rv : Nat → Int32} {f : Nat → Int64} {mkB : Nat → Int32} {th : Int32} {B : Int} {ls : Array Slot} (C : gCx p s m args meth c cL_law 9 wsL_law RL ret E A) (hst : l.stackTraces = false) (hX : va_X bs L xs s s.heap) (hbl : bs < s.heap.size) (hbA : ¬ A bs) (hL : L ≤ 1536) (hi : i + 2 < L) (hw9 : lwI S B) (hB : B + 48 < 2147483647) (hc9 : cells ≤ 600000) (hs9 : slots ≤ 7000000) (hO : gO E A s (lwW E a b o S mkA rk rv f mkB th) H locs) (hl : lv_has ls 9 (lwV bs a b o i)) (kk : lwK p l e s m args below meth c E A bs a b o i (cells + 32) (slots + 400) (B + 48) Q) : W p l e room_1 s m args below meth c H locs cells slots Q (F0 m 750 ls []) := by
  have hI := hw9.inv
  have hsr := hw9.1.srt
  refine lv_aload_n C.1 C.2.1 dL_law_750 rfl (lv_at hl 1 rfl) ?_
  refine lv_aload_n C.1 C.2.1 dL_law_751 rfl (lv_at hl 0 rfl) ?_
  refine lv_iload C.1 C.2.1 dL_law_752 (lv_at hl 4 rfl) ?_
  refine lv_iconst (v := 1) C.1 C.2.1 dL_law_754 (by decide) ?_
  refine lv_iadd C.1 C.2.1 dL_law_755 ?_
  refine gSld (j := i + 1) C hX hbl hbA hO (nI_succ i).symm (by omega) hL dL_law_756 ?_
  refine gCall_i (As := [.int (xs (i + 1))]) (rest := []) C hO (c_X2_isKept l E a S mkA rk rv _ (xs (i + 1)) hI) (cwV 1 C.2.2.2.2.1 gL_law_X2_isKept rfl rfl rfl (by decide +kernel) ⟨(Nat.le_of_ble_eq_true rfl), (Nat.le_of_ble_eq_true rfl)⟩) (va_recv C.2.2.2.2.2.2.2.1.1 hO.1 (ci := 2) (q0 := 0) rfl rfl) rfl hl.1 rfl (Nat.le_of_ble_eq_true rfl) dL_law_757 ⟨by show _ ≤ 601024; omega, by show _ ≤ 7293034; omega⟩ (fun H locs hO => ?_)
  have hO := hO.flip
  refine lv_aload_n C.1 C.2.1 dL_law_760 rfl (lv_at hl 2 rfl) ?_
  refine lv_aload_n C.1 C.2.1 dL_law_761 rfl (lv_at hl 0 rfl) ?_
  refine lv_iload C.1 C.2.1 dL_law_762 (lv_at hl 4 rfl) ?_
  refine lv_iconst (v := 1) C.1 C.2.1 dL_law_764 (by decide) ?_
  refine lv_iadd C.1 C.2.1 dL_law_765 ?_
  refine gSld (j := i + 1) C hX hbl hbA hO (nI_succ i).symm (by omega) hL dL_law_766 ?_
  refine gCall_i (As := [.int (xs (i + 1))]) (rest := [.int _]) C hO (c_X3_isKept l E b S th mkB _ (xs (i + 1)) hI hsr) (cwV 1 C.2.2.2.2.1 gL_law_X3_isKept rfl rfl rfl (by decide +kernel) ⟨(Nat.le_of_ble_eq_true rfl), (Nat.le_of_ble_eq_true rfl)⟩) (va_recv C.2.2.2.2.2.2.2.1.1 hO.1 (ci := 3) (q0 := 0) rfl rfl) rfl hl.1 rfl (Nat.le_of_ble_eq_true rfl) dL_law_767 ⟨by show _ ≤ 601024; omega, by show _ ≤ 7293034; omega⟩ (fun H locs hO => ?_)
  have hO := hO.flop
  refine lv_icmp_eq (tgt := 1939) C.1 C.2.1 dL_law_770 (by decide) (fun _ => ?_) (fun z9 => absurd rfl z9)
  exact W.widen (show _ ≤ cells + 32 by omega) (show _ ≤ slots + 400 by omega) (kk _ _ _ _ _ _ _ _ _ _ (hw9.mono (by omega)) hO (lv_sub hl [0, 1, 2, 3, 4] rfl))
set_option maxHeartbeats 4000000 in
set_option maxRecDepth 100000 in
theorem st_p775 {p : Program} {l : Launch} {e : Env} {s : State} {m : MethodId} {args : Array Value} {below : List Frame} {meth : Method} {c : Code} {H : Heap} {locs : List Loc} {cells slots : Nat} {Q : State → Prop} {E : gE} {A : Nat → Prop} {bs L : Nat} {xs : Nat → Int32} {a b : Nat → Nat} {o i : Nat} {S : St} {mkA rk rv : Nat → Int32} {f : Nat → Int64} {mkB : Nat → Int32} {th : Int32} {B : Int} {ls : Array Slot} (C : gCx p s m args meth c cL_law 9 wsL_law RL ret E A) (hst : l.stackTraces = false) (hX : va_X bs L xs s s.heap) (hbl : bs < s.heap.size) (hbA : ¬ A bs) (hL : L ≤ 1536) (hi : i + 2 < L) (hw9 : lwI S B) (hB : B + 48 < 2147483647) (hc9 : cells ≤ 600000) (hs9 : slots ≤ 7000000) (hO : gO E A s (lwW E a b o S mkA rk rv f mkB th) H locs) (hl : lv_has ls 9 (lwV bs a b o i)) (kk : lwK p l e s m args below meth c E A bs a b o i (cells + 32) (slots + 400) (B + 48) Q) : W p l e room_1 s m args below meth c H locs cells slots Q (F0 m 775 ls []) := by
  have hI := hw9.inv
  have hsr := hw9.1.srt
  by_cases hok : (s_po S (xs (i + 1)) ≠ none)
  · refine lv_aload_n C.1 C.2.1 dL_law_775 rfl (lv_at hl 1 rfl) ?_
    refine lv_aload_n C.1 C.2.1 dL_law_776 rfl (lv_at hl 0 rfl) ?_
    refine lv_iload C.1 C.2.1 dL_law_777 (lv_at hl 4 rfl) ?_
    refine lv_iconst (v := 1) C.1 C.2.1 dL_law_779 (by decide) ?_
    refine lv_iadd C.1 C.2.1 dL_law_780 ?_
    refine gSld (j := i + 1) C hX hbl hbA hO (nI_succ i).symm (by omega) hL dL_law_781 ?_
    refine lv_aload_n C.1 C.2.1 dL_law_782 rfl (lv_at hl 3 rfl) ?_
    refine gCallW_i (As := [.ref (a 0), .int (xs (i + 1)), .ref o]) (rest := []) C hO (c_L_keyAt_ok l E a S mkA rk rv (mW E b S th mkB) o f (xs (i + 1)) hst hI hok) (vx_cwSW 3 C.2.2.2.2.1 gL_law_L_keyAt rfl rfl rfl (by decide +kernel) ⟨(Nat.le_of_ble_eq_true rfl), (Nat.le_of_ble_eq_true rfl)⟩) rfl hl.1 rfl (Nat.le_of_ble_eq_true rfl) dL_law_783 ⟨by show _ ≤ 601024; omega, by show _ ≤ 7293034; omega⟩ (fun H locs hO => ?_)
    refine lv_istore (lv' := (5, .int 0) :: lwV bs a b o i) C.1 C.2.1 dL_law_786 hl (by decide) rfl (fun ls hl => ?_)
    have hO := hO.flip
    refine lv_aload_n C.1 C.2.1 dL_law_788 rfl (lv_at hl 3 rfl) ?_
    refine lv_aload_n C.1 C.2.1 dL_law_789 rfl (lv_at hl 1 rfl) ?_
    refine lv_iload C.1 C.2.1 dL_law_790 (lv_at hl 5 rfl) ?_
    refine lv_iconst (v := 1) C.1 C.2.1 dL_law_792 (by decide) ?_
    refine lv_iadd C.1 C.2.1 dL_law_793 ?_
    refine gSld (j := i + 1) C hX hbl hbA hO (nI_succ i).symm (by omega) hL dL_law_794 ?_
    refine gCall_i (As := [.int (xs (i + 1))]) (rest := []) C hO (c_X3_keyAt_ok l E b S th mkB _ (xs (i + 1)) hI hsr hok) (cwV 1 C.2.2.2.2.1 gL_law_X3_keyAt rfl rfl rfl (by decide +kernel) ⟨(Nat.le_of_ble_eq_true rfl), (Nat.le_of_ble_eq_true rfl)⟩) (va_recv C.2.2.2.2.2.2.2.1.1 hO.1 (ci := 3) (q0 := 0) rfl rfl) rfl hl.1 rfl (Nat.le_of_ble_eq_true rfl) dL_law_795 ⟨by show _ ≤ 601024; omega, by show _ ≤ 7293034; omega⟩ (fun H locs hO => ?_)
    refine lv_istore (lv' := (6, .int (s_ka S (s_key S) (xs (i + 1)))) :: (5, .int 0) :: lwV bs a b o i) C.1 C.2.1 dL_law_798 hl (by decide) rfl (fun ls hl => ?_)
    refine lv_aload_n C.1 C.2.1 dL_law_800 rfl (lv_at hl 4 rfl) ?_
    refine gCall_i (As := []) (rest := []) C hO (c_X3_thrown l E b _ 0 _ _) (cwV 0 C.2.2.2.2.1 gL_law_X3_thrown rfl rfl rfl (by decide +kernel) ⟨(Nat.le_of_ble_eq_true rfl), (Nat.le_of_ble_eq_true rfl)⟩) (va_recv C.2.2.2.2.2.2.2.1.1 hO.1 (ci := 3) (q0 := 0) rfl rfl) rfl hl.1 rfl (Nat.le_of_ble_eq_true rfl) dL_law_801 ⟨by show _ ≤ 601024; omega, by show _ ≤ 7293034; omega⟩ (fun H locs hO => ?_)
    have hO := hO.flop
    refine lv_iload C.1 C.2.1 dL_law_804 (lv_at hl 1 rfl) ?_
    refine lv_icmp_eq (tgt := 811) C.1 C.2.1 dL_law_806 (by decide) (fun _ => ?_) (fun z9 => absurd rfl z9)
    refine lv_iload C.1 C.2.1 dL_law_811 (lv_at hl 1 rfl) ?_
    refine lv_if_ne (tgt := 828) C.1 C.2.1 dL_law_813 (by decide) (fun z9 => absurd rfl z9) (fun _ => ?_)
    refine lv_aload_n C.1 C.2.1 dL_law_816 rfl (lv_at hl 5 rfl) ?_
    refine lv_iconst (v := 0) C.1 C.2.1 dL_law_817 (by decide) ?_
    refine gLald C hO dL_law_818 ?_
    rw [vp_u09]
    refine lv_iload C.1 C.2.1 dL_law_819 (lv_at hl 0 rfl) ?_
    refine lv_i2l C.1 C.2.1 dL_law_821 rfl ?_
    refine W.lcmp C.1 C.2.1 dL_law_822 ?_
    refine lv_if_eq (tgt := 828) C.1 C.2.1 dL_law_823 (by decide) (fun _ => ?_) (fun z9 => absurd (lcm9 _) z9)
    refine lv_goto (tgt := 1939) C.1 C.2.1 dL_law_828 (by decide) ?_
    exact W.widen (show _ ≤ cells + 32 by omega) (show _ ≤ slots + 400 by omega) (kk _ _ _ _ _ _ _ _ _ _ (hw9.mono (by omega)) hO (lv_sub hl [2, 3, 4, 5, 6] rfl))
  · have hno : s_po S (xs (i + 1)) = none := by first | exact hok | exact Classical.not_not.mp hok
    have hno3 : s_po S (xs (i + 1)) = none := by first | exact hno | exact hok
    refine lv_aload_n C.1 C.2.1 dL_law_775 rfl (lv_at hl 1 rfl) ?_
    refine lv_aload_n C.1 C.2.1 dL_law_776 rfl (lv_at hl 0 rfl) ?_
    refine lv_iload C.1 C.2.1 dL_law_777 (lv_at hl 4 rfl) ?_
    refine lv_iconst (v := 1) C.1 C.2.1 dL_law_779 (by decide) ?_
    refine lv_iadd C.1 C.2.1 dL_law_780 ?_
    refine gSld (j := i + 1) C hX hbl hbA hO (nI_succ i).symm (by omega) hL dL_law_781 ?_
    refine lv_aload_n C.1 C.2.1 dL_law_782 rfl (lv_at hl 3 rfl) ?_
    refine gCallW_i (As := [.ref (a 0), .int (xs (i + 1)), .ref o]) (rest := []) C hO (c_L_keyAt_no l E a S mkA rk rv (mW E b S th mkB) o f (xs (i + 1)) hst hI hno) (vx_cwSW 3 C.2.2.2.2.1 gL_law_L_keyAt rfl rfl rfl (by decide +kernel) ⟨(Nat.le_of_ble_eq_true rfl), (Nat.le_of_ble_eq_true rfl)⟩) rfl hl.1 rfl (Nat.le_of_ble_eq_true rfl) dL_law_783 ⟨by show _ ≤ 601024; omega, by show _ ≤ 7293034; omega⟩ (fun H locs hO => ?_)
    refine lv_istore (lv' := (5, .int 1) :: lwV bs a b o i) C.1 C.2.1 dL_law_786 hl (by decide) rfl (fun ls hl => ?_)
    have hO := hO.flip
    refine lv_aload_n C.1 C.2.1 dL_law_788 rfl (lv_at hl 3 rfl) ?_
    refine lv_aload_n C.1 C.2.1 dL_law_789 rfl (lv_at hl 1 rfl) ?_
    refine lv_iload C.1 C.2.1 dL_law_790 (lv_at hl 5 rfl) ?_
    refine lv_iconst (v := 1) C.1 C.2.1 dL_law_792 (by decide) ?_
    refine lv_iadd C.1 C.2.1 dL_law_793 ?_
    refine gSld (j := i + 1) C hX hbl hbA hO (nI_succ i).symm (by omega) hL dL_law_794 ?_
    refine gCall_i (As := [.int (xs (i + 1))]) (rest := []) C hO (c_X3_keyAt_no l E b S th mkB _ (xs (i + 1)) hI hsr hno3) (cwV 1 C.2.2.2.2.1 gL_law_X3_keyAt rfl rfl rfl (by decide +kernel) ⟨(Nat.le_of_ble_eq_true rfl), (Nat.le_of_ble_eq_true rfl)⟩) (va_recv C.2.2.2.2.2.2.2.1.1 hO.1 (ci := 3) (q0 := 0) rfl rfl) rfl hl.1 rfl (Nat.le_of_ble_eq_true rfl) dL_law_795 ⟨by show _ ≤ 601024; omega, by show _ ≤ 7293034; omega⟩ (fun H locs hO => ?_)
    refine lv_istore (lv' := (6, .int 0) :: (5, .int 1) :: lwV bs a b o i) C.1 C.2.1 dL_law_798 hl (by decide) rfl (fun ls hl => ?_)
    refine lv_aload_n C.1 C.2.1 dL_law_800 rfl (lv_at hl 4 rfl) ?_
    refine gCall_i (As := []) (rest := []) C hO (c_X3_thrown l E b _ 1 _ _) (cwV 0 C.2.2.2.2.1 gL_law_X3_thrown rfl rfl rfl (by decide +kernel) ⟨(Nat.le_of_ble_eq_true rfl), (Nat.le_of_ble_eq_true rfl)⟩) (va_recv C.2.2.2.2.2.2.2.1.1 hO.1 (ci := 3) (q0 := 0) rfl rfl) rfl hl.1 rfl (Nat.le_of_ble_eq_true rfl) dL_law_801 ⟨by show _ ≤ 601024; omega, by show _ ≤ 7293034; omega⟩ (fun H locs hO => ?_)
    have hO := hO.flop
    refine lv_iload C.1 C.2.1 dL_law_804 (lv_at hl 1 rfl) ?_
    refine lv_icmp_eq (tgt := 811) C.1 C.2.1 dL_law_806 (by decide) (fun _ => ?_) (fun z9 => absurd rfl z9)
    refine lv_iload C.1 C.2.1 dL_law_811 (lv_at hl 1 rfl) ?_
    refine lv_if_ne (tgt := 828) C.1 C.2.1 dL_law_813 (by decide) (fun _ => ?_) (fun z9 => absurd z9 (by decide))
    refine lv_goto (tgt := 1939) C.1 C.2.1 dL_law_828 (by decide) ?_
    exact W.widen (show _ ≤ cells + 32 by omega) (show _ ≤ slots + 400 by omega) (kk _ _ _ _ _ _ _ _ _ _ (hw9.mono (by omega)) hO (lv_sub hl [2, 3, 4, 5, 6] rfl))
set_option maxHeartbeats 4000000 in
set_option maxRecDepth 100000 in
theorem st_p831 {p : Program} {l : Launch} {e : Env} {s : State} {m : MethodId} {args : Array Value} {below : List Frame} {meth : Method} {c : Code} {H : Heap} {locs : List Loc} {cells slots : Nat} {Q : State → Prop} {E : gE} {A : Nat → Prop} {bs L : Nat} {xs : Nat → Int32} {a b : Nat → Nat} {o i : Nat} {S : St} {mkA rk rv : Nat → Int32} {f : Nat → Int64} {mkB : Nat → Int32} {th : Int32} {B : Int} {ls : Array Slot} (C : gCx p s m args meth c cL_law 9 wsL_law RL ret E A) (hst : l.stackTraces = false) (hX : va_X bs L xs s s.heap) (hbl : bs < s.heap.size) (hbA : ¬ A bs) (hL : L ≤ 1536) (hi : i + 2 < L) (hw9 : lwI S B) (hB : B + 48 < 2147483647) (hc9 : cells ≤ 600000) (hs9 : slots ≤ 7000000) (hO : gO E A s (lwW E a b o S mkA rk rv f mkB th) H locs) (hl : lv_has ls 9 (lwV bs a b o i)) (kk : lwK p l e s m args below meth c E A bs a b o i (cells + 32) (slots + 400) (B + 48) Q) : W p l e room_1 s m args below meth c H locs cells slots Q (F0 m 831 ls []) := by
  have hI := hw9.inv
  have hsr := hw9.1.srt
  by_cases hok : (s_po S (xs (i + 1)) ≠ none)
  · refine lv_aload_n C.1 C.2.1 dL_law_831 rfl (lv_at hl 1 rfl) ?_
    refine lv_aload_n C.1 C.2.1 dL_law_832 rfl (lv_at hl 0 rfl) ?_
    refine lv_iload C.1 C.2.1 dL_law_833 (lv_at hl 4 rfl) ?_
    refine lv_iconst (v := 1) C.1 C.2.1 dL_law_835 (by decide) ?_
    refine lv_iadd C.1 C.2.1 dL_law_836 ?_
    refine gSld (j := i + 1) C hX hbl hbA hO (nI_succ i).symm (by omega) hL dL_law_837 ?_
    refine lv_aload_n C.1 C.2.1 dL_law_838 rfl (lv_at hl 3 rfl) ?_
    refine gCallW_i (As := [.ref (a 0), .int (xs (i + 1)), .ref o]) (rest := []) C hO (c_L_valueAt_ok l E a S mkA rk rv (mW E b S th mkB) o f (xs (i + 1)) hst hI hok) (vx_cwSW 3 C.2.2.2.2.1 gL_law_L_valueAt rfl rfl rfl (by decide +kernel) ⟨(Nat.le_of_ble_eq_true rfl), (Nat.le_of_ble_eq_true rfl)⟩) rfl hl.1 rfl (Nat.le_of_ble_eq_true rfl) dL_law_839 ⟨by show _ ≤ 601024; omega, by show _ ≤ 7293034; omega⟩ (fun H locs hO => ?_)
    refine lv_istore (lv' := (5, .int 0) :: lwV bs a b o i) C.1 C.2.1 dL_law_842 hl (by decide) rfl (fun ls hl => ?_)
    have hO := hO.flip
    refine lv_aload_n C.1 C.2.1 dL_law_844 rfl (lv_at hl 3 rfl) ?_
    refine lv_aload_n C.1 C.2.1 dL_law_845 rfl (lv_at hl 1 rfl) ?_
    refine lv_iload C.1 C.2.1 dL_law_846 (lv_at hl 5 rfl) ?_
    refine lv_iconst (v := 1) C.1 C.2.1 dL_law_848 (by decide) ?_
    refine lv_iadd C.1 C.2.1 dL_law_849 ?_
    refine gSld (j := i + 1) C hX hbl hbA hO (nI_succ i).symm (by omega) hL dL_law_850 ?_
    refine gCall_i (As := [.int (xs (i + 1))]) (rest := []) C hO (c_X3_valueAt_ok l E b S th mkB _ (xs (i + 1)) hI hsr hok) (cwV 1 C.2.2.2.2.1 gL_law_X3_valueAt rfl rfl rfl (by decide +kernel) ⟨(Nat.le_of_ble_eq_true rfl), (Nat.le_of_ble_eq_true rfl)⟩) (va_recv C.2.2.2.2.2.2.2.1.1 hO.1 (ci := 3) (q0 := 0) rfl rfl) rfl hl.1 rfl (Nat.le_of_ble_eq_true rfl) dL_law_851 ⟨by show _ ≤ 601024; omega, by show _ ≤ 7293034; omega⟩ (fun H locs hO => ?_)
    refine lv_istore (lv' := (6, .int (s_ka S (s_val S) (xs (i + 1)))) :: (5, .int 0) :: lwV bs a b o i) C.1 C.2.1 dL_law_854 hl (by decide) rfl (fun ls hl => ?_)
    refine lv_aload_n C.1 C.2.1 dL_law_856 rfl (lv_at hl 4 rfl) ?_
    refine gCall_i (As := []) (rest := []) C hO (c_X3_thrown l E b _ 0 _ _) (cwV 0 C.2.2.2.2.1 gL_law_X3_thrown rfl rfl rfl (by decide +kernel) ⟨(Nat.le_of_ble_eq_true rfl), (Nat.le_of_ble_eq_true rfl)⟩) (va_recv C.2.2.2.2.2.2.2.1.1 hO.1 (ci := 3) (q0 := 0) rfl rfl) rfl hl.1 rfl (Nat.le_of_ble_eq_true rfl) dL_law_857 ⟨by show _ ≤ 601024; omega, by show _ ≤ 7293034; omega⟩ (fun H locs hO => ?_)
    have hO := hO.flop
    refine lv_iload C.1 C.2.1 dL_law_860 (lv_at hl 1 rfl) ?_
    refine lv_icmp_eq (tgt := 867) C.1 C.2.1 dL_law_862 (by decide) (fun _ => ?_) (fun z9 => absurd rfl z9)
    refine lv_iload C.1 C.2.1 dL_law_867 (lv_at hl 1 rfl) ?_
    refine lv_if_ne (tgt := 884) C.1 C.2.1 dL_law_869 (by decide) (fun z9 => absurd rfl z9) (fun _ => ?_)
    refine lv_aload_n C.1 C.2.1 dL_law_872 rfl (lv_at hl 5 rfl) ?_
    refine lv_iconst (v := 0) C.1 C.2.1 dL_law_873 (by decide) ?_
    refine gLald C hO dL_law_874 ?_
    rw [vp_u09]
    refine lv_iload C.1 C.2.1 dL_law_875 (lv_at hl 0 rfl) ?_
    refine lv_i2l C.1 C.2.1 dL_law_877 rfl ?_
    refine W.lcmp C.1 C.2.1 dL_law_878 ?_
    refine lv_if_eq (tgt := 884) C.1 C.2.1 dL_law_879 (by decide) (fun _ => ?_) (fun z9 => absurd (lcm9 _) z9)
    refine lv_goto (tgt := 1939) C.1 C.2.1 dL_law_884 (by decide) ?_
    exact W.widen (show _ ≤ cells + 32 by omega) (show _ ≤ slots + 400 by omega) (kk _ _ _ _ _ _ _ _ _ _ (hw9.mono (by omega)) hO (lv_sub hl [2, 3, 4, 5, 6] rfl))
  · have hno : s_po S (xs (i + 1)) = none := by first | exact hok | exact Classical.not_not.mp hok
    have hno3 : s_po S (xs (i + 1)) = none := by first | exact hno | exact hok
    refine lv_aload_n C.1 C.2.1 dL_law_831 rfl (lv_at hl 1 rfl) ?_
    refine lv_aload_n C.1 C.2.1 dL_law_832 rfl (lv_at hl 0 rfl) ?_
    refine lv_iload C.1 C.2.1 dL_law_833 (lv_at hl 4 rfl) ?_
    refine lv_iconst (v := 1) C.1 C.2.1 dL_law_835 (by decide) ?_
    refine lv_iadd C.1 C.2.1 dL_law_836 ?_
    refine gSld (j := i + 1) C hX hbl hbA hO (nI_succ i).symm (by omega) hL dL_law_837 ?_
    refine lv_aload_n C.1 C.2.1 dL_law_838 rfl (lv_at hl 3 rfl) ?_
    refine gCallW_i (As := [.ref (a 0), .int (xs (i + 1)), .ref o]) (rest := []) C hO (c_L_valueAt_no l E a S mkA rk rv (mW E b S th mkB) o f (xs (i + 1)) hst hI hno) (vx_cwSW 3 C.2.2.2.2.1 gL_law_L_valueAt rfl rfl rfl (by decide +kernel) ⟨(Nat.le_of_ble_eq_true rfl), (Nat.le_of_ble_eq_true rfl)⟩) rfl hl.1 rfl (Nat.le_of_ble_eq_true rfl) dL_law_839 ⟨by show _ ≤ 601024; omega, by show _ ≤ 7293034; omega⟩ (fun H locs hO => ?_)
    refine lv_istore (lv' := (5, .int 1) :: lwV bs a b o i) C.1 C.2.1 dL_law_842 hl (by decide) rfl (fun ls hl => ?_)
    have hO := hO.flip
    refine lv_aload_n C.1 C.2.1 dL_law_844 rfl (lv_at hl 3 rfl) ?_
    refine lv_aload_n C.1 C.2.1 dL_law_845 rfl (lv_at hl 1 rfl) ?_
    refine lv_iload C.1 C.2.1 dL_law_846 (lv_at hl 5 rfl) ?_
    refine lv_iconst (v := 1) C.1 C.2.1 dL_law_848 (by decide) ?_
    refine lv_iadd C.1 C.2.1 dL_law_849 ?_
    refine gSld (j := i + 1) C hX hbl hbA hO (nI_succ i).symm (by omega) hL dL_law_850 ?_
    refine gCall_i (As := [.int (xs (i + 1))]) (rest := []) C hO (c_X3_valueAt_no l E b S th mkB _ (xs (i + 1)) hI hsr hno3) (cwV 1 C.2.2.2.2.1 gL_law_X3_valueAt rfl rfl rfl (by decide +kernel) ⟨(Nat.le_of_ble_eq_true rfl), (Nat.le_of_ble_eq_true rfl)⟩) (va_recv C.2.2.2.2.2.2.2.1.1 hO.1 (ci := 3) (q0 := 0) rfl rfl) rfl hl.1 rfl (Nat.le_of_ble_eq_true rfl) dL_law_851 ⟨by show _ ≤ 601024; omega, by show _ ≤ 7293034; omega⟩ (fun H locs hO => ?_)
    refine lv_istore (lv' := (6, .int 0) :: (5, .int 1) :: lwV bs a b o i) C.1 C.2.1 dL_law_854 hl (by decide) rfl (fun ls hl => ?_)
    refine lv_aload_n C.1 C.2.1 dL_law_856 rfl (lv_at hl 4 rfl) ?_
    refine gCall_i (As := []) (rest := []) C hO (c_X3_thrown l E b _ 1 _ _) (cwV 0 C.2.2.2.2.1 gL_law_X3_thrown rfl rfl rfl (by decide +kernel) ⟨(Nat.le_of_ble_eq_true rfl), (Nat.le_of_ble_eq_true rfl)⟩) (va_recv C.2.2.2.2.2.2.2.1.1 hO.1 (ci := 3) (q0 := 0) rfl rfl) rfl hl.1 rfl (Nat.le_of_ble_eq_true rfl) dL_law_857 ⟨by show _ ≤ 601024; omega, by show _ ≤ 7293034; omega⟩ (fun H locs hO => ?_)
    have hO := hO.flop
    refine lv_iload C.1 C.2.1 dL_law_860 (lv_at hl 1 rfl) ?_
    refine lv_icmp_eq (tgt := 867) C.1 C.2.1 dL_law_862 (by decide) (fun _ => ?_) (fun z9 => absurd rfl z9)
    refine lv_iload C.1 C.2.1 dL_law_867 (lv_at hl 1 rfl) ?_
    refine lv_if_ne (tgt := 884) C.1 C.2.1 dL_law_869 (by decide) (fun _ => ?_) (fun z9 => absurd z9 (by decide))
    refine lv_goto (tgt := 1939) C.1 C.2.1 dL_law_884 (by decide) ?_
    exact W.widen (show _ ≤ cells + 32 by omega) (show _ ≤ slots + 400 by omega) (kk _ _ _ _ _ _ _ _ _ _ (hw9.mono (by omega)) hO (lv_sub hl [2, 3, 4, 5, 6] rfl))
set_option maxHeartbeats 4000000 in
set_option maxRecDepth 100000 in
theorem st_p887 {p : Program} {l : Launch} {e : Env} {s : State} {m : MethodId} {args : Array Value} {below : List Frame} {meth : Method} {c : Code} {H : Heap} {locs : List Loc} {cells slots : Nat} {Q : State → Prop} {E : gE} {A : Nat → Prop} {bs L : Nat} {xs : Nat → Int32} {a b : Nat → Nat} {o i : Nat} {S : St} {mkA rk rv : Nat → Int32} {f : Nat → Int64} {mkB : Nat → Int32} {th : Int32} {B : Int} {ls : Array Slot} (C : gCx p s m args meth c cL_law 9 wsL_law RL ret E A) (hst : l.stackTraces = false) (hX : va_X bs L xs s s.heap) (hbl : bs < s.heap.size) (hbA : ¬ A bs) (hL : L ≤ 1536) (hi : i + 2 < L) (hw9 : lwI S B) (hB : B + 48 < 2147483647) (hc9 : cells ≤ 600000) (hs9 : slots ≤ 7000000) (hO : gO E A s (lwW E a b o S mkA rk rv f mkB th) H locs) (hl : lv_has ls 9 (lwV bs a b o i)) (kk : lwK p l e s m args below meth c E A bs a b o i (cells + 32) (slots + 400) (B + 48) Q) : W p l e room_1 s m args below meth c H locs cells slots Q (F0 m 887 ls []) := by
  have hI := hw9.inv
  have hsr := hw9.1.srt
  by_cases hok : (s_po S (xs (i + 1)) ≠ none)
  · refine lv_aload_n C.1 C.2.1 dL_law_887 rfl (lv_at hl 1 rfl) ?_
    refine lv_aload_n C.1 C.2.1 dL_law_888 rfl (lv_at hl 0 rfl) ?_
    refine lv_iload C.1 C.2.1 dL_law_889 (lv_at hl 4 rfl) ?_
    refine lv_iconst (v := 1) C.1 C.2.1 dL_law_891 (by decide) ?_
    refine lv_iadd C.1 C.2.1 dL_law_892 ?_
    refine gSld (j := i + 1) C hX hbl hbA hO (nI_succ i).symm (by omega) hL dL_law_893 ?_
    refine lv_aload_n C.1 C.2.1 dL_law_894 rfl (lv_at hl 3 rfl) ?_
    refine gCallW_i (As := [.ref (a 0), .int (xs (i + 1)), .ref o]) (rest := []) C hO (c_L_stormAt_ok l E a S mkA rk rv (mW E b S th mkB) o f (xs (i + 1)) hst hI hok) (vx_cwSW 3 C.2.2.2.2.1 gL_law_L_stormAt rfl rfl rfl (by decide +kernel) ⟨(Nat.le_of_ble_eq_true rfl), (Nat.le_of_ble_eq_true rfl)⟩) rfl hl.1 rfl (Nat.le_of_ble_eq_true rfl) dL_law_895 ⟨by show _ ≤ 601024; omega, by show _ ≤ 7293034; omega⟩ (fun H locs hO => ?_)
    refine lv_istore (lv' := (5, .int 0) :: lwV bs a b o i) C.1 C.2.1 dL_law_898 hl (by decide) rfl (fun ls hl => ?_)
    have hO := hO.flip
    refine lv_aload_n C.1 C.2.1 dL_law_900 rfl (lv_at hl 3 rfl) ?_
    refine lv_aload_n C.1 C.2.1 dL_law_901 rfl (lv_at hl 1 rfl) ?_
    refine lv_iload C.1 C.2.1 dL_law_902 (lv_at hl 5 rfl) ?_
    refine lv_iconst (v := 1) C.1 C.2.1 dL_law_904 (by decide) ?_
    refine lv_iadd C.1 C.2.1 dL_law_905 ?_
    refine gSld (j := i + 1) C hX hbl hbA hO (nI_succ i).symm (by omega) hL dL_law_906 ?_
    refine gCall_i (As := [.int (xs (i + 1))]) (rest := []) C hO (c_X3_stormAt_ok l E b S th mkB _ (xs (i + 1)) hI hsr hok) (cwV 1 C.2.2.2.2.1 gL_law_X3_stormAt rfl rfl rfl (by decide +kernel) ⟨(Nat.le_of_ble_eq_true rfl), (Nat.le_of_ble_eq_true rfl)⟩) (va_recv C.2.2.2.2.2.2.2.1.1 hO.1 (ci := 3) (q0 := 0) rfl rfl) rfl hl.1 rfl (Nat.le_of_ble_eq_true rfl) dL_law_907 ⟨by show _ ≤ 601024; omega, by show _ ≤ 7293034; omega⟩ (fun H locs hO => ?_)
    refine lv_istore (lv' := (6, .int (s_ka S (s_sto S) (xs (i + 1)))) :: (5, .int 0) :: lwV bs a b o i) C.1 C.2.1 dL_law_910 hl (by decide) rfl (fun ls hl => ?_)
    refine lv_aload_n C.1 C.2.1 dL_law_912 rfl (lv_at hl 4 rfl) ?_
    refine gCall_i (As := []) (rest := []) C hO (c_X3_thrown l E b _ 0 _ _) (cwV 0 C.2.2.2.2.1 gL_law_X3_thrown rfl rfl rfl (by decide +kernel) ⟨(Nat.le_of_ble_eq_true rfl), (Nat.le_of_ble_eq_true rfl)⟩) (va_recv C.2.2.2.2.2.2.2.1.1 hO.1 (ci := 3) (q0 := 0) rfl rfl) rfl hl.1 rfl (Nat.le_of_ble_eq_true rfl) dL_law_913 ⟨by show _ ≤ 601024; omega, by show _ ≤ 7293034; omega⟩ (fun H locs hO => ?_)
    have hO := hO.flop
    refine lv_iload C.1 C.2.1 dL_law_916 (lv_at hl 1 rfl) ?_
    refine lv_icmp_eq (tgt := 923) C.1 C.2.1 dL_law_918 (by decide) (fun _ => ?_) (fun z9 => absurd rfl z9)
    refine lv_iload C.1 C.2.1 dL_law_923 (lv_at hl 1 rfl) ?_
    refine lv_if_ne (tgt := 940) C.1 C.2.1 dL_law_925 (by decide) (fun z9 => absurd rfl z9) (fun _ => ?_)
    refine lv_aload_n C.1 C.2.1 dL_law_928 rfl (lv_at hl 5 rfl) ?_
    refine lv_iconst (v := 0) C.1 C.2.1 dL_law_929 (by decide) ?_
    refine gLald C hO dL_law_930 ?_
    rw [vp_u09]
    refine lv_iload C.1 C.2.1 dL_law_931 (lv_at hl 0 rfl) ?_
    refine lv_i2l C.1 C.2.1 dL_law_933 rfl ?_
    refine W.lcmp C.1 C.2.1 dL_law_934 ?_
    refine lv_if_eq (tgt := 940) C.1 C.2.1 dL_law_935 (by decide) (fun _ => ?_) (fun z9 => absurd (lcm9 _) z9)
    refine lv_goto (tgt := 1939) C.1 C.2.1 dL_law_940 (by decide) ?_
    exact W.widen (show _ ≤ cells + 32 by omega) (show _ ≤ slots + 400 by omega) (kk _ _ _ _ _ _ _ _ _ _ (hw9.mono (by omega)) hO (lv_sub hl [2, 3, 4, 5, 6] rfl))
  · have hno : s_po S (xs (i + 1)) = none := by first | exact hok | exact Classical.not_not.mp hok
    have hno3 : s_po S (xs (i + 1)) = none := by first | exact hno | exact hok
    refine lv_aload_n C.1 C.2.1 dL_law_887 rfl (lv_at hl 1 rfl) ?_
    refine lv_aload_n C.1 C.2.1 dL_law_888 rfl (lv_at hl 0 rfl) ?_
    refine lv_iload C.1 C.2.1 dL_law_889 (lv_at hl 4 rfl) ?_
    refine lv_iconst (v := 1) C.1 C.2.1 dL_law_891 (by decide) ?_
    refine lv_iadd C.1 C.2.1 dL_law_892 ?_
    refine gSld (j := i + 1) C hX hbl hbA hO (nI_succ i).symm (by omega) hL dL_law_893 ?_
    refine lv_aload_n C.1 C.2.1 dL_law_894 rfl (lv_at hl 3 rfl) ?_
    refine gCallW_i (As := [.ref (a 0), .int (xs (i + 1)), .ref o]) (rest := []) C hO (c_L_stormAt_no l E a S mkA rk rv (mW E b S th mkB) o f (xs (i + 1)) hst hI hno) (vx_cwSW 3 C.2.2.2.2.1 gL_law_L_stormAt rfl rfl rfl (by decide +kernel) ⟨(Nat.le_of_ble_eq_true rfl), (Nat.le_of_ble_eq_true rfl)⟩) rfl hl.1 rfl (Nat.le_of_ble_eq_true rfl) dL_law_895 ⟨by show _ ≤ 601024; omega, by show _ ≤ 7293034; omega⟩ (fun H locs hO => ?_)
    refine lv_istore (lv' := (5, .int 1) :: lwV bs a b o i) C.1 C.2.1 dL_law_898 hl (by decide) rfl (fun ls hl => ?_)
    have hO := hO.flip
    refine lv_aload_n C.1 C.2.1 dL_law_900 rfl (lv_at hl 3 rfl) ?_
    refine lv_aload_n C.1 C.2.1 dL_law_901 rfl (lv_at hl 1 rfl) ?_
    refine lv_iload C.1 C.2.1 dL_law_902 (lv_at hl 5 rfl) ?_
    refine lv_iconst (v := 1) C.1 C.2.1 dL_law_904 (by decide) ?_
    refine lv_iadd C.1 C.2.1 dL_law_905 ?_
    refine gSld (j := i + 1) C hX hbl hbA hO (nI_succ i).symm (by omega) hL dL_law_906 ?_
    refine gCall_i (As := [.int (xs (i + 1))]) (rest := []) C hO (c_X3_stormAt_no l E b S th mkB _ (xs (i + 1)) hI hsr hno3) (cwV 1 C.2.2.2.2.1 gL_law_X3_stormAt rfl rfl rfl (by decide +kernel) ⟨(Nat.le_of_ble_eq_true rfl), (Nat.le_of_ble_eq_true rfl)⟩) (va_recv C.2.2.2.2.2.2.2.1.1 hO.1 (ci := 3) (q0 := 0) rfl rfl) rfl hl.1 rfl (Nat.le_of_ble_eq_true rfl) dL_law_907 ⟨by show _ ≤ 601024; omega, by show _ ≤ 7293034; omega⟩ (fun H locs hO => ?_)
    refine lv_istore (lv' := (6, .int 0) :: (5, .int 1) :: lwV bs a b o i) C.1 C.2.1 dL_law_910 hl (by decide) rfl (fun ls hl => ?_)
    refine lv_aload_n C.1 C.2.1 dL_law_912 rfl (lv_at hl 4 rfl) ?_
    refine gCall_i (As := []) (rest := []) C hO (c_X3_thrown l E b _ 1 _ _) (cwV 0 C.2.2.2.2.1 gL_law_X3_thrown rfl rfl rfl (by decide +kernel) ⟨(Nat.le_of_ble_eq_true rfl), (Nat.le_of_ble_eq_true rfl)⟩) (va_recv C.2.2.2.2.2.2.2.1.1 hO.1 (ci := 3) (q0 := 0) rfl rfl) rfl hl.1 rfl (Nat.le_of_ble_eq_true rfl) dL_law_913 ⟨by show _ ≤ 601024; omega, by show _ ≤ 7293034; omega⟩ (fun H locs hO => ?_)
    have hO := hO.flop
    refine lv_iload C.1 C.2.1 dL_law_916 (lv_at hl 1 rfl) ?_
    refine lv_icmp_eq (tgt := 923) C.1 C.2.1 dL_law_918 (by decide) (fun _ => ?_) (fun z9 => absurd rfl z9)
    refine lv_iload C.1 C.2.1 dL_law_923 (lv_at hl 1 rfl) ?_
    refine lv_if_ne (tgt := 940) C.1 C.2.1 dL_law_925 (by decide) (fun _ => ?_) (fun z9 => absurd z9 (by decide))
    refine lv_goto (tgt := 1939) C.1 C.2.1 dL_law_940 (by decide) ?_
    exact W.widen (show _ ≤ cells + 32 by omega) (show _ ≤ slots + 400 by omega) (kk _ _ _ _ _ _ _ _ _ _ (hw9.mono (by omega)) hO (lv_sub hl [2, 3, 4, 5, 6] rfl))
set_option maxHeartbeats 4000000 in
set_option maxRecDepth 100000 in
theorem st_p943 {p : Program} {l : Launch} {e : Env} {s : State} {m : MethodId} {args : Array Value} {below : List Frame} {meth : Method} {c : Code} {H : Heap} {locs : List Loc} {cells slots : Nat} {Q : State → Prop} {E : gE} {A : Nat → Prop} {bs L : Nat} {xs : Nat → Int32} {a b : Nat → Nat} {o i : Nat} {S : St} {mkA rk rv : Nat → Int32} {f : Nat → Int64} {mkB : Nat → Int32} {th : Int32} {B : Int} {ls : Array Slot} (C : gCx p s m args meth c cL_law 9 wsL_law RL ret E A) (hst : l.stackTraces = false) (hX : va_X bs L xs s s.heap) (hbl : bs < s.heap.size) (hbA : ¬ A bs) (hL : L ≤ 1536) (hi : i + 2 < L) (hw9 : lwI S B) (hB : B + 48 < 2147483647) (hc9 : cells ≤ 600000) (hs9 : slots ≤ 7000000) (hO : gO E A s (lwW E a b o S mkA rk rv f mkB th) H locs) (hl : lv_has ls 9 (lwV bs a b o i)) (kk : lwK p l e s m args below meth c E A bs a b o i (cells + 32) (slots + 400) (B + 48) Q) : W p l e room_1 s m args below meth c H locs cells slots Q (F0 m 943 ls []) := by
  have hI := hw9.inv
  have hsr := hw9.1.srt
  by_cases hok : (okKey (xs (i + 1)))
  · refine lv_aload_n C.1 C.2.1 dL_law_943 rfl (lv_at hl 1 rfl) ?_
    refine lv_aload_n C.1 C.2.1 dL_law_944 rfl (lv_at hl 0 rfl) ?_
    refine lv_iload C.1 C.2.1 dL_law_945 (lv_at hl 4 rfl) ?_
    refine lv_iconst (v := 1) C.1 C.2.1 dL_law_947 (by decide) ?_
    refine lv_iadd C.1 C.2.1 dL_law_948 ?_
    refine gSld (j := i + 1) C hX hbl hbA hO (nI_succ i).symm (by omega) hL dL_law_949 ?_
    refine lv_aload_n C.1 C.2.1 dL_law_950 rfl (lv_at hl 3 rfl) ?_
    refine gCallW_i (As := [.ref (a 0), .int (xs (i + 1)), .ref o]) (rest := []) C hO (c_L_latestOf_ok l E a S mkA rk rv (mW E b S th mkB) o f (xs (i + 1)) hst hI hok) (vx_cwSW 3 C.2.2.2.2.1 gL_law_L_latestOf rfl rfl rfl (by decide +kernel) ⟨(Nat.le_of_ble_eq_true rfl), (Nat.le_of_ble_eq_true rfl)⟩) rfl hl.1 rfl (Nat.le_of_ble_eq_true rfl) dL_law_951 ⟨by show _ ≤ 601024; omega, by show _ ≤ 7293034; omega⟩ (fun H locs hO => ?_)
    refine lv_istore (lv' := (5, .int 0) :: lwV bs a b o i) C.1 C.2.1 dL_law_954 hl (by decide) rfl (fun ls hl => ?_)
    have hO := hO.flip
    refine lv_aload_n C.1 C.2.1 dL_law_956 rfl (lv_at hl 3 rfl) ?_
    refine lv_aload_n C.1 C.2.1 dL_law_957 rfl (lv_at hl 1 rfl) ?_
    refine lv_iload C.1 C.2.1 dL_law_958 (lv_at hl 5 rfl) ?_
    refine lv_iconst (v := 1) C.1 C.2.1 dL_law_960 (by decide) ?_
    refine lv_iadd C.1 C.2.1 dL_law_961 ?_
    refine gSld (j := i + 1) C hX hbl hbA hO (nI_succ i).symm (by omega) hL dL_law_962 ?_
    refine gCall_i (As := [.int (xs (i + 1))]) (rest := []) C hO (c_X3_latestOf_ok l E b S th mkB _ (xs (i + 1)) hI hsr hok) (cwV 1 C.2.2.2.2.1 gL_law_X3_latestOf rfl rfl rfl (by decide +kernel) ⟨(Nat.le_of_ble_eq_true rfl), (Nat.le_of_ble_eq_true rfl)⟩) (va_recv C.2.2.2.2.2.2.2.1.1 hO.1 (ci := 3) (q0 := 0) rfl rfl) rfl hl.1 rfl (Nat.le_of_ble_eq_true rfl) dL_law_963 ⟨by show _ ≤ 601024; omega, by show _ ≤ 7293034; omega⟩ (fun H locs hO => ?_)
    refine lv_istore (lv' := (6, .int (s_lo S (xs (i + 1)))) :: (5, .int 0) :: lwV bs a b o i) C.1 C.2.1 dL_law_966 hl (by decide) rfl (fun ls hl => ?_)
    refine lv_aload_n C.1 C.2.1 dL_law_968 rfl (lv_at hl 4 rfl) ?_
    refine gCall_i (As := []) (rest := []) C hO (c_X3_thrown l E b _ 0 _ _) (cwV 0 C.2.2.2.2.1 gL_law_X3_thrown rfl rfl rfl (by decide +kernel) ⟨(Nat.le_of_ble_eq_true rfl), (Nat.le_of_ble_eq_true rfl)⟩) (va_recv C.2.2.2.2.2.2.2.1.1 hO.1 (ci := 3) (q0 := 0) rfl rfl) rfl hl.1 rfl (Nat.le_of_ble_eq_true rfl) dL_law_969 ⟨by show _ ≤ 601024; omega, by show _ ≤ 7293034; omega⟩ (fun H locs hO => ?_)
    have hO := hO.flop
    refine lv_iload C.1 C.2.1 dL_law_972 (lv_at hl 1 rfl) ?_
    refine lv_icmp_eq (tgt := 979) C.1 C.2.1 dL_law_974 (by decide) (fun _ => ?_) (fun z9 => absurd rfl z9)
    refine lv_iload C.1 C.2.1 dL_law_979 (lv_at hl 1 rfl) ?_
    refine lv_if_ne (tgt := 996) C.1 C.2.1 dL_law_981 (by decide) (fun z9 => absurd rfl z9) (fun _ => ?_)
    refine lv_aload_n C.1 C.2.1 dL_law_984 rfl (lv_at hl 5 rfl) ?_
    refine lv_iconst (v := 0) C.1 C.2.1 dL_law_985 (by decide) ?_
    refine gLald C hO dL_law_986 ?_
    rw [vp_u09]
    refine lv_iload C.1 C.2.1 dL_law_987 (lv_at hl 0 rfl) ?_
    refine lv_i2l C.1 C.2.1 dL_law_989 rfl ?_
    refine W.lcmp C.1 C.2.1 dL_law_990 ?_
    refine lv_if_eq (tgt := 996) C.1 C.2.1 dL_law_991 (by decide) (fun _ => ?_) (fun z9 => absurd (lcm9 _) z9)
    refine lv_goto (tgt := 1939) C.1 C.2.1 dL_law_996 (by decide) ?_
    exact W.widen (show _ ≤ cells + 32 by omega) (show _ ≤ slots + 400 by omega) (kk _ _ _ _ _ _ _ _ _ _ (hw9.mono (by omega)) hO (lv_sub hl [2, 3, 4, 5, 6] rfl))
  · have hno : ¬ okKey (xs (i + 1)) := by first | exact hok | exact Classical.not_not.mp hok
    have hno3 : ¬ okKey (xs (i + 1)) := by first | exact hno | exact hok
    refine lv_aload_n C.1 C.2.1 dL_law_943 rfl (lv_at hl 1 rfl) ?_
    refine lv_aload_n C.1 C.2.1 dL_law_944 rfl (lv_at hl 0 rfl) ?_
    refine lv_iload C.1 C.2.1 dL_law_945 (lv_at hl 4 rfl) ?_
    refine lv_iconst (v := 1) C.1 C.2.1 dL_law_947 (by decide) ?_
    refine lv_iadd C.1 C.2.1 dL_law_948 ?_
    refine gSld (j := i + 1) C hX hbl hbA hO (nI_succ i).symm (by omega) hL dL_law_949 ?_
    refine lv_aload_n C.1 C.2.1 dL_law_950 rfl (lv_at hl 3 rfl) ?_
    refine gCallW_i (As := [.ref (a 0), .int (xs (i + 1)), .ref o]) (rest := []) C hO (c_L_latestOf_no l E a S mkA rk rv (mW E b S th mkB) o f (xs (i + 1)) hst hI hno) (vx_cwSW 3 C.2.2.2.2.1 gL_law_L_latestOf rfl rfl rfl (by decide +kernel) ⟨(Nat.le_of_ble_eq_true rfl), (Nat.le_of_ble_eq_true rfl)⟩) rfl hl.1 rfl (Nat.le_of_ble_eq_true rfl) dL_law_951 ⟨by show _ ≤ 601024; omega, by show _ ≤ 7293034; omega⟩ (fun H locs hO => ?_)
    refine lv_istore (lv' := (5, .int 1) :: lwV bs a b o i) C.1 C.2.1 dL_law_954 hl (by decide) rfl (fun ls hl => ?_)
    have hO := hO.flip
    refine lv_aload_n C.1 C.2.1 dL_law_956 rfl (lv_at hl 3 rfl) ?_
    refine lv_aload_n C.1 C.2.1 dL_law_957 rfl (lv_at hl 1 rfl) ?_
    refine lv_iload C.1 C.2.1 dL_law_958 (lv_at hl 5 rfl) ?_
    refine lv_iconst (v := 1) C.1 C.2.1 dL_law_960 (by decide) ?_
    refine lv_iadd C.1 C.2.1 dL_law_961 ?_
    refine gSld (j := i + 1) C hX hbl hbA hO (nI_succ i).symm (by omega) hL dL_law_962 ?_
    refine gCall_i (As := [.int (xs (i + 1))]) (rest := []) C hO (c_X3_latestOf_no l E b S th mkB _ (xs (i + 1)) hI hsr hno3) (cwV 1 C.2.2.2.2.1 gL_law_X3_latestOf rfl rfl rfl (by decide +kernel) ⟨(Nat.le_of_ble_eq_true rfl), (Nat.le_of_ble_eq_true rfl)⟩) (va_recv C.2.2.2.2.2.2.2.1.1 hO.1 (ci := 3) (q0 := 0) rfl rfl) rfl hl.1 rfl (Nat.le_of_ble_eq_true rfl) dL_law_963 ⟨by show _ ≤ 601024; omega, by show _ ≤ 7293034; omega⟩ (fun H locs hO => ?_)
    refine lv_istore (lv' := (6, .int 0) :: (5, .int 1) :: lwV bs a b o i) C.1 C.2.1 dL_law_966 hl (by decide) rfl (fun ls hl => ?_)
    refine lv_aload_n C.1 C.2.1 dL_law_968 rfl (lv_at hl 4 rfl) ?_
    refine gCall_i (As := []) (rest := []) C hO (c_X3_thrown l E b _ 1 _ _) (cwV 0 C.2.2.2.2.1 gL_law_X3_thrown rfl rfl rfl (by decide +kernel) ⟨(Nat.le_of_ble_eq_true rfl), (Nat.le_of_ble_eq_true rfl)⟩) (va_recv C.2.2.2.2.2.2.2.1.1 hO.1 (ci := 3) (q0 := 0) rfl rfl) rfl hl.1 rfl (Nat.le_of_ble_eq_true rfl) dL_law_969 ⟨by show _ ≤ 601024; omega, by show _ ≤ 7293034; omega⟩ (fun H locs hO => ?_)
    have hO := hO.flop
    refine lv_iload C.1 C.2.1 dL_law_972 (lv_at hl 1 rfl) ?_
    refine lv_icmp_eq (tgt := 979) C.1 C.2.1 dL_law_974 (by decide) (fun _ => ?_) (fun z9 => absurd rfl z9)
    refine lv_iload C.1 C.2.1 dL_law_979 (lv_at hl 1 rfl) ?_
    refine lv_if_ne (tgt := 996) C.1 C.2.1 dL_law_981 (by decide) (fun _ => ?_) (fun z9 => absurd z9 (by decide))
    refine lv_goto (tgt := 1939) C.1 C.2.1 dL_law_996 (by decide) ?_
    exact W.widen (show _ ≤ cells + 32 by omega) (show _ ≤ slots + 400 by omega) (kk _ _ _ _ _ _ _ _ _ _ (hw9.mono (by omega)) hO (lv_sub hl [2, 3, 4, 5, 6] rfl))
set_option maxHeartbeats 4000000 in
set_option maxRecDepth 100000 in
theorem st_p999 {p : Program} {l : Launch} {e : Env} {s : State} {m : MethodId} {args : Array Value} {below : List Frame} {meth : Method} {c : Code} {H : Heap} {locs : List Loc} {cells slots : Nat} {Q : State → Prop} {E : gE} {A : Nat → Prop} {bs L : Nat} {xs : Nat → Int32} {a b : Nat → Nat} {o i : Nat} {S : St} {mkA rk rv : Nat → Int32} {f : Nat → Int64} {mkB : Nat → Int32} {th : Int32} {B : Int} {ls : Array Slot} (C : gCx p s m args meth c cL_law 9 wsL_law RL ret E A) (hst : l.stackTraces = false) (hX : va_X bs L xs s s.heap) (hbl : bs < s.heap.size) (hbA : ¬ A bs) (hL : L ≤ 1536) (hi : i + 2 < L) (hw9 : lwI S B) (hB : B + 48 < 2147483647) (hc9 : cells ≤ 600000) (hs9 : slots ≤ 7000000) (hO : gO E A s (lwW E a b o S mkA rk rv f mkB th) H locs) (hl : lv_has ls 9 (lwV bs a b o i)) (kk : lwK p l e s m args below meth c E A bs a b o i (cells + 32) (slots + 400) (B + 48) Q) : W p l e room_1 s m args below meth c H locs cells slots Q (F0 m 999 ls []) := by
  have hI := hw9.inv
  have hsr := hw9.1.srt
  by_cases hok : (okKey (xs (i + 1)))
  · refine lv_aload_n C.1 C.2.1 dL_law_999 rfl (lv_at hl 1 rfl) ?_
    refine lv_aload_n C.1 C.2.1 dL_law_1000 rfl (lv_at hl 0 rfl) ?_
    refine lv_iload C.1 C.2.1 dL_law_1001 (lv_at hl 4 rfl) ?_
    refine lv_iconst (v := 1) C.1 C.2.1 dL_law_1003 (by decide) ?_
    refine lv_iadd C.1 C.2.1 dL_law_1004 ?_
    refine gSld (j := i + 1) C hX hbl hbA hO (nI_succ i).symm (by omega) hL dL_law_1005 ?_
    refine lv_aload_n C.1 C.2.1 dL_law_1006 rfl (lv_at hl 3 rfl) ?_
    refine gCallW_i (As := [.ref (a 0), .int (xs (i + 1)), .ref o]) (rest := []) C hO (c_L_valueOf_ok l E a S mkA rk rv (mW E b S th mkB) o f (xs (i + 1)) hst hI hok) (vx_cwSW 3 C.2.2.2.2.1 gL_law_L_valueOf rfl rfl rfl (by decide +kernel) ⟨(Nat.le_of_ble_eq_true rfl), (Nat.le_of_ble_eq_true rfl)⟩) rfl hl.1 rfl (Nat.le_of_ble_eq_true rfl) dL_law_1007 ⟨by show _ ≤ 601024; omega, by show _ ≤ 7293034; omega⟩ (fun H locs hO => ?_)
    refine lv_istore (lv' := (5, .int 0) :: lwV bs a b o i) C.1 C.2.1 dL_law_1010 hl (by decide) rfl (fun ls hl => ?_)
    have hO := hO.flip
    refine lv_aload_n C.1 C.2.1 dL_law_1012 rfl (lv_at hl 3 rfl) ?_
    refine lv_aload_n C.1 C.2.1 dL_law_1013 rfl (lv_at hl 1 rfl) ?_
    refine lv_iload C.1 C.2.1 dL_law_1014 (lv_at hl 5 rfl) ?_
    refine lv_iconst (v := 1) C.1 C.2.1 dL_law_1016 (by decide) ?_
    refine lv_iadd C.1 C.2.1 dL_law_1017 ?_
    refine gSld (j := i + 1) C hX hbl hbA hO (nI_succ i).symm (by omega) hL dL_law_1018 ?_
    refine gCall_i (As := [.int (xs (i + 1))]) (rest := []) C hO (c_X3_valueOf_ok l E b S th mkB _ (xs (i + 1)) hI hsr hok) (cwV 1 C.2.2.2.2.1 gL_law_X3_valueOf rfl rfl rfl (by decide +kernel) ⟨(Nat.le_of_ble_eq_true rfl), (Nat.le_of_ble_eq_true rfl)⟩) (va_recv C.2.2.2.2.2.2.2.1.1 hO.1 (ci := 3) (q0 := 0) rfl rfl) rfl hl.1 rfl (Nat.le_of_ble_eq_true rfl) dL_law_1019 ⟨by show _ ≤ 601024; omega, by show _ ≤ 7293034; omega⟩ (fun H locs hO => ?_)
    refine lv_istore (lv' := (6, .int (s_wv S (xs (i + 1)))) :: (5, .int 0) :: lwV bs a b o i) C.1 C.2.1 dL_law_1022 hl (by decide) rfl (fun ls hl => ?_)
    refine lv_aload_n C.1 C.2.1 dL_law_1024 rfl (lv_at hl 4 rfl) ?_
    refine gCall_i (As := []) (rest := []) C hO (c_X3_thrown l E b _ 0 _ _) (cwV 0 C.2.2.2.2.1 gL_law_X3_thrown rfl rfl rfl (by decide +kernel) ⟨(Nat.le_of_ble_eq_true rfl), (Nat.le_of_ble_eq_true rfl)⟩) (va_recv C.2.2.2.2.2.2.2.1.1 hO.1 (ci := 3) (q0 := 0) rfl rfl) rfl hl.1 rfl (Nat.le_of_ble_eq_true rfl) dL_law_1025 ⟨by show _ ≤ 601024; omega, by show _ ≤ 7293034; omega⟩ (fun H locs hO => ?_)
    have hO := hO.flop
    refine lv_iload C.1 C.2.1 dL_law_1028 (lv_at hl 1 rfl) ?_
    refine lv_icmp_eq (tgt := 1035) C.1 C.2.1 dL_law_1030 (by decide) (fun _ => ?_) (fun z9 => absurd rfl z9)
    refine lv_iload C.1 C.2.1 dL_law_1035 (lv_at hl 1 rfl) ?_
    refine lv_if_ne (tgt := 1052) C.1 C.2.1 dL_law_1037 (by decide) (fun z9 => absurd rfl z9) (fun _ => ?_)
    refine lv_aload_n C.1 C.2.1 dL_law_1040 rfl (lv_at hl 5 rfl) ?_
    refine lv_iconst (v := 0) C.1 C.2.1 dL_law_1041 (by decide) ?_
    refine gLald C hO dL_law_1042 ?_
    rw [vp_u09]
    refine lv_iload C.1 C.2.1 dL_law_1043 (lv_at hl 0 rfl) ?_
    refine lv_i2l C.1 C.2.1 dL_law_1045 rfl ?_
    refine W.lcmp C.1 C.2.1 dL_law_1046 ?_
    refine lv_if_eq (tgt := 1052) C.1 C.2.1 dL_law_1047 (by decide) (fun _ => ?_) (fun z9 => absurd (lcm9 _) z9)
    refine lv_goto (tgt := 1939) C.1 C.2.1 dL_law_1052 (by decide) ?_
    exact W.widen (show _ ≤ cells + 32 by omega) (show _ ≤ slots + 400 by omega) (kk _ _ _ _ _ _ _ _ _ _ (hw9.mono (by omega)) hO (lv_sub hl [2, 3, 4, 5, 6] rfl))
  · have hno : ¬ okKey (xs (i + 1)) := by first | exact hok | exact Classical.not_not.mp hok
    have hno3 : ¬ okKey (xs (i + 1)) := by first | exact hno | exact hok
    refine lv_aload_n C.1 C.2.1 dL_law_999 rfl (lv_at hl 1 rfl) ?_
    refine lv_aload_n C.1 C.2.1 dL_law_1000 rfl (lv_at hl 0 rfl) ?_
    refine lv_iload C.1 C.2.1 dL_law_1001 (lv_at hl 4 rfl) ?_
    refine lv_iconst (v := 1) C.1 C.2.1 dL_law_1003 (by decide) ?_
    refine lv_iadd C.1 C.2.1 dL_law_1004 ?_
    refine gSld (j := i + 1) C hX hbl hbA hO (nI_succ i).symm (by omega) hL dL_law_1005 ?_
    refine lv_aload_n C.1 C.2.1 dL_law_1006 rfl (lv_at hl 3 rfl) ?_
    refine gCallW_i (As := [.ref (a 0), .int (xs (i + 1)), .ref o]) (rest := []) C hO (c_L_valueOf_no l E a S mkA rk rv (mW E b S th mkB) o f (xs (i + 1)) hst hI hno) (vx_cwSW 3 C.2.2.2.2.1 gL_law_L_valueOf rfl rfl rfl (by decide +kernel) ⟨(Nat.le_of_ble_eq_true rfl), (Nat.le_of_ble_eq_true rfl)⟩) rfl hl.1 rfl (Nat.le_of_ble_eq_true rfl) dL_law_1007 ⟨by show _ ≤ 601024; omega, by show _ ≤ 7293034; omega⟩ (fun H locs hO => ?_)
    refine lv_istore (lv' := (5, .int 1) :: lwV bs a b o i) C.1 C.2.1 dL_law_1010 hl (by decide) rfl (fun ls hl => ?_)
    have hO := hO.flip
    refine lv_aload_n C.1 C.2.1 dL_law_1012 rfl (lv_at hl 3 rfl) ?_
    refine lv_aload_n C.1 C.2.1 dL_law_1013 rfl (lv_at hl 1 rfl) ?_
    refine lv_iload C.1 C.2.1 dL_law_1014 (lv_at hl 5 rfl) ?_
    refine lv_iconst (v := 1) C.1 C.2.1 dL_law_1016 (by decide) ?_
    refine lv_iadd C.1 C.2.1 dL_law_1017 ?_
    refine gSld (j := i + 1) C hX hbl hbA hO (nI_succ i).symm (by omega) hL dL_law_1018 ?_
    refine gCall_i (As := [.int (xs (i + 1))]) (rest := []) C hO (c_X3_valueOf_no l E b S th mkB _ (xs (i + 1)) hI hsr hno3) (cwV 1 C.2.2.2.2.1 gL_law_X3_valueOf rfl rfl rfl (by decide +kernel) ⟨(Nat.le_of_ble_eq_true rfl), (Nat.le_of_ble_eq_true rfl)⟩) (va_recv C.2.2.2.2.2.2.2.1.1 hO.1 (ci := 3) (q0 := 0) rfl rfl) rfl hl.1 rfl (Nat.le_of_ble_eq_true rfl) dL_law_1019 ⟨by show _ ≤ 601024; omega, by show _ ≤ 7293034; omega⟩ (fun H locs hO => ?_)
    refine lv_istore (lv' := (6, .int 0) :: (5, .int 1) :: lwV bs a b o i) C.1 C.2.1 dL_law_1022 hl (by decide) rfl (fun ls hl => ?_)
    refine lv_aload_n C.1 C.2.1 dL_law_1024 rfl (lv_at hl 4 rfl) ?_
    refine gCall_i (As := []) (rest := []) C hO (c_X3_thrown l E b _ 1 _ _) (cwV 0 C.2.2.2.2.1 gL_law_X3_thrown rfl rfl rfl (by decide +kernel) ⟨(Nat.le_of_ble_eq_true rfl), (Nat.le_of_ble_eq_true rfl)⟩) (va_recv C.2.2.2.2.2.2.2.1.1 hO.1 (ci := 3) (q0 := 0) rfl rfl) rfl hl.1 rfl (Nat.le_of_ble_eq_true rfl) dL_law_1025 ⟨by show _ ≤ 601024; omega, by show _ ≤ 7293034; omega⟩ (fun H locs hO => ?_)
    have hO := hO.flop
    refine lv_iload C.1 C.2.1 dL_law_1028 (lv_at hl 1 rfl) ?_
    refine lv_icmp_eq (tgt := 1035) C.1 C.2.1 dL_law_1030 (by decide) (fun _ => ?_) (fun z9 => absurd rfl z9)
    refine lv_iload C.1 C.2.1 dL_law_1035 (lv_at hl 1 rfl) ?_
    refine lv_if_ne (tgt := 1052) C.1 C.2.1 dL_law_1037 (by decide) (fun _ => ?_) (fun z9 => absurd z9 (by decide))
    refine lv_goto (tgt := 1939) C.1 C.2.1 dL_law_1052 (by decide) ?_
    exact W.widen (show _ ≤ cells + 32 by omega) (show _ ≤ slots + 400 by omega) (kk _ _ _ _ _ _ _ _ _ _ (hw9.mono (by omega)) hO (lv_sub hl [2, 3, 4, 5, 6] rfl))
set_option maxHeartbeats 4000000 in
set_option maxRecDepth 100000 in
theorem st_p1055 {p : Program} {l : Launch} {e : Env} {s : State} {m : MethodId} {args : Array Value} {below : List Frame} {meth : Method} {c : Code} {H : Heap} {locs : List Loc} {cells slots : Nat} {Q : State → Prop} {E : gE} {A : Nat → Prop} {bs L : Nat} {xs : Nat → Int32} {a b : Nat → Nat} {o i : Nat} {S : St} {mkA rk rv : Nat → Int32} {f : Nat → Int64} {mkB : Nat → Int32} {th : Int32} {B : Int} {ls : Array Slot} (C : gCx p s m args meth c cL_law 9 wsL_law RL ret E A) (hst : l.stackTraces = false) (hX : va_X bs L xs s s.heap) (hbl : bs < s.heap.size) (hbA : ¬ A bs) (hL : L ≤ 1536) (hi : i + 2 < L) (hw9 : lwI S B) (hB : B + 48 < 2147483647) (hc9 : cells ≤ 600000) (hs9 : slots ≤ 7000000) (hO : gO E A s (lwW E a b o S mkA rk rv f mkB th) H locs) (hl : lv_has ls 9 (lwV bs a b o i)) (kk : lwK p l e s m args below meth c E A bs a b o i (cells + 32) (slots + 400) (B + 48) Q) : W p l e room_1 s m args below meth c H locs cells slots Q (F0 m 1055 ls []) := by
  have hI := hw9.inv
  have hsr := hw9.1.srt
  by_cases hok : (okKey (xs (i + 1)))
  · refine lv_aload_n C.1 C.2.1 dL_law_1055 rfl (lv_at hl 1 rfl) ?_
    refine lv_aload_n C.1 C.2.1 dL_law_1056 rfl (lv_at hl 0 rfl) ?_
    refine lv_iload C.1 C.2.1 dL_law_1057 (lv_at hl 4 rfl) ?_
    refine lv_iconst (v := 1) C.1 C.2.1 dL_law_1059 (by decide) ?_
    refine lv_iadd C.1 C.2.1 dL_law_1060 ?_
    refine gSld (j := i + 1) C hX hbl hbA hO (nI_succ i).symm (by omega) hL dL_law_1061 ?_
    refine lv_aload_n C.1 C.2.1 dL_law_1062 rfl (lv_at hl 3 rfl) ?_
    refine gCallW_i (As := [.ref (a 0), .int (xs (i + 1)), .ref o]) (rest := []) C hO (c_L_countOf_ok l E a S mkA rk rv (mW E b S th mkB) o f (xs (i + 1)) hst hI hok) (vx_cwSW 3 C.2.2.2.2.1 gL_law_L_countOf rfl rfl rfl (by decide +kernel) ⟨(Nat.le_of_ble_eq_true rfl), (Nat.le_of_ble_eq_true rfl)⟩) rfl hl.1 rfl (Nat.le_of_ble_eq_true rfl) dL_law_1063 ⟨by show _ ≤ 601024; omega, by show _ ≤ 7293034; omega⟩ (fun H locs hO => ?_)
    refine lv_istore (lv' := (5, .int 0) :: lwV bs a b o i) C.1 C.2.1 dL_law_1066 hl (by decide) rfl (fun ls hl => ?_)
    have hO := hO.flip
    refine lv_aload_n C.1 C.2.1 dL_law_1068 rfl (lv_at hl 3 rfl) ?_
    refine lv_aload_n C.1 C.2.1 dL_law_1069 rfl (lv_at hl 1 rfl) ?_
    refine lv_iload C.1 C.2.1 dL_law_1070 (lv_at hl 5 rfl) ?_
    refine lv_iconst (v := 1) C.1 C.2.1 dL_law_1072 (by decide) ?_
    refine lv_iadd C.1 C.2.1 dL_law_1073 ?_
    refine gSld (j := i + 1) C hX hbl hbA hO (nI_succ i).symm (by omega) hL dL_law_1074 ?_
    refine gCall_i (As := [.int (xs (i + 1))]) (rest := []) C hO (c_X3_countOf_ok l E b S th mkB _ (xs (i + 1)) hI hsr hok) (cwV 1 C.2.2.2.2.1 gL_law_X3_countOf rfl rfl rfl (by decide +kernel) ⟨(Nat.le_of_ble_eq_true rfl), (Nat.le_of_ble_eq_true rfl)⟩) (va_recv C.2.2.2.2.2.2.2.1.1 hO.1 (ci := 3) (q0 := 0) rfl rfl) rfl hl.1 rfl (Nat.le_of_ble_eq_true rfl) dL_law_1075 ⟨by show _ ≤ 601024; omega, by show _ ≤ 7293034; omega⟩ (fun H locs hO => ?_)
    refine lv_istore (lv' := (6, .int (nI (cnt (s_key S) (xs (i + 1)) (s_n S)))) :: (5, .int 0) :: lwV bs a b o i) C.1 C.2.1 dL_law_1078 hl (by decide) rfl (fun ls hl => ?_)
    refine lv_aload_n C.1 C.2.1 dL_law_1080 rfl (lv_at hl 4 rfl) ?_
    refine gCall_i (As := []) (rest := []) C hO (c_X3_thrown l E b _ 0 _ _) (cwV 0 C.2.2.2.2.1 gL_law_X3_thrown rfl rfl rfl (by decide +kernel) ⟨(Nat.le_of_ble_eq_true rfl), (Nat.le_of_ble_eq_true rfl)⟩) (va_recv C.2.2.2.2.2.2.2.1.1 hO.1 (ci := 3) (q0 := 0) rfl rfl) rfl hl.1 rfl (Nat.le_of_ble_eq_true rfl) dL_law_1081 ⟨by show _ ≤ 601024; omega, by show _ ≤ 7293034; omega⟩ (fun H locs hO => ?_)
    have hO := hO.flop
    refine lv_iload C.1 C.2.1 dL_law_1084 (lv_at hl 1 rfl) ?_
    refine lv_icmp_eq (tgt := 1091) C.1 C.2.1 dL_law_1086 (by decide) (fun _ => ?_) (fun z9 => absurd rfl z9)
    refine lv_iload C.1 C.2.1 dL_law_1091 (lv_at hl 1 rfl) ?_
    refine lv_if_ne (tgt := 1108) C.1 C.2.1 dL_law_1093 (by decide) (fun z9 => absurd rfl z9) (fun _ => ?_)
    refine lv_aload_n C.1 C.2.1 dL_law_1096 rfl (lv_at hl 5 rfl) ?_
    refine lv_iconst (v := 0) C.1 C.2.1 dL_law_1097 (by decide) ?_
    refine gLald C hO dL_law_1098 ?_
    rw [vp_u09]
    refine lv_iload C.1 C.2.1 dL_law_1099 (lv_at hl 0 rfl) ?_
    refine lv_i2l C.1 C.2.1 dL_law_1101 rfl ?_
    refine W.lcmp C.1 C.2.1 dL_law_1102 ?_
    refine lv_if_eq (tgt := 1108) C.1 C.2.1 dL_law_1103 (by decide) (fun _ => ?_) (fun z9 => absurd (lcm9 _) z9)
    refine lv_goto (tgt := 1939) C.1 C.2.1 dL_law_1108 (by decide) ?_
    exact W.widen (show _ ≤ cells + 32 by omega) (show _ ≤ slots + 400 by omega) (kk _ _ _ _ _ _ _ _ _ _ (hw9.mono (by omega)) hO (lv_sub hl [2, 3, 4, 5, 6] rfl))
  · have hno : ¬ okKey (xs (i + 1)) := by first | exact hok | exact Classical.not_not.mp hok
    have hno3 : ¬ okKey (xs (i + 1)) := by first | exact hno | exact hok
    refine lv_aload_n C.1 C.2.1 dL_law_1055 rfl (lv_at hl 1 rfl) ?_
    refine lv_aload_n C.1 C.2.1 dL_law_1056 rfl (lv_at hl 0 rfl) ?_
    refine lv_iload C.1 C.2.1 dL_law_1057 (lv_at hl 4 rfl) ?_
    refine lv_iconst (v := 1) C.1 C.2.1 dL_law_1059 (by decide) ?_
    refine lv_iadd C.1 C.2.1 dL_law_1060 ?_
    refine gSld (j := i + 1) C hX hbl hbA hO (nI_succ i).symm (by omega) hL dL_law_1061 ?_
    refine lv_aload_n C.1 C.2.1 dL_law_1062 rfl (lv_at hl 3 rfl) ?_
    refine gCallW_i (As := [.ref (a 0), .int (xs (i + 1)), .ref o]) (rest := []) C hO (c_L_countOf_no l E a S mkA rk rv (mW E b S th mkB) o f (xs (i + 1)) hst hI hno) (vx_cwSW 3 C.2.2.2.2.1 gL_law_L_countOf rfl rfl rfl (by decide +kernel) ⟨(Nat.le_of_ble_eq_true rfl), (Nat.le_of_ble_eq_true rfl)⟩) rfl hl.1 rfl (Nat.le_of_ble_eq_true rfl) dL_law_1063 ⟨by show _ ≤ 601024; omega, by show _ ≤ 7293034; omega⟩ (fun H locs hO => ?_)
    refine lv_istore (lv' := (5, .int 1) :: lwV bs a b o i) C.1 C.2.1 dL_law_1066 hl (by decide) rfl (fun ls hl => ?_)
    have hO := hO.flip
    refine lv_aload_n C.1 C.2.1 dL_law_1068 rfl (lv_at hl 3 rfl) ?_
    refine lv_aload_n C.1 C.2.1 dL_law_1069 rfl (lv_at hl 1 rfl) ?_
    refine lv_iload C.1 C.2.1 dL_law_1070 (lv_at hl 5 rfl) ?_
    refine lv_iconst (v := 1) C.1 C.2.1 dL_law_1072 (by decide) ?_
    refine lv_iadd C.1 C.2.1 dL_law_1073 ?_
    refine gSld (j := i + 1) C hX hbl hbA hO (nI_succ i).symm (by omega) hL dL_law_1074 ?_
    refine gCall_i (As := [.int (xs (i + 1))]) (rest := []) C hO (c_X3_countOf_no l E b S th mkB _ (xs (i + 1)) hI hsr hno3) (cwV 1 C.2.2.2.2.1 gL_law_X3_countOf rfl rfl rfl (by decide +kernel) ⟨(Nat.le_of_ble_eq_true rfl), (Nat.le_of_ble_eq_true rfl)⟩) (va_recv C.2.2.2.2.2.2.2.1.1 hO.1 (ci := 3) (q0 := 0) rfl rfl) rfl hl.1 rfl (Nat.le_of_ble_eq_true rfl) dL_law_1075 ⟨by show _ ≤ 601024; omega, by show _ ≤ 7293034; omega⟩ (fun H locs hO => ?_)
    refine lv_istore (lv' := (6, .int 0) :: (5, .int 1) :: lwV bs a b o i) C.1 C.2.1 dL_law_1078 hl (by decide) rfl (fun ls hl => ?_)
    refine lv_aload_n C.1 C.2.1 dL_law_1080 rfl (lv_at hl 4 rfl) ?_
    refine gCall_i (As := []) (rest := []) C hO (c_X3_thrown l E b _ 1 _ _) (cwV 0 C.2.2.2.2.1 gL_law_X3_thrown rfl rfl rfl (by decide +kernel) ⟨(Nat.le_of_ble_eq_true rfl), (Nat.le_of_ble_eq_true rfl)⟩) (va_recv C.2.2.2.2.2.2.2.1.1 hO.1 (ci := 3) (q0 := 0) rfl rfl) rfl hl.1 rfl (Nat.le_of_ble_eq_true rfl) dL_law_1081 ⟨by show _ ≤ 601024; omega, by show _ ≤ 7293034; omega⟩ (fun H locs hO => ?_)
    have hO := hO.flop
    refine lv_iload C.1 C.2.1 dL_law_1084 (lv_at hl 1 rfl) ?_
    refine lv_icmp_eq (tgt := 1091) C.1 C.2.1 dL_law_1086 (by decide) (fun _ => ?_) (fun z9 => absurd rfl z9)
    refine lv_iload C.1 C.2.1 dL_law_1091 (lv_at hl 1 rfl) ?_
    refine lv_if_ne (tgt := 1108) C.1 C.2.1 dL_law_1093 (by decide) (fun _ => ?_) (fun z9 => absurd z9 (by decide))
    refine lv_goto (tgt := 1939) C.1 C.2.1 dL_law_1108 (by decide) ?_
    exact W.widen (show _ ≤ cells + 32 by omega) (show _ ≤ slots + 400 by omega) (kk _ _ _ _ _ _ _ _ _ _ (hw9.mono (by omega)) hO (lv_sub hl [2, 3, 4, 5, 6] rfl))
