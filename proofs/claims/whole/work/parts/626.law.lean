set_option maxHeartbeats 4000000 in
set_option maxRecDepth 100000 in
theorem st_p1747 {p : Program} {l : Launch} {e : Env} {s : State} {m : MethodId} {args : Array Value} {below : List Frame} {meth : Method} {c : Code} {H : Heap} {locs : List Loc} {cells slots : Nat} {Q : State → Prop} {E : gE} {A : Nat → Prop} {bs L : Nat} {xs : Nat → Int32} {a b : Nat → Nat} {o i : Nat} {S : St} {mkA rk rv : Nat → Int32} {f : Nat → Int64} {mkB : Nat → Int32} {th : Int32} {B : Int} {ls : Array Slot} (C : gCx p s m args meth c cL_law 9 wsL_law RL ret E A) (hst : l.stackTraces = false) (hX : va_X bs L xs s s.heap) (hbl : bs < s.heap.size) (hbA : ¬ A bs) (hL : L ≤ 1536) (hi : i + 2 < L) (hw9 : lwI S B) (hB : B + 48 < 2147483647) (hc9 : cells ≤ 600000) (hs9 : slots ≤ 7000000) (hO : gO E A s (lwW E a b o S mkA rk rv f mkB th) H locs) (hl : lv_has ls 9 (lwV bs a b o i)) (kk : lwK p l e s m args below meth c E A bs a b o i (cells + 32) (slots + 400) (B + 48) Q) : W p l e room_1 s m args below meth c H locs cells slots Q (F0 m 1747 ls []) := by
  have hI := hw9.inv
  have hsr := hw9.1.srt
  by_cases hp9 : okShip S (xs (i + 1))
  · by_cases hq9 : okHours (xs (i + 2))
    · have hok : (okShip S (xs (i + 1)) ∧ okHours (xs (i + 2))) := by first | exact ⟨hp9, hq9⟩ | exact ⟨hp9.1, hp9.2, hq9⟩
      refine lv_aload_n C.1 C.2.1 dL_law_1747 rfl (lv_at hl 1 rfl) ?_
      refine lv_aload_n C.1 C.2.1 dL_law_1748 rfl (lv_at hl 0 rfl) ?_
      refine lv_iload C.1 C.2.1 dL_law_1749 (lv_at hl 4 rfl) ?_
      refine lv_iconst (v := 1) C.1 C.2.1 dL_law_1751 (by decide) ?_
      refine lv_iadd C.1 C.2.1 dL_law_1752 ?_
      refine gSld (j := i + 1) C hX hbl hbA hO (nI_succ i).symm (by omega) hL dL_law_1753 ?_
      refine lv_aload_n C.1 C.2.1 dL_law_1754 rfl (lv_at hl 0 rfl) ?_
      refine lv_iload C.1 C.2.1 dL_law_1755 (lv_at hl 4 rfl) ?_
      refine lv_iconst (v := 2) C.1 C.2.1 dL_law_1757 (by decide) ?_
      refine lv_iadd C.1 C.2.1 dL_law_1758 ?_
      refine gSld (j := i + 2) C hX hbl hbA hO (ni_2 i) (by omega) hL dL_law_1759 ?_
      refine lv_aload_n C.1 C.2.1 dL_law_1760 rfl (lv_at hl 3 rfl) ?_
      refine gCallW_i (As := [.ref (a 0), .int (xs (i + 1)), .int (xs (i + 2)), .ref o]) (rest := []) C hO (c_L_paceWanted_ok l E a S mkA rk rv (mW E b S th mkB) o f (xs (i + 1)) (xs (i + 2)) hst hI hok) (vx_cwSW 4 C.2.2.2.2.1 gL_law_L_paceWanted rfl rfl rfl (by decide +kernel) ⟨(Nat.le_of_ble_eq_true rfl), (Nat.le_of_ble_eq_true rfl)⟩) rfl hl.1 rfl (Nat.le_of_ble_eq_true rfl) dL_law_1761 ⟨by show _ ≤ 601024; omega, by show _ ≤ 7293034; omega⟩ (fun H locs hO => ?_)
      refine lv_istore (lv' := (5, .int 0) :: lwV bs a b o i) C.1 C.2.1 dL_law_1764 hl (by decide) rfl (fun ls hl => ?_)
      have hO := hO.flip
      refine lv_aload_n C.1 C.2.1 dL_law_1766 rfl (lv_at hl 3 rfl) ?_
      refine lv_aload_n C.1 C.2.1 dL_law_1767 rfl (lv_at hl 1 rfl) ?_
      refine lv_iload C.1 C.2.1 dL_law_1768 (lv_at hl 5 rfl) ?_
      refine lv_iconst (v := 1) C.1 C.2.1 dL_law_1770 (by decide) ?_
      refine lv_iadd C.1 C.2.1 dL_law_1771 ?_
      refine gSld (j := i + 1) C hX hbl hbA hO (nI_succ i).symm (by omega) hL dL_law_1772 ?_
      refine lv_aload_n C.1 C.2.1 dL_law_1773 rfl (lv_at hl 1 rfl) ?_
      refine lv_iload C.1 C.2.1 dL_law_1774 (lv_at hl 5 rfl) ?_
      refine lv_iconst (v := 2) C.1 C.2.1 dL_law_1776 (by decide) ?_
      refine lv_iadd C.1 C.2.1 dL_law_1777 ?_
      refine gSld (j := i + 2) C hX hbl hbA hO (ni_2 i) (by omega) hL dL_law_1778 ?_
      refine gCall_i (As := [.int (xs (i + 1)), .int (xs (i + 2))]) (rest := []) C hO (c_X3_paceWanted_ok l E b S th mkB _ (xs (i + 1)) (xs (i + 2)) hI hsr hok) (cwV 2 C.2.2.2.2.1 gL_law_X3_paceWanted rfl rfl rfl (by decide +kernel) ⟨(Nat.le_of_ble_eq_true rfl), (Nat.le_of_ble_eq_true rfl)⟩) (va_recv C.2.2.2.2.2.2.2.1.1 hO.1 (ci := 3) (q0 := 0) rfl rfl) rfl hl.1 rfl (Nat.le_of_ble_eq_true rfl) dL_law_1779 ⟨by show _ ≤ 601024; omega, by show _ ≤ 7293034; omega⟩ (fun H locs hO => ?_)
      refine lv_istore (lv' := (6, .int (s_pw S (xs (i + 1)).toNatClampNeg (xs (i + 2)).toNatClampNeg)) :: (5, .int 0) :: lwV bs a b o i) C.1 C.2.1 dL_law_1782 hl (by decide) rfl (fun ls hl => ?_)
      refine lv_aload_n C.1 C.2.1 dL_law_1784 rfl (lv_at hl 4 rfl) ?_
      refine gCall_i (As := []) (rest := []) C hO (c_X3_thrown l E b _ 0 _ _) (cwV 0 C.2.2.2.2.1 gL_law_X3_thrown rfl rfl rfl (by decide +kernel) ⟨(Nat.le_of_ble_eq_true rfl), (Nat.le_of_ble_eq_true rfl)⟩) (va_recv C.2.2.2.2.2.2.2.1.1 hO.1 (ci := 3) (q0 := 0) rfl rfl) rfl hl.1 rfl (Nat.le_of_ble_eq_true rfl) dL_law_1785 ⟨by show _ ≤ 601024; omega, by show _ ≤ 7293034; omega⟩ (fun H locs hO => ?_)
      have hO := hO.flop
      refine lv_iload C.1 C.2.1 dL_law_1788 (lv_at hl 1 rfl) ?_
      refine lv_icmp_eq (tgt := 1795) C.1 C.2.1 dL_law_1790 (by decide) (fun _ => ?_) (fun z9 => absurd rfl z9)
      refine lv_iload C.1 C.2.1 dL_law_1795 (lv_at hl 1 rfl) ?_
      refine lv_if_ne (tgt := 1812) C.1 C.2.1 dL_law_1797 (by decide) (fun z9 => absurd rfl z9) (fun _ => ?_)
      refine lv_aload_n C.1 C.2.1 dL_law_1800 rfl (lv_at hl 5 rfl) ?_
      refine lv_iconst (v := 0) C.1 C.2.1 dL_law_1801 (by decide) ?_
      refine gLald C hO dL_law_1802 ?_
      rw [vp_u09]
      refine lv_iload C.1 C.2.1 dL_law_1803 (lv_at hl 0 rfl) ?_
      refine lv_i2l C.1 C.2.1 dL_law_1805 rfl ?_
      refine W.lcmp C.1 C.2.1 dL_law_1806 ?_
      refine lv_if_eq (tgt := 1812) C.1 C.2.1 dL_law_1807 (by decide) (fun _ => ?_) (fun z9 => absurd (lcm9 _) z9)
      refine lv_goto (tgt := 1939) C.1 C.2.1 dL_law_1812 (by decide) ?_
      exact W.widen (show _ ≤ cells + 32 by omega) (show _ ≤ slots + 400 by omega) (kk _ _ _ _ _ _ _ _ _ _ (hw9.mono (by omega)) hO (lv_sub hl [2, 3, 4, 5, 6] rfl))
    · have hno : okShip S (xs (i + 1)) ∧ ¬ okHours (xs (i + 2)) := by first | exact ⟨hp9, hq9⟩ | exact ⟨hp9.1, hp9.2, hq9⟩
      have hno3 : okShip S (xs (i + 1)) ∧ ¬ okHours (xs (i + 2)) := by first | exact hno | exact ⟨hp9, hq9⟩
      refine lv_aload_n C.1 C.2.1 dL_law_1747 rfl (lv_at hl 1 rfl) ?_
      refine lv_aload_n C.1 C.2.1 dL_law_1748 rfl (lv_at hl 0 rfl) ?_
      refine lv_iload C.1 C.2.1 dL_law_1749 (lv_at hl 4 rfl) ?_
      refine lv_iconst (v := 1) C.1 C.2.1 dL_law_1751 (by decide) ?_
      refine lv_iadd C.1 C.2.1 dL_law_1752 ?_
      refine gSld (j := i + 1) C hX hbl hbA hO (nI_succ i).symm (by omega) hL dL_law_1753 ?_
      refine lv_aload_n C.1 C.2.1 dL_law_1754 rfl (lv_at hl 0 rfl) ?_
      refine lv_iload C.1 C.2.1 dL_law_1755 (lv_at hl 4 rfl) ?_
      refine lv_iconst (v := 2) C.1 C.2.1 dL_law_1757 (by decide) ?_
      refine lv_iadd C.1 C.2.1 dL_law_1758 ?_
      refine gSld (j := i + 2) C hX hbl hbA hO (ni_2 i) (by omega) hL dL_law_1759 ?_
      refine lv_aload_n C.1 C.2.1 dL_law_1760 rfl (lv_at hl 3 rfl) ?_
      refine gCallW_i (As := [.ref (a 0), .int (xs (i + 1)), .int (xs (i + 2)), .ref o]) (rest := []) C hO (c_L_paceWanted_no2 l E a S mkA rk rv (mW E b S th mkB) o f (xs (i + 1)) (xs (i + 2)) hst hI hno) (vx_cwSW 4 C.2.2.2.2.1 gL_law_L_paceWanted rfl rfl rfl (by decide +kernel) ⟨(Nat.le_of_ble_eq_true rfl), (Nat.le_of_ble_eq_true rfl)⟩) rfl hl.1 rfl (Nat.le_of_ble_eq_true rfl) dL_law_1761 ⟨by show _ ≤ 601024; omega, by show _ ≤ 7293034; omega⟩ (fun H locs hO => ?_)
      refine lv_istore (lv' := (5, .int 2) :: lwV bs a b o i) C.1 C.2.1 dL_law_1764 hl (by decide) rfl (fun ls hl => ?_)
      have hO := hO.flip
      refine lv_aload_n C.1 C.2.1 dL_law_1766 rfl (lv_at hl 3 rfl) ?_
      refine lv_aload_n C.1 C.2.1 dL_law_1767 rfl (lv_at hl 1 rfl) ?_
      refine lv_iload C.1 C.2.1 dL_law_1768 (lv_at hl 5 rfl) ?_
      refine lv_iconst (v := 1) C.1 C.2.1 dL_law_1770 (by decide) ?_
      refine lv_iadd C.1 C.2.1 dL_law_1771 ?_
      refine gSld (j := i + 1) C hX hbl hbA hO (nI_succ i).symm (by omega) hL dL_law_1772 ?_
      refine lv_aload_n C.1 C.2.1 dL_law_1773 rfl (lv_at hl 1 rfl) ?_
      refine lv_iload C.1 C.2.1 dL_law_1774 (lv_at hl 5 rfl) ?_
      refine lv_iconst (v := 2) C.1 C.2.1 dL_law_1776 (by decide) ?_
      refine lv_iadd C.1 C.2.1 dL_law_1777 ?_
      refine gSld (j := i + 2) C hX hbl hbA hO (ni_2 i) (by omega) hL dL_law_1778 ?_
      refine gCall_i (As := [.int (xs (i + 1)), .int (xs (i + 2))]) (rest := []) C hO (c_X3_paceWanted_no2 l E b S th mkB _ (xs (i + 1)) (xs (i + 2)) hI hsr hno3) (cwV 2 C.2.2.2.2.1 gL_law_X3_paceWanted rfl rfl rfl (by decide +kernel) ⟨(Nat.le_of_ble_eq_true rfl), (Nat.le_of_ble_eq_true rfl)⟩) (va_recv C.2.2.2.2.2.2.2.1.1 hO.1 (ci := 3) (q0 := 0) rfl rfl) rfl hl.1 rfl (Nat.le_of_ble_eq_true rfl) dL_law_1779 ⟨by show _ ≤ 601024; omega, by show _ ≤ 7293034; omega⟩ (fun H locs hO => ?_)
      refine lv_istore (lv' := (6, .int 0) :: (5, .int 2) :: lwV bs a b o i) C.1 C.2.1 dL_law_1782 hl (by decide) rfl (fun ls hl => ?_)
      refine lv_aload_n C.1 C.2.1 dL_law_1784 rfl (lv_at hl 4 rfl) ?_
      refine gCall_i (As := []) (rest := []) C hO (c_X3_thrown l E b _ 2 _ _) (cwV 0 C.2.2.2.2.1 gL_law_X3_thrown rfl rfl rfl (by decide +kernel) ⟨(Nat.le_of_ble_eq_true rfl), (Nat.le_of_ble_eq_true rfl)⟩) (va_recv C.2.2.2.2.2.2.2.1.1 hO.1 (ci := 3) (q0 := 0) rfl rfl) rfl hl.1 rfl (Nat.le_of_ble_eq_true rfl) dL_law_1785 ⟨by show _ ≤ 601024; omega, by show _ ≤ 7293034; omega⟩ (fun H locs hO => ?_)
      have hO := hO.flop
      refine lv_iload C.1 C.2.1 dL_law_1788 (lv_at hl 1 rfl) ?_
      refine lv_icmp_eq (tgt := 1795) C.1 C.2.1 dL_law_1790 (by decide) (fun _ => ?_) (fun z9 => absurd rfl z9)
      refine lv_iload C.1 C.2.1 dL_law_1795 (lv_at hl 1 rfl) ?_
      refine lv_if_ne (tgt := 1812) C.1 C.2.1 dL_law_1797 (by decide) (fun _ => ?_) (fun z9 => absurd z9 (by decide))
      refine lv_goto (tgt := 1939) C.1 C.2.1 dL_law_1812 (by decide) ?_
      exact W.widen (show _ ≤ cells + 32 by omega) (show _ ≤ slots + 400 by omega) (kk _ _ _ _ _ _ _ _ _ _ (hw9.mono (by omega)) hO (lv_sub hl [2, 3, 4, 5, 6] rfl))
  · have hno : ¬ okShip S (xs (i + 1)) := hp9
    have hno3 : ¬ okShip S (xs (i + 1)) := by first | exact hno | exact hp9
    refine lv_aload_n C.1 C.2.1 dL_law_1747 rfl (lv_at hl 1 rfl) ?_
    refine lv_aload_n C.1 C.2.1 dL_law_1748 rfl (lv_at hl 0 rfl) ?_
    refine lv_iload C.1 C.2.1 dL_law_1749 (lv_at hl 4 rfl) ?_
    refine lv_iconst (v := 1) C.1 C.2.1 dL_law_1751 (by decide) ?_
    refine lv_iadd C.1 C.2.1 dL_law_1752 ?_
    refine gSld (j := i + 1) C hX hbl hbA hO (nI_succ i).symm (by omega) hL dL_law_1753 ?_
    refine lv_aload_n C.1 C.2.1 dL_law_1754 rfl (lv_at hl 0 rfl) ?_
    refine lv_iload C.1 C.2.1 dL_law_1755 (lv_at hl 4 rfl) ?_
    refine lv_iconst (v := 2) C.1 C.2.1 dL_law_1757 (by decide) ?_
    refine lv_iadd C.1 C.2.1 dL_law_1758 ?_
    refine gSld (j := i + 2) C hX hbl hbA hO (ni_2 i) (by omega) hL dL_law_1759 ?_
    refine lv_aload_n C.1 C.2.1 dL_law_1760 rfl (lv_at hl 3 rfl) ?_
    refine gCallW_i (As := [.ref (a 0), .int (xs (i + 1)), .int (xs (i + 2)), .ref o]) (rest := []) C hO (c_L_paceWanted_no1 l E a S mkA rk rv (mW E b S th mkB) o f (xs (i + 1)) (xs (i + 2)) hst hI hno) (vx_cwSW 4 C.2.2.2.2.1 gL_law_L_paceWanted rfl rfl rfl (by decide +kernel) ⟨(Nat.le_of_ble_eq_true rfl), (Nat.le_of_ble_eq_true rfl)⟩) rfl hl.1 rfl (Nat.le_of_ble_eq_true rfl) dL_law_1761 ⟨by show _ ≤ 601024; omega, by show _ ≤ 7293034; omega⟩ (fun H locs hO => ?_)
    refine lv_istore (lv' := (5, .int 1) :: lwV bs a b o i) C.1 C.2.1 dL_law_1764 hl (by decide) rfl (fun ls hl => ?_)
    have hO := hO.flip
    refine lv_aload_n C.1 C.2.1 dL_law_1766 rfl (lv_at hl 3 rfl) ?_
    refine lv_aload_n C.1 C.2.1 dL_law_1767 rfl (lv_at hl 1 rfl) ?_
    refine lv_iload C.1 C.2.1 dL_law_1768 (lv_at hl 5 rfl) ?_
    refine lv_iconst (v := 1) C.1 C.2.1 dL_law_1770 (by decide) ?_
    refine lv_iadd C.1 C.2.1 dL_law_1771 ?_
    refine gSld (j := i + 1) C hX hbl hbA hO (nI_succ i).symm (by omega) hL dL_law_1772 ?_
    refine lv_aload_n C.1 C.2.1 dL_law_1773 rfl (lv_at hl 1 rfl) ?_
    refine lv_iload C.1 C.2.1 dL_law_1774 (lv_at hl 5 rfl) ?_
    refine lv_iconst (v := 2) C.1 C.2.1 dL_law_1776 (by decide) ?_
    refine lv_iadd C.1 C.2.1 dL_law_1777 ?_
    refine gSld (j := i + 2) C hX hbl hbA hO (ni_2 i) (by omega) hL dL_law_1778 ?_
    refine gCall_i (As := [.int (xs (i + 1)), .int (xs (i + 2))]) (rest := []) C hO (c_X3_paceWanted_no l E b S th mkB _ (xs (i + 1)) (xs (i + 2)) hI hsr hno3) (cwV 2 C.2.2.2.2.1 gL_law_X3_paceWanted rfl rfl rfl (by decide +kernel) ⟨(Nat.le_of_ble_eq_true rfl), (Nat.le_of_ble_eq_true rfl)⟩) (va_recv C.2.2.2.2.2.2.2.1.1 hO.1 (ci := 3) (q0 := 0) rfl rfl) rfl hl.1 rfl (Nat.le_of_ble_eq_true rfl) dL_law_1779 ⟨by show _ ≤ 601024; omega, by show _ ≤ 7293034; omega⟩ (fun H locs hO => ?_)
    refine lv_istore (lv' := (6, .int 0) :: (5, .int 1) :: lwV bs a b o i) C.1 C.2.1 dL_law_1782 hl (by decide) rfl (fun ls hl => ?_)
    refine lv_aload_n C.1 C.2.1 dL_law_1784 rfl (lv_at hl 4 rfl) ?_
    refine gCall_i (As := []) (rest := []) C hO (c_X3_thrown l E b _ 1 _ _) (cwV 0 C.2.2.2.2.1 gL_law_X3_thrown rfl rfl rfl (by decide +kernel) ⟨(Nat.le_of_ble_eq_true rfl), (Nat.le_of_ble_eq_true rfl)⟩) (va_recv C.2.2.2.2.2.2.2.1.1 hO.1 (ci := 3) (q0 := 0) rfl rfl) rfl hl.1 rfl (Nat.le_of_ble_eq_true rfl) dL_law_1785 ⟨by show _ ≤ 601024; omega, by show _ ≤ 7293034; omega⟩ (fun H locs hO => ?_)
    have hO := hO.flop
    refine lv_iload C.1 C.2.1 dL_law_1788 (lv_at hl 1 rfl) ?_
    refine lv_icmp_eq (tgt := 1795) C.1 C.2.1 dL_law_1790 (by decide) (fun _ => ?_) (fun z9 => absurd rfl z9)
    refine lv_iload C.1 C.2.1 dL_law_1795 (lv_at hl 1 rfl) ?_
    refine lv_if_ne (tgt := 1812) C.1 C.2.1 dL_law_1797 (by decide) (fun _ => ?_) (fun z9 => absurd z9 (by decide))
    refine lv_goto (tgt := 1939) C.1 C.2.1 dL_law_1812 (by decide) ?_
    exact W.widen (show _ ≤ cells + 32 by omega) (show _ ≤ slots + 400 by omega) (kk _ _ _ _ _ _ _ _ _ _ (hw9.mono (by omega)) hO (lv_sub hl [2, 3, 4, 5, 6] rfl))
set_option maxHeartbeats 4000000 in
set_option maxRecDepth 100000 in
theorem st_p1815 {p : Program} {l : Launch} {e : Env} {s : State} {m : MethodId} {args : Array Value} {below : List Frame} {meth : Method} {c : Code} {H : Heap} {locs : List Loc} {cells slots : Nat} {Q : State → Prop} {E : gE} {A : Nat → Prop} {bs L : Nat} {xs : Nat → Int32} {a b : Nat → Nat} {o i : Nat} {S : St} {mkA rk rv : Nat → Int32} {f : Nat → Int64} {mkB : Nat → Int32} {th : Int32} {B : Int} {ls : Array Slot} (C : gCx p s m args meth c cL_law 9 wsL_law RL ret E A) (hst : l.stackTraces = false) (hX : va_X bs L xs s s.heap) (hbl : bs < s.heap.size) (hbA : ¬ A bs) (hL : L ≤ 1536) (hi : i + 2 < L) (hw9 : lwI S B) (hB : B + 48 < 2147483647) (hc9 : cells ≤ 600000) (hs9 : slots ≤ 7000000) (hO : gO E A s (lwW E a b o S mkA rk rv f mkB th) H locs) (hl : lv_has ls 9 (lwV bs a b o i)) (kk : lwK p l e s m args below meth c E A bs a b o i (cells + 32) (slots + 400) (B + 48) Q) : W p l e room_1 s m args below meth c H locs cells slots Q (F0 m 1815 ls []) := by
  have hI := hw9.inv
  have hsr := hw9.1.srt
  refine lv_aload_n C.1 C.2.1 dL_law_1815 rfl (lv_at hl 1 rfl) ?_
  refine gCall_i (As := []) (rest := []) C hO (c_X2_wouldCompact l E a S mkA rk rv _  hI) (cwV 0 C.2.2.2.2.1 gL_law_X2_wouldCompact rfl rfl rfl (by decide +kernel) ⟨(Nat.le_of_ble_eq_true rfl), (Nat.le_of_ble_eq_true rfl)⟩) (va_recv C.2.2.2.2.2.2.2.1.1 hO.1 (ci := 2) (q0 := 0) rfl rfl) rfl hl.1 rfl (Nat.le_of_ble_eq_true rfl) dL_law_1816 ⟨by show _ ≤ 601024; omega, by show _ ≤ 7293034; omega⟩ (fun H locs hO => ?_)
  have hO := hO.flip
  refine lv_aload_n C.1 C.2.1 dL_law_1819 rfl (lv_at hl 2 rfl) ?_
  refine gCall_i (As := []) (rest := [.int _]) C hO (c_X3_wouldCompact l E b S th mkB _  hI hsr) (cwV 0 C.2.2.2.2.1 gL_law_X3_wouldCompact rfl rfl rfl (by decide +kernel) ⟨(Nat.le_of_ble_eq_true rfl), (Nat.le_of_ble_eq_true rfl)⟩) (va_recv C.2.2.2.2.2.2.2.1.1 hO.1 (ci := 3) (q0 := 0) rfl rfl) rfl hl.1 rfl (Nat.le_of_ble_eq_true rfl) dL_law_1820 ⟨by show _ ≤ 601024; omega, by show _ ≤ 7293034; omega⟩ (fun H locs hO => ?_)
  have hO := hO.flop
  refine lv_icmp_eq (tgt := 1939) C.1 C.2.1 dL_law_1823 (by decide) (fun _ => ?_) (fun z9 => absurd rfl z9)
  exact W.widen (show _ ≤ cells + 32 by omega) (show _ ≤ slots + 400 by omega) (kk _ _ _ _ _ _ _ _ _ _ (hw9.mono (by omega)) hO (lv_sub hl [0, 1, 2, 3, 4] rfl))
set_option maxHeartbeats 4000000 in
set_option maxRecDepth 100000 in
theorem st_p1828 {p : Program} {l : Launch} {e : Env} {s : State} {m : MethodId} {args : Array Value} {below : List Frame} {meth : Method} {c : Code} {H : Heap} {locs : List Loc} {cells slots : Nat} {Q : State → Prop} {E : gE} {A : Nat → Prop} {bs L : Nat} {xs : Nat → Int32} {a b : Nat → Nat} {o i : Nat} {S : St} {mkA rk rv : Nat → Int32} {f : Nat → Int64} {mkB : Nat → Int32} {th : Int32} {B : Int} {ls : Array Slot} (C : gCx p s m args meth c cL_law 9 wsL_law RL ret E A) (hst : l.stackTraces = false) (hX : va_X bs L xs s s.heap) (hbl : bs < s.heap.size) (hbA : ¬ A bs) (hL : L ≤ 1536) (hi : i + 2 < L) (hw9 : lwI S B) (hB : B + 48 < 2147483647) (hc9 : cells ≤ 600000) (hs9 : slots ≤ 7000000) (hO : gO E A s (lwW E a b o S mkA rk rv f mkB th) H locs) (hl : lv_has ls 9 (lwV bs a b o i)) (kk : lwK p l e s m args below meth c E A bs a b o i (cells + 32) (slots + 400) (B + 48) Q) : W p l e room_1 s m args below meth c H locs cells slots Q (F0 m 1828 ls []) := by
  have hI := hw9.inv
  have hsr := hw9.1.srt
  by_cases hok : (okShip S (xs (i + 1)))
  · refine lv_aload_n C.1 C.2.1 dL_law_1828 rfl (lv_at hl 1 rfl) ?_
    refine lv_aload_n C.1 C.2.1 dL_law_1829 rfl (lv_at hl 0 rfl) ?_
    refine lv_iload C.1 C.2.1 dL_law_1830 (lv_at hl 4 rfl) ?_
    refine lv_iconst (v := 1) C.1 C.2.1 dL_law_1832 (by decide) ?_
    refine lv_iadd C.1 C.2.1 dL_law_1833 ?_
    refine gSld (j := i + 1) C hX hbl hbA hO (nI_succ i).symm (by omega) hL dL_law_1834 ?_
    refine lv_aload_n C.1 C.2.1 dL_law_1835 rfl (lv_at hl 3 rfl) ?_
    refine gCallW_i (As := [.ref (a 0), .int (xs (i + 1)), .ref o]) (rest := []) C hO (c_L_wouldMiss_ok l E a S mkA rk rv (mW E b S th mkB) o f (xs (i + 1)) hst hI hok) (vx_cwSW 3 C.2.2.2.2.1 gL_law_L_wouldMiss rfl rfl rfl (by decide +kernel) ⟨(Nat.le_of_ble_eq_true rfl), (Nat.le_of_ble_eq_true rfl)⟩) rfl hl.1 rfl (Nat.le_of_ble_eq_true rfl) dL_law_1836 ⟨by show _ ≤ 601024; omega, by show _ ≤ 7293034; omega⟩ (fun H locs hO => ?_)
    refine lv_istore (lv' := (5, .int 0) :: lwV bs a b o i) C.1 C.2.1 dL_law_1839 hl (by decide) rfl (fun ls hl => ?_)
    have hO := hO.flip
    refine lv_aload_n C.1 C.2.1 dL_law_1841 rfl (lv_at hl 3 rfl) ?_
    refine lv_aload_n C.1 C.2.1 dL_law_1842 rfl (lv_at hl 1 rfl) ?_
    refine lv_iload C.1 C.2.1 dL_law_1843 (lv_at hl 5 rfl) ?_
    refine lv_iconst (v := 1) C.1 C.2.1 dL_law_1845 (by decide) ?_
    refine lv_iadd C.1 C.2.1 dL_law_1846 ?_
    refine gSld (j := i + 1) C hX hbl hbA hO (nI_succ i).symm (by omega) hL dL_law_1847 ?_
    refine gCall_i (As := [.int (xs (i + 1))]) (rest := []) C hO (c_X3_wouldMiss_ok l E b S th mkB _ (xs (i + 1)) hI hsr hok) (cwV 1 C.2.2.2.2.1 gL_law_X3_wouldMiss rfl rfl rfl (by decide +kernel) ⟨(Nat.le_of_ble_eq_true rfl), (Nat.le_of_ble_eq_true rfl)⟩) (va_recv C.2.2.2.2.2.2.2.1.1 hO.1 (ci := 3) (q0 := 0) rfl rfl) rfl hl.1 rfl (Nat.le_of_ble_eq_true rfl) dL_law_1848 ⟨by show _ ≤ 601024; omega, by show _ ≤ 7293034; omega⟩ (fun H locs hO => ?_)
    refine lv_istore (lv' := (6, .int (nI (s_wm S (xs (i + 1)).toNatClampNeg))) :: (5, .int 0) :: lwV bs a b o i) C.1 C.2.1 dL_law_1851 hl (by decide) rfl (fun ls hl => ?_)
    refine lv_aload_n C.1 C.2.1 dL_law_1853 rfl (lv_at hl 4 rfl) ?_
    refine gCall_i (As := []) (rest := []) C hO (c_X3_thrown l E b _ 0 _ _) (cwV 0 C.2.2.2.2.1 gL_law_X3_thrown rfl rfl rfl (by decide +kernel) ⟨(Nat.le_of_ble_eq_true rfl), (Nat.le_of_ble_eq_true rfl)⟩) (va_recv C.2.2.2.2.2.2.2.1.1 hO.1 (ci := 3) (q0 := 0) rfl rfl) rfl hl.1 rfl (Nat.le_of_ble_eq_true rfl) dL_law_1854 ⟨by show _ ≤ 601024; omega, by show _ ≤ 7293034; omega⟩ (fun H locs hO => ?_)
    have hO := hO.flop
    refine lv_iload C.1 C.2.1 dL_law_1857 (lv_at hl 1 rfl) ?_
    refine lv_icmp_eq (tgt := 1864) C.1 C.2.1 dL_law_1859 (by decide) (fun _ => ?_) (fun z9 => absurd rfl z9)
    refine lv_iload C.1 C.2.1 dL_law_1864 (lv_at hl 1 rfl) ?_
    refine lv_if_ne (tgt := 1881) C.1 C.2.1 dL_law_1866 (by decide) (fun z9 => absurd rfl z9) (fun _ => ?_)
    refine lv_aload_n C.1 C.2.1 dL_law_1869 rfl (lv_at hl 5 rfl) ?_
    refine lv_iconst (v := 0) C.1 C.2.1 dL_law_1870 (by decide) ?_
    refine gLald C hO dL_law_1871 ?_
    rw [vp_u09]
    refine lv_iload C.1 C.2.1 dL_law_1872 (lv_at hl 0 rfl) ?_
    refine lv_i2l C.1 C.2.1 dL_law_1874 rfl ?_
    refine W.lcmp C.1 C.2.1 dL_law_1875 ?_
    refine lv_if_eq (tgt := 1881) C.1 C.2.1 dL_law_1876 (by decide) (fun _ => ?_) (fun z9 => absurd (lcm9 _) z9)
    refine lv_goto (tgt := 1939) C.1 C.2.1 dL_law_1881 (by decide) ?_
    exact W.widen (show _ ≤ cells + 32 by omega) (show _ ≤ slots + 400 by omega) (kk _ _ _ _ _ _ _ _ _ _ (hw9.mono (by omega)) hO (lv_sub hl [2, 3, 4, 5, 6] rfl))
  · have hno : ¬ okShip S (xs (i + 1)) := by first | exact hok | exact Classical.not_not.mp hok
    have hno3 : ¬ okShip S (xs (i + 1)) := by first | exact hno | exact hok
    refine lv_aload_n C.1 C.2.1 dL_law_1828 rfl (lv_at hl 1 rfl) ?_
    refine lv_aload_n C.1 C.2.1 dL_law_1829 rfl (lv_at hl 0 rfl) ?_
    refine lv_iload C.1 C.2.1 dL_law_1830 (lv_at hl 4 rfl) ?_
    refine lv_iconst (v := 1) C.1 C.2.1 dL_law_1832 (by decide) ?_
    refine lv_iadd C.1 C.2.1 dL_law_1833 ?_
    refine gSld (j := i + 1) C hX hbl hbA hO (nI_succ i).symm (by omega) hL dL_law_1834 ?_
    refine lv_aload_n C.1 C.2.1 dL_law_1835 rfl (lv_at hl 3 rfl) ?_
    refine gCallW_i (As := [.ref (a 0), .int (xs (i + 1)), .ref o]) (rest := []) C hO (c_L_wouldMiss_no l E a S mkA rk rv (mW E b S th mkB) o f (xs (i + 1)) hst hI hno) (vx_cwSW 3 C.2.2.2.2.1 gL_law_L_wouldMiss rfl rfl rfl (by decide +kernel) ⟨(Nat.le_of_ble_eq_true rfl), (Nat.le_of_ble_eq_true rfl)⟩) rfl hl.1 rfl (Nat.le_of_ble_eq_true rfl) dL_law_1836 ⟨by show _ ≤ 601024; omega, by show _ ≤ 7293034; omega⟩ (fun H locs hO => ?_)
    refine lv_istore (lv' := (5, .int 1) :: lwV bs a b o i) C.1 C.2.1 dL_law_1839 hl (by decide) rfl (fun ls hl => ?_)
    have hO := hO.flip
    refine lv_aload_n C.1 C.2.1 dL_law_1841 rfl (lv_at hl 3 rfl) ?_
    refine lv_aload_n C.1 C.2.1 dL_law_1842 rfl (lv_at hl 1 rfl) ?_
    refine lv_iload C.1 C.2.1 dL_law_1843 (lv_at hl 5 rfl) ?_
    refine lv_iconst (v := 1) C.1 C.2.1 dL_law_1845 (by decide) ?_
    refine lv_iadd C.1 C.2.1 dL_law_1846 ?_
    refine gSld (j := i + 1) C hX hbl hbA hO (nI_succ i).symm (by omega) hL dL_law_1847 ?_
    refine gCall_i (As := [.int (xs (i + 1))]) (rest := []) C hO (c_X3_wouldMiss_no l E b S th mkB _ (xs (i + 1)) hI hsr hno3) (cwV 1 C.2.2.2.2.1 gL_law_X3_wouldMiss rfl rfl rfl (by decide +kernel) ⟨(Nat.le_of_ble_eq_true rfl), (Nat.le_of_ble_eq_true rfl)⟩) (va_recv C.2.2.2.2.2.2.2.1.1 hO.1 (ci := 3) (q0 := 0) rfl rfl) rfl hl.1 rfl (Nat.le_of_ble_eq_true rfl) dL_law_1848 ⟨by show _ ≤ 601024; omega, by show _ ≤ 7293034; omega⟩ (fun H locs hO => ?_)
    refine lv_istore (lv' := (6, .int 0) :: (5, .int 1) :: lwV bs a b o i) C.1 C.2.1 dL_law_1851 hl (by decide) rfl (fun ls hl => ?_)
    refine lv_aload_n C.1 C.2.1 dL_law_1853 rfl (lv_at hl 4 rfl) ?_
    refine gCall_i (As := []) (rest := []) C hO (c_X3_thrown l E b _ 1 _ _) (cwV 0 C.2.2.2.2.1 gL_law_X3_thrown rfl rfl rfl (by decide +kernel) ⟨(Nat.le_of_ble_eq_true rfl), (Nat.le_of_ble_eq_true rfl)⟩) (va_recv C.2.2.2.2.2.2.2.1.1 hO.1 (ci := 3) (q0 := 0) rfl rfl) rfl hl.1 rfl (Nat.le_of_ble_eq_true rfl) dL_law_1854 ⟨by show _ ≤ 601024; omega, by show _ ≤ 7293034; omega⟩ (fun H locs hO => ?_)
    have hO := hO.flop
    refine lv_iload C.1 C.2.1 dL_law_1857 (lv_at hl 1 rfl) ?_
    refine lv_icmp_eq (tgt := 1864) C.1 C.2.1 dL_law_1859 (by decide) (fun _ => ?_) (fun z9 => absurd rfl z9)
    refine lv_iload C.1 C.2.1 dL_law_1864 (lv_at hl 1 rfl) ?_
    refine lv_if_ne (tgt := 1881) C.1 C.2.1 dL_law_1866 (by decide) (fun _ => ?_) (fun z9 => absurd z9 (by decide))
    refine lv_goto (tgt := 1939) C.1 C.2.1 dL_law_1881 (by decide) ?_
    exact W.widen (show _ ≤ cells + 32 by omega) (show _ ≤ slots + 400 by omega) (kk _ _ _ _ _ _ _ _ _ _ (hw9.mono (by omega)) hO (lv_sub hl [2, 3, 4, 5, 6] rfl))
set_option maxHeartbeats 4000000 in
set_option maxRecDepth 100000 in
theorem st_p1884 {p : Program} {l : Launch} {e : Env} {s : State} {m : MethodId} {args : Array Value} {below : List Frame} {meth : Method} {c : Code} {H : Heap} {locs : List Loc} {cells slots : Nat} {Q : State → Prop} {E : gE} {A : Nat → Prop} {bs L : Nat} {xs : Nat → Int32} {a b : Nat → Nat} {o i : Nat} {S : St} {mkA rk rv : Nat → Int32} {f : Nat → Int64} {mkB : Nat → Int32} {th : Int32} {B : Int} {ls : Array Slot} (C : gCx p s m args meth c cL_law 9 wsL_law RL ret E A) (hst : l.stackTraces = false) (hX : va_X bs L xs s s.heap) (hbl : bs < s.heap.size) (hbA : ¬ A bs) (hL : L ≤ 1536) (hi : i + 2 < L) (hw9 : lwI S B) (hB : B + 48 < 2147483647) (hc9 : cells ≤ 600000) (hs9 : slots ≤ 7000000) (hO : gO E A s (lwW E a b o S mkA rk rv f mkB th) H locs) (hl : lv_has ls 9 (lwV bs a b o i)) (kk : lwK p l e s m args below meth c E A bs a b o i (cells + 32) (slots + 400) (B + 48) Q) : W p l e room_1 s m args below meth c H locs cells slots Q (F0 m 1884 ls []) := by
  have hI := hw9.inv
  have hsr := hw9.1.srt
  refine lv_aload_n C.1 C.2.1 dL_law_1884 rfl (lv_at hl 1 rfl) ?_
  refine gCall_d (As := []) (rest := []) C hO (c_X2_meanLag l E a S mkA rk rv _  hI) (cwV 0 C.2.2.2.2.1 gL_law_X2_meanLag rfl rfl rfl (by decide +kernel) ⟨(Nat.le_of_ble_eq_true rfl), (Nat.le_of_ble_eq_true rfl)⟩) (va_recv C.2.2.2.2.2.2.2.1.1 hO.1 (ci := 2) (q0 := 0) rfl rfl) rfl hl.1 rfl (Nat.le_of_ble_eq_true rfl) dL_law_1885 ⟨by show _ ≤ 601024; omega, by show _ ≤ 7293034; omega⟩ (fun H locs hO => ?_)
  have hO := hO.flip
  refine lv_dstore (lv' := (5, .double (s_ml S)) :: lwV bs a b o i) C.1 C.2.1 dL_law_1888 hl (by decide) rfl (fun ls hl => ?_)
  refine lv_aload_n C.1 C.2.1 dL_law_1890 rfl (lv_at hl 3 rfl) ?_
  refine gCall_d (As := []) (rest := []) C hO (c_X3_meanLag l E b S th mkB _  hI hsr) (cwV 0 C.2.2.2.2.1 gL_law_X3_meanLag rfl rfl rfl (by decide +kernel) ⟨(Nat.le_of_ble_eq_true rfl), (Nat.le_of_ble_eq_true rfl)⟩) (va_recv C.2.2.2.2.2.2.2.1.1 hO.1 (ci := 3) (q0 := 0) rfl rfl) rfl hl.1 rfl (Nat.le_of_ble_eq_true rfl) dL_law_1891 ⟨by show _ ≤ 601024; omega, by show _ ≤ 7293034; omega⟩ (fun H locs hO => ?_)
  have hO := hO.flop
  refine lv_dstore (lv' := (7, .double (s_ml S)) :: (5, .double (s_ml S)) :: lwV bs a b o i) C.1 C.2.1 dL_law_1894 hl (by decide) rfl (fun ls hl => ?_)
  refine lv_dload C.1 C.2.1 dL_law_1896 (lv_at hl 1 rfl) ?_
  refine lv_dload C.1 C.2.1 dL_law_1898 (lv_at hl 0 rfl) ?_
  refine lv_dcmp C.1 C.2.1 dL_law_1900 ?_
  refine lv_if_eq (tgt := 1922) C.1 C.2.1 dL_law_1901 (by decide) (fun _ => ?_) (fun z9 => ?_)
  · refine lv_goto (tgt := 1939) C.1 C.2.1 dL_law_1922 (by decide) ?_
    exact W.widen (show _ ≤ cells + 32 by omega) (show _ ≤ slots + 400 by omega) (kk _ _ _ _ _ _ _ _ _ _ (hw9.mono (by omega)) hO (lv_sub hl [2, 3, 4, 5, 6] rfl))
  · refine lv_dload C.1 C.2.1 dL_law_1904 (lv_at hl 1 rfl) ?_
    refine lv_dload C.1 C.2.1 dL_law_1906 (lv_at hl 1 rfl) ?_
    refine lv_dcmp C.1 C.2.1 dL_law_1908 ?_
    refine lv_if_eq (tgt := 1920) C.1 C.2.1 dL_law_1909 (by decide) (fun y9 => absurd y9 z9) (fun _ => ?_)
    refine lv_dload C.1 C.2.1 dL_law_1912 (lv_at hl 0 rfl) ?_
    refine lv_dload C.1 C.2.1 dL_law_1914 (lv_at hl 0 rfl) ?_
    refine lv_dcmp C.1 C.2.1 dL_law_1916 ?_
    refine lv_if_ne (tgt := 1922) C.1 C.2.1 dL_law_1917 (by decide) (fun _ => ?_) (fun y9 => absurd y9 z9)
    refine lv_goto (tgt := 1939) C.1 C.2.1 dL_law_1922 (by decide) ?_
    exact W.widen (show _ ≤ cells + 32 by omega) (show _ ≤ slots + 400 by omega) (kk _ _ _ _ _ _ _ _ _ _ (hw9.mono (by omega)) hO (lv_sub hl [2, 3, 4, 5, 6] rfl))
set_option maxHeartbeats 4000000 in
set_option maxRecDepth 100000 in
theorem st_p1925 {p : Program} {l : Launch} {e : Env} {s : State} {m : MethodId} {args : Array Value} {below : List Frame} {meth : Method} {c : Code} {H : Heap} {locs : List Loc} {cells slots : Nat} {Q : State → Prop} {E : gE} {A : Nat → Prop} {bs L : Nat} {xs : Nat → Int32} {a b : Nat → Nat} {o i : Nat} {S : St} {mkA rk rv : Nat → Int32} {f : Nat → Int64} {mkB : Nat → Int32} {th : Int32} {B : Int} {ls : Array Slot} (C : gCx p s m args meth c cL_law 9 wsL_law RL ret E A) (hst : l.stackTraces = false) (hX : va_X bs L xs s s.heap) (hbl : bs < s.heap.size) (hbA : ¬ A bs) (hL : L ≤ 1536) (hi : i + 2 < L) (hw9 : lwI S B) (hB : B + 48 < 2147483647) (hc9 : cells ≤ 600000) (hs9 : slots ≤ 7000000) (hO : gO E A s (lwW E a b o S mkA rk rv f mkB th) H locs) (hl : lv_has ls 9 (lwV bs a b o i)) (kk : lwK p l e s m args below meth c E A bs a b o i (cells + 32) (slots + 400) (B + 48) Q) : W p l e room_1 s m args below meth c H locs cells slots Q (F0 m 1925 ls []) := by
  have hI := hw9.inv
  have hsr := hw9.1.srt
  refine lv_aload_n C.1 C.2.1 dL_law_1925 rfl (lv_at hl 1 rfl) ?_
  refine gCall_l (As := []) (rest := []) C hO (c_X2_digest l E a S mkA rk rv _  hI) (cwV 0 C.2.2.2.2.1 gL_law_X2_digest rfl rfl rfl (by decide +kernel) ⟨(Nat.le_of_ble_eq_true rfl), (Nat.le_of_ble_eq_true rfl)⟩) (va_recv C.2.2.2.2.2.2.2.1.1 hO.1 (ci := 2) (q0 := 0) rfl rfl) rfl hl.1 rfl (Nat.le_of_ble_eq_true rfl) dL_law_1926 ⟨by show _ ≤ 601024; omega, by show _ ≤ 7293034; omega⟩ (fun H locs hO => ?_)
  have hO := hO.flip
  refine lv_aload_n C.1 C.2.1 dL_law_1929 rfl (lv_at hl 2 rfl) ?_
  refine gCall_l (As := []) (rest := [.long _]) C hO (c_X3_digest l E b S th mkB _  hI hsr) (cwV 0 C.2.2.2.2.1 gL_law_X3_digest rfl rfl rfl (by decide +kernel) ⟨(Nat.le_of_ble_eq_true rfl), (Nat.le_of_ble_eq_true rfl)⟩) (va_recv C.2.2.2.2.2.2.2.1.1 hO.1 (ci := 3) (q0 := 0) rfl rfl) rfl hl.1 rfl (Nat.le_of_ble_eq_true rfl) dL_law_1930 ⟨by show _ ≤ 601024; omega, by show _ ≤ 7293034; omega⟩ (fun H locs hO => ?_)
  have hO := hO.flop
  refine W.lcmp C.1 C.2.1 dL_law_1933 ?_
  refine lv_if_eq (tgt := 1939) C.1 C.2.1 dL_law_1934 (by decide) (fun _ => ?_) (fun z9 => absurd (lcm9 _) z9)
  exact W.widen (show _ ≤ cells + 32 by omega) (show _ ≤ slots + 400 by omega) (kk _ _ _ _ _ _ _ _ _ _ (hw9.mono (by omega)) hO (lv_sub hl [0, 1, 2, 3, 4] rfl))
