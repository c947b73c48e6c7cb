set_option maxHeartbeats 4000000 in
set_option maxRecDepth 100000 in
theorem disp9 {p : Program} {l : Launch} {e : Env} {s : State} {m : MethodId} {args : Array Value} {below : List Frame} {meth : Method} {c : Code} {H : Heap} {locs : List Loc} {cells slots : Nat} {Q : State → Prop} {E : gE} {A : Nat → Prop} {bs L : Nat} {xs : Nat → Int32} {a b : Nat → Nat} {o i : Nat} {S : St} {mkA rk rv : Nat → Int32} {f : Nat → Int64} {mkB : Nat → Int32} {th : Int32} {B : Int} {ls : Array Slot} (C : gCx p s m args meth c cL_law 9 wsL_law RL ret E A) (hst : l.stackTraces = false) (hX : va_X bs L xs s s.heap) (hbl : bs < s.heap.size) (hbA : ¬ A bs) (hL : L ≤ 1536) (hi : i + 2 < L) (hw9 : lwI S B) (hB : B + 48 < 2147483647) (hc9 : cells ≤ 600000) (hs9 : slots ≤ 7000000) (hO : gO E A s (lwW E a b o S mkA rk rv f mkB th) H locs) (hl : lv_has ls 9 (lwV bs a b o i)) (kk : lwK p l e s m args below meth c E A bs a b o i (cells + 32) (slots + 400) (B + 48) Q) {v : Int32} : W p l e room_1 s m args below meth c H locs cells slots Q (F0 m 39 ls [.int v]) := by
  by_cases hv1 : v.toInt < 0
  · refine lv_tableOut (tgt := 1939) C.1 C.2.1 dL_law_39 (Or.inl hv1) (by decide) ?_
    exact W.widen (show _ ≤ cells + 32 by omega) (show _ ≤ slots + 400 by omega) (kk _ _ _ _ _ _ _ _ _ _ (hw9.mono (by omega)) hO hl)
  by_cases hv2 : 39 < v.toInt
  · refine lv_tableOut (tgt := 1939) C.1 C.2.1 dL_law_39 (Or.inr hv2) (by decide) ?_
    exact W.widen (show _ ≤ cells + 32 by omega) (show _ ≤ slots + 400 by omega) (kk _ _ _ _ _ _ _ _ _ _ (hw9.mono (by omega)) hO hl)
  rcases (show v.toInt = 0 ∨ v.toInt = 1 ∨ v.toInt = 2 ∨ v.toInt = 3 ∨ v.toInt = 4 ∨ v.toInt = 5 ∨ v.toInt = 6 ∨ v.toInt = 7 ∨ v.toInt = 8 ∨ v.toInt = 9 ∨ v.toInt = 10 ∨ v.toInt = 11 ∨ v.toInt = 12 ∨ v.toInt = 13 ∨ v.toInt = 14 ∨ v.toInt = 15 ∨ v.toInt = 16 ∨ v.toInt = 17 ∨ v.toInt = 18 ∨ v.toInt = 19 ∨ v.toInt = 20 ∨ v.toInt = 21 ∨ v.toInt = 22 ∨ v.toInt = 23 ∨ v.toInt = 24 ∨ v.toInt = 25 ∨ v.toInt = 26 ∨ v.toInt = 27 ∨ v.toInt = 28 ∨ v.toInt = 29 ∨ v.toInt = 30 ∨ v.toInt = 31 ∨ v.toInt = 32 ∨ v.toInt = 33 ∨ v.toInt = 34 ∨ v.toInt = 35 ∨ v.toInt = 36 ∨ v.toInt = 37 ∨ v.toInt = 38 ∨ v.toInt = 39 by omega) with hv9 | hv9 | hv9 | hv9 | hv9 | hv9 | hv9 | hv9 | hv9 | hv9 | hv9 | hv9 | hv9 | hv9 | hv9 | hv9 | hv9 | hv9 | hv9 | hv9 | hv9 | hv9 | hv9 | hv9 | hv9 | hv9 | hv9 | hv9 | hv9 | hv9 | hv9 | hv9 | hv9 | hv9 | hv9 | hv9 | hv9 | hv9 | hv9 | hv9
  · exact lv_tableIn (off := 173) (tgt := 212) C.1 C.2.1 dL_law_39 hv1 hv2 (by rw [hv9]; rfl) (by decide) (st_p212 C hst hX hbl hbA hL hi hw9 hB hc9 hs9 hO hl kk)
  · exact lv_tableIn (off := 241) (tgt := 280) C.1 C.2.1 dL_law_39 hv1 hv2 (by rw [hv9]; rfl) (by decide) (st_p280 C hst hX hbl hbA hL hi hw9 hB hc9 hs9 hO hl kk)
  · exact lv_tableIn (off := 285) (tgt := 324) C.1 C.2.1 dL_law_39 hv1 hv2 (by rw [hv9]; rfl) (by decide) (st_p324 C hst hX hbl hbA hL hi hw9 hB hc9 hs9 hO hl kk)
  · exact lv_tableIn (off := 329) (tgt := 368) C.1 C.2.1 dL_law_39 hv1 hv2 (by rw [hv9]; rfl) (by decide) (st_p368 C hst hX hbl hbA hL hi hw9 hB hc9 hs9 hO hl kk)
  · exact lv_tableIn (off := 385) (tgt := 424) C.1 C.2.1 dL_law_39 hv1 hv2 (by rw [hv9]; rfl) (by decide) (st_p424 C hst hX hbl hbA hL hi hw9 hB hc9 hs9 hO hl kk)
  · exact lv_tableIn (off := 398) (tgt := 437) C.1 C.2.1 dL_law_39 hv1 hv2 (by rw [hv9]; rfl) (by decide) (st_p437 C hst hX hbl hbA hL hi hw9 hB hc9 hs9 hO hl kk)
  · exact lv_tableIn (off := 454) (tgt := 493) C.1 C.2.1 dL_law_39 hv1 hv2 (by rw [hv9]; rfl) (by decide) (st_p493 C hst hX hbl hbA hL hi hw9 hB hc9 hs9 hO hl kk)
  · exact lv_tableIn (off := 522) (tgt := 561) C.1 C.2.1 dL_law_39 hv1 hv2 (by rw [hv9]; rfl) (by decide) (st_p561 C hst hX hbl hbA hL hi hw9 hB hc9 hs9 hO hl kk)
  · exact lv_tableIn (off := 590) (tgt := 629) C.1 C.2.1 dL_law_39 hv1 hv2 (by rw [hv9]; rfl) (by decide) (st_p629 C hst hX hbl hbA hL hi hw9 hB hc9 hs9 hO hl kk)
  · exact lv_tableIn (off := 646) (tgt := 685) C.1 C.2.1 dL_law_39 hv1 hv2 (by rw [hv9]; rfl) (by decide) (st_p685 C hst hX hbl hbA hL hi hw9 hB hc9 hs9 hO hl kk)
  · exact lv_tableIn (off := 659) (tgt := 698) C.1 C.2.1 dL_law_39 hv1 hv2 (by rw [hv9]; rfl) (by decide) (st_p698 C hst hX hbl hbA hL hi hw9 hB hc9 hs9 hO hl kk)
  · exact lv_tableIn (off := 672) (tgt := 711) C.1 C.2.1 dL_law_39 hv1 hv2 (by rw [hv9]; rfl) (by decide) (st_p711 C hst hX hbl hbA hL hi hw9 hB hc9 hs9 hO hl kk)
  · exact lv_tableIn (off := 685) (tgt := 724) C.1 C.2.1 dL_law_39 hv1 hv2 (by rw [hv9]; rfl) (by decide) (st_p724 C hst hX hbl hbA hL hi hw9 hB hc9 hs9 hO hl kk)
  · exact lv_tableIn (off := 698) (tgt := 737) C.1 C.2.1 dL_law_39 hv1 hv2 (by rw [hv9]; rfl) (by decide) (st_p737 C hst hX hbl hbA hL hi hw9 hB hc9 hs9 hO hl kk)
  · exact lv_tableIn (off := 711) (tgt := 750) C.1 C.2.1 dL_law_39 hv1 hv2 (by rw [hv9]; rfl) (by decide) (st_p750 C hst hX hbl hbA hL hi hw9 hB hc9 hs9 hO hl kk)
  · exact lv_tableIn (off := 736) (tgt := 775) C.1 C.2.1 dL_law_39 hv1 hv2 (by rw [hv9]; rfl) (by decide) (st_p775 C hst hX hbl hbA hL hi hw9 hB hc9 hs9 hO hl kk)
  · exact lv_tableIn (off := 792) (tgt := 831) C.1 C.2.1 dL_law_39 hv1 hv2 (by rw [hv9]; rfl) (by decide) (st_p831 C hst hX hbl hbA hL hi hw9 hB hc9 hs9 hO hl kk)
  · exact lv_tableIn (off := 848) (tgt := 887) C.1 C.2.1 dL_law_39 hv1 hv2 (by rw [hv9]; rfl) (by decide) (st_p887 C hst hX hbl hbA hL hi hw9 hB hc9 hs9 hO hl kk)
  · exact lv_tableIn (off := 904) (tgt := 943) C.1 C.2.1 dL_law_39 hv1 hv2 (by rw [hv9]; rfl) (by decide) (st_p943 C hst hX hbl hbA hL hi hw9 hB hc9 hs9 hO hl kk)
  · exact lv_tableIn (off := 960) (tgt := 999) C.1 C.2.1 dL_law_39 hv1 hv2 (by rw [hv9]; rfl) (by decide) (st_p999 C hst hX hbl hbA hL hi hw9 hB hc9 hs9 hO hl kk)
  · exact lv_tableIn (off := 1016) (tgt := 1055) C.1 C.2.1 dL_law_39 hv1 hv2 (by rw [hv9]; rfl) (by decide) (st_p1055 C hst hX hbl hbA hL hi hw9 hB hc9 hs9 hO hl kk)
  · exact lv_tableIn (off := 1072) (tgt := 1111) C.1 C.2.1 dL_law_39 hv1 hv2 (by rw [hv9]; rfl) (by decide) (st_p1111 C hst hX hbl hbA hL hi hw9 hB hc9 hs9 hO hl kk)
  · exact lv_tableIn (off := 1085) (tgt := 1124) C.1 C.2.1 dL_law_39 hv1 hv2 (by rw [hv9]; rfl) (by decide) (st_p1124 C hst hX hbl hbA hL hi hw9 hB hc9 hs9 hO hl kk)
  · exact lv_tableIn (off := 1098) (tgt := 1137) C.1 C.2.1 dL_law_39 hv1 hv2 (by rw [hv9]; rfl) (by decide) (st_p1137 C hst hX hbl hbA hL hi hw9 hB hc9 hs9 hO hl kk)
  · exact lv_tableIn (off := 1154) (tgt := 1193) C.1 C.2.1 dL_law_39 hv1 hv2 (by rw [hv9]; rfl) (by decide) (st_p1193 C hst hX hbl hbA hL hi hw9 hB hc9 hs9 hO hl kk)
  · exact lv_tableIn (off := 1210) (tgt := 1249) C.1 C.2.1 dL_law_39 hv1 hv2 (by rw [hv9]; rfl) (by decide) (st_p1249 C hst hX hbl hbA hL hi hw9 hB hc9 hs9 hO hl kk)
  · exact lv_tableIn (off := 1223) (tgt := 1262) C.1 C.2.1 dL_law_39 hv1 hv2 (by rw [hv9]; rfl) (by decide) (st_p1262 C hst hX hbl hbA hL hi hw9 hB hc9 hs9 hO hl kk)
  · exact lv_tableIn (off := 1279) (tgt := 1318) C.1 C.2.1 dL_law_39 hv1 hv2 (by rw [hv9]; rfl) (by decide) (st_p1318 C hst hX hbl hbA hL hi hw9 hB hc9 hs9 hO hl kk)
  · exact lv_tableIn (off := 1335) (tgt := 1374) C.1 C.2.1 dL_law_39 hv1 hv2 (by rw [hv9]; rfl) (by decide) (st_p1374 C hst hX hbl hbA hL hi hw9 hB hc9 hs9 hO hl kk)
  · exact lv_tableIn (off := 1391) (tgt := 1430) C.1 C.2.1 dL_law_39 hv1 hv2 (by rw [hv9]; rfl) (by decide) (st_p1430 C hst hX hbl hbA hL hi hw9 hB hc9 hs9 hO hl kk)
  · exact lv_tableIn (off := 1447) (tgt := 1486) C.1 C.2.1 dL_law_39 hv1 hv2 (by rw [hv9]; rfl) (by decide) (st_p1486 C hst hX hbl hbA hL hi hw9 hB hc9 hs9 hO hl kk)
  · exact lv_tableIn (off := 1515) (tgt := 1554) C.1 C.2.1 dL_law_39 hv1 hv2 (by rw [hv9]; rfl) (by decide) (st_p1554 C hst hX hbl hbA hL hi hw9 hB hc9 hs9 hO hl kk)
  · exact lv_tableIn (off := 1571) (tgt := 1610) C.1 C.2.1 dL_law_39 hv1 hv2 (by rw [hv9]; rfl) (by decide) (st_p1610 C hst hX hbl hbA hL hi hw9 hB hc9 hs9 hO hl kk)
  · exact lv_tableIn (off := 1584) (tgt := 1623) C.1 C.2.1 dL_law_39 hv1 hv2 (by rw [hv9]; rfl) (by decide) (st_p1623 C hst hX hbl hbA hL hi hw9 hB hc9 hs9 hO hl kk)
  · exact lv_tableIn (off := 1640) (tgt := 1679) C.1 C.2.1 dL_law_39 hv1 hv2 (by rw [hv9]; rfl) (by decide) (st_p1679 C hst hX hbl hbA hL hi hw9 hB hc9 hs9 hO hl kk)
  · exact lv_tableIn (off := 1708) (tgt := 1747) C.1 C.2.1 dL_law_39 hv1 hv2 (by rw [hv9]; rfl) (by decide) (st_p1747 C hst hX hbl hbA hL hi hw9 hB hc9 hs9 hO hl kk)
  · exact lv_tableIn (off := 1776) (tgt := 1815) C.1 C.2.1 dL_law_39 hv1 hv2 (by rw [hv9]; rfl) (by decide) (st_p1815 C hst hX hbl hbA hL hi hw9 hB hc9 hs9 hO hl kk)
  · exact lv_tableIn (off := 1789) (tgt := 1828) C.1 C.2.1 dL_law_39 hv1 hv2 (by rw [hv9]; rfl) (by decide) (st_p1828 C hst hX hbl hbA hL hi hw9 hB hc9 hs9 hO hl kk)
  · exact lv_tableIn (off := 1845) (tgt := 1884) C.1 C.2.1 dL_law_39 hv1 hv2 (by rw [hv9]; rfl) (by decide) (st_p1884 C hst hX hbl hbA hL hi hw9 hB hc9 hs9 hO hl kk)
  · exact lv_tableIn (off := 1886) (tgt := 1925) C.1 C.2.1 dL_law_39 hv1 hv2 (by rw [hv9]; rfl) (by decide) (st_p1925 C hst hX hbl hbA hL hi hw9 hB hc9 hs9 hO hl kk)
theorem ni_3 (i : Nat) : nI i + Int32.ofInt 3 = nI (i + 3) := by
  rw [show Int32.ofInt 3 = (3 : Int32) from rfl, nI_succ, nI_succ, nI_succ, Int32.add_assoc, Int32.add_assoc]
  rfl
theorem lt9 {i L : Nat} (hL : L ≤ 1536) (hi : i ≤ 2000) : (Int32.ofNat L - 3 < nI i) ↔ L < i + 3 := by
  have e1 : (Int32.ofNat L - 3 : Int32).toInt = (L : Int) - 3 := by
    rw [Int32.toInt_sub, show (3 : Int32).toInt = 3 from rfl, show (Int32.ofNat L).toInt = (L : Int) from nI_toInt (n := L) (by omega)]
    exact Int.bmod_eq_of_le (by omega) (by omega)
  rw [Int32.lt_iff_toInt_lt, e1, nI_toInt (by omega)]
  omega
section LP
variable {p : Program} {l : Launch} {e : Env} {s : State} {m : MethodId} {below : List Frame} {meth : Method} {c : Code} {E : gE} {bs L : Nat} {xs : Nat → Int32} {a b : Nat → Nat} {o : Nat}
theorem end9 (hX : va_X bs L xs s s.heap) (hbl : bs < s.heap.size) (hL : L ≤ 1536) (C : gCx p s m #[Value.ref bs] meth c cL_law 9 wsL_law RL ret E (fun q => s.heap.size ≤ q)) {i : Nat} {S : St} {mkA rk rv : Nat → Int32} {f : Nat → Int64} {mkB : Nat → Int32} {th : Int32} {H : Heap} {locs : List Loc} {ls : Array Slot} (hlt9 : L < i + 3) (hi : i ≤ L + 3) (hO : gO E (fun q => s.heap.size ≤ q) s (lwW E a b o S mkA rk rv f mkB th) H locs) (hl : lv_has ls 9 (lwV bs a b o i)) : W p l e room_1 s m #[Value.ref bs] below meth c H locs (40 + 11 * i) (900 + 134 * i) (lw_Z below #[Value.ref bs] s) (F0 m 23 ls []) := by
  have hbA : ¬ s.heap.size ≤ bs := by omega
  refine lv_iload C.1 C.2.1 dL_law_23 (lv_at hl 4 rfl) ?_
  refine lv_aload_n C.1 C.2.1 dL_law_25 rfl (lv_at hl 0 rfl) ?_
  refine va_slen C.1 C.2.1 hX hbl hbA hO.2.2 dL_law_26 ?_
  refine lv_iconst (v := 3) C.1 C.2.1 dL_law_27 (by decide) ?_
  refine lv_isub C.1 C.2.1 dL_law_28 ?_
  refine lv_icmp_gt (tgt := 1945) C.1 C.2.1 dL_law_29 (by decide) (fun _ => ?_) (fun z9 => absurd ((lt9 hL (by omega)).mpr hlt9) z9)
  refine lv_iconst (v := 1) C.1 C.2.1 dL_law_1945 (by decide) ?_
  refine W.widen (show _ ≤ 601024 by omega) (show _ ≤ 7293034 by omega) ?_
  refine va_forget (fun q hq => hO.2.2.2.2 q hq) ?_
  exact lw_ret (d0 := s.drawn) (Drawn.sameBut.refl s.drawn lw_cs) C.1 C.2.1 C.2.2.2.2.2.1 C.2.2.2.2.2.2.1 dL_law_1946
theorem loop9 (hst : l.stackTraces = false) (hX : va_X bs L xs s s.heap) (hbl : bs < s.heap.size) (hL : L ≤ 1536) (C : gCx p s m #[Value.ref bs] meth c cL_law 9 wsL_law RL ret E (fun q => s.heap.size ≤ q)) : ∀ (n i : Nat) (S : St) (mkA rk rv : Nat → Int32) (f : Nat → Int64) (mkB : Nat → Int32) (th : Int32) (H : Heap) (locs : List Loc) (ls : Array Slot), L < i + 3 * n + 3 → i ≤ L + 3 → lwI S (16 * (i : Int)) → gO E (fun q => s.heap.size ≤ q) s (lwW E a b o S mkA rk rv f mkB th) H locs → lv_has ls 9 (lwV bs a b o i) → W p l e room_1 s m #[Value.ref bs] below meth c H locs (40 + 11 * i) (900 + 134 * i) (lw_Z below #[Value.ref bs] s) (F0 m 23 ls []) := by
  intro n
  induction n with
  | zero => intro i S mkA rk rv f mkB th H locs ls h1 h2 _ hO hl; exact end9 hX hbl hL C (by omega) h2 hO hl
  | succ n ih9 =>
    intro i S mkA rk rv f mkB th H locs ls h1 h2 hw9 hO hl
    by_cases hlt9 : L < i + 3
    · exact end9 hX hbl hL C hlt9 h2 hO hl
    have hbA : ¬ s.heap.size ≤ bs := by omega
    refine lv_iload C.1 C.2.1 dL_law_23 (lv_at hl 4 rfl) ?_
    refine lv_aload_n C.1 C.2.1 dL_law_25 rfl (lv_at hl 0 rfl) ?_
    refine va_slen C.1 C.2.1 hX hbl hbA hO.2.2 dL_law_26 ?_
    refine lv_iconst (v := 3) C.1 C.2.1 dL_law_27 (by decide) ?_
    refine lv_isub C.1 C.2.1 dL_law_28 ?_
    refine lv_icmp_gt (tgt := 1945) C.1 C.2.1 dL_law_29 (by decide) (fun z9 => absurd ((lt9 hL (by omega)).mp z9) hlt9) (fun _ => ?_)
    refine lv_aload_n C.1 C.2.1 dL_law_32 rfl (lv_at hl 0 rfl) ?_
    refine lv_iload C.1 C.2.1 dL_law_33 (lv_at hl 4 rfl) ?_
    refine gSld (j := i) C hX hbl hbA hO rfl (by omega) hL dL_law_35 ?_
    refine lv_bipush (v := 63) C.1 C.2.1 dL_law_36 (by decide) ?_
    refine lv_iand C.1 C.2.1 dL_law_38 ?_
    refine disp9 C hst hX hbl hbA hL (by omega) hw9 (by omega) (by omega) (by omega) hO hl ?_
    intro S1 mkA1 rk1 rv1 f1 mkB1 th1 H1 locs1 ls1 hw1 hO1 hl1
    refine lv_iinc (k := 4) (v := nI (i + 3)) (lv' := [(4, .int (nI (i + 3))), (0, .ref bs), (1, .ref (a 0)), (2, .ref (b 0)), (3, .ref o)]) C.1 C.2.1 dL_law_1939 hl1 rfl (ni_3 i) (by decide) rfl (fun ls2 hl2 => ?_)
    refine lv_goto (tgt := 23) C.1 C.2.1 dL_law_1942 (by decide) ?_
    exact W.widen (show _ ≤ 40 + 11 * (i + 3) by omega) (show _ ≤ 900 + 134 * (i + 3) by omega) (ih9 (i + 3) S1 mkA1 rk1 rv1 f1 mkB1 th1 H1 locs1 ls2 (by omega) (by omega) (hw1.mono (by omega)) hO1 (lv_sub hl2 [1, 2, 3, 4, 0] rfl))
theorem gNewJ {args : Array Value} {R : Room} {H : Heap} {locs : List Loc} {cells slots : Nat} {Q : State → Prop} {A : Nat → Prop} {cc : ByteArray} {nL : Nat} {ret9 : Option FieldType} {Ts : List Cond} {own : String} {pc : Nat} {ls : Array Slot} {rest : List Value} {W0 F : va_W} (C : gCx p s m args meth c cc nL Ts own ret9 E A) (harr : (Cond.arrayClass .long).before args s = true) (hO : gO E A s (W0 ++ F) H locs) (hcells : cells + 1 ≤ R.cells) (hslots : slots + 1 ≤ R.slots) (hdg : decode cc pc = .ok (.newarray .long, 2))
    (kk : ∀ (q : Nat) (H1 : Heap), gO E A s (W0 ++ ((q, .inl (eL E, 1, .inr (.inl (fun _ => 0)))) :: F)) H1 locs → W p l e R s m args below meth c H1 locs (cells + 1) (slots + 1) Q (F0 m (pc + 2) ls (.ref q :: rest))) : W p l e R s m args below meth c H locs cells slots Q (F0 m pc ls (.int (nI 1) :: rest)) := by
  refine va_newa (a0 := (1, .inr (.inl (fun _ => 0)))) (N' := 1) (atype := .long) (ty := .long) C.1 C.2.1 harr rfl C.2.2.2.2.2.2.2.1.1 hO.1 hO.2.1 hO.2.2 C.2.2.2.2.2.2.2.2.1 (fun cA => rfl) (nI_pos (by omega)) (nI_clamp (by omega)) (by rw [show componentBytes FieldType.long = 8 from rfl]; omega) hcells hslots hdg (fun q cA H1 hK hP hD hS => ?_)
  have e := gCls (E := E) hK (k := 3) (cB := eL E) rfl (by intro C h; cases h)
  subst e
  exact kk q H1 (gO.new ⟨hP, hD, hS⟩)
end LP
set_option maxHeartbeats 4000000 in
set_option maxRecDepth 100000 in
theorem start9 {p : Program} {e : Env} {s : State} {m : MethodId} {below : List Frame} {meth : Method} {c : Code} (l : Launch) (hst : l.stackTraces = false) {b L : Nat} {xs : Nat → Int32} (hL : L ≤ 1536) (C0 : lw_At p s m meth c b L xs) : W p l e room_1 s m #[Value.ref b] below meth c s.heap [] 0 0 (lw_Z below #[Value.ref b] s) (entryFrame m ([Value.ref b] : List Value).toArray 9) := by
  obtain ⟨hx, hb, hr, hml, hown, hts, hX, hbl, hlocks, hgv⟩ := C0
  obtain ⟨E, eo, hao, hZ⟩ := ent9 hts hgv
  have C : gCx p s m #[Value.ref b] meth c cL_law 9 wsL_law RL ret E (fun q => s.heap.size ≤ q) := ⟨hx, hb, hml, hown, fun w hw => hts w (wsL_law_in w hw), hr, hlocks, eo, fun q h => h, hZ⟩
  have hl := lv_entry ([.ref b]) (n := 9) (Nat.le_of_ble_eq_true rfl)
  rw [lg_entry_eq]
  generalize (lg_sl ([.ref b]) ++ List.replicate (9 - (lg_sl ([.ref b])).length) Slot.unset).toArray = ls at hl ⊢
  have hl : lv_has ls 9 [(0, .ref b)] := hl
  have hO : gO E (fun q => s.heap.size ≤ q) s ([] ++ []) s.heap [] := ⟨fun k q h => by simp at h, ⟨fun i j p9 q h => by simp at h, fun k q h => by simp at h⟩, va_S.rf⟩
  refine gNewO (W0 := []) (F := []) (ci := 2) (fs := [.null, .null, .null, .null, .null, .int 0, .int 0, .int 0, .int 0]) C inlX2 tyX2 tyX2_ok (by decide +kernel) (by decide +kernel) (by decide +kernel) hO rfl (by decide) (Nat.le_of_ble_eq_true rfl) (Nat.le_of_ble_eq_true rfl) dL_law_0 (fun q2 H hO => ?_)
  refine lv_dup C.1 C.2.1 dL_law_3 rfl ?_
  refine gCallI (As := []) (rest := [.ref q2]) (ws := (q2, .inr (2, [.null, .null, .null, .null, .null, .int 0, .int 0, .int 0, .int 0])) :: []) C hao hO (c_X2_init l E q2 []) (cwI 0 C.2.2.2.2.1 gL_law_X2_init rfl rfl rfl (C.2.2.2.2.1 (.initialized RX2) (by decide +kernel)) (C.2.2.2.2.1 (.methodLink RL 96 yX2_init) (by decide +kernel)) (C.2.2.2.2.1 (.instanceMethod yX2_init) (by decide +kernel)) rfl (by decide +kernel) ⟨(Nat.le_of_ble_eq_true rfl), (Nat.le_of_ble_eq_true rfl)⟩) rfl hl.1 rfl (Nat.le_of_ble_eq_true rfl) dL_law_4 ⟨(Nat.le_of_ble_eq_true rfl), (Nat.le_of_ble_eq_true rfl)⟩ (fun u H locs hu hO1 => ?_)
  subst hu
  have hO := hO1
  clear hO1
  refine lv_astore_n (lv' := [(1, .ref (u 0)), (0, .ref b)]) C.1 C.2.1 dL_law_7 rfl hl (by decide) rfl (fun ls hl => ?_)
  refine gNewO (W0 := []) (F := xW E u S0 (fun _ => 0) (fun _ => 0) (fun _ => 0) ++ []) (ci := 3) (fs := [.int 0, .int 0, .null, .null, .null, .null, .null, .int 0, .int 0, .int 0, .int 0, .int 0, .null, .int 0, .null, .null, .null, .null, .null]) C inlX3 tyX3 tyX3_ok (by decide +kernel) (by decide +kernel) (by decide +kernel) hO rfl (by decide) (Nat.le_of_ble_eq_true rfl) (Nat.le_of_ble_eq_true rfl) dL_law_8 (fun q3 H hO => ?_)
  refine lv_dup C.1 C.2.1 dL_law_11 rfl ?_
  refine gCallI (As := []) (rest := [.ref q3]) (ws := (q3, .inr (3, [.int 0, .int 0, .null, .null, .null, .null, .null, .int 0, .int 0, .int 0, .int 0, .int 0, .null, .int 0, .null, .null, .null, .null, .null])) :: (xW E u S0 (fun _ => 0) (fun _ => 0) (fun _ => 0) ++ [])) C hao hO (c_X3_init l E q3 (xW E u S0 (fun _ => 0) (fun _ => 0) (fun _ => 0) ++ [])) (cwI 0 C.2.2.2.2.1 gL_law_X3_init rfl rfl rfl (C.2.2.2.2.1 (.initialized RX3) (by decide +kernel)) (C.2.2.2.2.1 (.methodLink RL 99 yX3_init) (by decide +kernel)) (C.2.2.2.2.1 (.instanceMethod yX3_init) (by decide +kernel)) rfl (by decide +kernel) ⟨(Nat.le_of_ble_eq_true rfl), (Nat.le_of_ble_eq_true rfl)⟩) rfl hl.1 rfl (Nat.le_of_ble_eq_true rfl) dL_law_12 ⟨(Nat.le_of_ble_eq_true rfl), (Nat.le_of_ble_eq_true rfl)⟩ (fun v H locs hv hO1 => ?_)
  subst hv
  have hO := hO1
  clear hO1
  refine lv_astore_n (lv' := [(2, .ref (v 0)), (1, .ref (u 0)), (0, .ref b)]) C.1 C.2.1 dL_law_15 rfl hl (by decide) rfl (fun ls hl => ?_)
  refine lv_iconst (v := nI 1) C.1 C.2.1 dL_law_16 (by decide) ?_
  have hO : gO E (fun q => s.heap.size ≤ q) s ((mW E v S0 0 (fun _ => 0) ++ xW E u S0 (fun _ => 0) (fun _ => 0) (fun _ => 0)) ++ []) H locs := by
    rw [List.append_assoc]
    exact hO
  refine gNewJ (W0 := mW E v S0 0 (fun _ => 0) ++ xW E u S0 (fun _ => 0) (fun _ => 0) (fun _ => 0)) (F := []) C (C.2.2.2.2.1 (.arrayClass .long) (by decide +kernel)) hO (Nat.le_of_ble_eq_true rfl) (Nat.le_of_ble_eq_true rfl) dL_law_17 (fun o9 H hO => ?_)
  rw [List.append_assoc] at hO
  have hO := hO.flop
  refine lv_astore_n (lv' := [(3, .ref o9), (2, .ref (v 0)), (1, .ref (u 0)), (0, .ref b)]) C.1 C.2.1 dL_law_19 rfl hl (by decide) rfl (fun ls hl => ?_)
  refine lv_iconst (v := nI 0) C.1 C.2.1 dL_law_20 (by decide) ?_
  refine lv_istore (lv' := [(4, .int (nI 0)), (3, .ref o9), (2, .ref (v 0)), (1, .ref (u 0)), (0, .ref b)]) C.1 C.2.1 dL_law_21 hl (by decide) rfl (fun ls hl => ?_)
  exact W.widen (show _ ≤ 40 + 11 * 0 by decide) (show _ ≤ 900 + 134 * 0 by decide) (loop9 hst hX hbl hL C 513 0 S0 _ _ _ _ _ _ H locs ls (by omega) (by omega) lwI_0 hO (lv_sub hl [4, 3, 2, 1, 0] rfl))
