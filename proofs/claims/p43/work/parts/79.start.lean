section LX
variable {p : Program} {l : Launch} {e : Env} {s : State} {m : MethodId} {below : List Frame} {meth : Method} {c : Code} {E : gE} {bs L : Nat} {xs : Nat → Int32} {a : Nat → Nat} {o : Nat} {F : va_W}
/-- the end: the law's log says what the other says -/
theorem law_end (hst : l.stackTraces = false) {S : St} {B : Int} {d : Dt} {mk rk rv : Nat → Int32} {H : Heap} {locs : List Loc} {ls : Array Slot} {t nc ns : Nat} (hJ : J9 S B) (hR : Rep E d S) (hnc : nc ≤ 100000) (hns : ns ≤ 2000000) (C : gCx p s m #[Value.ref bs] meth c cL_law 21 wsL_law RL ret E (fun q => s.heap.size ≤ q)) (hO : gO E (fun q => s.heap.size ≤ q) s ((xW E a S mk rk rv) ++ (sW E o d S F)) H locs) (hl : lv_has ls 21 [(0, .ref bs), (1, .ref (a 0)), (2, .ref o), (3, .int (nI t))]) : W p l e room_1 s m #[Value.ref bs] below meth c H locs nc ns (lw_Z below #[Value.ref bs] s) (F0 m 994 ls []) := by
  have hI : s_inv S := hJ.1.inv
  obtain ⟨hn, hsh, hsc, hOn, hOb, hok9, hpc9, hp0⟩ := id hI
  have hsr : s_srt S := hJ.1.1.srt
  have hto : ∀ i, i < s_n S → s_sto S i < 0 ∨ ((s_sto S i).toNatClampNeg < s_sc S ∧ s_sto S i = nI (s_sto S i).toNatClampNeg) := by
    intro i hi
    rcases hJ.2.2.2.2.2.1 i hi with h | ⟨t9, ht, h⟩
    · left
      rw [h]
      decide
    · right
      have e9 : (nI t9).toNatClampNeg = t9 := nI_clamp (by omega)
      rw [h, e9]
      exact ⟨ht, rfl⟩
  refine lv_aload_n C.1 C.2.1 dL_law_994 rfl (lv_at hl 2 rfl) ?_
  refine lv_aload_n C.1 C.2.1 dL_law_995 rfl (lv_at hl 1 rfl) ?_
  refine gCall_i (mc := 400) (ms := 2400) (As := [.ref (a 0)]) (rest := []) C hO (c_X3_isSame l E o d a S mk rk rv F hst hto hR hI hsr) (cwV 1 C.2.2.2.2.1 gL_law_X3_isSame rfl rfl rfl (by decide +kernel) ⟨(Nat.le_of_ble_eq_true rfl), (Nat.le_of_ble_eq_true rfl)⟩) (va_recv C.2.2.2.2.2.2.2.1.1 hO.1 (ci := 3) (q0 := 23) rfl rfl) rfl hl.1 rfl (Nat.le_of_ble_eq_true rfl) dL_law_996 ⟨(by show nc + 400 ≤ 600172; omega), (by show ns + 2400 ≤ 7300668; omega)⟩ (fun H locs hO => ?_)
  refine W.widen (show _ ≤ 600172 by omega) (show _ ≤ 7300668 by omega) ?_
  refine va_forget (fun q hq => hO.2.2.2.2 q hq) ?_
  exact lw_ret (d0 := s.drawn) (Drawn.sameBut.refl s.drawn lw_cs) C.1 C.2.1 C.2.2.2.2.2.1 C.2.2.2.2.2.2.1 dL_law_999
theorem law_loop (hst : l.stackTraces = false) (hL : L ≤ 260) (hX : va_X bs L xs s s.heap) (hbl : bs < s.heap.size) (hnw : va_Nw nw9 s) (C : gCx p s m #[Value.ref bs] meth c cL_law 21 wsL_law RL ret E (fun q => s.heap.size ≤ q)) : ∀ (f t : Nat) (S : St) (d : Dt) (mk rk rv : Nat → Int32), t + f = 36 → J9 S (3888 + 49 * (t : Int)) → Rep E d S → ∀ (H : Heap) (locs : List Loc), gO E (fun q => s.heap.size ≤ q) s ((xW E a S mk rk rv) ++ (sW E o d S F)) H locs → ∀ ls : Array Slot, lv_has ls 21 [(0, .ref bs), (1, .ref (a 0)), (2, .ref o), (3, .int (nI t))] → W p l e room_1 s m #[Value.ref bs] below meth c H locs (16300 + 600 * t) (490000 + 9000 * t) (lw_Z below #[Value.ref bs] s) (F0 m 22 ls []) := by
  have hbA : ¬ (fun q => s.heap.size ≤ q) bs := by
    show ¬ s.heap.size ≤ bs
    omega
  intro f
  induction f with
  | zero =>
    intro t S d mk rk rv hf hJ hR H locs hO ls hl
    refine lv_iload_n C.1 C.2.1 dL_law_22 rfl (lv_at hl 3 rfl) ?_
    refine lv_bipush (v := nI 36) C.1 C.2.1 dL_law_23 (by decide) ?_
    refine gGeN (x := t) (y := 36) (tgt := 994) C.1 C.2.1 (by omega) (by omega) dL_law_25 (by decide) (fun c_1 => ?_) (fun c_1 => ?_)
    · exact law_end hst hJ hR (by omega) (by omega) C hO hl
    · exfalso
      omega
  | succ f ih9 =>
    intro t S d mk rk rv hf hJ hR H locs hO ls hl
    refine law_P hst hJ (by omega) hR (by omega) (by omega) (by omega) hL hX hbl hbA hnw C hO hl (fun u x hJ1 hR1 H locs hO ls hl => ?_) (fun h9 H locs hO ls hl => ?_)
    · obtain ⟨z0, hz0, ez0, hzB⟩ := nx_of hJ1.1 (by omega)
      have hn9 : s_n u.1 ≤ 48 := hJ1.1.inv.1
      have q9 := pass_kp u.1
      refine law_A hst hJ1 (by omega) hR1 ez0 hz0 (by omega) (by omega) C hO hl (fun H locs hO ls hl => ?_)
      refine law_B hst hJ1 (by omega) hR1 ez0 hz0 (by omega) (by omega) C hO hl (fun H locs hO ls hl => ?_)
      refine law_C hst hJ1 (by omega) hR1 ez0 hz0 (by omega) (by omega) C (by omega) hO hl (fun H locs hO ls hl => ?_)
      refine law_D hst hJ1 (by omega) hR1 ez0 hz0 (by omega) (by omega) C hO hl (fun mk1 H locs hO ls hl => ?_)
      refine law_E hst hJ1 (by omega) hR1 ez0 hz0 (by omega) (by omega) C hO hl (fun q_h q_m q_l hf9 mf9 lf9 mk2 g1 g2 g3 H locs hO ls hl => ?_)
      refine law_F hst hJ1 (by omega) hR1 ez0 hz0 (by omega) (by omega) C (by omega) g1 g2 g3 hO hl (fun d9 hR9 H locs hO ls hl => ?_)
      have hl9 : lv_has ls 21 [(0, .ref bs), (1, .ref (a 0)), (2, .ref o), (3, .int (nI t)), (4, .int x), (5, .int (nI (s_n (S_pass u.1 (nI 1))))), (6, .int (nI z0)), (16, .int (s_on (S_pass u.1 (nI 1))))] := by
        rw [q9.1, q9.2.2.2.2.1]
        exact hl
      refine law_G hst (hJ1.pass (by omega) (nI 1)) (by omega) hR9 (q9.2.2.1.trans ez0) hz0 (by omega) (by omega) C hO hl9 (fun S2 d2 mk3 hJ2 hR2 H locs hO ls hl => ?_)
      exact W.widen (show _ ≤ 16300 + 600 * (t + 1) by omega) (show _ ≤ 490000 + 9000 * (t + 1) by omega) (ih9 (t + 1) S2 d2 mk3 _ _ (by omega) (hJ2.mono (by omega)) hR2 H locs hO ls hl)
    · exfalso
      omega
end LX
set_option maxHeartbeats 4000000 in
set_option maxRecDepth 100000 in
theorem start9 {p : Program} {e : Env} {s : State} {m : MethodId} {below : List Frame} {meth : Method} {c : Code} (l : Launch) (hst : l.stackTraces = false) {b L : Nat} {xs : Nat → Int32} (hL : L ≤ 260) (C0 : lw_At p s m meth c b L xs) : W p l e room_1 s m #[Value.ref b] below meth c s.heap [] 0 0 (lw_Z below #[Value.ref b] s) (entryFrame m ([Value.ref b] : List Value).toArray 21) := by
  obtain ⟨hx, hb, hr, hml, hown, hts, hX, hbl, hlocks, hgv⟩ := C0
  obtain ⟨E, eo, hao, hZ⟩ := ent9 hts hgv
  have hnw : va_Nw nw9 s := va_Nw.of (by decide +kernel) (hts nw9 (by decide +kernel))
  have C : gCx p s m #[Value.ref b] meth c cL_law 21 wsL_law RL ret E (fun q => s.heap.size ≤ q) := ⟨hx, hb, hml, hown, fun w hw => hts w (wsL_law_in w hw), hr, hlocks, eo, fun q h => h, hZ⟩
  have hbA : ¬ (fun q => s.heap.size ≤ q) b := by
    show ¬ s.heap.size ≤ b
    omega
  have hl := lv_entry ([.ref b]) (n := 21) (Nat.le_of_ble_eq_true rfl)
  rw [lg_entry_eq]
  generalize (lg_sl ([.ref b]) ++ List.replicate (21 - (lg_sl ([.ref b])).length) Slot.unset).toArray = ls at hl ⊢
  have hl : lv_has ls 21 [(0, .ref b)] := hl
  have hO : gO E (fun q => s.heap.size ≤ q) s ([] ++ []) s.heap [] := ⟨fun k q h => by simp at h, ⟨fun i j p9 q h => by simp at h, fun k q h => by simp at h⟩, va_S.rf⟩
  refine gNewO (W0 := []) (F := []) (ci := 2) (fs := [.null, .null, .null, .null, .null, .int 0, .int 0, .int 0, .int 0]) C inlX2 tyX2 tyX2_ok (by decide +kernel) (by decide +kernel) (by decide +kernel) hO rfl (by decide) (Nat.le_of_ble_eq_true rfl) (Nat.le_of_ble_eq_true rfl) dL_law_0 (fun q2 H hO => ?_)
  refine lv_dup C.1 C.2.1 dL_law_3 rfl ?_
  refine gCallI (mc := 22) (ms := 448) (As := []) (rest := [.ref q2]) (ws := (q2, .inr (2, [.null, .null, .null, .null, .null, .int 0, .int 0, .int 0, .int 0])) :: []) C hao hO (c_X2_init l E q2 []) (cwI 0 C.2.2.2.2.1 gL_law_X2_init rfl rfl rfl (C.2.2.2.2.1 (.initialized RX2) (by decide +kernel)) (C.2.2.2.2.1 (.methodLink RL 89 yX2_init) (by decide +kernel)) (C.2.2.2.2.1 (.instanceMethod yX2_init) (by decide +kernel)) rfl (by decide +kernel) ⟨(Nat.le_of_ble_eq_true rfl), (Nat.le_of_ble_eq_true rfl)⟩) rfl hl.1 rfl (Nat.le_of_ble_eq_true rfl) dL_law_4 ⟨(Nat.le_of_ble_eq_true rfl), (Nat.le_of_ble_eq_true rfl)⟩ (fun u H locs hu hO1 => ?_)
  subst hu
  have hO := hO1
  clear hO1
  refine lv_astore_n (lv' := [(1, .ref (u 0)), (0, .ref b)]) C.1 C.2.1 dL_law_7 rfl hl (by decide) rfl (fun ls hl => ?_)
  refine lv_aload_n C.1 C.2.1 dL_law_8 rfl (lv_at hl 0 rfl) ?_
  refine lv_aload_n C.1 C.2.1 dL_law_9 rfl (lv_at hl 1 rfl) ?_
  refine gCallS_t (mc := 16204) (ms := 486007) (As := [.ref (u 0), .ref b]) (rest := []) C hX hbl hbA hnw hO (c_L_build l E u (fun _ => 0) (fun _ => 0) (fun _ => 0) [] b L xs hst hL) (cwS 2 C.2.2.2.2.1 gL_law_L_build rfl rfl rfl (by decide +kernel) ⟨(Nat.le_of_ble_eq_true rfl), (Nat.le_of_ble_eq_true rfl)⟩) rfl hl.1 rfl (Nat.le_of_ble_eq_true rfl) dL_law_10 ⟨(Nat.le_of_ble_eq_true rfl), (Nat.le_of_ble_eq_true rfl)⟩ (fun w r H locs hw hO => ?_)
  have hO := gO.sx hO
  refine lv_astore_n (lv' := [(2, .ref r), (1, .ref (u 0)), (0, .ref b)]) C.1 C.2.1 dL_law_13 rfl hl (by decide) rfl (fun ls hl => ?_)
  refine lv_aload_n C.1 C.2.1 dL_law_14 rfl (lv_at hl 0 rfl) ?_
  refine lv_ifnonnull (tgt := 20) C.1 C.2.1 dL_law_15 (by decide) ?_
  refine lv_iconst (v := nI 0) C.1 C.2.1 dL_law_20 (by decide) ?_
  refine lv_istore_n (lv' := [(3, .int (nI 0)), (2, .ref r), (1, .ref (u 0)), (0, .ref b)]) C.1 C.2.1 dL_law_21 rfl hl (by decide) rfl (fun ls hl => ?_)
  exact W.widen (show _ ≤ 16300 + 600 * 0 by decide) (show _ ≤ 490000 + 9000 * 0 by decide) (law_loop hst hL hX hbl hnw C 36 0 w.1 w.2.1 w.2.2.1 w.2.2.2.1 w.2.2.2.2 (by omega) (hw.1.mono (by omega)) hw.2 H locs hO ls (lv_sub hl [3, 2, 1, 0] rfl))
