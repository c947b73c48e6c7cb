section LC
variable {p : Program} {l : Launch} {e : Env} {s : State} {m : MethodId} {args : Array Value} {below : List Frame} {meth : Method} {c : Code} {H : Heap} {locs : List Loc} {Q : State → Prop} {E : gE} {A : Nat → Prop} {ret9 : Option FieldType}
variable {a : Nat → Nat} {o : Nat} {d : Dt} {S : St} {mk rk rv : Nat → Int32} {F : va_W} {B : Int} {bs L t z0 nc ns : Nat} {xs : Nat → Int32} {x : Int32} {ls : Array Slot}
set_option maxHeartbeats 4000000 in
set_option maxRecDepth 100000 in
theorem law_P (hst : l.stackTraces = false) (hJ : J9 S B) (hB : B + 100 < 2147480000) (hR : Rep E d S) (hnc : nc ≤ 100000) (hns : ns ≤ 2000000) (ht : t ≤ 36) (hL : L ≤ 260) (hX : va_X bs L xs s s.heap) (hbl : bs < s.heap.size) (hbA : ¬ A bs) (hnw : va_Nw nw9 s) (C : gCx p s m args meth c cL_law 21 wsL_law RL ret9 E A)  (hO : gO E A s ((xW E a S mk rk rv) ++ (sW E o d S F)) H locs) (hl : lv_has ls 21 [(0, .ref bs), (1, .ref (a 0)), (2, .ref o), (3, .int (nI t))]) (kk : ∀ (u24 : aT) (x : Int32), (J9 u24.1 (B + 48)) → (Rep E u24.2.1 u24.1) → ∀ (H : Heap) (locs : List Loc), gO E A s ((xW E a u24.1 u24.2.2.1 u24.2.2.2.1 u24.2.2.2.2) ++ (sW E o u24.2.1 u24.1 F)) H locs → ∀ ls : Array Slot, lv_has ls 21 [(4, .int x), (3, .int (nI t)), (2, .ref o), (1, .ref (a 0)), (0, .ref bs)] → W p l e room_1 s m args below meth c H locs (nc + 200) (ns + 6000) Q (F0 m 63 ls [])) (kx : (36 ≤ t) → ∀ (H : Heap) (locs : List Loc), gO E A s ((xW E a S mk rk rv) ++ (sW E o d S F)) H locs → ∀ ls : Array Slot, lv_has ls 21 [(0, .ref bs), (1, .ref (a 0)), (2, .ref o), (3, .int (nI t))] → W p l e room_1 s m args below meth c H locs nc ns Q (F0 m 994 ls [])) : W p l e room_1 s m args below meth c H locs nc ns Q (F0 m 22 ls []) := by
  refine lv_iload_n C.1 C.2.1 dL_law_22 rfl (lv_at hl 3 rfl) ?_
  refine lv_bipush (v := nI 36) C.1 C.2.1 dL_law_23 (by decide) ?_
  refine gGeN (x := t) (y := 36) (tgt := 994) C.1 C.2.1 (by omega) (by omega) dL_law_25 (by decide) (fun c_1 => ?_) (fun c_1 => ?_)
  · exact kx  (by omega) _ _ hO _ (lv_sub hl [0, 1, 2, 3] rfl)
  · refine lv_aload_n C.1 C.2.1 dL_law_28 rfl (lv_at hl 0 rfl) ?_
    refine lv_iload_n C.1 C.2.1 dL_law_29 rfl (lv_at hl 3 rfl) ?_
    refine lv_bipush (v := nI 16) C.1 C.2.1 dL_law_30 (by decide) ?_
    refine lv_irem C.1 C.2.1 dL_law_32 (by decide) ?_
    refine lv_eqi (y := nI (t % 16)) (pk_rem (by omega) (by decide) (by decide)) ?_
    refine gCallS_s (mc := 0) (ms := 0) (As := [.ref bs, .int (nI (t % 16))]) (rest := []) C hX hbl hbA hnw hO (c_L_cell l E ((xW E a S mk rk rv) ++ (sW E o d S F)) bs L xs (t % 16) hL (by omega)) (cwS 2 C.2.2.2.2.1 gL_law_L_cell rfl rfl rfl (by decide +kernel) ⟨(Nat.le_of_ble_eq_true rfl), (Nat.le_of_ble_eq_true rfl)⟩) rfl hl.1 rfl (Nat.le_of_ble_eq_true rfl) dL_law_33 ⟨(by show nc + 0 ≤ 600172; omega), (by show ns + 0 ≤ 7300668; omega)⟩ (fun H locs hO => ?_)
    refine lv_iload_n C.1 C.2.1 dL_law_36 rfl (lv_at hl 3 rfl) ?_
    refine lv_bipush (v := nI 16) C.1 C.2.1 dL_law_37 (by decide) ?_
    refine lv_idiv C.1 C.2.1 dL_law_39 (by decide) ?_
    refine lv_iconst (v := nI 3) C.1 C.2.1 dL_law_40 (by decide) ?_
    refine lv_imul C.1 C.2.1 dL_law_41 ?_
    refine lv_ishr C.1 C.2.1 dL_law_42 ?_
    refine lv_sipush (v := nI 701) C.1 C.2.1 dL_law_43 (by decide) ?_
    refine lv_iload_n C.1 C.2.1 dL_law_46 rfl (lv_at hl 3 rfl) ?_
    refine gMulN (x := 701) (y := t) C.1 C.2.1 dL_law_47 ?_
    refine lv_iadd C.1 C.2.1 dL_law_48 ?_
    refine lv_istore (lv' := [(4, .int (((clv xs L (t % 16)) >>> ((((nI t) / (nI 16)) * (nI 3)) &&& 31)) + (nI (701 * t)))), (0, .ref bs), (1, .ref (a 0)), (2, .ref o), (3, .int (nI t))]) C.1 C.2.1 dL_law_49 hl (by decide) rfl (fun ls hl => ?_)
    refine lv_aload_n C.1 C.2.1 dL_law_51 rfl (lv_at hl 2 rfl) ?_
    refine lv_aload_n C.1 C.2.1 dL_law_52 rfl (lv_at hl 3 rfl) ?_
    refine lv_iload C.1 C.2.1 dL_law_53 (lv_at hl 0 rfl) ?_
    have hO := gO.xs hO
    refine gCallS_e (mc := 200) (ms := 6000) (As := [.ref (a 0), .ref o, .int (((clv xs L (t % 16)) >>> ((((nI t) / (nI 16)) * (nI 3)) &&& 31)) + (nI (701 * t)))]) (rest := []) C hO (c_L_act l E o d a S mk rk rv F B (((clv xs L (t % 16)) >>> ((((nI t) / (nI 16)) * (nI 3)) &&& 31)) + (nI (701 * t))) hst hJ (by omega) hR) (cwS 3 C.2.2.2.2.1 gL_law_L_act rfl rfl rfl (by decide +kernel) ⟨(Nat.le_of_ble_eq_true rfl), (Nat.le_of_ble_eq_true rfl)⟩) rfl hl.1 rfl (Nat.le_of_ble_eq_true rfl) dL_law_55 ⟨(by show nc + 0 + 200 ≤ 600172; omega), (by show ns + 0 + 6000 ≤ 7300668; omega)⟩ (fun r24 u24 H locs ⟨hr9, hJ25, hR25⟩ hO => ?_)
    have hO := gO.sx hO
    refine lv_eqi (y := 1) hr9 ?_
    refine lv_if_ne (tgt := 63) C.1 C.2.1 dL_law_58 (by decide) (fun c_2 => ?_) (fun c_2 => ?_)
    · refine W.widen (k := nc + 200) (n := ns + 6000) (by omega) (by omega) ?_
      exact kk u24 (((clv xs L (t % 16)) >>> ((((nI t) / (nI 16)) * (nI 3)) &&& 31)) + (nI (701 * t))) hJ25 hR25 _ _ hO _ (lv_sub hl [0, 4, 3, 2, 1] rfl)
    · exact absurd c_2 (by decide)
end LC
