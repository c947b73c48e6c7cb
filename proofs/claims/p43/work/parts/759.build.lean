set_option maxHeartbeats 4000000 in
set_option maxRecDepth 100000 in
theorem c_L_build (l : Launch) (E : gE) (a : Nat → Nat) (mk rk rv : Nat → Int32) (F : va_W) (bs L : Nat) (xs : Nat → Int32) (hst : l.stackTraces = false) (hL : L ≤ 260) : gMt l E yL_build wsL_build ({ frames := 11, cells := 16204, slots := 486007, locals := 190 } : Room) (xW E a S0 mk rk rv ++ F) [.ref (a 0), .ref bs] bs L xs (fun (u : aT) => J9 u.1 3888 ∧ Rep E u.2.1 u.1) (fun (u : aT) (r : Nat) => aW E r a F u) 16204 486007 := by
  refine gMt.of (cc := cL_build) (maxL := 5) (ty := (.object "ParrotLogLaw$Sim")) (by decide) rfl (Nat.le_of_ble_eq_true rfl) ?_
  intro p e s m args below meth c A C hX hbl hbA hnw ls hl hO
  have hl : lv_has ls 5 [(0, .ref (a 0)), (1, .ref bs)] := hl
  have iX3 : ∀ w ∈ u_ws RX3 TX3 7, w ∈ wsL_build := by decide +kernel
  have hO : gO E A s (([] : va_W) ++ (xW E a S0 mk rk rv ++ F)) s.heap [] := hO
  refine gNewO C iX3 tyX3 tyX3_ok (by decide +kernel) (by decide +kernel) (by decide +kernel) hO (ci := 3) rfl (fs := [.int 0, .int 0, .int 0, .int 0, .null, .null, .null]) (by decide +kernel) (Nat.le_of_ble_eq_true rfl) (Nat.le_of_ble_eq_true rfl) dL_build_0 (fun q_s H hO => ?_)
  have hO : gO E A s ((q_s, .inr (3, [.int 0, .int 0, .int 0, .int 0, .null, .null, .null])) :: (xW E a S0 mk rk rv ++ F)) H [] := hO
  refine lv_dup C.1 C.2.1 dL_build_3 rfl ?_
  refine gCallIN_f (mc := 3) (ms := 0) (As := []) (rest := [.ref q_s]) C hO (c_X3_init l E q_s (xW E a S0 mk rk rv ++ F)) ⟨va_cnB (host := RL) 0 C.2.2.2.2.1 gL_build_X3_init_n80 rfl rfl rfl hnw (C.2.2.2.2.1 (.initialized RX3) (by decide +kernel)) (by decide +kernel) ⟨(Nat.le_of_ble_eq_true rfl), (Nat.le_of_ble_eq_true rfl)⟩, rfl, C.2.2.2.2.1 (.instanceMethod yX3_init) (by decide +kernel)⟩ rfl hl.1 rfl (Nat.le_of_ble_eq_true rfl) dL_build_4 ⟨(Nat.le_of_ble_eq_true rfl), (Nat.le_of_ble_eq_true rfl)⟩ (fun d0 H locs hR0 hO => ?_)
  refine lv_astore_n (lv' := [(2, .ref q_s), (0, .ref (a 0)), (1, .ref bs)]) C.1 C.2.1 dL_build_7 rfl hl (by decide) rfl (fun ls hl => ?_)
  refine lv_bipush (v := nI 12) C.1 C.2.1 dL_build_8 (by decide) ?_
  refine lv_aload_n C.1 C.2.1 dL_build_10 rfl (lv_at hl 2 rfl) ?_
  refine lv_iconst (v := 0) C.1 C.2.1 dL_build_11 (by decide) ?_
  refine gCallS_s (mc := 0) (ms := 0) (As := [.ref bs, .int 0]) (rest := [.int (nI 12)]) C hX hbl hbA hnw hO (c_L_cell l E (sW E q_s d0 S0 ((xW E a S0 mk rk rv) ++ F)) bs L xs 0 hL (by omega)) (cwS 2 C.2.2.2.2.1 gL_build_L_cell rfl rfl rfl (by decide +kernel) ⟨(Nat.le_of_ble_eq_true rfl), (Nat.le_of_ble_eq_true rfl)⟩) rfl hl.1 rfl (Nat.le_of_ble_eq_true rfl) dL_build_12 ⟨(Nat.le_of_ble_eq_true rfl), (Nat.le_of_ble_eq_true rfl)⟩ (fun H locs hO => ?_)
  refine lv_bipush (v := nI 70) C.1 C.2.1 dL_build_15 (by decide) ?_
  refine gCallS_i (mc := 0) (ms := 0) (As := [.int (clv xs L 0), .int (nI 70)]) (rest := [.int (nI 12)]) C hO (c_L_below l E (sW E q_s d0 S0 ((xW E a S0 mk rk rv) ++ F)) (clv xs L 0) (nI 70) (by decide)) (cwS 2 C.2.2.2.2.1 gL_build_L_below rfl rfl rfl (by decide +kernel) ⟨(Nat.le_of_ble_eq_true rfl), (Nat.le_of_ble_eq_true rfl)⟩) rfl hl.1 rfl (Nat.le_of_ble_eq_true rfl) dL_build_17 ⟨(Nat.le_of_ble_eq_true rfl), (Nat.le_of_ble_eq_true rfl)⟩ (fun H locs hO => ?_)
  obtain ⟨j9, hj9, ej9⟩ := bw_lt (clv xs L 0) (z := 70) (by decide) (by decide)
  refine lv_eqi (y := nI j9) ej9 ?_
  refine gAddN (x := 12) (y := j9) C.1 C.2.1 dL_build_20 ?_
  refine lv_istore_n (lv' := [(3, .int (nI (12 + j9))), (2, .ref q_s), (0, .ref (a 0)), (1, .ref bs)]) C.1 C.2.1 dL_build_21 rfl hl (by decide) rfl (fun ls hl => ?_)
  refine lv_iconst (v := 0) C.1 C.2.1 dL_build_22 (by decide) ?_
  refine lv_istore (lv' := [(4, .int 0), (3, .int (nI (12 + j9))), (2, .ref q_s), (0, .ref (a 0)), (1, .ref bs)]) C.1 C.2.1 dL_build_23 hl (by decide) rfl (fun ls hl => ?_)
  have lp25 : ∀ (f : Nat) (k24 : Nat) (S24 : St) (d24 : Dt) (mk24 : Nat → Int32) (rk24 : Nat → Int32) (rv24 : Nat → Int32), (12 + j9 + 1 ≤ k24 + f) → (k24 ≤ 12 + j9) → (J9 S24 (48 * (k24 : Int))) → (Rep E d24 S24) → ∀ (H : Heap) (locs : List Loc), gO E A s (sW E q_s d24 S24 ((xW E a S24 mk24 rk24 rv24) ++ F)) H locs → ∀ ls : Array Slot, lv_has ls 5 [(0, .ref (a 0)), (1, .ref bs), (2, .ref q_s), (3, .int (nI (12 + j9))), (4, .int (nI k24))] → W p l e ({ frames := 11, cells := 16204, slots := 486007, locals := 190 } : Room) s m args below meth c H locs (4 + 200 * k24) (7 + 6000 * k24) (MQ below (gQg E A (fun (u : aT) => J9 u.1 3888 ∧ Rep E u.2.1 u.1) (fun (u : aT) (r : Nat) => aW E r a F u)) args s 16204 486007 A) (F0 m 25 ls []) := by
    intro f
    induction f with
    | zero =>
      intro k24 S24 d24 mk24 rk24 rv24 hf hk24 hJ24 hR24
      exact absurd hf (by omega)
    | succ f ih_lp25 =>
      intro k24 S24 d24 mk24 rk24 rv24 hf hk24 hJ24 hR24 H locs hO ls hl
      refine lv_iload C.1 C.2.1 dL_build_25 (lv_at hl 4 rfl) ?_
      refine lv_iload_n C.1 C.2.1 dL_build_27 rfl (lv_at hl 3 rfl) ?_
      refine gGeN (x := k24) (y := (12 + j9)) (tgt := 71) C.1 C.2.1 (by omega) (by omega) dL_build_28 (by decide) (fun c_1 => ?_) (fun c_1 => ?_)
      · refine lv_aload_n C.1 C.2.1 dL_build_71 rfl (lv_at hl 2 rfl) ?_
        exact gRg (S24, d24, mk24, rk24, rv24) C hO (.inl ⟨_, rfl⟩) (⟨hJ24.mono (by omega), hR24⟩) dL_build_72 (by omega) (by omega)
      · refine lv_aload_n C.1 C.2.1 dL_build_31 rfl (lv_at hl 0 rfl) ?_
        refine lv_aload_n C.1 C.2.1 dL_build_32 rfl (lv_at hl 2 rfl) ?_
        refine lv_aload_n C.1 C.2.1 dL_build_33 rfl (lv_at hl 1 rfl) ?_
        refine lv_iload C.1 C.2.1 dL_build_34 (lv_at hl 4 rfl) ?_
        refine lv_bipush (v := nI 16) C.1 C.2.1 dL_build_36 (by decide) ?_
        refine lv_irem C.1 C.2.1 dL_build_38 (by decide) ?_
        refine lv_eqi (y := nI (k24 % 16)) (pk_rem (by omega) (by decide) (by decide)) ?_
        refine gCallS_s (mc := 0) (ms := 0) (As := [.ref bs, .int (nI (k24 % 16))]) (rest := [.ref q_s, .ref (a 0)]) C hX hbl hbA hnw hO (c_L_cell l E (sW E q_s d24 S24 ((xW E a S24 mk24 rk24 rv24) ++ F)) bs L xs (k24 % 16) hL (by omega)) (cwS 2 C.2.2.2.2.1 gL_build_L_cell rfl rfl rfl (by decide +kernel) ⟨(Nat.le_of_ble_eq_true rfl), (Nat.le_of_ble_eq_true rfl)⟩) rfl hl.1 rfl (Nat.le_of_ble_eq_true rfl) dL_build_39 ⟨(by show 4 + 200 * k24 + 0 ≤ 16204; omega), (by show 7 + 6000 * k24 + 0 ≤ 486007; omega)⟩ (fun H locs hO => ?_)
        refine lv_iload C.1 C.2.1 dL_build_42 (lv_at hl 4 rfl) ?_
        refine lv_bipush (v := nI 16) C.1 C.2.1 dL_build_44 (by decide) ?_
        refine lv_idiv C.1 C.2.1 dL_build_46 (by decide) ?_
        refine lv_iconst (v := nI 3) C.1 C.2.1 dL_build_47 (by decide) ?_
        refine lv_imul C.1 C.2.1 dL_build_48 ?_
        refine lv_ishr C.1 C.2.1 dL_build_49 ?_
        refine lv_sipush (v := nI 701) C.1 C.2.1 dL_build_50 (by decide) ?_
        refine lv_iload C.1 C.2.1 dL_build_53 (lv_at hl 4 rfl) ?_
        refine gMulN (x := 701) (y := k24) C.1 C.2.1 dL_build_55 ?_
        refine lv_iadd C.1 C.2.1 dL_build_56 ?_
        refine gCallS_e (mc := 200) (ms := 6000) (As := [.ref (a 0), .ref q_s, .int (((clv xs L (k24 % 16)) >>> ((((nI k24) / (nI 16)) * (nI 3)) &&& 31)) + (nI (701 * k24)))]) (rest := []) C hO (c_L_act l E q_s d24 a S24 mk24 rk24 rv24 F (48 * (k24 : Int)) (((clv xs L (k24 % 16)) >>> ((((nI k24) / (nI 16)) * (nI 3)) &&& 31)) + (nI (701 * k24))) hst hJ24 (by omega) hR24) (cwS 3 C.2.2.2.2.1 gL_build_L_act rfl rfl rfl (by decide +kernel) ⟨(Nat.le_of_ble_eq_true rfl), (Nat.le_of_ble_eq_true rfl)⟩) rfl hl.1 rfl (Nat.le_of_ble_eq_true rfl) dL_build_57 ⟨(by show 4 + 200 * k24 + 0 + 200 ≤ 16204; omega), (by show 7 + 6000 * k24 + 0 + 6000 ≤ 486007; omega)⟩ (fun r24 u24 H locs ⟨hr9, hJ25, hR25⟩ hO => ?_)
        refine lv_eqi (y := 1) hr9 ?_
        refine lv_if_ne (tgt := 65) C.1 C.2.1 dL_build_60 (by decide) (fun c_2 => ?_) (fun c_2 => ?_)
        · refine gInc (j := k24) (k := 4) (lv' := [(4, .int (nI (k24 + 1))), (0, .ref (a 0)), (1, .ref bs), (2, .ref q_s), (3, .int (nI (12 + j9)))]) C.1 C.2.1 dL_build_65 hl rfl (by decide) rfl (fun ls hl => ?_)
          refine lv_goto (tgt := 25) C.1 C.2.1 dL_build_68 (by decide) ?_
          refine W.widen (k := 4 + 200 * (k24 + 1)) (n := 7 + 6000 * (k24 + 1)) (by omega) (by omega) ?_
          exact ih_lp25 (k24 + 1) u24.1 u24.2.1 u24.2.2.1 u24.2.2.2.1 u24.2.2.2.2 (by omega) (by omega) (by rw [show (48 * ((k24 + 1 : Nat) : Int)) = 48 * (k24 : Int) + 48 by omega]; exact hJ25) hR25 _ _ hO _ (lv_sub hl [1, 2, 3, 4, 0] rfl)
        · exact absurd c_2 (by decide)
  refine W.widen (k := 4 + 200 * 0) (n := 7 + 6000 * 0) (by omega) (by omega) ?_
  exact lp25 (12 + j9 + 1) 0 S0 d0 mk rk rv (by omega) (Nat.zero_le _) J9_0 hR0 _ _ hO _ (lv_sub hl [3, 4, 2, 1, 0] rfl)
