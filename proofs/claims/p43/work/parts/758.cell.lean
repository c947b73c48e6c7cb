def clv (xs : Nat → Int32) (L k : Nat) : Int32 := if k < L then xs k else 790386105 * (nI k + nI 3)
set_option maxHeartbeats 4000000 in
set_option maxRecDepth 100000 in
theorem c_L_cell (l : Launch) (E : gE) (ws : va_W) (bs L : Nat) (xs : Nat → Int32) (k9 : Nat) (hL : L ≤ 260) (hk : k9 < 1000) : gMs l E yL_cell wsL_cell ({ frames := 0, cells := 0, slots := 0, locals := 0 }) ws [.ref bs, .int (nI k9)] bs L xs (clv xs L k9) 0 0 := by
  refine gMs.of (cc := cL_cell) (maxL := 2) (ty := .int) (by decide) rfl (Nat.le_of_ble_eq_true rfl) ?_
  intro p e s m args below meth c A C hX hbl hbA hnw ls hl hO
  have hl : lv_has ls 2 [(0, .ref bs), (1, .int (nI k9))] := hl
  refine lv_iload_n C.1 C.2.1 dL_cell_0 rfl (lv_at hl 1 rfl) ?_
  refine lv_aload_n C.1 C.2.1 dL_cell_1 rfl (lv_at hl 0 rfl) ?_
  refine va_slen C.1 C.2.1 hX hbl hbA hO.2.2 dL_cell_2 ?_
  refine gGeN (x := k9) (y := L) (tgt := 12) C.1 C.2.1 (by omega) (by omega) dL_cell_3 (by decide) (fun c_1 => ?_) (fun c_1 => ?_)
  · refine lv_ldc (v := 790386105) C.1 C.2.1 C.2.2.2.1 (C.2.2.2.2.1 (.constant RL 8 (790386105)) (by decide +kernel)) dL_cell_12 ?_
    refine lv_iload_n C.1 C.2.1 dL_cell_14 rfl (lv_at hl 1 rfl) ?_
    refine lv_iconst (v := nI 3) C.1 C.2.1 dL_cell_15 (by decide) ?_
    refine lv_iadd C.1 C.2.1 dL_cell_16 ?_
    refine lv_imul C.1 C.2.1 dL_cell_17 ?_
    exact gRi C hO rfl (if_neg (by omega)).symm dL_cell_18 (Nat.le_of_ble_eq_true rfl) (Nat.le_of_ble_eq_true rfl)
  · refine lv_aload_n C.1 C.2.1 dL_cell_6 rfl (lv_at hl 0 rfl) ?_
    refine lv_iload_n C.1 C.2.1 dL_cell_7 rfl (lv_at hl 1 rfl) ?_
    refine va_sld C.1 C.2.1 hX hbl hbA hO.2.2 (vp_in_nI c_1 (by omega)) dL_cell_8 ?_
    rw [nI_clamp (by omega)]
    refine lv_goto (tgt := 18) C.1 C.2.1 dL_cell_9 (by decide) ?_
    exact gRi C hO rfl (if_pos c_1).symm dL_cell_18 (Nat.le_of_ble_eq_true rfl) (Nat.le_of_ble_eq_true rfl)
