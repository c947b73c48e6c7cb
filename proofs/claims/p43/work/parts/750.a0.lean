set_option maxHeartbeats 4000000 in
set_option maxRecDepth 100000 in
theorem c_L_below (l : Launch) (E : gE) (ws : va_W) (v9 n9 : Int32) (hn : ¬ n9 = 0) : gMi l E yL_below wsL_below ({ frames := 0, cells := 0, slots := 0, locals := 0 }) ws [.int v9, .int n9] (bw v9 n9) ws 0 0 := by
  refine gMi.of (cc := cL_below) (maxL := 2) (ty := .int) (by decide) rfl (Nat.le_of_ble_eq_true rfl) ?_
  intro p e s m args below meth c A C ls hl hO
  have hl : lv_has ls 2 [(0, .int v9), (1, .int n9)] := hl
  refine lv_iload_n C.1 C.2.1 dL_below_0 rfl (lv_at hl 0 rfl) ?_
  refine lv_ldc (v := 2147483647) C.1 C.2.1 C.2.2.2.1 (C.2.2.2.2.1 (.constant RL 7 (2147483647)) (by decide +kernel)) dL_below_1 ?_
  refine lv_iand C.1 C.2.1 dL_below_3 ?_
  refine lv_iload_n C.1 C.2.1 dL_below_4 rfl (lv_at hl 1 rfl) ?_
  refine lv_irem C.1 C.2.1 dL_below_5 hn ?_
  exact gRi C hO rfl rfl dL_below_6 (Nat.le_of_ble_eq_true rfl) (Nat.le_of_ble_eq_true rfl)
