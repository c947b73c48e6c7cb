set_option maxHeartbeats 4000000 in
set_option maxRecDepth 100000 in
theorem c_L_act (l : Launch) (E : gE) (o : Nat) (d : Dt) (a : Nat → Nat) (S : St) (mk rk rv : Nat → Int32) (F : va_W) (B : Int) (x : Int32) (hst : l.stackTraces = false) (hJ : J9 S B) (hB : B + 48 < 2147480000) (hR : Rep E d S) : gMe l E yL_act wsL_act ({ frames := 9, cells := 200, slots := 6000, locals := 140 }) (sW E o d S ((xW E a S mk rk rv) ++ F)) [.ref (a 0), .ref o, .int x] (aP E (B + 48)) (aW E o a F) 200 6000 := by
  refine gMe.of (cc := cL_act) (maxL := 17) (ty := .boolean) (by decide) rfl (Nat.le_of_ble_eq_true rfl) ?_
  intro p e s m args below meth c A C ls hl hO
  have hl : lv_has ls 17 [(0, .ref (a 0)), (1, .ref o), (2, .int x)] := hl
  have iX3 : ∀ w ∈ u_ws RX3 TX3 7, w ∈ wsL_act := by decide +kernel
  have w9 : Cond.fieldLink RL 9 "ParrotLogLaw$Sim" "ships" "[[I" ∈ wsL_act := by decide +kernel
  have w15 : Cond.fieldLink RL 15 "ParrotLogLaw$Sim" "said" "[I" ∈ wsL_act := by decide +kernel
  refine lv_aload_n C.1 C.2.1 dL_act_0 rfl (lv_at hl 1 rfl) ?_
  refine gGet (v := .ref (d_3 d)) (ref := RX3) (Cn := RX3) (T := TX3) (N := 7) C iX3 hO 0 rfl rfl 6 (by decide) w9 (fun _ h9 => h9) rfl dL_act_1 ?_
  refine va_alen (v := nI (s_sh S)) C.1 C.2.1 C.2.2.2.2.2.2.2.1.1 hO.1 3 3 rfl rfl rfl dL_act_4 ?_
  refine lv_istore_n (lv' := [(3, .int (nI (s_sh S))), (0, .ref (a 0)), (1, .ref o), (2, .int x)]) C.1 C.2.1 dL_act_5 rfl hl (by decide) rfl (fun ls hl => ?_)
  refine lv_aload_n C.1 C.2.1 dL_act_6 rfl (lv_at hl 2 rfl) ?_
  refine gGet (v := .ref (d_2 d)) (ref := RX3) (Cn := RX3) (T := TX3) (N := 7) C iX3 hO 0 rfl rfl 5 (by decide) w15 (fun _ h9 => h9) rfl dL_act_7 ?_
  refine va_alen (v := nI (s_sc S)) C.1 C.2.1 C.2.2.2.2.2.2.2.1.1 hO.1 2 0 rfl rfl rfl dL_act_10 ?_
  refine lv_istore (lv' := [(4, .int (nI (s_sc S))), (3, .int (nI (s_sh S))), (0, .ref (a 0)), (1, .ref o), (2, .int x)]) C.1 C.2.1 dL_act_11 hl (by decide) rfl (fun ls hl => ?_)
  refine lv_iload_n C.1 C.2.1 dL_act_13 rfl (lv_at hl 4 rfl) ?_
  refine lv_bipush (v := nI 9) C.1 C.2.1 dL_act_14 (by decide) ?_
  refine lv_ishr C.1 C.2.1 dL_act_16 ?_
  refine lv_bipush (v := nI 22) C.1 C.2.1 dL_act_17 (by decide) ?_
  refine gCallS_i (mc := 0) (ms := 0) (As := [.int (x >>> ((nI 9) &&& 31)), .int (nI 22)]) (rest := []) C hO (c_L_below l E (sW E o d S ((xW E a S mk rk rv) ++ F)) (x >>> ((nI 9) &&& 31)) (nI 22) (by decide)) (cwS 2 C.2.2.2.2.1 gL_act_L_below rfl rfl rfl (by decide +kernel) ⟨(Nat.le_of_ble_eq_true rfl), (Nat.le_of_ble_eq_true rfl)⟩) rfl hl.1 rfl (Nat.le_of_ble_eq_true rfl) dL_act_19 ⟨(Nat.le_of_ble_eq_true rfl), (Nat.le_of_ble_eq_true rfl)⟩ (fun H locs hO => ?_)
  obtain ⟨j9, hj9, ej9⟩ := bw_lt (x >>> ((nI 9) &&& 31)) (z := 22) (by decide) (by decide)
  refine lv_eqi (y := nI j9) ej9 ?_
  rcases (show j9 = 0 ∨ j9 = 1 ∨ j9 = 2 ∨ j9 = 3 ∨ j9 = 4 ∨ j9 = 5 ∨ j9 = 6 ∨ j9 = 7 ∨ j9 = 8 ∨ j9 = 9 ∨ j9 = 10 ∨ j9 = 11 ∨ 12 ≤ j9 by omega) with rfl | rfl | rfl | rfl | rfl | rfl | rfl | rfl | rfl | rfl | rfl | rfl | hj12
  · exact lv_tableIn (off := 62) (tgt := 84) C.1 C.2.1 dL_act_22 (by decide) (by decide) rfl (by decide) (act_84 hst hJ hB hR C hO hl)
  · exact lv_tableIn (off := 62) (tgt := 84) C.1 C.2.1 dL_act_22 (by decide) (by decide) rfl (by decide) (act_84 hst hJ hB hR C hO hl)
  · exact lv_tableIn (off := 140) (tgt := 162) C.1 C.2.1 dL_act_22 (by decide) (by decide) rfl (by decide) (act_162 hst hJ hB hR C hO hl)
  · exact lv_tableIn (off := 208) (tgt := 230) C.1 C.2.1 dL_act_22 (by decide) (by decide) rfl (by decide) (act_230 hst hJ hB hR C hO hl)
  · exact lv_tableIn (off := 286) (tgt := 308) C.1 C.2.1 dL_act_22 (by decide) (by decide) rfl (by decide) (act_308 hst hJ hB hR C hO hl)
  · exact lv_tableIn (off := 286) (tgt := 308) C.1 C.2.1 dL_act_22 (by decide) (by decide) rfl (by decide) (act_308 hst hJ hB hR C hO hl)
  · exact lv_tableIn (off := 322) (tgt := 344) C.1 C.2.1 dL_act_22 (by decide) (by decide) rfl (by decide) (act_344 hst hJ hB hR C hO hl)
  · exact lv_tableIn (off := 432) (tgt := 454) C.1 C.2.1 dL_act_22 (by decide) (by decide) rfl (by decide) (act_454 hst hJ hB hR C hO hl)
  · exact lv_tableIn (off := 459) (tgt := 481) C.1 C.2.1 dL_act_22 (by decide) (by decide) rfl (by decide) (act_481 hst hJ hB hR C hO hl)
  · exact lv_tableIn (off := 535) (tgt := 557) C.1 C.2.1 dL_act_22 (by decide) (by decide) rfl (by decide) (act_557 hst hJ hB hR C hO hl)
  · exact lv_tableIn (off := 535) (tgt := 557) C.1 C.2.1 dL_act_22 (by decide) (by decide) rfl (by decide) (act_557 hst hJ hB hR C hO hl)
  · exact lv_tableIn (off := 535) (tgt := 557) C.1 C.2.1 dL_act_22 (by decide) (by decide) rfl (by decide) (act_557 hst hJ hB hR C hO hl)
  · exact lv_tableOut (tgt := 603) C.1 C.2.1 dL_act_22 (Or.inr (by rw [nI_toInt (by omega)]; omega)) (by decide) (act_603 hst hJ hB hR C hO hl)
