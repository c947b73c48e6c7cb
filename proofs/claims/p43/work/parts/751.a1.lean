section AC
variable {p : Program} {l : Launch} {e : Env} {s : State} {m : MethodId} {args : Array Value} {below : List Frame} {meth : Method} {c : Code} {H : Heap} {locs : List Loc} {E : gE} {A : Nat → Prop}
variable {a : Nat → Nat} {o : Nat} {d : Dt} {S : St} {mk rk rv : Nat → Int32} {F : va_W} {B : Int} {x : Int32} {ls : Array Slot}
set_option maxHeartbeats 4000000 in
set_option maxRecDepth 100000 in
theorem act_84 (hst : l.stackTraces = false) (hJ : J9 S B) (hB : B + 48 < 2147480000) (hR : Rep E d S) (C : gCx p s m args meth c cL_act 17 wsL_act RL (some .boolean) E A) (hO : gO E A s (sW E o d S ((xW E a S mk rk rv) ++ F)) H locs) (hl : lv_has ls 17 [(4, .int (nI (s_sc S))), (3, .int (nI (s_sh S))), (0, .ref (a 0)), (1, .ref o), (2, .int x)]) : W p l e aR s m args below meth c H locs 0 0 (MQ below (gQe E A (aP E (B + 48)) (aW E o a F)) args s 200 6000 A) (F0 m 84 ls []) := by
  have hI : s_inv S := hJ.1.inv
  obtain ⟨hn, hsh, hsc, hOn, hOb, hok9, hpc9, hp0⟩ := id hI
  have hsr : s_srt S := hJ.1.1.srt
  obtain ⟨z0, hz0, ez0, hzB⟩ := nx_of hJ.1 (by omega)
  have iX3 : ∀ w ∈ u_ws RX3 TX3 7, w ∈ wsL_act := by decide +kernel
  have w25 : Cond.fieldLink RL 25 "ParrotLogLaw$Sim" "next" "I" ∈ wsL_act := by decide +kernel
  have w9 : Cond.fieldLink RL 9 "ParrotLogLaw$Sim" "ships" "[[I" ∈ wsL_act := by decide +kernel
  refine lv_iload_n C.1 C.2.1 dL_act_84 rfl (lv_at hl 1 rfl) ?_
  refine lv_bipush (v := nI 6) C.1 C.2.1 dL_act_85 (by decide) ?_
  refine gNeN (x := (s_sh S)) (y := 6) (tgt := 92) C.1 C.2.1 (by omega) (by omega) dL_act_87 (by decide) (fun c_1 => ?_) (fun c_1 => ?_)
  · refine lv_bipush (v := nI 14) C.1 C.2.1 dL_act_92 (by decide) ?_
    have hO : gO E A s ((sR E o (d_1 d) (d_2 d) (d_3 d) (s_hr S) (s_nx S) (s_dr S) (s_on S) (s_n S) (d_l d) (s_sc S) (d_s d) (s_sh S) (d_f d) []) ++ (shC E (d_a d) (d_r d) (s_sh S) ++ ((d_p d) ++ ((xW E a S mk rk rv) ++ F)))) _ _ := hO
    refine gNewI (N9 := 14) C (C.2.2.2.2.1 (.arrayClass .int) (by decide +kernel)) hO (by first | decide | omega) (Nat.le_of_ble_eq_true rfl) (Nat.le_of_ble_eq_true rfl) dL_act_94 (fun q_r H hO => ?_)
    have hO : gO E A s (sR E o (d_1 d) (d_2 d) (d_3 d) (s_hr S) (s_nx S) (s_dr S) (s_on S) (s_n S) (d_l d) (s_sc S) (d_s d) (s_sh S) (d_f d) ((q_r, .inl (eI E, 14, .inl (fun _ => 0))) :: (shC E (d_a d) (d_r d) (s_sh S) ++ ((d_p d) ++ ((xW E a S mk rk rv) ++ F))))) _ _ := hO
    refine lv_astore (lv' := [(5, .ref q_r), (4, .int (nI (s_sc S))), (3, .int (nI (s_sh S))), (0, .ref (a 0)), (1, .ref o), (2, .int x)]) C.1 C.2.1 dL_act_96 hl (by decide) rfl (fun ls hl => ?_)
    refine lv_aload C.1 C.2.1 dL_act_98 (lv_at hl 0 rfl) ?_
    refine lv_iconst (v := 0) C.1 C.2.1 dL_act_100 (by decide) ?_
    refine lv_iconst (v := 1) C.1 C.2.1 dL_act_101 (by decide) ?_
    refine lv_iload_n C.1 C.2.1 dL_act_102 rfl (lv_at hl 5 rfl) ?_
    refine lv_iconst (v := 1) C.1 C.2.1 dL_act_103 (by decide) ?_
    refine lv_ishr C.1 C.2.1 dL_act_104 ?_
    refine lv_iconst (v := nI 5) C.1 C.2.1 dL_act_105 (by decide) ?_
    refine gCallS_i (mc := 0) (ms := 0) (As := [.int (x >>> (1 &&& 31)), .int (nI 5)]) (rest := [.int 1, .int 0, .ref q_r]) C hO (c_L_below l E (sR E o (d_1 d) (d_2 d) (d_3 d) (s_hr S) (s_nx S) (s_dr S) (s_on S) (s_n S) (d_l d) (s_sc S) (d_s d) (s_sh S) (d_f d) ((q_r, .inl (eI E, 14, .inl (fun _ => 0))) :: (shC E (d_a d) (d_r d) (s_sh S) ++ ((d_p d) ++ ((xW E a S mk rk rv) ++ F))))) (x >>> (1 &&& 31)) (nI 5) (by decide)) (cwS 2 C.2.2.2.2.1 gL_act_L_below rfl rfl rfl (by decide +kernel) ⟨(Nat.le_of_ble_eq_true rfl), (Nat.le_of_ble_eq_true rfl)⟩) rfl hl.1 rfl (Nat.le_of_ble_eq_true rfl) dL_act_106 ⟨(Nat.le_of_ble_eq_true rfl), (Nat.le_of_ble_eq_true rfl)⟩ (fun H locs hO => ?_)
    obtain ⟨j1, hj1, ej1⟩ := bw_lt (x >>> (1 &&& 31)) (z := 5) (by decide) (by decide)
    refine lv_eqi (y := nI j1) ej1 ?_
    refine gAddN (x := 1) (y := j1) C.1 C.2.1 dL_act_109 ?_
    refine gIast (j := 0) (ws' := (sR E o (d_1 d) (d_2 d) (d_3 d) (s_hr S) (s_nx S) (s_dr S) (s_on S) (s_n S) (d_l d) (s_sc S) (d_s d) (s_sh S) (d_f d) ((q_r, .inl (eI E, 14, .inl (upd (fun _ => 0) 0 (nI (1 + j1))))) :: (shC E (d_a d) (d_r d) (s_sh S) ++ ((d_p d) ++ ((xW E a S mk rk rv) ++ F)))))) C hO 4 rfl (by first | decide | omega) (by first | decide | omega) rfl dL_act_110 (fun H locs hO => ?_)
    refine lv_aload C.1 C.2.1 dL_act_111 (lv_at hl 0 rfl) ?_
    refine lv_iconst (v := 1) C.1 C.2.1 dL_act_113 (by decide) ?_
    refine lv_iload_n C.1 C.2.1 dL_act_114 rfl (lv_at hl 5 rfl) ?_
    refine lv_iconst (v := nI 3) C.1 C.2.1 dL_act_115 (by decide) ?_
    refine lv_ishr C.1 C.2.1 dL_act_116 ?_
    refine lv_aload_n C.1 C.2.1 dL_act_117 rfl (lv_at hl 4 rfl) ?_
    refine gGet (v := .int (s_nx S)) (ref := RX3) (Cn := RX3) (T := TX3) (N := 7) C iX3 hO 0 rfl rfl 1 (by decide) w25 (fun _ h9 => h9) rfl dL_act_118 ?_
    refine lv_iconst (v := 1) C.1 C.2.1 dL_act_121 (by decide) ?_
    refine lv_iadd C.1 C.2.1 dL_act_122 ?_
    refine lv_eqi (y := nI (z0 + 1)) (by rw [ez0, nI_1]) ?_
    refine gCallS_i (mc := 0) (ms := 0) (As := [.int (x >>> ((nI 3) &&& 31)), .int (nI (z0 + 1))]) (rest := [.int 1, .ref q_r]) C hO (c_L_below l E (sR E o (d_1 d) (d_2 d) (d_3 d) (s_hr S) (s_nx S) (s_dr S) (s_on S) (s_n S) (d_l d) (s_sc S) (d_s d) (s_sh S) (d_f d) ((q_r, .inl (eI E, 14, .inl (upd (fun _ => 0) 0 (nI (1 + j1))))) :: (shC E (d_a d) (d_r d) (s_sh S) ++ ((d_p d) ++ ((xW E a S mk rk rv) ++ F))))) (x >>> ((nI 3) &&& 31)) (nI (z0 + 1)) (fun q => by have h9 := (nI_eq (b := 0) (by omega) (by omega)).mp q; omega)) (cwS 2 C.2.2.2.2.1 gL_act_L_below rfl rfl rfl (by decide +kernel) ⟨(Nat.le_of_ble_eq_true rfl), (Nat.le_of_ble_eq_true rfl)⟩) rfl hl.1 rfl (Nat.le_of_ble_eq_true rfl) dL_act_123 ⟨(Nat.le_of_ble_eq_true rfl), (Nat.le_of_ble_eq_true rfl)⟩ (fun H locs hO => ?_)
    obtain ⟨j2, hj2, ej2⟩ := bw_lt (x >>> ((nI 3) &&& 31)) (z := (z0 + 1)) (by omega) (by omega)
    refine lv_eqi (y := nI j2) ej2 ?_
    refine gIast (j := 1) (ws' := (sR E o (d_1 d) (d_2 d) (d_3 d) (s_hr S) (s_nx S) (s_dr S) (s_on S) (s_n S) (d_l d) (s_sc S) (d_s d) (s_sh S) (d_f d) ((q_r, .inl (eI E, 14, .inl (upd (upd (fun _ => 0) 0 (nI (1 + j1))) 1 (nI j2)))) :: (shC E (d_a d) (d_r d) (s_sh S) ++ ((d_p d) ++ ((xW E a S mk rk rv) ++ F)))))) C hO 4 rfl (by first | decide | omega) (by first | decide | omega) rfl dL_act_126 (fun H locs hO => ?_)
    refine lv_aload_n C.1 C.2.1 dL_act_127 rfl (lv_at hl 4 rfl) ?_
    refine lv_aload_n C.1 C.2.1 dL_act_128 rfl (lv_at hl 4 rfl) ?_
    refine gGet (v := .ref (d_3 d)) (ref := RX3) (Cn := RX3) (T := TX3) (N := 7) C iX3 hO 0 rfl rfl 6 (by decide) w9 (fun _ h9 => h9) rfl dL_act_129 ?_
    refine lv_aload C.1 C.2.1 dL_act_132 (lv_at hl 0 rfl) ?_
    refine gCallS_g (mc := 1) (ms := 49) (As := [.ref (d_3 d), .ref q_r]) (rest := [.ref o]) C hO (c_X3_with l E (sR E o (d_1 d) (d_2 d) (d_3 d) (s_hr S) (s_nx S) (s_dr S) (s_on S) (s_n S) (d_l d) (s_sc S) (d_s d) (s_sh S) (d_f d) ((q_r, .inl (eI E, 14, .inl (upd (upd (fun _ => 0) 0 (nI (1 + j1))) 1 (nI j2)))) :: (shC E (d_a d) (d_r d) (s_sh S) ++ ((d_p d) ++ ((xW E a S mk rk rv) ++ F))))) (d_3 d) q_r (s_sh S) 14 3 4 (d_f d) (upd (upd (fun _ => 0) 0 (nI (1 + j1))) 1 (nI j2)) rfl rfl (by omega) (fun i hi => ⟨_, _, 14, (hR.2.2 i hi).1, sR_mem (.tail _ (List.mem_of_getElem? (shC_at hi)))⟩)) (va_cwS 2 C.2.2.2.2.1 gL_act_X3_with rfl rfl rfl (by decide +kernel) ⟨(Nat.le_of_ble_eq_true rfl), (Nat.le_of_ble_eq_true rfl)⟩) rfl hl.1 rfl (Nat.le_of_ble_eq_true rfl) dL_act_134 ⟨(Nat.le_of_ble_eq_true rfl), (Nat.le_of_ble_eq_true rfl)⟩ (fun g26 q_w H locs ⟨hg26, hg27⟩ hO => ?_)
    have hO : gO E A s (sR E o (d_1 d) (d_2 d) (d_3 d) (s_hr S) (s_nx S) (s_dr S) (s_on S) (s_n S) (d_l d) (s_sc S) (d_s d) (s_sh S) (d_f d) ((q_w, .inl (eL E, (s_sh S + 1), .inr (.inr (.inr (.inr g26))))) :: ((q_r, .inl (eI E, 14, .inl (upd (upd (fun _ => 0) 0 (nI (1 + j1))) 1 (nI j2)))) :: (shC E (d_a d) (d_r d) (s_sh S) ++ ((d_p d) ++ ((xW E a S mk rk rv) ++ F)))))) H locs := gO.frn (W0 := (sR E o (d_1 d) (d_2 d) (d_3 d) (s_hr S) (s_nx S) (s_dr S) (s_on S) (s_n S) (d_l d) (s_sc S) (d_s d) (s_sh S) (d_f d) [])) hO
    refine gPut (ws' := (sQ E o (d_1 d) (d_2 d) q_w (d_1 d) (d_2 d) (d_3 d) (s_hr S) (s_nx S) (s_dr S) (s_on S) (s_n S) (d_l d) (s_sc S) (d_s d) (s_sh S) (d_f d) ((q_w, .inl (eL E, (s_sh S + 1), .inr (.inr (.inr (.inr g26))))) :: ((q_r, .inl (eI E, 14, .inl (upd (upd (fun _ => 0) 0 (nI (1 + j1))) 1 (nI j2)))) :: (shC E (d_a d) (d_r d) (s_sh S) ++ ((d_p d) ++ ((xW E a S mk rk rv) ++ F))))))) (ref := RX3) (Cn := RX3) (T := TX3) (N := 7) C iX3 tyX3 tyX3_ok nmX3 hO 0 rfl rfl 6 (by decide) w9 (fun _ h9 => h9) rfl (by decide +kernel) rfl rfl (Nat.le_of_ble_eq_true rfl) rfl dL_act_137 (fun H locs hO => ?_)
    have hO : gO E A s (sR E o (d_1 d) (d_2 d) q_w (s_hr S) (s_nx S) (s_dr S) (s_on S) (s_n S) (d_l d) (s_sc S) (d_s d) (s_sh S + 1) g26 (shC E (va_up (d_a d) (s_sh S) q_r) (va_up (d_r d) (s_sh S) (upd (upd (fun _ => 0) 0 (nI (1 + j1))) 1 (nI j2))) ((s_sh S) + 1) ++ ((d_p d) ++ ((xW E a S mk rk rv) ++ F)))) _ _ := gO.ships2 hO
    have hR1 : Rep E (mkD9 (d_1 d) (d_2 d) q_w (d_l d) (d_s d) g26 (va_up (d_a d) (s_sh S) q_r) (va_up (d_r d) (s_sh S) (upd (upd (fun _ => 0) 0 (nI (1 + j1))) 1 (nI j2))) (d_p d)) (S_ship S (nI (1 + j1)) (nI j2)) := rep_ship hR (hJ.2.2.2.1 _ (Nat.le_refl _)) hg26 hg27 rfl rfl (fun c hc => by rw [upd, if_neg (by omega), upd, if_neg (by omega)])
    have hO : gO E A s (sW E o (mkD9 (d_1 d) (d_2 d) q_w (d_l d) (d_s d) g26 (va_up (d_a d) (s_sh S) q_r) (va_up (d_r d) (s_sh S) (upd (upd (fun _ => 0) 0 (nI (1 + j1))) 1 (nI j2))) (d_p d)) (S_ship S (nI (1 + j1)) (nI j2)) ((xW E a S mk rk rv) ++ F)) H locs := hO
    have hm14 : (q_r, (.inl (eI E, 14, .inl (upd (upd (fun _ => 0) 0 (nI (1 + j1))) 1 (nI j2))) : va_E)) ∈ (sW E o (mkD9 (d_1 d) (d_2 d) q_w (d_l d) (d_s d) g26 (va_up (d_a d) (s_sh S) q_r) (va_up (d_r d) (s_sh S) (upd (upd (fun _ => 0) 0 (nI (1 + j1))) 1 (nI j2))) (d_p d)) (S_ship S (nI (1 + j1)) (nI j2)) ((xW E a S mk rk rv) ++ F)) := sR_mem shC_new
    refine lv_aload_n C.1 C.2.1 dL_act_140 rfl (lv_at hl 3 rfl) ?_
    refine lv_aload C.1 C.2.1 dL_act_141 (lv_at hl 0 rfl) ?_
    refine lv_iconst (v := 0) C.1 C.2.1 dL_act_143 (by decide) ?_
    have ha_3m : (q_r, (.inl (eI E, 14, .inl (upd (upd (fun _ => 0) 0 (nI (1 + j1))) 1 (nI j2))) : va_E)) ∈ (sW E o (mkD9 (d_1 d) (d_2 d) q_w (d_l d) (d_s d) g26 (va_up (d_a d) (s_sh S) q_r) (va_up (d_r d) (s_sh S) (upd (upd (fun _ => 0) 0 (nI (1 + j1))) 1 (nI j2))) (d_p d)) (S_ship S (nI (1 + j1)) (nI j2)) ((xW E a S mk rk rv) ++ F)) := hm14
    obtain ⟨p_2, ha_3⟩ := List.getElem?_of_mem ha_3m
    refine gIald (v := nI (1 + j1)) (j := 0) C hO p_2 ha_3 (by omega) (by first | decide | omega | (show s_sc S ≤ 100; omega)) rfl dL_act_144 ?_
    refine lv_aload C.1 C.2.1 dL_act_145 (lv_at hl 0 rfl) ?_
    refine lv_iconst (v := 1) C.1 C.2.1 dL_act_147 (by decide) ?_
    have ha_5m : (q_r, (.inl (eI E, 14, .inl (upd (upd (fun _ => 0) 0 (nI (1 + j1))) 1 (nI j2))) : va_E)) ∈ (sW E o (mkD9 (d_1 d) (d_2 d) q_w (d_l d) (d_s d) g26 (va_up (d_a d) (s_sh S) q_r) (va_up (d_r d) (s_sh S) (upd (upd (fun _ => 0) 0 (nI (1 + j1))) 1 (nI j2))) (d_p d)) (S_ship S (nI (1 + j1)) (nI j2)) ((xW E a S mk rk rv) ++ F)) := hm14
    obtain ⟨p_4, ha_5⟩ := List.getElem?_of_mem ha_5m
    refine gIald (v := nI j2) (j := 1) C hO p_4 ha_5 (by omega) (by first | decide | omega | (show s_sc S ≤ 100; omega)) rfl dL_act_148 ?_
    have hO : gO E A s ((xW E a S mk rk rv) ++ (sW E o (mkD9 (d_1 d) (d_2 d) q_w (d_l d) (d_s d) g26 (va_up (d_a d) (s_sh S) q_r) (va_up (d_r d) (s_sh S) (upd (upd (fun _ => 0) 0 (nI (1 + j1))) 1 (nI j2))) (d_p d)) (S_ship S (nI (1 + j1)) (nI j2)) F)) H locs := gO.sx hO
    refine gXCall_i (mc := 2) (ms := 12) (As := [.int (nI (1 + j1)), .int (nI j2)]) (rest := []) C hO (c_X2_addShip l E a S mk rk rv (sW E o (mkD9 (d_1 d) (d_2 d) q_w (d_l d) (d_s d) g26 (va_up (d_a d) (s_sh S) q_r) (va_up (d_r d) (s_sh S) (upd (upd (fun _ => 0) 0 (nI (1 + j1))) 1 (nI j2))) (d_p d)) (S_ship S (nI (1 + j1)) (nI j2)) F) (nI (1 + j1)) (nI j2) hst hI) (cwV 2 C.2.2.2.2.1 gL_act_X2_addShip rfl rfl rfl (by decide +kernel) ⟨(Nat.le_of_ble_eq_true rfl), (Nat.le_of_ble_eq_true rfl)⟩) (va_recv C.2.2.2.2.2.2.2.1.1 hO.1 (ci := 2) (q0 := 0) rfl rfl) rfl hl.1 rfl (Nat.le_of_ble_eq_true rfl) dL_act_149 ⟨(Nat.le_of_ble_eq_true rfl), (Nat.le_of_ble_eq_true rfl)⟩ (fun E0 ce q9 H locs hO hcell hcv hcl hbad => ?_) (fun H locs hO _ => ?_)
    · exact hbad.elim (fun q => absurd ⟨okPace_nI (by omega) (by omega), okOff_nI ez0 hz0 (by omega)⟩ q.2) (fun q => absurd (show s_sh S < 6 by omega) q.2.2.2)
    have hO : gO E A s (sW E o (mkD9 (d_1 d) (d_2 d) q_w (d_l d) (d_s d) g26 (va_up (d_a d) (s_sh S) q_r) (va_up (d_r d) (s_sh S) (upd (upd (fun _ => 0) 0 (nI (1 + j1))) 1 (nI j2))) (d_p d)) (S_ship S (nI (1 + j1)) (nI j2)) ((xW E a (S_ship S (nI (1 + j1)) (nI j2)) mk rk rv) ++ F)) H locs := gO.xs hO
    refine lv_iload_n C.1 C.2.1 dL_act_152 rfl (lv_at hl 2 rfl) ?_
    refine lv_icmp_ne (tgt := 160) C.1 C.2.1 dL_act_153 (by decide) (fun c_7 => ?_) (fun c_7 => ?_)
    · exact absurd rfl c_7
    · refine lv_iconst (v := 1) C.1 C.2.1 dL_act_156 (by decide) ?_
      refine lv_goto (tgt := 161) C.1 C.2.1 dL_act_157 (by decide) ?_
      exact gRe ((S_ship S (nI (1 + j1)) (nI j2)), (mkD9 (d_1 d) (d_2 d) q_w (d_l d) (d_s d) g26 (va_up (d_a d) (s_sh S) q_r) (va_up (d_r d) (s_sh S) (upd (upd (fun _ => 0) 0 (nI (1 + j1))) 1 (nI j2))) (d_p d)), mk, rk, rv) C hO rfl (⟨rfl, (hJ.ship (okPace_nI (by omega) (by omega)) (by omega) (by rw [nI_toInt (by omega)]; omega) (by rw [ez0, nI_toInt (by omega), nI_toInt (by omega)]; omega)).mono (by omega), hR1⟩) dL_act_161 (Nat.le_of_ble_eq_true rfl) (Nat.le_of_ble_eq_true rfl)
  · refine lv_iconst (v := 1) C.1 C.2.1 dL_act_90 (by decide) ?_
    exact gRe (S, d, mk, rk, rv) C hO rfl (⟨rfl, hJ.mono (by omega), hR⟩) dL_act_91 (Nat.le_of_ble_eq_true rfl) (Nat.le_of_ble_eq_true rfl)

set_option maxHeartbeats 4000000 in
set_option maxRecDepth 100000 in
theorem act_162 (hst : l.stackTraces = false) (hJ : J9 S B) (hB : B + 48 < 2147480000) (hR : Rep E d S) (C : gCx p s m args meth c cL_act 17 wsL_act RL (some .boolean) E A) (hO : gO E A s (sW E o d S ((xW E a S mk rk rv) ++ F)) H locs) (hl : lv_has ls 17 [(4, .int (nI (s_sc S))), (3, .int (nI (s_sh S))), (0, .ref (a 0)), (1, .ref o), (2, .int x)]) : W p l e aR s m args below meth c H locs 0 0 (MQ below (gQe E A (aP E (B + 48)) (aW E o a F)) args s 200 6000 A) (F0 m 162 ls []) := by
  have hI : s_inv S := hJ.1.inv
  obtain ⟨hn, hsh, hsc, hOn, hOb, hok9, hpc9, hp0⟩ := id hI
  have hsr : s_srt S := hJ.1.1.srt
  obtain ⟨z0, hz0, ez0, hzB⟩ := nx_of hJ.1 (by omega)
  have iX3 : ∀ w ∈ u_ws RX3 TX3 7, w ∈ wsL_act := by decide +kernel
  have w9 : Cond.fieldLink RL 9 "ParrotLogLaw$Sim" "ships" "[[I" ∈ wsL_act := by decide +kernel
  have w25 : Cond.fieldLink RL 25 "ParrotLogLaw$Sim" "next" "I" ∈ wsL_act := by decide +kernel
  refine lv_iload_n C.1 C.2.1 dL_act_162 rfl (lv_at hl 1 rfl) ?_
  refine lv_if_ne (tgt := 168) C.1 C.2.1 dL_act_163 (by decide) (fun c_1 => ?_) (fun c_1 => ?_)
  · have hz9 : ¬ s_sh S = 0 := fun g => c_1 (by rw [g]; rfl)
    refine lv_aload_n C.1 C.2.1 dL_act_168 rfl (lv_at hl 3 rfl) ?_
    refine gGet (v := .ref (d_3 d)) (ref := RX3) (Cn := RX3) (T := TX3) (N := 7) C iX3 hO 0 rfl rfl 6 (by decide) w9 (fun _ h9 => h9) rfl dL_act_169 ?_
    refine lv_iload_n C.1 C.2.1 dL_act_172 rfl (lv_at hl 4 rfl) ?_
    refine lv_iconst (v := 1) C.1 C.2.1 dL_act_173 (by decide) ?_
    refine lv_ishr C.1 C.2.1 dL_act_174 ?_
    refine lv_iload_n C.1 C.2.1 dL_act_175 rfl (lv_at hl 1 rfl) ?_
    refine gCallS_i (mc := 0) (ms := 0) (As := [.int (x >>> (1 &&& 31)), .int (nI (s_sh S))]) (rest := [.ref (d_3 d)]) C hO (c_L_below l E (sW E o d S ((xW E a S mk rk rv) ++ F)) (x >>> (1 &&& 31)) (nI (s_sh S)) (fun q => by have h9 := (nI_eq (b := 0) (by omega) (by omega)).mp q; omega)) (cwS 2 C.2.2.2.2.1 gL_act_L_below rfl rfl rfl (by decide +kernel) ⟨(Nat.le_of_ble_eq_true rfl), (Nat.le_of_ble_eq_true rfl)⟩) rfl hl.1 rfl (Nat.le_of_ble_eq_true rfl) dL_act_176 ⟨(Nat.le_of_ble_eq_true rfl), (Nat.le_of_ble_eq_true rfl)⟩ (fun H locs hO => ?_)
    obtain ⟨j1, hj1, ej1⟩ := bw_lt (x >>> (1 &&& 31)) (z := (s_sh S)) (by omega) (by omega)
    refine lv_eqi (y := nI j1) ej1 ?_
    refine gAaldA (v := (d_a d) j1) (j := j1) C hO 3 rfl hj1 (by omega) (((hR).2.2 j1 hj1).1) dL_act_179 ?_
    refine lv_astore (lv' := [(6, .ref ((d_a d) j1)), (4, .int (nI (s_sc S))), (3, .int (nI (s_sh S))), (0, .ref (a 0)), (1, .ref o), (2, .int x)]) C.1 C.2.1 dL_act_180 hl (by decide) rfl (fun ls hl => ?_)
    refine lv_aload C.1 C.2.1 dL_act_182 (lv_at hl 0 rfl) ?_
    refine lv_iconst (v := 1) C.1 C.2.1 dL_act_184 (by decide) ?_
    refine gIald (v := s_at S j1) (j := 1) C hO (j1 + 4) (shC_at hj1) (by decide) (by first | decide | omega | (show s_sc S ≤ 100; omega)) (((hR).2.2 j1 hj1).2.2.1) dL_act_185 ?_
    refine lv_istore (lv' := [(7, .int (s_at S j1)), (6, .ref ((d_a d) j1)), (4, .int (nI (s_sc S))), (3, .int (nI (s_sh S))), (0, .ref (a 0)), (1, .ref o), (2, .int x)]) C.1 C.2.1 dL_act_186 hl (by decide) rfl (fun ls hl => ?_)
    refine lv_aload C.1 C.2.1 dL_act_188 (lv_at hl 1 rfl) ?_
    refine lv_iconst (v := 1) C.1 C.2.1 dL_act_190 (by decide) ?_
    refine lv_iload_n C.1 C.2.1 dL_act_191 rfl (lv_at hl 6 rfl) ?_
    refine lv_iconst (v := nI 3) C.1 C.2.1 dL_act_192 (by decide) ?_
    refine lv_ishr C.1 C.2.1 dL_act_193 ?_
    refine lv_aload_n C.1 C.2.1 dL_act_194 rfl (lv_at hl 5 rfl) ?_
    refine gGet (v := .int (s_nx S)) (ref := RX3) (Cn := RX3) (T := TX3) (N := 7) C iX3 hO 0 rfl rfl 1 (by decide) w25 (fun _ h9 => h9) rfl dL_act_195 ?_
    refine lv_iconst (v := 1) C.1 C.2.1 dL_act_198 (by decide) ?_
    refine lv_iadd C.1 C.2.1 dL_act_199 ?_
    refine lv_eqi (y := nI (z0 + 1)) (by rw [ez0, nI_1]) ?_
    refine gCallS_i (mc := 0) (ms := 0) (As := [.int (x >>> ((nI 3) &&& 31)), .int (nI (z0 + 1))]) (rest := [.int 1, .ref ((d_a d) j1)]) C hO (c_L_below l E (sW E o d S ((xW E a S mk rk rv) ++ F)) (x >>> ((nI 3) &&& 31)) (nI (z0 + 1)) (fun q => by have h9 := (nI_eq (b := 0) (by omega) (by omega)).mp q; omega)) (cwS 2 C.2.2.2.2.1 gL_act_L_below rfl rfl rfl (by decide +kernel) ⟨(Nat.le_of_ble_eq_true rfl), (Nat.le_of_ble_eq_true rfl)⟩) rfl hl.1 rfl (Nat.le_of_ble_eq_true rfl) dL_act_200 ⟨(Nat.le_of_ble_eq_true rfl), (Nat.le_of_ble_eq_true rfl)⟩ (fun H locs hO => ?_)
    obtain ⟨j2, hj2, ej2⟩ := bw_lt (x >>> ((nI 3) &&& 31)) (z := (z0 + 1)) (by omega) (by omega)
    refine lv_eqi (y := nI j2) ej2 ?_
    refine gIast (j := 1) (ws' := (sR E o (d_1 d) (d_2 d) (d_3 d) (s_hr S) (s_nx S) (s_dr S) (s_on S) (s_n S) (d_l d) (s_sc S) (d_s d) (s_sh S) (d_f d) (shC E (d_a d) (va_up (d_r d) j1 (upd ((d_r d) j1) 1 (nI j2))) (s_sh S) ++ ((d_p d) ++ ((xW E a S mk rk rv) ++ F))))) C hO (j1 + 4) (shC_at hj1) (by first | decide | omega) (by first | decide | omega) (congrArg (fun z9 => (sR E o (d_1 d) (d_2 d) (d_3 d) (s_hr S) (s_nx S) (s_dr S) (s_on S) (s_n S) (d_l d) (s_sc S) (d_s d) (s_sh S) (d_f d) z9)) (shC_set hj1 _)) dL_act_203 (fun H locs hO => ?_)
    have hR1 : Rep E (mkD9 (d_1 d) (d_2 d) (d_3 d) (d_l d) (d_s d) (d_f d) (d_a d) (va_up (d_r d) j1 (upd (d_r d j1) 1 (nI j2))) (d_p d)) (S_at S (upd (s_at S) j1 (nI j2))) := rep_seek hR
    have hO : gO E A s (sW E o (mkD9 (d_1 d) (d_2 d) (d_3 d) (d_l d) (d_s d) (d_f d) (d_a d) (va_up (d_r d) j1 (upd (d_r d j1) 1 (nI j2))) (d_p d)) (S_at S (upd (s_at S) j1 (nI j2))) ((xW E a S mk rk rv) ++ F)) H locs := hO
    refine lv_aload_n C.1 C.2.1 dL_act_204 rfl (lv_at hl 4 rfl) ?_
    refine lv_iload_n C.1 C.2.1 dL_act_205 rfl (lv_at hl 6 rfl) ?_
    refine lv_iconst (v := 1) C.1 C.2.1 dL_act_206 (by decide) ?_
    refine lv_ishr C.1 C.2.1 dL_act_207 ?_
    refine lv_iload_n C.1 C.2.1 dL_act_208 rfl (lv_at hl 3 rfl) ?_
    refine gCallS_i (mc := 0) (ms := 0) (As := [.int (x >>> (1 &&& 31)), .int (nI (s_sh S))]) (rest := [.ref (a 0)]) C hO (c_L_below l E (sW E o (mkD9 (d_1 d) (d_2 d) (d_3 d) (d_l d) (d_s d) (d_f d) (d_a d) (va_up (d_r d) j1 (upd (d_r d j1) 1 (nI j2))) (d_p d)) (S_at S (upd (s_at S) j1 (nI j2))) ((xW E a S mk rk rv) ++ F)) (x >>> (1 &&& 31)) (nI (s_sh S)) (fun q => by have h9 := (nI_eq (b := 0) (by omega) (by omega)).mp q; omega)) (cwS 2 C.2.2.2.2.1 gL_act_L_below rfl rfl rfl (by decide +kernel) ⟨(Nat.le_of_ble_eq_true rfl), (Nat.le_of_ble_eq_true rfl)⟩) rfl hl.1 rfl (Nat.le_of_ble_eq_true rfl) dL_act_209 ⟨(Nat.le_of_ble_eq_true rfl), (Nat.le_of_ble_eq_true rfl)⟩ (fun H locs hO => ?_)
    refine lv_eqi (y := nI j1) ej1 ?_
    refine lv_aload C.1 C.2.1 dL_act_212 (lv_at hl 1 rfl) ?_
    refine lv_iconst (v := 1) C.1 C.2.1 dL_act_214 (by decide) ?_
    refine gIald (v := nI j2) (j := 1) C hO (j1 + 4) (shC_at hj1) (by decide) (by first | decide | omega | (show s_sc S ≤ 100; omega)) ((hR1.2.2 j1 hj1).2.2.1.trans (upd_at _ _ _)) dL_act_215 ?_
    have hO : gO E A s ((xW E a S mk rk rv) ++ (sW E o (mkD9 (d_1 d) (d_2 d) (d_3 d) (d_l d) (d_s d) (d_f d) (d_a d) (va_up (d_r d) j1 (upd (d_r d j1) 1 (nI j2))) (d_p d)) (S_at S (upd (s_at S) j1 (nI j2))) F)) H locs := gO.sx hO
    refine gXCall_i (mc := 2) (ms := 12) (As := [.int (nI j1), .int (nI j2)]) (rest := []) C hO (c_X2_seek l E a S mk rk rv (sW E o (mkD9 (d_1 d) (d_2 d) (d_3 d) (d_l d) (d_s d) (d_f d) (d_a d) (va_up (d_r d) j1 (upd (d_r d j1) 1 (nI j2))) (d_p d)) (S_at S (upd (s_at S) j1 (nI j2))) F) (nI j1) (nI j2) hst hI) (cwV 2 C.2.2.2.2.1 gL_act_X2_seek rfl rfl rfl (by decide +kernel) ⟨(Nat.le_of_ble_eq_true rfl), (Nat.le_of_ble_eq_true rfl)⟩) (va_recv C.2.2.2.2.2.2.2.1.1 hO.1 (ci := 2) (q0 := 0) rfl rfl) rfl hl.1 rfl (Nat.le_of_ble_eq_true rfl) dL_act_216 ⟨(Nat.le_of_ble_eq_true rfl), (Nat.le_of_ble_eq_true rfl)⟩ (fun E0 ce q9 H locs hO hcell hcv hcl hbad => ?_) (fun H locs hO _ => ?_)
    · exact hbad.elim (fun q => absurd (okShip_nI hsh hj1) q.2) (fun q => absurd (okOff_nI ez0 hz0 (by omega)) q.2.2)
    rw [show (nI j1).toNatClampNeg = j1 from nI_clamp (by omega)] at hO
    have hO : gO E A s (sW E o (mkD9 (d_1 d) (d_2 d) (d_3 d) (d_l d) (d_s d) (d_f d) (d_a d) (va_up (d_r d) j1 (upd (d_r d j1) 1 (nI j2))) (d_p d)) (S_at S (upd (s_at S) j1 (nI j2))) ((xW E a (S_at S (upd (s_at S) j1 (nI j2))) mk rk rv) ++ F)) H locs := gO.xs hO
    refine lv_eqi (y := s_at S j1) (by rw [nI_clamp (by omega)]) ?_
    refine lv_iload C.1 C.2.1 dL_act_219 (lv_at hl 0 rfl) ?_
    refine lv_icmp_ne (tgt := 228) C.1 C.2.1 dL_act_221 (by decide) (fun c_3 => ?_) (fun c_3 => ?_)
    · exact absurd rfl c_3
    · refine lv_iconst (v := 1) C.1 C.2.1 dL_act_224 (by decide) ?_
      refine lv_goto (tgt := 229) C.1 C.2.1 dL_act_225 (by decide) ?_
      exact gRe ((S_at S (upd (s_at S) j1 (nI j2))), (mkD9 (d_1 d) (d_2 d) (d_3 d) (d_l d) (d_s d) (d_f d) (d_a d) (va_up (d_r d) j1 (upd (d_r d j1) 1 (nI j2))) (d_p d)), mk, rk, rv) C hO rfl (⟨rfl, (hJ.seek (by rw [nI_toInt (by omega)]; omega) (by rw [ez0, nI_toInt (by omega), nI_toInt (by omega)]; omega)).mono (by omega), hR1⟩) dL_act_229 (Nat.le_of_ble_eq_true rfl) (Nat.le_of_ble_eq_true rfl)
  · refine lv_iconst (v := 1) C.1 C.2.1 dL_act_166 (by decide) ?_
    exact gRe (S, d, mk, rk, rv) C hO rfl (⟨rfl, hJ.mono (by omega), hR⟩) dL_act_167 (Nat.le_of_ble_eq_true rfl) (Nat.le_of_ble_eq_true rfl)

set_option maxHeartbeats 4000000 in
set_option maxRecDepth 100000 in
theorem act_230 (hst : l.stackTraces = false) (hJ : J9 S B) (hB : B + 48 < 2147480000) (hR : Rep E d S) (C : gCx p s m args meth c cL_act 17 wsL_act RL (some .boolean) E A) (hO : gO E A s (sW E o d S ((xW E a S mk rk rv) ++ F)) H locs) (hl : lv_has ls 17 [(4, .int (nI (s_sc S))), (3, .int (nI (s_sh S))), (0, .ref (a 0)), (1, .ref o), (2, .int x)]) : W p l e aR s m args below meth c H locs 0 0 (MQ below (gQe E A (aP E (B + 48)) (aW E o a F)) args s 200 6000 A) (F0 m 230 ls []) := by
  have hI : s_inv S := hJ.1.inv
  obtain ⟨hn, hsh, hsc, hOn, hOb, hok9, hpc9, hp0⟩ := id hI
  have hsr : s_srt S := hJ.1.1.srt
  obtain ⟨z0, hz0, ez0, hzB⟩ := nx_of hJ.1 (by omega)
  have iX3 : ∀ w ∈ u_ws RX3 TX3 7, w ∈ wsL_act := by decide +kernel
  have w41 : Cond.fieldLink RL 41 "ParrotLogLaw$Sim" "isOn" "Z" ∈ wsL_act := by decide +kernel
  have w15 : Cond.fieldLink RL 15 "ParrotLogLaw$Sim" "said" "[I" ∈ wsL_act := by decide +kernel
  refine lv_aload_n C.1 C.2.1 dL_act_230 rfl (lv_at hl 3 rfl) ?_
  refine gGet (v := .int (s_on S)) (ref := RX3) (Cn := RX3) (T := TX3) (N := 7) C iX3 hO 0 rfl rfl 3 (by decide) w41 (fun _ h9 => h9) rfl dL_act_231 ?_
  refine lv_if_ne (tgt := 244) C.1 C.2.1 dL_act_234 (by decide) (fun c_1 => ?_) (fun c_1 => ?_)
  · refine lv_iconst (v := 1) C.1 C.2.1 dL_act_244 (by decide) ?_
    exact gRe (S, d, mk, rk, rv) C hO rfl (⟨rfl, hJ.mono (by omega), hR⟩) dL_act_245 (Nat.le_of_ble_eq_true rfl) (Nat.le_of_ble_eq_true rfl)
  · have hon9 : s_on S = 0 := c_1
    refine lv_iload C.1 C.2.1 dL_act_237 (lv_at hl 0 rfl) ?_
    refine lv_bipush (v := nI 8) C.1 C.2.1 dL_act_239 (by decide) ?_
    refine gNeN (x := (s_sc S)) (y := 8) (tgt := 246) C.1 C.2.1 (by omega) (by omega) dL_act_241 (by decide) (fun c_2 => ?_) (fun c_2 => ?_)
    · have hm9 : s_sc S < 8 := by omega
      refine lv_aload_n C.1 C.2.1 dL_act_246 rfl (lv_at hl 3 rfl) ?_
      refine lv_iconst (v := 1) C.1 C.2.1 dL_act_247 (by decide) ?_
      refine gPut (ws' := (sR E o (d_1 d) (d_2 d) (d_3 d) (s_hr S) (s_nx S) (s_dr S) 1 (s_n S) (d_l d) (s_sc S) (d_s d) (s_sh S) (d_f d) (shC E (d_a d) (d_r d) (s_sh S) ++ ((d_p d) ++ ((xW E a S mk rk rv) ++ F))))) (ref := RX3) (Cn := RX3) (T := TX3) (N := 7) C iX3 tyX3 tyX3_ok nmX3 hO 0 rfl rfl 3 (by decide) w41 (fun _ h9 => h9) rfl (by decide +kernel) rfl rfl (Nat.le_of_ble_eq_true rfl) rfl dL_act_248 (fun H locs hO => ?_)
      refine lv_iload C.1 C.2.1 dL_act_251 (lv_at hl 0 rfl) ?_
      refine lv_iconst (v := 1) C.1 C.2.1 dL_act_253 (by decide) ?_
      refine gAddN (x := (s_sc S)) (y := 1) C.1 C.2.1 dL_act_254 ?_
      have hO : gO E A s ((sR E o (d_1 d) (d_2 d) (d_3 d) (s_hr S) (s_nx S) (s_dr S) 1 (s_n S) (d_l d) (s_sc S) (d_s d) (s_sh S) (d_f d) []) ++ (shC E (d_a d) (d_r d) (s_sh S) ++ ((d_p d) ++ ((xW E a S mk rk rv) ++ F)))) _ _ := hO
      refine gNewI (N9 := ((s_sc S) + 1)) C (C.2.2.2.2.1 (.arrayClass .int) (by decide +kernel)) hO (by first | decide | omega) (Nat.le_of_ble_eq_true rfl) (by show _ ≤ 6000; omega) dL_act_255 (fun q_n H hO => ?_)
      have hO : gO E A s (sR E o (d_1 d) (d_2 d) (d_3 d) (s_hr S) (s_nx S) (s_dr S) 1 (s_n S) (d_l d) (s_sc S) (d_s d) (s_sh S) (d_f d) ((q_n, .inl (eI E, (s_sc S) + 1, .inl (fun _ => 0))) :: (shC E (d_a d) (d_r d) (s_sh S) ++ ((d_p d) ++ ((xW E a S mk rk rv) ++ F))))) _ _ := hO
      refine lv_astore (lv' := [(8, .ref q_n), (4, .int (nI (s_sc S))), (3, .int (nI (s_sh S))), (0, .ref (a 0)), (1, .ref o), (2, .int x)]) C.1 C.2.1 dL_act_257 hl (by decide) rfl (fun ls hl => ?_)
      refine lv_iconst (v := 0) C.1 C.2.1 dL_act_259 (by decide) ?_
      refine lv_istore (lv' := [(9, .int 0), (8, .ref q_n), (4, .int (nI (s_sc S))), (3, .int (nI (s_sh S))), (0, .ref (a 0)), (1, .ref o), (2, .int x)]) C.1 C.2.1 dL_act_260 hl (by decide) rfl (fun ls hl => ?_)
      have lp262 : ∀ (f : Nat) (k24 : Nat) (f24 : Nat → Int32), (s_sc S + 1 ≤ k24 + f) → (k24 ≤ s_sc S) → (∀ i, i < k24 → f24 i = s_said S i) → (∀ i, k24 ≤ i → f24 i = 0) → ∀ (H : Heap) (locs : List Loc), gO E A s (sR E o (d_1 d) (d_2 d) (d_3 d) (s_hr S) (s_nx S) (s_dr S) 1 (s_n S) (d_l d) (s_sc S) (d_s d) (s_sh S) (d_f d) ((q_n, .inl (eI E, (s_sc S + 1), .inl f24)) :: (shC E (d_a d) (d_r d) (s_sh S) ++ ((d_p d) ++ ((xW E a S mk rk rv) ++ F))))) H locs → ∀ ls : Array Slot, lv_has ls 17 [(0, .ref (a 0)), (1, .ref o), (4, .int (nI (s_sc S))), (8, .ref q_n), (9, .int (nI k24))] → W p l e aR s m args below meth c H locs 1 (s_sc S + 1) (MQ below (gQe E A (aP E (B + 48)) (aW E o a F)) args s 200 6000 A) (F0 m 262 ls []) := by
        intro f
        induction f with
        | zero =>
          intro k24 f24 hf hk24 hf24 hg24
          exact absurd hf (by omega)
        | succ f ih_lp262 =>
          intro k24 f24 hf hk24 hf24 hg24 H locs hO ls hl
          refine lv_iload C.1 C.2.1 dL_act_262 (lv_at hl 4 rfl) ?_
          refine lv_iload C.1 C.2.1 dL_act_264 (lv_at hl 2 rfl) ?_
          refine gGeN (x := k24) (y := (s_sc S)) (tgt := 287) C.1 C.2.1 (by omega) (by omega) dL_act_266 (by decide) (fun c_3 => ?_) (fun c_3 => ?_)
          · refine lv_aload_n C.1 C.2.1 dL_act_287 rfl (lv_at hl 1 rfl) ?_
            refine lv_aload C.1 C.2.1 dL_act_288 (lv_at hl 3 rfl) ?_
            refine gPut (ws' := (sQ E o (d_1 d) q_n (d_3 d) (d_1 d) (d_2 d) (d_3 d) (s_hr S) (s_nx S) (s_dr S) 1 (s_n S) (d_l d) (s_sc S) (d_s d) (s_sh S) (d_f d) ((q_n, .inl (eI E, (s_sc S + 1), .inl f24)) :: (shC E (d_a d) (d_r d) (s_sh S) ++ ((d_p d) ++ ((xW E a S mk rk rv) ++ F)))))) (ref := RX3) (Cn := RX3) (T := TX3) (N := 7) C iX3 tyX3 tyX3_ok nmX3 hO 0 rfl rfl 5 (by decide) w15 (fun _ h9 => h9) rfl (by decide +kernel) rfl rfl (Nat.le_of_ble_eq_true rfl) rfl dL_act_290 (fun H locs hO => ?_)
            have hO : gO E A s (sR E o (d_1 d) q_n (d_3 d) (s_hr S) (s_nx S) (s_dr S) 1 (s_n S) (d_l d) (s_sc S + 1) f24 (s_sh S) (d_f d) (shC E (d_a d) (d_r d) (s_sh S) ++ ((d_p d) ++ ((xW E a S mk rk rv) ++ F)))) _ _ := gO.said1 hO
            have hke9 : k24 = s_sc S := by omega
            rw [hke9] at hf24 hg24
            have hR1 : Rep E (mkD9 (d_1 d) q_n (d_3 d) (d_l d) f24 (d_f d) (d_a d) (d_r d) (d_p d)) (S_storm S 1 (s_sc S + 1)) := rep_storm1 hR (hJ.2.2.2.2.1 _ (Nat.le_refl _)) hf24 (hg24 _ (Nat.le_refl _))
            have hO : gO E A s (sW E o (mkD9 (d_1 d) q_n (d_3 d) (d_l d) f24 (d_f d) (d_a d) (d_r d) (d_p d)) (S_storm S 1 (s_sc S + 1)) ((xW E a S mk rk rv) ++ F)) H locs := hO
            refine lv_aload_n C.1 C.2.1 dL_act_293 rfl (lv_at hl 0 rfl) ?_
            have hO : gO E A s ((xW E a S mk rk rv) ++ (sW E o (mkD9 (d_1 d) q_n (d_3 d) (d_l d) f24 (d_f d) (d_a d) (d_r d) (d_p d)) (S_storm S 1 (s_sc S + 1)) F)) H locs := gO.sx hO
            refine gXCall_i (mc := 1) (ms := 6) (As := []) (rest := []) C hO (c_X2_startStorm l E a S mk rk rv (sW E o (mkD9 (d_1 d) q_n (d_3 d) (d_l d) f24 (d_f d) (d_a d) (d_r d) (d_p d)) (S_storm S 1 (s_sc S + 1)) F)  hst hI) (cwV 0 C.2.2.2.2.1 gL_act_X2_startStorm rfl rfl rfl (by decide +kernel) ⟨(Nat.le_of_ble_eq_true rfl), (Nat.le_of_ble_eq_true rfl)⟩) (va_recv C.2.2.2.2.2.2.2.1.1 hO.1 (ci := 2) (q0 := 0) rfl rfl) rfl hl.1 rfl (Nat.le_of_ble_eq_true rfl) dL_act_294 ⟨(Nat.le_of_ble_eq_true rfl), (by show s_sc S + 1 + 6 ≤ 6000; omega)⟩ (fun E0 ce q9 H locs hO hcell hcv hcl hbad => ?_) (fun H locs hO _ => ?_)
            · exact absurd ⟨hon9, hm9⟩ hbad.2
            have hO : gO E A s (sW E o (mkD9 (d_1 d) q_n (d_3 d) (d_l d) f24 (d_f d) (d_a d) (d_r d) (d_p d)) (S_storm S 1 (s_sc S + 1)) ((xW E a (S_storm S 1 (s_sc S + 1)) mk rk rv) ++ F)) H locs := gO.xs hO
            refine lv_iload C.1 C.2.1 dL_act_297 (lv_at hl 2 rfl) ?_
            refine lv_icmp_ne (tgt := 306) C.1 C.2.1 dL_act_299 (by decide) (fun c_5 => ?_) (fun c_5 => ?_)
            · exact absurd rfl c_5
            · refine lv_iconst (v := 1) C.1 C.2.1 dL_act_302 (by decide) ?_
              refine lv_goto (tgt := 307) C.1 C.2.1 dL_act_303 (by decide) ?_
              exact gRe ((S_storm S 1 (s_sc S + 1)), (mkD9 (d_1 d) q_n (d_3 d) (d_l d) f24 (d_f d) (d_a d) (d_r d) (d_p d)), mk, rk, rv) C hO rfl (⟨rfl, (hJ.storm1 hm9).mono (by omega), hR1⟩) dL_act_307 (Nat.le_of_ble_eq_true rfl) (by omega)
          · refine lv_aload C.1 C.2.1 dL_act_269 (lv_at hl 3 rfl) ?_
            refine lv_iload C.1 C.2.1 dL_act_271 (lv_at hl 4 rfl) ?_
            refine lv_aload_n C.1 C.2.1 dL_act_273 rfl (lv_at hl 1 rfl) ?_
            refine gGet (v := .ref (d_2 d)) (ref := RX3) (Cn := RX3) (T := TX3) (N := 7) C iX3 hO 0 rfl rfl 5 (by decide) w15 (fun _ h9 => h9) rfl dL_act_274 ?_
            refine lv_iload C.1 C.2.1 dL_act_277 (lv_at hl 4 rfl) ?_
            refine gIald (v := s_said S k24) (j := k24) C hO 2 rfl (by omega) (by first | decide | omega | (show s_sc S ≤ 100; omega)) ((hR).2.1 k24 (by omega)) dL_act_279 ?_
            refine gIast (j := k24) (ws' := (sR E o (d_1 d) (d_2 d) (d_3 d) (s_hr S) (s_nx S) (s_dr S) 1 (s_n S) (d_l d) (s_sc S) (d_s d) (s_sh S) (d_f d) ((q_n, .inl (eI E, (s_sc S + 1), .inl (upd f24 k24 (s_said S k24)))) :: (shC E (d_a d) (d_r d) (s_sh S) ++ ((d_p d) ++ ((xW E a S mk rk rv) ++ F)))))) C hO 4 rfl (by first | decide | omega) (by first | decide | omega) rfl dL_act_280 (fun H locs hO => ?_)
            refine gInc (j := k24) (k := 4) (lv' := [(9, .int (nI (k24 + 1))), (0, .ref (a 0)), (1, .ref o), (4, .int (nI (s_sc S))), (8, .ref q_n)]) C.1 C.2.1 dL_act_281 hl rfl (by decide) rfl (fun ls hl => ?_)
            refine lv_goto (tgt := 262) C.1 C.2.1 dL_act_284 (by decide) ?_
            exact ih_lp262 (k24 + 1) (upd f24 k24 (s_said S k24)) (by omega) (by omega) (fun i hi => by by_cases q : i = k24; (rw [q, upd_at]); (rw [upd, if_neg q]; exact hf24 i (by omega))) (fun i hi => by rw [upd, if_neg (by omega)]; exact hg24 i (by omega)) _ _ hO _ (lv_sub hl [1, 2, 3, 4, 0] rfl)
      refine W.widen (k := 1) (n := s_sc S + 1) (by omega) (by omega) ?_
      exact lp262 (s_sc S + 1) 0 (fun _ => 0) (by omega) (Nat.zero_le _) (fun i hi => absurd hi (Nat.not_lt_zero _)) (fun i _ => rfl) _ _ hO _ (lv_sub hl [4, 5, 2, 1, 0] rfl)
    · refine lv_iconst (v := 1) C.1 C.2.1 dL_act_244 (by decide) ?_
      exact gRe (S, d, mk, rk, rv) C hO rfl (⟨rfl, hJ.mono (by omega), hR⟩) dL_act_245 (Nat.le_of_ble_eq_true rfl) (Nat.le_of_ble_eq_true rfl)

set_option maxHeartbeats 4000000 in
set_option maxRecDepth 100000 in
theorem act_308 (hst : l.stackTraces = false) (hJ : J9 S B) (hB : B + 48 < 2147480000) (hR : Rep E d S) (C : gCx p s m args meth c cL_act 17 wsL_act RL (some .boolean) E A) (hO : gO E A s (sW E o d S ((xW E a S mk rk rv) ++ F)) H locs) (hl : lv_has ls 17 [(4, .int (nI (s_sc S))), (3, .int (nI (s_sh S))), (0, .ref (a 0)), (1, .ref o), (2, .int x)]) : W p l e aR s m args below meth c H locs 0 0 (MQ below (gQe E A (aP E (B + 48)) (aW E o a F)) args s 200 6000 A) (F0 m 308 ls []) := by
  have hI : s_inv S := hJ.1.inv
  obtain ⟨hn, hsh, hsc, hOn, hOb, hok9, hpc9, hp0⟩ := id hI
  have hsr : s_srt S := hJ.1.1.srt
  obtain ⟨z0, hz0, ez0, hzB⟩ := nx_of hJ.1 (by omega)
  have iX3 : ∀ w ∈ u_ws RX3 TX3 7, w ∈ wsL_act := by decide +kernel
  have w41 : Cond.fieldLink RL 41 "ParrotLogLaw$Sim" "isOn" "Z" ∈ wsL_act := by decide +kernel
  have w15 : Cond.fieldLink RL 15 "ParrotLogLaw$Sim" "said" "[I" ∈ wsL_act := by decide +kernel
  refine lv_aload_n C.1 C.2.1 dL_act_308 rfl (lv_at hl 3 rfl) ?_
  refine gGet (v := .int (s_on S)) (ref := RX3) (Cn := RX3) (T := TX3) (N := 7) C iX3 hO 0 rfl rfl 3 (by decide) w41 (fun _ h9 => h9) rfl dL_act_309 ?_
  refine lv_if_ne (tgt := 317) C.1 C.2.1 dL_act_312 (by decide) (fun c_1 => ?_) (fun c_1 => ?_)
  · have hon9 : ¬ s_on S = 0 := c_1
    have hm9 := hOn hon9
    refine lv_aload_n C.1 C.2.1 dL_act_317 rfl (lv_at hl 3 rfl) ?_
    refine lv_iconst (v := 0) C.1 C.2.1 dL_act_318 (by decide) ?_
    refine gPut (ws' := (sR E o (d_1 d) (d_2 d) (d_3 d) (s_hr S) (s_nx S) (s_dr S) 0 (s_n S) (d_l d) (s_sc S) (d_s d) (s_sh S) (d_f d) (shC E (d_a d) (d_r d) (s_sh S) ++ ((d_p d) ++ ((xW E a S mk rk rv) ++ F))))) (ref := RX3) (Cn := RX3) (T := TX3) (N := 7) C iX3 tyX3 tyX3_ok nmX3 hO 0 rfl rfl 3 (by decide) w41 (fun _ h9 => h9) rfl (by decide +kernel) rfl rfl (Nat.le_of_ble_eq_true rfl) rfl dL_act_319 (fun H locs hO => ?_)
    have hR1 : Rep E d (S_storm S 0 (s_sc S)) := hR
    have hO : gO E A s (sW E o d (S_storm S 0 (s_sc S)) ((xW E a S mk rk rv) ++ F)) H locs := hO
    refine lv_aload_n C.1 C.2.1 dL_act_322 rfl (lv_at hl 2 rfl) ?_
    have hO : gO E A s ((xW E a S mk rk rv) ++ (sW E o d (S_storm S 0 (s_sc S)) F)) H locs := gO.sx hO
    refine gXCall_i (mc := 1) (ms := 6) (As := []) (rest := []) C hO (c_X2_endStorm l E a S mk rk rv (sW E o d (S_storm S 0 (s_sc S)) F)  hst hI) (cwV 0 C.2.2.2.2.1 gL_act_X2_endStorm rfl rfl rfl (by decide +kernel) ⟨(Nat.le_of_ble_eq_true rfl), (Nat.le_of_ble_eq_true rfl)⟩) (va_recv C.2.2.2.2.2.2.2.1.1 hO.1 (ci := 2) (q0 := 0) rfl rfl) rfl hl.1 rfl (Nat.le_of_ble_eq_true rfl) dL_act_323 ⟨(Nat.le_of_ble_eq_true rfl), (Nat.le_of_ble_eq_true rfl)⟩ (fun E0 ce q9 H locs hO hcell hcv hcl hbad => ?_) (fun H locs hO _ => ?_)
    · exact absurd hbad.2 hon9
    have hO : gO E A s (sW E o d (S_storm S 0 (s_sc S)) ((xW E a (S_storm S 0 (s_sc S)) mk rk rv) ++ F)) H locs := gO.xs hO
    refine lv_aload_n C.1 C.2.1 dL_act_326 rfl (lv_at hl 3 rfl) ?_
    refine gGet (v := .ref (d_2 d)) (ref := RX3) (Cn := RX3) (T := TX3) (N := 7) C iX3 hO 0 rfl rfl 5 (by decide) w15 (fun _ h9 => h9) rfl dL_act_327 ?_
    refine lv_iload C.1 C.2.1 dL_act_330 (lv_at hl 0 rfl) ?_
    refine lv_iconst (v := 1) C.1 C.2.1 dL_act_332 (by decide) ?_
    refine gSubN (x := (s_sc S)) (y := 1) C.1 C.2.1 (by omega) dL_act_333 ?_
    refine gIald (v := s_said S (s_sc S - 1)) (j := ((s_sc S) - 1)) C hO 2 rfl (show s_sc S - 1 < s_sc S by omega) (by first | decide | omega | (show s_sc S ≤ 100; omega)) (hR.2.1 _ (show s_sc S - 1 < s_sc S by omega)) dL_act_334 ?_
    refine lv_icmp_ne (tgt := 342) C.1 C.2.1 dL_act_335 (by decide) (fun c_3 => ?_) (fun c_3 => ?_)
    · exact absurd rfl c_3
    · refine lv_iconst (v := 1) C.1 C.2.1 dL_act_338 (by decide) ?_
      refine lv_goto (tgt := 343) C.1 C.2.1 dL_act_339 (by decide) ?_
      exact gRe ((S_storm S 0 (s_sc S)), d, mk, rk, rv) C hO rfl (⟨rfl, hJ.storm0.mono (by omega), hR1⟩) dL_act_343 (Nat.le_of_ble_eq_true rfl) (Nat.le_of_ble_eq_true rfl)
  · refine lv_iconst (v := 1) C.1 C.2.1 dL_act_315 (by decide) ?_
    exact gRe (S, d, mk, rk, rv) C hO rfl (⟨rfl, hJ.mono (by omega), hR⟩) dL_act_316 (Nat.le_of_ble_eq_true rfl) (Nat.le_of_ble_eq_true rfl)
end AC
