set_option maxHeartbeats 4000000 in
set_option maxRecDepth 100000 in
theorem c_X3_drop (l : Launch) (E : gE) (b : Nat → Nat) (S : St) (th : Int32) (mk : Nat → Int32) (F : va_W)  (hn : s_n S ≤ 48) (hsh : s_sh S ≤ 6) (hsr : s_srt S) : gMi l E yX3_drop wsX3_drop ({ frames := 0, cells := 0, slots := 0, locals := 0 }) (mW E b S th mk ++ F) [.ref (b 0)] (nI (s_n S - cpN mk (s_n S))) (mW E b (S_drop S mk) th mk ++ F) 0 0 := by
  refine gMi.of (cc := cX3_drop) (maxL := 4) (ty := .int) (by decide) rfl (Nat.le_of_ble_eq_true rfl) ?_
  intro p e s m args below meth c A C ls hl hO
  have hl : lv_has ls 4 [(0, .ref (b 0))] := hl
  have iX3 : ∀ w ∈ u_ws RX3 TX3 19, w ∈ wsX3_drop := by decide +kernel
  have w58 : Cond.fieldLink RX3 58 "ParrotLogModel" "many" "I" ∈ wsX3_drop := by decide +kernel
  have w61 : Cond.fieldLink RX3 61 "ParrotLogModel" "dropped" "I" ∈ wsX3_drop := by decide +kernel
  have w22 : Cond.fieldLink RX3 22 "ParrotLogModel" "goes" "[Z" ∈ wsX3_drop := by decide +kernel
  have w9 : Cond.fieldLink RX3 9 "ParrotLogModel" "offset" "[I" ∈ wsX3_drop := by decide +kernel
  have w13 : Cond.fieldLink RX3 13 "ParrotLogModel" "key" "[I" ∈ wsX3_drop := by decide +kernel
  have w16 : Cond.fieldLink RX3 16 "ParrotLogModel" "value" "[I" ∈ wsX3_drop := by decide +kernel
  have w19 : Cond.fieldLink RX3 19 "ParrotLogModel" "storm" "[I" ∈ wsX3_drop := by decide +kernel
  have w48 : Cond.fieldLink RX3 48 "ParrotLogModel" "ships" "I" ∈ wsX3_drop := by decide +kernel
  have w38 : Cond.fieldLink RX3 38 "ParrotLogModel" "missed" "[I" ∈ wsX3_drop := by decide +kernel
  have w32 : Cond.fieldLink RX3 32 "ParrotLogModel" "at" "[I" ∈ wsX3_drop := by decide +kernel
  have hO : gO E A s (mW E b (mkS (cpF mk (s_off S) (0)) (cpF mk (s_key S) (0)) (cpF mk (s_val S) (0)) (cpF mk (s_sto S) (0)) (s_n S) (s_nx S) (s_dr S) (s_hr S) (s_sc S) (s_on S) (s_said S) (s_sh S) (s_pc S) (s_at S) (s_hd S) (mkU (fun i => s_ms S i + nI (cmo mk (s_off S) (s_at S i) (0))) (s_ms S) (s_sh S)) (s_kn S)) th mk ++ F) s.heap [] := by rw [mkU_id (fun i _ => by show s_ms S i + nI 0 = _; rw [nI_0, Int32.add_zero])]; exact hO
  refine lv_iconst (v := 0) C.1 C.2.1 dX3_drop_0 (by decide) ?_
  refine lv_istore_n (lv' := [(1, .int 0), (0, .ref (b 0))]) C.1 C.2.1 dX3_drop_1 rfl hl (by decide) rfl (fun ls hl => ?_)
  refine lv_iconst (v := 0) C.1 C.2.1 dX3_drop_2 (by decide) ?_
  refine lv_istore_n (lv' := [(2, .int 0), (1, .int 0), (0, .ref (b 0))]) C.1 C.2.1 dX3_drop_3 rfl hl (by decide) rfl (fun ls hl => ?_)
  have lp24 : ∀ (f : Nat) (k : Nat), (s_n S + 1 ≤ k + f) → (k ≤ s_n S) → ∀ (H : Heap) (locs : List Loc), gO E A s (mW E b (mkS (cpF mk (s_off S) (k)) (cpF mk (s_key S) (k)) (cpF mk (s_val S) (k)) (cpF mk (s_sto S) (k)) (s_n S) (s_nx S) (s_dr S) (s_hr S) (s_sc S) (s_on S) (s_said S) (s_sh S) (s_pc S) (s_at S) (s_hd S) (mkU (fun i => s_ms S i + nI (cmo mk (s_off S) (s_at S i) (k))) (s_ms S) (s_sh S)) (s_kn S)) th mk ++ F) H locs → ∀ ls : Array Slot, lv_has ls 4 [(0, .ref (b 0)), (1, .int (nI (cpN mk k))), (2, .int (nI k))] → W p l e ({ frames := 0, cells := 0, slots := 0, locals := 0 } : Room) s m args below meth c H locs 0 0 (MQ below (gQi E A (nI (s_n S - cpN mk (s_n S))) (mW E b (S_drop S mk) th mk ++ F)) args s 0 0 A) (F0 m 4 ls []) := by
    intro f
    induction f with
    | zero =>
      intro k hf hk
      exact absurd hf (by omega)
    | succ f ih_lp24 =>
      intro k hf hk H locs hO ls hl
      refine lv_iload_n C.1 C.2.1 dX3_drop_4 rfl (lv_at hl 2 rfl) ?_
      refine lv_aload_n C.1 C.2.1 dX3_drop_5 rfl (lv_at hl 0 rfl) ?_
      refine gGet (v := .int (nI (s_n S))) (ref := RX3) (Cn := RX3) (T := TX3) (N := 19) C iX3 hO 0 rfl rfl 1 (by decide) w58 (fun _ h9 => h9) rfl dX3_drop_6 ?_
      refine gGeN (x := k) (y := (s_n S)) (tgt := 126) C.1 C.2.1 (by omega) (by omega) dX3_drop_9 (by decide) (fun c_1 => ?_) (fun c_1 => ?_)
      · have hk9 : k = s_n S := by omega
        rw [hk9] at hO hl
        rw [s_md_of hsr mk] at hO
        have hl := lv_sub hl [0, 1] rfl
        have hl : lv_has ls 4 [(0, .ref (b 0)), (1, .int (nI (cpN mk (s_n S))))] := hl
        have hle := cpN_le mk (s_n S)
        refine lv_aload_n C.1 C.2.1 dX3_drop_126 rfl (lv_at hl 0 rfl) ?_
        refine gGet (v := .int (nI (s_n S))) (ref := RX3) (Cn := RX3) (T := TX3) (N := 19) C iX3 hO 0 rfl rfl 1 (by decide) w58 (fun _ h9 => h9) rfl dX3_drop_127 ?_
        refine lv_iload_n C.1 C.2.1 dX3_drop_130 rfl (lv_at hl 1 rfl) ?_
        refine gSubN (x := (s_n S)) (y := (cpN mk (s_n S))) C.1 C.2.1 hle dX3_drop_131 ?_
        refine lv_istore_n (lv' := [(2, .int (nI ((s_n S) - (cpN mk (s_n S))))), (0, .ref (b 0)), (1, .int (nI (cpN mk (s_n S))))]) C.1 C.2.1 dX3_drop_132 rfl hl (by decide) rfl (fun ls hl => ?_)
        refine lv_aload_n C.1 C.2.1 dX3_drop_133 rfl (lv_at hl 1 rfl) ?_
        refine lv_iload_n C.1 C.2.1 dX3_drop_134 rfl (lv_at hl 2 rfl) ?_
        refine gPut (ws' := (mW E b (mkS (cpF mk (s_off S) (s_n S)) (cpF mk (s_key S) (s_n S)) (cpF mk (s_val S) (s_n S)) (cpF mk (s_sto S) (s_n S)) (cpN mk (s_n S)) (s_nx S) (s_dr S) (s_hr S) (s_sc S) (s_on S) (s_said S) (s_sh S) (s_pc S) (s_at S) (s_hd S) (s_md S mk) (s_kn S)) th mk ++ F)) (ref := RX3) (Cn := RX3) (T := TX3) (N := 19) C iX3 tyX3 tyX3_ok nmX3 hO 0 rfl rfl 1 (by decide) w58 (fun _ h9 => h9) rfl (by decide +kernel) rfl rfl (Nat.le_of_ble_eq_true rfl) rfl dX3_drop_135 (fun H locs hO => ?_)
        refine lv_aload_n C.1 C.2.1 dX3_drop_138 rfl (lv_at hl 1 rfl) ?_
        refine lv_dup C.1 C.2.1 dX3_drop_139 rfl ?_
        refine gGet (v := .int (s_dr S)) (ref := RX3) (Cn := RX3) (T := TX3) (N := 19) C iX3 hO 0 rfl rfl 8 (by decide) w61 (fun _ h9 => h9) rfl dX3_drop_140 ?_
        refine lv_iload_n C.1 C.2.1 dX3_drop_143 rfl (lv_at hl 0 rfl) ?_
        refine lv_iadd C.1 C.2.1 dX3_drop_144 ?_
        refine gPut (ws' := (mW E b (mkS (cpF mk (s_off S) (s_n S)) (cpF mk (s_key S) (s_n S)) (cpF mk (s_val S) (s_n S)) (cpF mk (s_sto S) (s_n S)) (cpN mk (s_n S)) (s_nx S) ((s_dr S) + (nI ((s_n S) - (cpN mk (s_n S))))) (s_hr S) (s_sc S) (s_on S) (s_said S) (s_sh S) (s_pc S) (s_at S) (s_hd S) (s_md S mk) (s_kn S)) th mk ++ F)) (ref := RX3) (Cn := RX3) (T := TX3) (N := 19) C iX3 tyX3 tyX3_ok nmX3 hO 0 rfl rfl 8 (by decide) w61 (fun _ h9 => h9) rfl (by decide +kernel) rfl rfl (Nat.le_of_ble_eq_true rfl) rfl dX3_drop_145 (fun H locs hO => ?_)
        refine lv_iload_n C.1 C.2.1 dX3_drop_148 rfl (lv_at hl 0 rfl) ?_
        exact gRi C hO rfl rfl dX3_drop_149 (Nat.le_of_ble_eq_true rfl) (Nat.le_of_ble_eq_true rfl)
      · have hle := cpN_le mk k
        refine lv_aload_n C.1 C.2.1 dX3_drop_12 rfl (lv_at hl 0 rfl) ?_
        refine gGet (v := .ref (b 5)) (ref := RX3) (Cn := RX3) (T := TX3) (N := 19) C iX3 hO 0 rfl rfl 6 (by decide) w22 (fun _ h9 => h9) rfl dX3_drop_13 ?_
        refine lv_iload_n C.1 C.2.1 dX3_drop_16 rfl (lv_at hl 2 rfl) ?_
        refine gZald (v := mk k) (j := k) C hO 5 rfl (by omega) (by decide) rfl dX3_drop_17 ?_
        refine lv_if_eq (tgt := 69) C.1 C.2.1 dX3_drop_18 (by decide) (fun c_2 => ?_) (fun c_2 => ?_)
        · have hz : mk k = 0 := c_2
          refine lv_aload_n C.1 C.2.1 dX3_drop_69 rfl (lv_at hl 0 rfl) ?_
          refine gGet (v := .ref (b 1)) (ref := RX3) (Cn := RX3) (T := TX3) (N := 19) C iX3 hO 0 rfl rfl 2 (by decide) w9 (fun _ h9 => h9) rfl dX3_drop_70 ?_
          refine lv_iload_n C.1 C.2.1 dX3_drop_73 rfl (lv_at hl 1 rfl) ?_
          refine lv_aload_n C.1 C.2.1 dX3_drop_74 rfl (lv_at hl 0 rfl) ?_
          refine gGet (v := .ref (b 1)) (ref := RX3) (Cn := RX3) (T := TX3) (N := 19) C iX3 hO 0 rfl rfl 2 (by decide) w9 (fun _ h9 => h9) rfl dX3_drop_75 ?_
          refine lv_iload_n C.1 C.2.1 dX3_drop_78 rfl (lv_at hl 2 rfl) ?_
          refine gIald (v := (cpF mk (s_off S) (k)) k) (j := k) C hO 1 rfl (by omega) (by decide) rfl dX3_drop_79 ?_
          refine gIast (j := (cpN mk k)) (ws' := (mW E b (mkS (upd (cpF mk (s_off S) (k)) (cpN mk k) ((cpF mk (s_off S) (k)) k)) (cpF mk (s_key S) (k)) (cpF mk (s_val S) (k)) (cpF mk (s_sto S) (k)) (s_n S) (s_nx S) (s_dr S) (s_hr S) (s_sc S) (s_on S) (s_said S) (s_sh S) (s_pc S) (s_at S) (s_hd S) (mkU (fun i => s_ms S i + nI (cmo mk (s_off S) (s_at S i) (k))) (s_ms S) (s_sh S)) (s_kn S)) th mk ++ F)) C hO 1 rfl (by omega) (by decide) rfl dX3_drop_80 (fun H locs hO => ?_)
          refine lv_aload_n C.1 C.2.1 dX3_drop_81 rfl (lv_at hl 0 rfl) ?_
          refine gGet (v := .ref (b 2)) (ref := RX3) (Cn := RX3) (T := TX3) (N := 19) C iX3 hO 0 rfl rfl 3 (by decide) w13 (fun _ h9 => h9) rfl dX3_drop_82 ?_
          refine lv_iload_n C.1 C.2.1 dX3_drop_85 rfl (lv_at hl 1 rfl) ?_
          refine lv_aload_n C.1 C.2.1 dX3_drop_86 rfl (lv_at hl 0 rfl) ?_
          refine gGet (v := .ref (b 2)) (ref := RX3) (Cn := RX3) (T := TX3) (N := 19) C iX3 hO 0 rfl rfl 3 (by decide) w13 (fun _ h9 => h9) rfl dX3_drop_87 ?_
          refine lv_iload_n C.1 C.2.1 dX3_drop_90 rfl (lv_at hl 2 rfl) ?_
          refine gIald (v := (cpF mk (s_key S) (k)) k) (j := k) C hO 2 rfl (by omega) (by decide) rfl dX3_drop_91 ?_
          refine gIast (j := (cpN mk k)) (ws' := (mW E b (mkS (upd (cpF mk (s_off S) (k)) (cpN mk k) ((cpF mk (s_off S) (k)) k)) (upd (cpF mk (s_key S) (k)) (cpN mk k) ((cpF mk (s_key S) (k)) k)) (cpF mk (s_val S) (k)) (cpF mk (s_sto S) (k)) (s_n S) (s_nx S) (s_dr S) (s_hr S) (s_sc S) (s_on S) (s_said S) (s_sh S) (s_pc S) (s_at S) (s_hd S) (mkU (fun i => s_ms S i + nI (cmo mk (s_off S) (s_at S i) (k))) (s_ms S) (s_sh S)) (s_kn S)) th mk ++ F)) C hO 2 rfl (by omega) (by decide) rfl dX3_drop_92 (fun H locs hO => ?_)
          refine lv_aload_n C.1 C.2.1 dX3_drop_93 rfl (lv_at hl 0 rfl) ?_
          refine gGet (v := .ref (b 3)) (ref := RX3) (Cn := RX3) (T := TX3) (N := 19) C iX3 hO 0 rfl rfl 4 (by decide) w16 (fun _ h9 => h9) rfl dX3_drop_94 ?_
          refine lv_iload_n C.1 C.2.1 dX3_drop_97 rfl (lv_at hl 1 rfl) ?_
          refine lv_aload_n C.1 C.2.1 dX3_drop_98 rfl (lv_at hl 0 rfl) ?_
          refine gGet (v := .ref (b 3)) (ref := RX3) (Cn := RX3) (T := TX3) (N := 19) C iX3 hO 0 rfl rfl 4 (by decide) w16 (fun _ h9 => h9) rfl dX3_drop_99 ?_
          refine lv_iload_n C.1 C.2.1 dX3_drop_102 rfl (lv_at hl 2 rfl) ?_
          refine gIald (v := (cpF mk (s_val S) (k)) k) (j := k) C hO 3 rfl (by omega) (by decide) rfl dX3_drop_103 ?_
          refine gIast (j := (cpN mk k)) (ws' := (mW E b (mkS (upd (cpF mk (s_off S) (k)) (cpN mk k) ((cpF mk (s_off S) (k)) k)) (upd (cpF mk (s_key S) (k)) (cpN mk k) ((cpF mk (s_key S) (k)) k)) (upd (cpF mk (s_val S) (k)) (cpN mk k) ((cpF mk (s_val S) (k)) k)) (cpF mk (s_sto S) (k)) (s_n S) (s_nx S) (s_dr S) (s_hr S) (s_sc S) (s_on S) (s_said S) (s_sh S) (s_pc S) (s_at S) (s_hd S) (mkU (fun i => s_ms S i + nI (cmo mk (s_off S) (s_at S i) (k))) (s_ms S) (s_sh S)) (s_kn S)) th mk ++ F)) C hO 3 rfl (by omega) (by decide) rfl dX3_drop_104 (fun H locs hO => ?_)
          refine lv_aload_n C.1 C.2.1 dX3_drop_105 rfl (lv_at hl 0 rfl) ?_
          refine gGet (v := .ref (b 4)) (ref := RX3) (Cn := RX3) (T := TX3) (N := 19) C iX3 hO 0 rfl rfl 5 (by decide) w19 (fun _ h9 => h9) rfl dX3_drop_106 ?_
          refine lv_iload_n C.1 C.2.1 dX3_drop_109 rfl (lv_at hl 1 rfl) ?_
          refine lv_aload_n C.1 C.2.1 dX3_drop_110 rfl (lv_at hl 0 rfl) ?_
          refine gGet (v := .ref (b 4)) (ref := RX3) (Cn := RX3) (T := TX3) (N := 19) C iX3 hO 0 rfl rfl 5 (by decide) w19 (fun _ h9 => h9) rfl dX3_drop_111 ?_
          refine lv_iload_n C.1 C.2.1 dX3_drop_114 rfl (lv_at hl 2 rfl) ?_
          refine gIald (v := (cpF mk (s_sto S) (k)) k) (j := k) C hO 4 rfl (by omega) (by decide) rfl dX3_drop_115 ?_
          refine gIast (j := (cpN mk k)) (ws' := (mW E b (mkS (upd (cpF mk (s_off S) (k)) (cpN mk k) ((cpF mk (s_off S) (k)) k)) (upd (cpF mk (s_key S) (k)) (cpN mk k) ((cpF mk (s_key S) (k)) k)) (upd (cpF mk (s_val S) (k)) (cpN mk k) ((cpF mk (s_val S) (k)) k)) (upd (cpF mk (s_sto S) (k)) (cpN mk k) ((cpF mk (s_sto S) (k)) k)) (s_n S) (s_nx S) (s_dr S) (s_hr S) (s_sc S) (s_on S) (s_said S) (s_sh S) (s_pc S) (s_at S) (s_hd S) (mkU (fun i => s_ms S i + nI (cmo mk (s_off S) (s_at S i) (k))) (s_ms S) (s_sh S)) (s_kn S)) th mk ++ F)) C hO 4 rfl (by omega) (by decide) rfl dX3_drop_116 (fun H locs hO => ?_)
          refine gInc (j := (cpN mk k)) (k := 1) (lv' := [(1, .int (nI ((cpN mk k) + 1))), (0, .ref (b 0)), (2, .int (nI k))]) C.1 C.2.1 dX3_drop_117 hl rfl (by decide) rfl (fun ls hl => ?_)
          have eGD : (fun i => s_ms S i + nI (cmo mk (s_off S) (s_at S i) (k + 1))) = (fun i => s_ms S i + nI (cmo mk (s_off S) (s_at S i) (k))) := by funext i9; rw [cmo_00 hz]
          have hO : gO E A s (mW E b (mkS (cpF mk (s_off S) (k + 1)) (cpF mk (s_key S) (k + 1)) (cpF mk (s_val S) (k + 1)) (cpF mk (s_sto S) (k + 1)) (s_n S) (s_nx S) (s_dr S) (s_hr S) (s_sc S) (s_on S) (s_said S) (s_sh S) (s_pc S) (s_at S) (s_hd S) (mkU (fun i => s_ms S i + nI (cmo mk (s_off S) (s_at S i) (k + 1))) (s_ms S) (s_sh S)) (s_kn S)) th mk ++ F) H locs := by rw [cf_s1 hz, cf_s1 hz, cf_s1 hz, cf_s1 hz, eGD]; exact hO
          have hl : lv_has ls 4 [(1, .int (nI (cpN mk (k + 1)))), (0, .ref (b 0)), (2, .int (nI k))] := by rw [cp_s1 hz]; exact hl
          refine gInc (j := k) (k := 2) (lv' := [(2, .int (nI (k + 1))), (1, .int (nI (cpN mk (k + 1)))), (0, .ref (b 0))]) C.1 C.2.1 dX3_drop_120 hl rfl (by decide) rfl (fun ls hl => ?_)
          refine lv_goto (tgt := 4) C.1 C.2.1 dX3_drop_123 (by decide) ?_
          exact ih_lp24 (k + 1) (by omega) (by omega) _ _ hO _ (lv_sub hl [2, 1, 0] rfl)
        · have hz : ¬ mk k = 0 := c_2
          have hO : gO E A s (mW E b (mkS (cpF mk (s_off S) (k)) (cpF mk (s_key S) (k)) (cpF mk (s_val S) (k)) (cpF mk (s_sto S) (k)) (s_n S) (s_nx S) (s_dr S) (s_hr S) (s_sc S) (s_on S) (s_said S) (s_sh S) (s_pc S) (s_at S) (s_hd S) (mkU (fun i => s_ms S i + nI (cmo mk (s_off S) (s_at S i) (k + 1))) (mkU (fun i => s_ms S i + nI (cmo mk (s_off S) (s_at S i) (k))) (s_ms S) (s_sh S)) (0)) (s_kn S)) th mk ++ F) H locs := by rw [mkU_0]; exact hO
          refine lv_iconst (v := 0) C.1 C.2.1 dX3_drop_21 (by decide) ?_
          refine lv_istore_n (lv' := [(3, .int 0), (0, .ref (b 0)), (1, .int (nI (cpN mk k))), (2, .int (nI k))]) C.1 C.2.1 dX3_drop_22 rfl hl (by decide) rfl (fun ls hl => ?_)
          have lp25 : ∀ (f : Nat) (s9 : Nat), (s_sh S + 1 ≤ s9 + f) → (s9 ≤ s_sh S) → ∀ (H : Heap) (locs : List Loc), gO E A s (mW E b (mkS (cpF mk (s_off S) (k)) (cpF mk (s_key S) (k)) (cpF mk (s_val S) (k)) (cpF mk (s_sto S) (k)) (s_n S) (s_nx S) (s_dr S) (s_hr S) (s_sc S) (s_on S) (s_said S) (s_sh S) (s_pc S) (s_at S) (s_hd S) (mkU (fun i => s_ms S i + nI (cmo mk (s_off S) (s_at S i) (k + 1))) (mkU (fun i => s_ms S i + nI (cmo mk (s_off S) (s_at S i) (k))) (s_ms S) (s_sh S)) (s9)) (s_kn S)) th mk ++ F) H locs → ∀ ls : Array Slot, lv_has ls 4 [(0, .ref (b 0)), (1, .int (nI (cpN mk k))), (2, .int (nI k)), (3, .int (nI s9))] → W p l e ({ frames := 0, cells := 0, slots := 0, locals := 0 } : Room) s m args below meth c H locs 0 0 (MQ below (gQi E A (nI (s_n S - cpN mk (s_n S))) (mW E b (S_drop S mk) th mk ++ F)) args s 0 0 A) (F0 m 23 ls []) := by
            intro f
            induction f with
            | zero =>
              intro s9 hf hs9
              exact absurd hf (by omega)
            | succ f ih_lp25 =>
              intro s9 hf hs9 H locs hO ls hl
              refine lv_iload_n C.1 C.2.1 dX3_drop_23 rfl (lv_at hl 3 rfl) ?_
              refine lv_aload_n C.1 C.2.1 dX3_drop_24 rfl (lv_at hl 0 rfl) ?_
              refine gGet (v := .int (nI (s_sh S))) (ref := RX3) (Cn := RX3) (T := TX3) (N := 19) C iX3 hO 0 rfl rfl 13 (by decide) w48 (fun _ h9 => h9) rfl dX3_drop_25 ?_
              refine gGeN (x := s9) (y := (s_sh S)) (tgt := 66) C.1 C.2.1 (by omega) (by omega) dX3_drop_28 (by decide) (fun c_3 => ?_) (fun c_3 => ?_)
              · have hs8 : s9 = s_sh S := by omega
                rw [hs8, mkU_mkU] at hO
                have hO : gO E A s (mW E b (mkS (cpF mk (s_off S) (k + 1)) (cpF mk (s_key S) (k + 1)) (cpF mk (s_val S) (k + 1)) (cpF mk (s_sto S) (k + 1)) (s_n S) (s_nx S) (s_dr S) (s_hr S) (s_sc S) (s_on S) (s_said S) (s_sh S) (s_pc S) (s_at S) (s_hd S) (mkU (fun i => s_ms S i + nI (cmo mk (s_off S) (s_at S i) (k + 1))) (s_ms S) (s_sh S)) (s_kn S)) th mk ++ F) H locs := by rw [cf_s0 hz, cf_s0 hz, cf_s0 hz, cf_s0 hz]; exact hO
                have hl := lv_sub hl [0, 1, 2] rfl
                have hl : lv_has ls 4 [(0, .ref (b 0)), (1, .int (nI (cpN mk (k + 1)))), (2, .int (nI k))] := by rw [cp_s0 hz]; exact hl
                refine lv_goto (tgt := 120) C.1 C.2.1 dX3_drop_66 (by decide) ?_
                refine gInc (j := k) (k := 2) (lv' := [(2, .int (nI (k + 1))), (0, .ref (b 0)), (1, .int (nI (cpN mk (k + 1))))]) C.1 C.2.1 dX3_drop_120 hl rfl (by decide) rfl (fun ls hl => ?_)
                refine lv_goto (tgt := 4) C.1 C.2.1 dX3_drop_123 (by decide) ?_
                exact ih_lp24 (k + 1) (by omega) (by omega) _ _ hO _ (lv_sub hl [1, 2, 0] rfl)
              · refine lv_aload_n C.1 C.2.1 dX3_drop_31 rfl (lv_at hl 0 rfl) ?_
                refine gGet (v := .ref (b 10)) (ref := RX3) (Cn := RX3) (T := TX3) (N := 19) C iX3 hO 0 rfl rfl 17 (by decide) w38 (fun _ h9 => h9) rfl dX3_drop_32 ?_
                refine lv_iload_n C.1 C.2.1 dX3_drop_35 rfl (lv_at hl 3 rfl) ?_
                refine lv_dup2_11 C.1 C.2.1 dX3_drop_36 rfl rfl ?_
                refine gIald (v := (mkU (fun i => s_ms S i + nI (cmo mk (s_off S) (s_at S i) (k + 1))) (mkU (fun i => s_ms S i + nI (cmo mk (s_off S) (s_at S i) (k))) (s_ms S) (s_sh S)) (s9)) s9) (j := s9) C hO 10 rfl (by omega) (by decide) rfl dX3_drop_37 ?_
                refine lv_aload_n C.1 C.2.1 dX3_drop_38 rfl (lv_at hl 0 rfl) ?_
                refine gGet (v := .ref (b 8)) (ref := RX3) (Cn := RX3) (T := TX3) (N := 19) C iX3 hO 0 rfl rfl 15 (by decide) w32 (fun _ h9 => h9) rfl dX3_drop_39 ?_
                refine lv_iload_n C.1 C.2.1 dX3_drop_42 rfl (lv_at hl 3 rfl) ?_
                refine gIald (v := (s_at S) s9) (j := s9) C hO 8 rfl (by omega) (by decide) rfl dX3_drop_43 ?_
                refine lv_aload_n C.1 C.2.1 dX3_drop_44 rfl (lv_at hl 0 rfl) ?_
                refine gGet (v := .ref (b 1)) (ref := RX3) (Cn := RX3) (T := TX3) (N := 19) C iX3 hO 0 rfl rfl 2 (by decide) w9 (fun _ h9 => h9) rfl dX3_drop_45 ?_
                refine lv_iload_n C.1 C.2.1 dX3_drop_48 rfl (lv_at hl 2 rfl) ?_
                refine gIald (v := s_off S k) (j := k) C hO 1 rfl (by omega) (by decide) (cpF_ge mk (s_off S) k k hle (Nat.le_refl k)) dX3_drop_49 ?_
                refine lv_icmp_gt (tgt := 57) C.1 C.2.1 dX3_drop_50 (by decide) (fun c_4 => ?_) (fun c_4 => ?_)
                · have hms9 : (fun i => s_ms S i + nI (cmo mk (s_off S) (s_at S i) (k + 1))) s9 = (mkU (fun i => s_ms S i + nI (cmo mk (s_off S) (s_at S i) (k + 1))) (mkU (fun i => s_ms S i + nI (cmo mk (s_off S) (s_at S i) (k))) (s_ms S) (s_sh S)) (s9)) s9 + 0 := by show s_ms S s9 + nI _ = _; rw [cmo_0 c_4, mkU_ge (Nat.lt_irrefl s9), mkU_at (by omega), Int32.add_zero]
                  refine lv_iconst (v := 0) C.1 C.2.1 dX3_drop_57 (by decide) ?_
                  refine lv_iadd C.1 C.2.1 dX3_drop_58 ?_
                  refine gIast (j := s9) (ws' := (mW E b (mkS (cpF mk (s_off S) (k)) (cpF mk (s_key S) (k)) (cpF mk (s_val S) (k)) (cpF mk (s_sto S) (k)) (s_n S) (s_nx S) (s_dr S) (s_hr S) (s_sc S) (s_on S) (s_said S) (s_sh S) (s_pc S) (s_at S) (s_hd S) (upd (mkU (fun i => s_ms S i + nI (cmo mk (s_off S) (s_at S i) (k + 1))) (mkU (fun i => s_ms S i + nI (cmo mk (s_off S) (s_at S i) (k))) (s_ms S) (s_sh S)) (s9)) s9 (((mkU (fun i => s_ms S i + nI (cmo mk (s_off S) (s_at S i) (k + 1))) (mkU (fun i => s_ms S i + nI (cmo mk (s_off S) (s_at S i) (k))) (s_ms S) (s_sh S)) (s9)) s9) + 0)) (s_kn S)) th mk ++ F)) C hO 10 rfl (by omega) (by decide) (ms_ms _) dX3_drop_59 (fun H locs hO => ?_)
                  have hO : gO E A s (mW E b (mkS (cpF mk (s_off S) (k)) (cpF mk (s_key S) (k)) (cpF mk (s_val S) (k)) (cpF mk (s_sto S) (k)) (s_n S) (s_nx S) (s_dr S) (s_hr S) (s_sc S) (s_on S) (s_said S) (s_sh S) (s_pc S) (s_at S) (s_hd S) (mkU (fun i => s_ms S i + nI (cmo mk (s_off S) (s_at S i) (k + 1))) (mkU (fun i => s_ms S i + nI (cmo mk (s_off S) (s_at S i) (k))) (s_ms S) (s_sh S)) (s9 + 1)) (s_kn S)) th mk ++ F) H locs := by rw [mkU_sv (g := (fun i => s_ms S i + nI (cmo mk (s_off S) (s_at S i) (k + 1)))) (mk := mkU (fun i => s_ms S i + nI (cmo mk (s_off S) (s_at S i) (k))) (s_ms S) (s_sh S)) (n := s9) hms9]; exact hO
                  refine gInc (j := s9) (k := 3) (lv' := [(3, .int (nI (s9 + 1))), (0, .ref (b 0)), (1, .int (nI (cpN mk k))), (2, .int (nI k))]) C.1 C.2.1 dX3_drop_60 hl rfl (by decide) rfl (fun ls hl => ?_)
                  refine lv_goto (tgt := 23) C.1 C.2.1 dX3_drop_63 (by decide) ?_
                  exact ih_lp25 (s9 + 1) (by omega) (by omega) _ _ hO _ (lv_sub hl [1, 2, 3, 0] rfl)
                · have hms9 : (fun i => s_ms S i + nI (cmo mk (s_off S) (s_at S i) (k + 1))) s9 = (mkU (fun i => s_ms S i + nI (cmo mk (s_off S) (s_at S i) (k + 1))) (mkU (fun i => s_ms S i + nI (cmo mk (s_off S) (s_at S i) (k))) (s_ms S) (s_sh S)) (s9)) s9 + 1 := by show s_ms S s9 + nI _ = _; rw [cmo_1 hz c_4, mkU_ge (Nat.lt_irrefl s9), mkU_at (by omega), Int32.add_assoc, nI_1]
                  refine lv_iconst (v := 1) C.1 C.2.1 dX3_drop_53 (by decide) ?_
                  refine lv_goto (tgt := 58) C.1 C.2.1 dX3_drop_54 (by decide) ?_
                  refine lv_iadd C.1 C.2.1 dX3_drop_58 ?_
                  refine gIast (j := s9) (ws' := (mW E b (mkS (cpF mk (s_off S) (k)) (cpF mk (s_key S) (k)) (cpF mk (s_val S) (k)) (cpF mk (s_sto S) (k)) (s_n S) (s_nx S) (s_dr S) (s_hr S) (s_sc S) (s_on S) (s_said S) (s_sh S) (s_pc S) (s_at S) (s_hd S) (upd (mkU (fun i => s_ms S i + nI (cmo mk (s_off S) (s_at S i) (k + 1))) (mkU (fun i => s_ms S i + nI (cmo mk (s_off S) (s_at S i) (k))) (s_ms S) (s_sh S)) (s9)) s9 (((mkU (fun i => s_ms S i + nI (cmo mk (s_off S) (s_at S i) (k + 1))) (mkU (fun i => s_ms S i + nI (cmo mk (s_off S) (s_at S i) (k))) (s_ms S) (s_sh S)) (s9)) s9) + 1)) (s_kn S)) th mk ++ F)) C hO 10 rfl (by omega) (by decide) (ms_ms _) dX3_drop_59 (fun H locs hO => ?_)
                  have hO : gO E A s (mW E b (mkS (cpF mk (s_off S) (k)) (cpF mk (s_key S) (k)) (cpF mk (s_val S) (k)) (cpF mk (s_sto S) (k)) (s_n S) (s_nx S) (s_dr S) (s_hr S) (s_sc S) (s_on S) (s_said S) (s_sh S) (s_pc S) (s_at S) (s_hd S) (mkU (fun i => s_ms S i + nI (cmo mk (s_off S) (s_at S i) (k + 1))) (mkU (fun i => s_ms S i + nI (cmo mk (s_off S) (s_at S i) (k))) (s_ms S) (s_sh S)) (s9 + 1)) (s_kn S)) th mk ++ F) H locs := by rw [mkU_sv (g := (fun i => s_ms S i + nI (cmo mk (s_off S) (s_at S i) (k + 1)))) (mk := mkU (fun i => s_ms S i + nI (cmo mk (s_off S) (s_at S i) (k))) (s_ms S) (s_sh S)) (n := s9) hms9]; exact hO
                  refine gInc (j := s9) (k := 3) (lv' := [(3, .int (nI (s9 + 1))), (0, .ref (b 0)), (1, .int (nI (cpN mk k))), (2, .int (nI k))]) C.1 C.2.1 dX3_drop_60 hl rfl (by decide) rfl (fun ls hl => ?_)
                  refine lv_goto (tgt := 23) C.1 C.2.1 dX3_drop_63 (by decide) ?_
                  exact ih_lp25 (s9 + 1) (by omega) (by omega) _ _ hO _ (lv_sub hl [1, 2, 3, 0] rfl)
          exact lp25 (s_sh S + 1) 0 (by omega) (Nat.zero_le _) _ _ hO _ (lv_sub hl [1, 2, 3, 0] rfl)
  exact lp24 (s_n S + 1) 0 (by omega) (Nat.zero_le _) _ _ hO _ (lv_sub hl [2, 1, 0] rfl)
