set_option maxHeartbeats 4000000 in
set_option maxRecDepth 100000 in
theorem c_X3_put (l : Launch) (E : gE) (b : Nat → Nat) (S : St) (th : Int32) (mk : Nat → Int32) (F : va_W) (k v : Int32) (hn : s_n S ≤ 48) (hsh : s_sh S ≤ 6) (hsc : s_sc S ≤ 8) (hOn : ¬ s_on S = 0 → 1 ≤ s_sc S) (hsr : s_srt S) : gMv l E yX3_put wsX3_put ({ frames := 1, cells := 0, slots := 0, locals := 23 }) (mW E b S th mk ++ F) [.ref (b 0), .int k, .int v] (mW E b (S_spk S k v) th (mk_spk S mk) ++ F) 0 0 := by
  refine gMv.of (cc := cX3_put) (maxL := 4) (by decide) rfl (Nat.le_of_ble_eq_true rfl) ?_
  intro p e s m args below meth c A C ls hl hO
  have hl : lv_has ls 4 [(0, .ref (b 0)), (1, .int k), (2, .int v)] := hl
  have iX3 : ∀ w ∈ u_ws RX3 TX3 19, w ∈ wsX3_put := by decide +kernel
  have w58 : Cond.fieldLink RX3 58 "ParrotLogModel" "many" "I" ∈ wsX3_put := by decide +kernel
  have w9 : Cond.fieldLink RX3 9 "ParrotLogModel" "offset" "[I" ∈ wsX3_put := by decide +kernel
  have w68 : Cond.fieldLink RX3 68 "ParrotLogModel" "next" "I" ∈ wsX3_put := by decide +kernel
  have w13 : Cond.fieldLink RX3 13 "ParrotLogModel" "key" "[I" ∈ wsX3_put := by decide +kernel
  have w16 : Cond.fieldLink RX3 16 "ParrotLogModel" "value" "[I" ∈ wsX3_put := by decide +kernel
  have w19 : Cond.fieldLink RX3 19 "ParrotLogModel" "storm" "[I" ∈ wsX3_put := by decide +kernel
  have w71 : Cond.fieldLink RX3 71 "ParrotLogModel" "isOn" "Z" ∈ wsX3_put := by decide +kernel
  have w55 : Cond.fieldLink RX3 55 "ParrotLogModel" "storms" "I" ∈ wsX3_put := by decide +kernel
  have w26 : Cond.fieldLink RX3 26 "ParrotLogModel" "said" "[I" ∈ wsX3_put := by decide +kernel
  have w22 : Cond.fieldLink RX3 22 "ParrotLogModel" "goes" "[Z" ∈ wsX3_put := by decide +kernel
  refine lv_aload_n C.1 C.2.1 dX3_put_0 rfl (lv_at hl 0 rfl) ?_
  refine gGet (v := .int (nI (s_n S))) (ref := RX3) (Cn := RX3) (T := TX3) (N := 19) C iX3 hO 0 rfl rfl 1 (by decide) w58 (fun _ h9 => h9) rfl dX3_put_1 ?_
  refine lv_bipush (v := nI 48) C.1 C.2.1 dX3_put_4 (by decide) ?_
  have jn24 : ∀ (T : St) (mk1 : Nat → Int32), (S_room S = T) → (mk_spk S mk = mk1) → (s_n T < 48) → (s_on T = s_on S) → (s_sc T = s_sc S) → (s_nx T = s_nx S) → ∀ (H : Heap) (locs : List Loc), gO E A s (mW E b T th mk1 ++ F) H locs → ∀ ls : Array Slot, lv_has ls 4 [(0, .ref (b 0)), (1, .int k), (2, .int v)] → W p l e ({ frames := 1, cells := 0, slots := 0, locals := 23 } : Room) s m args below meth c H locs 0 0 (MQ below (gQv E A (mW E b (S_spk S k v) th (mk_spk S mk) ++ F)) args s 0 0 A) (F0 m 45 ls []) := by
    intro T mk1 hT24 hmk hTn hTo hTs hTx H locs hO ls hl
    refine lv_aload_n C.1 C.2.1 dX3_put_45 rfl (lv_at hl 0 rfl) ?_
    refine gGet (v := .ref (b 1)) (ref := RX3) (Cn := RX3) (T := TX3) (N := 19) C iX3 hO 0 rfl rfl 2 (by decide) w9 (fun _ h9 => h9) rfl dX3_put_46 ?_
    refine lv_aload_n C.1 C.2.1 dX3_put_49 rfl (lv_at hl 0 rfl) ?_
    refine gGet (v := .int (nI (s_n T))) (ref := RX3) (Cn := RX3) (T := TX3) (N := 19) C iX3 hO 0 rfl rfl 1 (by decide) w58 (fun _ h9 => h9) rfl dX3_put_50 ?_
    refine lv_aload_n C.1 C.2.1 dX3_put_53 rfl (lv_at hl 0 rfl) ?_
    refine gGet (v := .int (s_nx T)) (ref := RX3) (Cn := RX3) (T := TX3) (N := 19) C iX3 hO 0 rfl rfl 7 (by decide) w68 (fun _ h9 => h9) rfl dX3_put_54 ?_
    refine gIast (j := (s_n T)) (ws' := (mW E b (mkS (upd (s_off T) (s_n T) (s_nx T)) (s_key T) (s_val T) (s_sto T) (s_n T) (s_nx T) (s_dr T) (s_hr T) (s_sc T) (s_on T) (s_said T) (s_sh T) (s_pc T) (s_at T) (s_hd T) (s_ms T) (s_kn T)) th mk1 ++ F)) C hO 1 rfl (by omega) (by decide) rfl dX3_put_57 (fun H locs hO => ?_)
    refine lv_aload_n C.1 C.2.1 dX3_put_58 rfl (lv_at hl 0 rfl) ?_
    refine gGet (v := .ref (b 2)) (ref := RX3) (Cn := RX3) (T := TX3) (N := 19) C iX3 hO 0 rfl rfl 3 (by decide) w13 (fun _ h9 => h9) rfl dX3_put_59 ?_
    refine lv_aload_n C.1 C.2.1 dX3_put_62 rfl (lv_at hl 0 rfl) ?_
    refine gGet (v := .int (nI (s_n T))) (ref := RX3) (Cn := RX3) (T := TX3) (N := 19) C iX3 hO 0 rfl rfl 1 (by decide) w58 (fun _ h9 => h9) rfl dX3_put_63 ?_
    refine lv_iload_n C.1 C.2.1 dX3_put_66 rfl (lv_at hl 1 rfl) ?_
    refine gIast (j := (s_n T)) (ws' := (mW E b (mkS (upd (s_off T) (s_n T) (s_nx T)) (upd (s_key T) (s_n T) k) (s_val T) (s_sto T) (s_n T) (s_nx T) (s_dr T) (s_hr T) (s_sc T) (s_on T) (s_said T) (s_sh T) (s_pc T) (s_at T) (s_hd T) (s_ms T) (s_kn T)) th mk1 ++ F)) C hO 2 rfl (by omega) (by decide) rfl dX3_put_67 (fun H locs hO => ?_)
    refine lv_aload_n C.1 C.2.1 dX3_put_68 rfl (lv_at hl 0 rfl) ?_
    refine gGet (v := .ref (b 3)) (ref := RX3) (Cn := RX3) (T := TX3) (N := 19) C iX3 hO 0 rfl rfl 4 (by decide) w16 (fun _ h9 => h9) rfl dX3_put_69 ?_
    refine lv_aload_n C.1 C.2.1 dX3_put_72 rfl (lv_at hl 0 rfl) ?_
    refine gGet (v := .int (nI (s_n T))) (ref := RX3) (Cn := RX3) (T := TX3) (N := 19) C iX3 hO 0 rfl rfl 1 (by decide) w58 (fun _ h9 => h9) rfl dX3_put_73 ?_
    refine lv_iload_n C.1 C.2.1 dX3_put_76 rfl (lv_at hl 2 rfl) ?_
    refine gIast (j := (s_n T)) (ws' := (mW E b (mkS (upd (s_off T) (s_n T) (s_nx T)) (upd (s_key T) (s_n T) k) (upd (s_val T) (s_n T) v) (s_sto T) (s_n T) (s_nx T) (s_dr T) (s_hr T) (s_sc T) (s_on T) (s_said T) (s_sh T) (s_pc T) (s_at T) (s_hd T) (s_ms T) (s_kn T)) th mk1 ++ F)) C hO 3 rfl (by omega) (by decide) rfl dX3_put_77 (fun H locs hO => ?_)
    refine lv_aload_n C.1 C.2.1 dX3_put_78 rfl (lv_at hl 0 rfl) ?_
    refine gGet (v := .ref (b 4)) (ref := RX3) (Cn := RX3) (T := TX3) (N := 19) C iX3 hO 0 rfl rfl 5 (by decide) w19 (fun _ h9 => h9) rfl dX3_put_79 ?_
    refine lv_aload_n C.1 C.2.1 dX3_put_82 rfl (lv_at hl 0 rfl) ?_
    refine gGet (v := .int (nI (s_n T))) (ref := RX3) (Cn := RX3) (T := TX3) (N := 19) C iX3 hO 0 rfl rfl 1 (by decide) w58 (fun _ h9 => h9) rfl dX3_put_83 ?_
    refine lv_aload_n C.1 C.2.1 dX3_put_86 rfl (lv_at hl 0 rfl) ?_
    refine gGet (v := .int (s_on T)) (ref := RX3) (Cn := RX3) (T := TX3) (N := 19) C iX3 hO 0 rfl rfl 11 (by decide) w71 (fun _ h9 => h9) rfl dX3_put_87 ?_
    refine lv_if_eq (tgt := 102) C.1 C.2.1 dX3_put_90 (by decide) (fun c_1 => ?_) (fun c_1 => ?_)
    · have hzo : s_on T = 0 := c_1
      refine lv_iconst (v := (-1)) C.1 C.2.1 dX3_put_102 (by decide) ?_
      refine gIast (j := (s_n T)) (ws' := (mW E b (mkS (upd (s_off T) (s_n T) (s_nx T)) (upd (s_key T) (s_n T) k) (upd (s_val T) (s_n T) v) (upd (s_sto T) (s_n T) (-1)) (s_n T) (s_nx T) (s_dr T) (s_hr T) (s_sc T) (s_on T) (s_said T) (s_sh T) (s_pc T) (s_at T) (s_hd T) (s_ms T) (s_kn T)) th mk1 ++ F)) C hO 4 rfl (by omega) (by decide) rfl dX3_put_103 (fun H locs hO => ?_)
      refine lv_aload_n C.1 C.2.1 dX3_put_104 rfl (lv_at hl 0 rfl) ?_
      refine gGet (v := .int (s_on T)) (ref := RX3) (Cn := RX3) (T := TX3) (N := 19) C iX3 hO 0 rfl rfl 11 (by decide) w71 (fun _ h9 => h9) rfl dX3_put_105 ?_
      refine lv_if_eq (tgt := 126) C.1 C.2.1 dX3_put_108 (by decide) (fun c_2 => ?_) (fun c_2 => ?_)
      · refine lv_aload_n C.1 C.2.1 dX3_put_126 rfl (lv_at hl 0 rfl) ?_
        refine lv_dup C.1 C.2.1 dX3_put_127 rfl ?_
        refine gGet (v := .int (nI (s_n T))) (ref := RX3) (Cn := RX3) (T := TX3) (N := 19) C iX3 hO 0 rfl rfl 1 (by decide) w58 (fun _ h9 => h9) rfl dX3_put_128 ?_
        refine lv_iconst (v := 1) C.1 C.2.1 dX3_put_131 (by decide) ?_
        refine gAddN (x := (s_n T)) (y := 1) C.1 C.2.1 dX3_put_132 ?_
        refine gPut (ws' := (mW E b (mkS (upd (s_off T) (s_n T) (s_nx T)) (upd (s_key T) (s_n T) k) (upd (s_val T) (s_n T) v) (upd (s_sto T) (s_n T) (-1)) ((s_n T) + 1) (s_nx T) (s_dr T) (s_hr T) (s_sc T) (s_on T) (s_said T) (s_sh T) (s_pc T) (s_at T) (s_hd T) (s_ms T) (s_kn T)) th mk1 ++ F)) (ref := RX3) (Cn := RX3) (T := TX3) (N := 19) C iX3 tyX3 tyX3_ok nmX3 hO 0 rfl rfl 1 (by decide) w58 (fun _ h9 => h9) rfl (by decide +kernel) rfl rfl (Nat.le_of_ble_eq_true rfl) rfl dX3_put_133 (fun H locs hO => ?_)
        refine lv_aload_n C.1 C.2.1 dX3_put_136 rfl (lv_at hl 0 rfl) ?_
        refine lv_dup C.1 C.2.1 dX3_put_137 rfl ?_
        refine gGet (v := .int (s_nx T)) (ref := RX3) (Cn := RX3) (T := TX3) (N := 19) C iX3 hO 0 rfl rfl 7 (by decide) w68 (fun _ h9 => h9) rfl dX3_put_138 ?_
        refine lv_iconst (v := 1) C.1 C.2.1 dX3_put_141 (by decide) ?_
        refine lv_iadd C.1 C.2.1 dX3_put_142 ?_
        refine gPut (ws' := (mW E b (mkS (upd (s_off T) (s_n T) (s_nx T)) (upd (s_key T) (s_n T) k) (upd (s_val T) (s_n T) v) (upd (s_sto T) (s_n T) (-1)) ((s_n T) + 1) ((s_nx T) + 1) (s_dr T) (s_hr T) (s_sc T) (s_on T) (s_said T) (s_sh T) (s_pc T) (s_at T) (s_hd T) (s_ms T) (s_kn T)) th mk1 ++ F)) (ref := RX3) (Cn := RX3) (T := TX3) (N := 19) C iX3 tyX3 tyX3_ok nmX3 hO 0 rfl rfl 7 (by decide) w68 (fun _ h9 => h9) rfl (by decide +kernel) rfl rfl (Nat.le_of_ble_eq_true rfl) rfl dX3_put_143 (fun H locs hO => ?_)
        exact gRv C (by first | (rw [S_spk_0 hT24 hzo hTo, hmk]; exact hO) | (rw [S_spk_1 hT24 hzo hTo hTs, hmk]; exact hO)) dX3_put_146 (Nat.le_of_ble_eq_true rfl) (Nat.le_of_ble_eq_true rfl)
      · exact absurd hzo c_2
    · have hzo : ¬ s_on T = 0 := c_1
      have h1s : 1 ≤ s_sc T := by rw [hTs]; exact hOn (by rw [← hTo]; exact hzo)
      refine lv_aload_n C.1 C.2.1 dX3_put_93 rfl (lv_at hl 0 rfl) ?_
      refine gGet (v := .int (nI (s_sc T))) (ref := RX3) (Cn := RX3) (T := TX3) (N := 19) C iX3 hO 0 rfl rfl 10 (by decide) w55 (fun _ h9 => h9) rfl dX3_put_94 ?_
      refine lv_iconst (v := 1) C.1 C.2.1 dX3_put_97 (by decide) ?_
      refine gSubN (x := (s_sc T)) (y := 1) C.1 C.2.1 h1s dX3_put_98 ?_
      refine lv_goto (tgt := 103) C.1 C.2.1 dX3_put_99 (by decide) ?_
      refine gIast (j := (s_n T)) (ws' := (mW E b (mkS (upd (s_off T) (s_n T) (s_nx T)) (upd (s_key T) (s_n T) k) (upd (s_val T) (s_n T) v) (upd (s_sto T) (s_n T) (nI ((s_sc T) - 1))) (s_n T) (s_nx T) (s_dr T) (s_hr T) (s_sc T) (s_on T) (s_said T) (s_sh T) (s_pc T) (s_at T) (s_hd T) (s_ms T) (s_kn T)) th mk1 ++ F)) C hO 4 rfl (by omega) (by decide) rfl dX3_put_103 (fun H locs hO => ?_)
      refine lv_aload_n C.1 C.2.1 dX3_put_104 rfl (lv_at hl 0 rfl) ?_
      refine gGet (v := .int (s_on T)) (ref := RX3) (Cn := RX3) (T := TX3) (N := 19) C iX3 hO 0 rfl rfl 11 (by decide) w71 (fun _ h9 => h9) rfl dX3_put_105 ?_
      refine lv_if_eq (tgt := 126) C.1 C.2.1 dX3_put_108 (by decide) (fun c_3 => ?_) (fun c_3 => ?_)
      · exact absurd c_3 hzo
      · refine lv_aload_n C.1 C.2.1 dX3_put_111 rfl (lv_at hl 0 rfl) ?_
        refine gGet (v := .ref (b 6)) (ref := RX3) (Cn := RX3) (T := TX3) (N := 19) C iX3 hO 0 rfl rfl 12 (by decide) w26 (fun _ h9 => h9) rfl dX3_put_112 ?_
        refine lv_aload_n C.1 C.2.1 dX3_put_115 rfl (lv_at hl 0 rfl) ?_
        refine gGet (v := .int (nI (s_sc T))) (ref := RX3) (Cn := RX3) (T := TX3) (N := 19) C iX3 hO 0 rfl rfl 10 (by decide) w55 (fun _ h9 => h9) rfl dX3_put_116 ?_
        refine lv_iconst (v := 1) C.1 C.2.1 dX3_put_119 (by decide) ?_
        refine gSubN (x := (s_sc T)) (y := 1) C.1 C.2.1 h1s dX3_put_120 ?_
        refine lv_dup2_11 C.1 C.2.1 dX3_put_121 rfl rfl ?_
        refine gIald (v := (s_said T) ((s_sc T) - 1)) (j := ((s_sc T) - 1)) C hO 6 rfl (by omega) (by decide) rfl dX3_put_122 ?_
        refine lv_iconst (v := 1) C.1 C.2.1 dX3_put_123 (by decide) ?_
        refine lv_iadd C.1 C.2.1 dX3_put_124 ?_
        refine gIast (j := ((s_sc T) - 1)) (ws' := (mW E b (mkS (upd (s_off T) (s_n T) (s_nx T)) (upd (s_key T) (s_n T) k) (upd (s_val T) (s_n T) v) (upd (s_sto T) (s_n T) (nI ((s_sc T) - 1))) (s_n T) (s_nx T) (s_dr T) (s_hr T) (s_sc T) (s_on T) (upd (s_said T) ((s_sc T) - 1) (((s_said T) ((s_sc T) - 1)) + 1)) (s_sh T) (s_pc T) (s_at T) (s_hd T) (s_ms T) (s_kn T)) th mk1 ++ F)) C hO 6 rfl (by omega) (by decide) rfl dX3_put_125 (fun H locs hO => ?_)
        refine lv_aload_n C.1 C.2.1 dX3_put_126 rfl (lv_at hl 0 rfl) ?_
        refine lv_dup C.1 C.2.1 dX3_put_127 rfl ?_
        refine gGet (v := .int (nI (s_n T))) (ref := RX3) (Cn := RX3) (T := TX3) (N := 19) C iX3 hO 0 rfl rfl 1 (by decide) w58 (fun _ h9 => h9) rfl dX3_put_128 ?_
        refine lv_iconst (v := 1) C.1 C.2.1 dX3_put_131 (by decide) ?_
        refine gAddN (x := (s_n T)) (y := 1) C.1 C.2.1 dX3_put_132 ?_
        refine gPut (ws' := (mW E b (mkS (upd (s_off T) (s_n T) (s_nx T)) (upd (s_key T) (s_n T) k) (upd (s_val T) (s_n T) v) (upd (s_sto T) (s_n T) (nI ((s_sc T) - 1))) ((s_n T) + 1) (s_nx T) (s_dr T) (s_hr T) (s_sc T) (s_on T) (upd (s_said T) ((s_sc T) - 1) (((s_said T) ((s_sc T) - 1)) + 1)) (s_sh T) (s_pc T) (s_at T) (s_hd T) (s_ms T) (s_kn T)) th mk1 ++ F)) (ref := RX3) (Cn := RX3) (T := TX3) (N := 19) C iX3 tyX3 tyX3_ok nmX3 hO 0 rfl rfl 1 (by decide) w58 (fun _ h9 => h9) rfl (by decide +kernel) rfl rfl (Nat.le_of_ble_eq_true rfl) rfl dX3_put_133 (fun H locs hO => ?_)
        refine lv_aload_n C.1 C.2.1 dX3_put_136 rfl (lv_at hl 0 rfl) ?_
        refine lv_dup C.1 C.2.1 dX3_put_137 rfl ?_
        refine gGet (v := .int (s_nx T)) (ref := RX3) (Cn := RX3) (T := TX3) (N := 19) C iX3 hO 0 rfl rfl 7 (by decide) w68 (fun _ h9 => h9) rfl dX3_put_138 ?_
        refine lv_iconst (v := 1) C.1 C.2.1 dX3_put_141 (by decide) ?_
        refine lv_iadd C.1 C.2.1 dX3_put_142 ?_
        refine gPut (ws' := (mW E b (mkS (upd (s_off T) (s_n T) (s_nx T)) (upd (s_key T) (s_n T) k) (upd (s_val T) (s_n T) v) (upd (s_sto T) (s_n T) (nI ((s_sc T) - 1))) ((s_n T) + 1) ((s_nx T) + 1) (s_dr T) (s_hr T) (s_sc T) (s_on T) (upd (s_said T) ((s_sc T) - 1) (((s_said T) ((s_sc T) - 1)) + 1)) (s_sh T) (s_pc T) (s_at T) (s_hd T) (s_ms T) (s_kn T)) th mk1 ++ F)) (ref := RX3) (Cn := RX3) (T := TX3) (N := 19) C iX3 tyX3 tyX3_ok nmX3 hO 0 rfl rfl 7 (by decide) w68 (fun _ h9 => h9) rfl (by decide +kernel) rfl rfl (Nat.le_of_ble_eq_true rfl) rfl dX3_put_143 (fun H locs hO => ?_)
        exact gRv C (by first | (rw [S_spk_0 hT24 hzo hTo, hmk]; exact hO) | (rw [S_spk_1 hT24 hzo hTo hTs, hmk]; exact hO)) dX3_put_146 (Nat.le_of_ble_eq_true rfl) (Nat.le_of_ble_eq_true rfl)
  refine gNeN (x := (s_n S)) (y := 48) (tgt := 45) C.1 C.2.1 (by omega) (by omega) dX3_put_6 (by decide) (fun c_4 => ?_) (fun c_4 => ?_)
  · have hz : s_n S < 48 := by omega
    exact jn24 S mk (if_pos hz) (if_pos hz) hz rfl rfl rfl _ _ hO _ (lv_sub hl [0, 1, 2] rfl)
  · have hz : ¬ s_n S < 48 := by omega
    have hT0 : S_room S = S_drop S (mkU gFirst mk (s_n S)) := (if_neg hz).trans (S_drop_congr (fun i hi => (mkU_at hi).symm))
    have hO : gO E A s (mW E b S th (mkU gFirst mk 0) ++ F) s.heap [] := by rw [mkU_0]; exact hO
    refine lv_iconst (v := 0) C.1 C.2.1 dX3_put_9 (by decide) ?_
    refine lv_istore_n (lv' := [(3, .int 0), (0, .ref (b 0)), (1, .int k), (2, .int v)]) C.1 C.2.1 dX3_put_10 rfl hl (by decide) rfl (fun ls hl => ?_)
    have lp24 : ∀ (f : Nat) (j9 : Nat), (s_n S + 1 ≤ j9 + f) → (j9 ≤ s_n S) → ∀ (H : Heap) (locs : List Loc), gO E A s (mW E b S th (mkU gFirst mk j9) ++ F) H locs → ∀ ls : Array Slot, lv_has ls 4 [(0, .ref (b 0)), (1, .int k), (2, .int v), (3, .int (nI j9))] → W p l e ({ frames := 1, cells := 0, slots := 0, locals := 23 } : Room) s m args below meth c H locs 0 0 (MQ below (gQv E A (mW E b (S_spk S k v) th (mk_spk S mk) ++ F)) args s 0 0 A) (F0 m 11 ls []) := by
      intro f
      induction f with
      | zero =>
        intro j9 hf hj9
        exact absurd hf (by omega)
      | succ f ih_lp24 =>
        intro j9 hf hj9 H locs hO ls hl
        refine lv_iload_n C.1 C.2.1 dX3_put_11 rfl (lv_at hl 3 rfl) ?_
        refine lv_aload_n C.1 C.2.1 dX3_put_12 rfl (lv_at hl 0 rfl) ?_
        refine gGet (v := .int (nI (s_n S))) (ref := RX3) (Cn := RX3) (T := TX3) (N := 19) C iX3 hO 0 rfl rfl 1 (by decide) w58 (fun _ h9 => h9) rfl dX3_put_13 ?_
        refine gGeN (x := j9) (y := (s_n S)) (tgt := 40) C.1 C.2.1 (by omega) (by omega) dX3_put_16 (by decide) (fun c_5 => ?_) (fun c_5 => ?_)
        · have hk9 : j9 = s_n S := by omega
          rw [hk9] at hO
          have hl := lv_sub hl [0, 1, 2] rfl
          have hl : lv_has ls 4 [(0, .ref (b 0)), (1, .int k), (2, .int v)] := hl
          refine lv_aload_n C.1 C.2.1 dX3_put_40 rfl (lv_at hl 0 rfl) ?_
          refine gCall_i (As := []) (rest := []) C hO (c_X3_drop l E b S th (mkU gFirst mk (s_n S)) F (by omega) (by omega) hsr) (cwV 0 C.2.2.2.2.1 gX3_put_X3_drop rfl rfl rfl (by decide +kernel) ⟨(Nat.le_of_ble_eq_true rfl), (Nat.le_of_ble_eq_true rfl)⟩) (va_recv C.2.2.2.2.2.2.2.1.1 hO.1 (ci := 3) (q0 := 0) rfl rfl) rfl hl.1 rfl (Nat.le_of_ble_eq_true rfl) dX3_put_41 ⟨(Nat.le_of_ble_eq_true rfl), (Nat.le_of_ble_eq_true rfl)⟩ (fun H locs hO => ?_)
          have hO : gO E A s (mW E b (S_drop S (mkU gFirst mk (s_n S))) th (mkU gFirst mk (s_n S)) ++ F) H locs := hO
          refine lv_pop C.1 C.2.1 dX3_put_44 rfl ?_
          refine W.widen (k := 0) (n := 0) (by omega) (by omega) ?_
          exact jn24 (S_drop S (mkU gFirst mk (s_n S))) (mkU gFirst mk (s_n S)) hT0 (if_neg hz) (by rw [← hT0]; exact S_room_n hn) rfl rfl rfl _ _ hO _ (lv_sub hl [0, 1, 2] rfl)
        · refine lv_aload_n C.1 C.2.1 dX3_put_19 rfl (lv_at hl 0 rfl) ?_
          refine gGet (v := .ref (b 5)) (ref := RX3) (Cn := RX3) (T := TX3) (N := 19) C iX3 hO 0 rfl rfl 6 (by decide) w22 (fun _ h9 => h9) rfl dX3_put_20 ?_
          refine lv_iload_n C.1 C.2.1 dX3_put_23 rfl (lv_at hl 3 rfl) ?_
          refine lv_iload_n C.1 C.2.1 dX3_put_24 rfl (lv_at hl 3 rfl) ?_
          refine lv_if_ne (tgt := 32) C.1 C.2.1 dX3_put_25 (by decide) (fun c_6 => ?_) (fun c_6 => ?_)
          · have hg9 : gFirst j9 = 0 := if_neg (fun g => c_6 (by rw [g]; rfl))
            refine lv_iconst (v := 0) C.1 C.2.1 dX3_put_32 (by decide) ?_
            refine gZast (j := j9) (ws' := (mW E b S th (mkU gFirst mk (j9 + 1)) ++ F)) C hO 5 rfl (by omega) (by decide) rfl (by rw [mkU_sv hg9]; rfl) dX3_put_33 (fun H locs hO => ?_)
            refine gInc (j := j9) (k := 3) (lv' := [(3, .int (nI (j9 + 1))), (0, .ref (b 0)), (1, .int k), (2, .int v)]) C.1 C.2.1 dX3_put_34 hl rfl (by decide) rfl (fun ls hl => ?_)
            refine lv_goto (tgt := 11) C.1 C.2.1 dX3_put_37 (by decide) ?_
            exact ih_lp24 (j9 + 1) (by omega) (by omega) _ _ hO _ (lv_sub hl [1, 2, 3, 0] rfl)
          · have hg9 : gFirst j9 = 1 := if_pos (nI_z (by omega) c_6)
            refine lv_iconst (v := 1) C.1 C.2.1 dX3_put_28 (by decide) ?_
            refine lv_goto (tgt := 33) C.1 C.2.1 dX3_put_29 (by decide) ?_
            refine gZast (j := j9) (ws' := (mW E b S th (mkU gFirst mk (j9 + 1)) ++ F)) C hO 5 rfl (by omega) (by decide) rfl (by rw [mkU_sv hg9]; rfl) dX3_put_33 (fun H locs hO => ?_)
            refine gInc (j := j9) (k := 3) (lv' := [(3, .int (nI (j9 + 1))), (0, .ref (b 0)), (1, .int k), (2, .int v)]) C.1 C.2.1 dX3_put_34 hl rfl (by decide) rfl (fun ls hl => ?_)
            refine lv_goto (tgt := 11) C.1 C.2.1 dX3_put_37 (by decide) ?_
            exact ih_lp24 (j9 + 1) (by omega) (by omega) _ _ hO _ (lv_sub hl [1, 2, 3, 0] rfl)
    exact lp24 (s_n S + 1) 0 (by omega) (Nat.zero_le _) _ _ hO _ (lv_sub hl [1, 2, 3, 0] rfl)

set_option maxHeartbeats 4000000 in
set_option maxRecDepth 100000 in
theorem c_X3_mark (l : Launch) (E : gE) (b : Nat → Nat) (S : St) (th : Int32) (mk : Nat → Int32) (F : va_W)  (hn : s_n S ≤ 48) (hsh : s_sh S ≤ 6) (hok9 : s_ok S) : gMi l E yX3_mark wsX3_mark ({ frames := 1, cells := 1, slots := 10, locals := 13 }) (mW E b S th mk ++ F) [.ref (b 0)] (nI (cm (s_cm S) 0 (s_n S))) (mW E b S th (mkU (s_cm S) mk (s_n S)) ++ F) 1 10 := by
  refine gMi.of (cc := cX3_mark) (maxL := 5) (ty := .int) (by decide) rfl (Nat.le_of_ble_eq_true rfl) ?_
  intro p e s m args below meth c A C ls hl hO
  have hl : lv_has ls 5 [(0, .ref (b 0))] := hl
  have iX3 : ∀ w ∈ u_ws RX3 TX3 19, w ∈ wsX3_mark := by decide +kernel
  have w68 : Cond.fieldLink RX3 68 "ParrotLogModel" "next" "I" ∈ wsX3_mark := by decide +kernel
  have w48 : Cond.fieldLink RX3 48 "ParrotLogModel" "ships" "I" ∈ wsX3_mark := by decide +kernel
  have w58 : Cond.fieldLink RX3 58 "ParrotLogModel" "many" "I" ∈ wsX3_mark := by decide +kernel
  have w22 : Cond.fieldLink RX3 22 "ParrotLogModel" "goes" "[Z" ∈ wsX3_mark := by decide +kernel
  have w13 : Cond.fieldLink RX3 13 "ParrotLogModel" "key" "[I" ∈ wsX3_mark := by decide +kernel
  have w16 : Cond.fieldLink RX3 16 "ParrotLogModel" "value" "[I" ∈ wsX3_mark := by decide +kernel
  have w9 : Cond.fieldLink RX3 9 "ParrotLogModel" "offset" "[I" ∈ wsX3_mark := by decide +kernel
  have w32 : Cond.fieldLink RX3 32 "ParrotLogModel" "at" "[I" ∈ wsX3_mark := by decide +kernel
  refine lv_aload_n C.1 C.2.1 dX3_mark_0 rfl (lv_at hl 0 rfl) ?_
  refine gGet (v := .int (s_nx S)) (ref := RX3) (Cn := RX3) (T := TX3) (N := 19) C iX3 hO 0 rfl rfl 7 (by decide) w68 (fun _ h9 => h9) rfl dX3_mark_1 ?_
  refine lv_istore_n (lv' := [(1, .int (s_nx S)), (0, .ref (b 0))]) C.1 C.2.1 dX3_mark_4 rfl hl (by decide) rfl (fun ls hl => ?_)
  refine lv_iconst (v := 0) C.1 C.2.1 dX3_mark_5 (by decide) ?_
  refine lv_istore_n (lv' := [(2, .int 0), (1, .int (s_nx S)), (0, .ref (b 0))]) C.1 C.2.1 dX3_mark_6 rfl hl (by decide) rfl (fun ls hl => ?_)
  have lp24 : ∀ (f : Nat) (k : Nat), (s_sh S + 1 ≤ k + f) → (k ≤ s_sh S) → ∀ (H : Heap) (locs : List Loc), gO E A s (mW E b S th mk ++ F) H locs → ∀ ls : Array Slot, lv_has ls 5 [(0, .ref (b 0)), (1, .int (lst (s_at S) (s_nx S) k)), (2, .int (nI k))] → W p l e ({ frames := 1, cells := 1, slots := 10, locals := 13 } : Room) s m args below meth c H locs 0 0 (MQ below (gQi E A (nI (cm (s_cm S) 0 (s_n S))) (mW E b S th (mkU (s_cm S) mk (s_n S)) ++ F)) args s 1 10 A) (F0 m 7 ls []) := by
    intro f
    induction f with
    | zero =>
      intro k hf hk9
      exact absurd hf (by omega)
    | succ f ih_lp24 =>
      intro k hf hk9 H locs hO ls hl
      refine lv_iload_n C.1 C.2.1 dX3_mark_7 rfl (lv_at hl 2 rfl) ?_
      refine lv_aload_n C.1 C.2.1 dX3_mark_8 rfl (lv_at hl 0 rfl) ?_
      refine gGet (v := .int (nI (s_sh S))) (ref := RX3) (Cn := RX3) (T := TX3) (N := 19) C iX3 hO 0 rfl rfl 13 (by decide) w48 (fun _ h9 => h9) rfl dX3_mark_9 ?_
      refine gGeN (x := k) (y := (s_sh S)) (tgt := 32) C.1 C.2.1 (by omega) (by omega) dX3_mark_12 (by decide) (fun c_1 => ?_) (fun c_1 => ?_)
      · have hk8 : k = s_sh S := by omega
        rw [hk8] at hl
        have hl := lv_sub hl [0, 1] rfl
        have hl : lv_has ls 5 [(0, .ref (b 0)), (1, .int (lst (s_at S) (s_nx S) (s_sh S)))] := hl
        refine lv_bipush (v := nI 10) C.1 C.2.1 dX3_mark_32 (by decide) ?_
        refine gNewZ (N9 := 10) C (C.2.2.2.2.1 (.arrayClass .boolean) (by decide +kernel)) hO (by decide) (Nat.le_of_ble_eq_true rfl) (Nat.le_of_ble_eq_true rfl) dX3_mark_34 (fun q_was H hO => ?_)
        refine lv_astore_n (lv' := [(2, .ref q_was), (0, .ref (b 0)), (1, .int (lst (s_at S) (s_nx S) (s_sh S)))]) C.1 C.2.1 dX3_mark_36 rfl hl (by decide) rfl (fun ls hl => ?_)
        refine lv_iconst (v := 0) C.1 C.2.1 dX3_mark_37 (by decide) ?_
        refine lv_istore_n (lv' := [(3, .int 0), (2, .ref q_was), (0, .ref (b 0)), (1, .int (lst (s_at S) (s_nx S) (s_sh S)))]) C.1 C.2.1 dX3_mark_38 rfl hl (by decide) rfl (fun ls hl => ?_)
        refine lv_aload_n C.1 C.2.1 dX3_mark_39 rfl (lv_at hl 2 rfl) ?_
        refine gGet (v := .int (nI (s_n S))) (ref := RX3) (Cn := RX3) (T := TX3) (N := 19) C iX3 hO 0 rfl rfl 1 (by decide) w58 (fun _ h9 => h9) rfl dX3_mark_40 ?_
        refine lv_iconst (v := 1) C.1 C.2.1 dX3_mark_43 (by decide) ?_
        refine lv_isub C.1 C.2.1 dX3_mark_44 ?_
        have hO : gO E A s (mW E b S th (mkD (s_cm S) mk (s_n S) (s_n S)) ++ ((q_was, .inl (eZ E, 10, .inl (wasF S (s_n S)))) :: F)) H locs := by rw [mkD_n, wasF_n]; exact hO
        refine lv_istore (lv' := [(4, .int ((nI (s_n S)) - (nI 1))), (3, .int 0), (2, .ref q_was), (0, .ref (b 0)), (1, .int (lst (s_at S) (s_nx S) (s_sh S)))]) C.1 C.2.1 dX3_mark_45 hl (by decide) rfl (fun ls hl => ?_)
        have lp25 : ∀ (f : Nat) (t : Nat) (c2 : Nat), (t + 1 ≤ f) → (t ≤ s_n S) → (c2 = cm (s_cm S) t (s_n S)) → ∀ (H : Heap) (locs : List Loc), gO E A s (mW E b S th (mkD (s_cm S) mk t (s_n S)) ++ ((q_was, .inl (eZ E, 10, .inl (wasF S t))) :: F)) H locs → ∀ ls : Array Slot, lv_has ls 5 [(0, .ref (b 0)), (1, .int (lst (s_at S) (s_nx S) (s_sh S))), (2, .ref q_was), (3, .int (nI c2)), (4, .int (nI t - 1))] → W p l e ({ frames := 1, cells := 1, slots := 10, locals := 13 } : Room) s m args below meth c H locs 1 10 (MQ below (gQi E A (nI (cm (s_cm S) 0 (s_n S))) (mW E b S th (mkU (s_cm S) mk (s_n S)) ++ F)) args s 1 10 A) (F0 m 47 ls []) := by
          intro f
          induction f with
          | zero =>
            intro t c2 hf ht9 hc24
            exact absurd hf (by omega)
          | succ f ih_lp25 =>
            intro t c2 hf ht9 hc24 H locs hO ls hl
            refine lv_iload C.1 C.2.1 dX3_mark_47 (lv_at hl 4 rfl) ?_
            refine lv_if_lt (tgt := 131) C.1 C.2.1 dX3_mark_49 (by decide) (fun c_3 => ?_) (fun c_3 => ?_)
            · have hge : t = 0 := (nI_m1neg (by omega)).mp c_3
              refine lv_iload_n C.1 C.2.1 dX3_mark_131 rfl (lv_at hl 3 rfl) ?_
              exact gRi C (gO.drop (W0 := mW E b S th (mkU (s_cm S) mk (s_n S))) (by rw [← mkD_0, ← hge]; exact hO)) rfl (by rw [hc24, hge]) dX3_mark_132 (Nat.le_of_ble_eq_true rfl) (Nat.le_of_ble_eq_true rfl)
            · have hlt : 0 < t := by rw [nI_m1neg (by omega)] at c_3; omega
              have hkt9 := hok9 (t - 1) (by omega)
              refine lv_aload_n C.1 C.2.1 dX3_mark_52 rfl (lv_at hl 0 rfl) ?_
              refine gGet (v := .ref (b 5)) (ref := RX3) (Cn := RX3) (T := TX3) (N := 19) C iX3 hO 0 rfl rfl 6 (by decide) w22 (fun _ h9 => h9) rfl dX3_mark_53 ?_
              refine lv_iload C.1 C.2.1 dX3_mark_56 (lv_at hl 4 rfl) ?_
              refine lv_eqi (y := nI (t - 1)) (nI_p (by omega)) ?_
              refine lv_aload_n C.1 C.2.1 dX3_mark_58 rfl (lv_at hl 2 rfl) ?_
              refine lv_aload_n C.1 C.2.1 dX3_mark_59 rfl (lv_at hl 0 rfl) ?_
              refine gGet (v := .ref (b 2)) (ref := RX3) (Cn := RX3) (T := TX3) (N := 19) C iX3 hO 0 rfl rfl 3 (by decide) w13 (fun _ h9 => h9) rfl dX3_mark_60 ?_
              refine lv_iload C.1 C.2.1 dX3_mark_63 (lv_at hl 4 rfl) ?_
              refine lv_eqi (y := nI (t - 1)) (nI_p (by omega)) ?_
              refine gIald (v := (s_key S) (t - 1)) (j := (t - 1)) C hO 2 rfl (by omega) (by decide) rfl dX3_mark_65 ?_
              refine lv_eqi (y := nI ((s_key S (t - 1)).toNatClampNeg)) hkt9.2 ?_
              refine gZald (v := (wasF S t) ((s_key S (t - 1)).toNatClampNeg)) (j := ((s_key S (t - 1)).toNatClampNeg)) C hO 12 rfl hkt9.1 (by decide) rfl dX3_mark_66 ?_
              refine lv_if_ne (tgt := 91) C.1 C.2.1 dX3_mark_67 (by decide) (fun c_4 => ?_) (fun c_4 => ?_)
              · have hw9 : ¬ wasF S t (s_key S (t - 1)).toNatClampNeg = 0 := c_4
                refine lv_iconst (v := 1) C.1 C.2.1 dX3_mark_91 (by decide) ?_
                refine lv_goto (tgt := 96) C.1 C.2.1 dX3_mark_92 (by decide) ?_
                have hgv9 : s_cm S (t - 1) = 1 := by unfold s_cm; first | exact gComp_1 (Or.inl (by rw [hkt9.2, show t - 1 + 1 = t by omega]; exact wasF_1 hw9)) | exact gComp_1 (Or.inr ⟨hv9, ho9⟩)
                refine gZast (j := (t - 1)) (ws' := (mW E b S th (mkD (s_cm S) mk (t - 1) (s_n S)) ++ ((q_was, .inl (eZ E, 10, .inl (wasF S t))) :: F))) C hO 5 rfl (by omega) (by decide) rfl (by rw [mkD_s (x := 1) hlt ht9 hgv9]; rfl) dX3_mark_96 (fun H locs hO => ?_)
                refine lv_aload_n C.1 C.2.1 dX3_mark_97 rfl (lv_at hl 2 rfl) ?_
                refine lv_aload_n C.1 C.2.1 dX3_mark_98 rfl (lv_at hl 0 rfl) ?_
                refine gGet (v := .ref (b 2)) (ref := RX3) (Cn := RX3) (T := TX3) (N := 19) C iX3 hO 0 rfl rfl 3 (by decide) w13 (fun _ h9 => h9) rfl dX3_mark_99 ?_
                refine lv_iload C.1 C.2.1 dX3_mark_102 (lv_at hl 4 rfl) ?_
                refine lv_eqi (y := nI (t - 1)) (nI_p (by omega)) ?_
                refine gIald (v := (s_key S) (t - 1)) (j := (t - 1)) C hO 2 rfl (by omega) (by decide) rfl dX3_mark_104 ?_
                refine lv_eqi (y := nI ((s_key S (t - 1)).toNatClampNeg)) hkt9.2 ?_
                refine lv_iconst (v := 1) C.1 C.2.1 dX3_mark_105 (by decide) ?_
                refine gZast (j := ((s_key S (t - 1)).toNatClampNeg)) (ws' := (mW E b S th (mkD (s_cm S) mk (t - 1) (s_n S)) ++ ((q_was, .inl (eZ E, 10, .inl (wasF S (t - 1)))) :: F))) C hO 12 rfl hkt9.1 (by decide) rfl (by rw [wasF_s hlt ht9 hkt9.1 hkt9.2]; rfl) dX3_mark_106 (fun H locs hO => ?_)
                refine lv_iload_n C.1 C.2.1 dX3_mark_107 rfl (lv_at hl 3 rfl) ?_
                refine lv_aload_n C.1 C.2.1 dX3_mark_108 rfl (lv_at hl 0 rfl) ?_
                refine gGet (v := .ref (b 5)) (ref := RX3) (Cn := RX3) (T := TX3) (N := 19) C iX3 hO 0 rfl rfl 6 (by decide) w22 (fun _ h9 => h9) rfl dX3_mark_109 ?_
                refine lv_iload C.1 C.2.1 dX3_mark_112 (lv_at hl 4 rfl) ?_
                refine lv_eqi (y := nI (t - 1)) (nI_p (by omega)) ?_
                refine gZald (v := s_cm S (t - 1)) (j := (t - 1)) C hO 5 rfl (by omega) (by decide) (by unfold mkD; rw [if_pos ⟨Nat.le_refl _, by omega⟩]) dX3_mark_114 ?_
                refine lv_if_eq (tgt := 122) C.1 C.2.1 dX3_mark_115 (by decide) (fun c_5 => ?_) (fun c_5 => ?_)
                · have hgv : s_cm S (t - 1) = 0 := c_5
                  refine lv_iconst (v := 0) C.1 C.2.1 dX3_mark_122 (by decide) ?_
                  refine gAddN (x := c2) (y := 0) C.1 C.2.1 dX3_mark_123 ?_
                  refine lv_istore_n (lv' := [(3, .int (nI (c2 + 0))), (0, .ref (b 0)), (1, .int (lst (s_at S) (s_nx S) (s_sh S))), (2, .ref q_was), (4, .int (nI t - 1))]) C.1 C.2.1 dX3_mark_124 rfl hl (by decide) rfl (fun ls hl => ?_)
                  refine lv_iinc (v := nI (t - 1) - 1) (lv' := [(4, .int (nI (t - 1) - 1)), (3, .int (nI (c2 + 0))), (0, .ref (b 0)), (1, .int (lst (s_at S) (s_nx S) (s_sh S))), (2, .ref q_was)]) C.1 C.2.1 dX3_mark_125 hl (k := 4) rfl (by rw [iDec, nI_p (by omega)]) (by decide) rfl (fun ls hl => ?_)
                  refine lv_goto (tgt := 47) C.1 C.2.1 dX3_mark_128 (by decide) ?_
                  exact ih_lp25 (t - 1) (c2 + 0) (by omega) (by omega) (by first | (rw [hc24, cm_d1 hlt hgv _ (by omega)]; done) | (rw [hc24, cm_d0 hlt hgv _ (by omega)]; done) | (rw [hc24, cm_d0 hlt hgv _ (by omega)]; rfl)) _ _ hO _ (lv_sub hl [2, 3, 4, 1, 0] rfl)
                · have hgv : ¬ s_cm S (t - 1) = 0 := c_5
                  refine lv_iconst (v := 1) C.1 C.2.1 dX3_mark_118 (by decide) ?_
                  refine lv_goto (tgt := 123) C.1 C.2.1 dX3_mark_119 (by decide) ?_
                  refine gAddN (x := c2) (y := 1) C.1 C.2.1 dX3_mark_123 ?_
                  refine lv_istore_n (lv' := [(3, .int (nI (c2 + 1))), (0, .ref (b 0)), (1, .int (lst (s_at S) (s_nx S) (s_sh S))), (2, .ref q_was), (4, .int (nI t - 1))]) C.1 C.2.1 dX3_mark_124 rfl hl (by decide) rfl (fun ls hl => ?_)
                  refine lv_iinc (v := nI (t - 1) - 1) (lv' := [(4, .int (nI (t - 1) - 1)), (3, .int (nI (c2 + 1))), (0, .ref (b 0)), (1, .int (lst (s_at S) (s_nx S) (s_sh S))), (2, .ref q_was)]) C.1 C.2.1 dX3_mark_125 hl (k := 4) rfl (by rw [iDec, nI_p (by omega)]) (by decide) rfl (fun ls hl => ?_)
                  refine lv_goto (tgt := 47) C.1 C.2.1 dX3_mark_128 (by decide) ?_
                  exact ih_lp25 (t - 1) (c2 + 1) (by omega) (by omega) (by first | (rw [hc24, cm_d1 hlt hgv _ (by omega)]; done) | (rw [hc24, cm_d0 hlt hgv _ (by omega)]; done) | (rw [hc24, cm_d0 hlt hgv _ (by omega)]; rfl)) _ _ hO _ (lv_sub hl [2, 3, 4, 1, 0] rfl)
              · have hw9 : wasF S t (s_key S (t - 1)).toNatClampNeg = 0 := c_4
                refine lv_aload_n C.1 C.2.1 dX3_mark_70 rfl (lv_at hl 0 rfl) ?_
                refine gGet (v := .ref (b 3)) (ref := RX3) (Cn := RX3) (T := TX3) (N := 19) C iX3 hO 0 rfl rfl 4 (by decide) w16 (fun _ h9 => h9) rfl dX3_mark_71 ?_
                refine lv_iload C.1 C.2.1 dX3_mark_74 (lv_at hl 4 rfl) ?_
                refine lv_eqi (y := nI (t - 1)) (nI_p (by omega)) ?_
                refine gIald (v := (s_val S) (t - 1)) (j := (t - 1)) C hO 3 rfl (by omega) (by decide) rfl dX3_mark_76 ?_
                refine lv_if_ne (tgt := 95) C.1 C.2.1 dX3_mark_77 (by decide) (fun c_6 => ?_) (fun c_6 => ?_)
                · have hv9 : ¬ s_val S (t - 1) = 0 := c_6
                  refine lv_iconst (v := 0) C.1 C.2.1 dX3_mark_95 (by decide) ?_
                  have hgv9 : s_cm S (t - 1) = 0 := by unfold s_cm; first | exact gComp_0 (fun g => g.elim (fun z => z (by rw [hkt9.2, show t - 1 + 1 = t by omega]; exact wasF_0 hkt9.1 hw9)) (fun z => hv9 z.1)) | exact gComp_0 (fun g => g.elim (fun z => z (by rw [hkt9.2, show t - 1 + 1 = t by omega]; exact wasF_0 hkt9.1 hw9)) (fun z => ho9 z.2))
                  refine gZast (j := (t - 1)) (ws' := (mW E b S th (mkD (s_cm S) mk (t - 1) (s_n S)) ++ ((q_was, .inl (eZ E, 10, .inl (wasF S t))) :: F))) C hO 5 rfl (by omega) (by decide) rfl (by rw [mkD_s (x := 0) hlt ht9 hgv9]; rfl) dX3_mark_96 (fun H locs hO => ?_)
                  refine lv_aload_n C.1 C.2.1 dX3_mark_97 rfl (lv_at hl 2 rfl) ?_
                  refine lv_aload_n C.1 C.2.1 dX3_mark_98 rfl (lv_at hl 0 rfl) ?_
                  refine gGet (v := .ref (b 2)) (ref := RX3) (Cn := RX3) (T := TX3) (N := 19) C iX3 hO 0 rfl rfl 3 (by decide) w13 (fun _ h9 => h9) rfl dX3_mark_99 ?_
                  refine lv_iload C.1 C.2.1 dX3_mark_102 (lv_at hl 4 rfl) ?_
                  refine lv_eqi (y := nI (t - 1)) (nI_p (by omega)) ?_
                  refine gIald (v := (s_key S) (t - 1)) (j := (t - 1)) C hO 2 rfl (by omega) (by decide) rfl dX3_mark_104 ?_
                  refine lv_eqi (y := nI ((s_key S (t - 1)).toNatClampNeg)) hkt9.2 ?_
                  refine lv_iconst (v := 1) C.1 C.2.1 dX3_mark_105 (by decide) ?_
                  refine gZast (j := ((s_key S (t - 1)).toNatClampNeg)) (ws' := (mW E b S th (mkD (s_cm S) mk (t - 1) (s_n S)) ++ ((q_was, .inl (eZ E, 10, .inl (wasF S (t - 1)))) :: F))) C hO 12 rfl hkt9.1 (by decide) rfl (by rw [wasF_s hlt ht9 hkt9.1 hkt9.2]; rfl) dX3_mark_106 (fun H locs hO => ?_)
                  refine lv_iload_n C.1 C.2.1 dX3_mark_107 rfl (lv_at hl 3 rfl) ?_
                  refine lv_aload_n C.1 C.2.1 dX3_mark_108 rfl (lv_at hl 0 rfl) ?_
                  refine gGet (v := .ref (b 5)) (ref := RX3) (Cn := RX3) (T := TX3) (N := 19) C iX3 hO 0 rfl rfl 6 (by decide) w22 (fun _ h9 => h9) rfl dX3_mark_109 ?_
                  refine lv_iload C.1 C.2.1 dX3_mark_112 (lv_at hl 4 rfl) ?_
                  refine lv_eqi (y := nI (t - 1)) (nI_p (by omega)) ?_
                  refine gZald (v := s_cm S (t - 1)) (j := (t - 1)) C hO 5 rfl (by omega) (by decide) (by unfold mkD; rw [if_pos ⟨Nat.le_refl _, by omega⟩]) dX3_mark_114 ?_
                  refine lv_if_eq (tgt := 122) C.1 C.2.1 dX3_mark_115 (by decide) (fun c_7 => ?_) (fun c_7 => ?_)
                  · have hgv : s_cm S (t - 1) = 0 := c_7
                    refine lv_iconst (v := 0) C.1 C.2.1 dX3_mark_122 (by decide) ?_
                    refine gAddN (x := c2) (y := 0) C.1 C.2.1 dX3_mark_123 ?_
                    refine lv_istore_n (lv' := [(3, .int (nI (c2 + 0))), (0, .ref (b 0)), (1, .int (lst (s_at S) (s_nx S) (s_sh S))), (2, .ref q_was), (4, .int (nI t - 1))]) C.1 C.2.1 dX3_mark_124 rfl hl (by decide) rfl (fun ls hl => ?_)
                    refine lv_iinc (v := nI (t - 1) - 1) (lv' := [(4, .int (nI (t - 1) - 1)), (3, .int (nI (c2 + 0))), (0, .ref (b 0)), (1, .int (lst (s_at S) (s_nx S) (s_sh S))), (2, .ref q_was)]) C.1 C.2.1 dX3_mark_125 hl (k := 4) rfl (by rw [iDec, nI_p (by omega)]) (by decide) rfl (fun ls hl => ?_)
                    refine lv_goto (tgt := 47) C.1 C.2.1 dX3_mark_128 (by decide) ?_
                    exact ih_lp25 (t - 1) (c2 + 0) (by omega) (by omega) (by first | (rw [hc24, cm_d1 hlt hgv _ (by omega)]; done) | (rw [hc24, cm_d0 hlt hgv _ (by omega)]; done) | (rw [hc24, cm_d0 hlt hgv _ (by omega)]; rfl)) _ _ hO _ (lv_sub hl [2, 3, 4, 1, 0] rfl)
                  · have hgv : ¬ s_cm S (t - 1) = 0 := c_7
                    refine lv_iconst (v := 1) C.1 C.2.1 dX3_mark_118 (by decide) ?_
                    refine lv_goto (tgt := 123) C.1 C.2.1 dX3_mark_119 (by decide) ?_
                    refine gAddN (x := c2) (y := 1) C.1 C.2.1 dX3_mark_123 ?_
                    refine lv_istore_n (lv' := [(3, .int (nI (c2 + 1))), (0, .ref (b 0)), (1, .int (lst (s_at S) (s_nx S) (s_sh S))), (2, .ref q_was), (4, .int (nI t - 1))]) C.1 C.2.1 dX3_mark_124 rfl hl (by decide) rfl (fun ls hl => ?_)
                    refine lv_iinc (v := nI (t - 1) - 1) (lv' := [(4, .int (nI (t - 1) - 1)), (3, .int (nI (c2 + 1))), (0, .ref (b 0)), (1, .int (lst (s_at S) (s_nx S) (s_sh S))), (2, .ref q_was)]) C.1 C.2.1 dX3_mark_125 hl (k := 4) rfl (by rw [iDec, nI_p (by omega)]) (by decide) rfl (fun ls hl => ?_)
                    refine lv_goto (tgt := 47) C.1 C.2.1 dX3_mark_128 (by decide) ?_
                    exact ih_lp25 (t - 1) (c2 + 1) (by omega) (by omega) (by first | (rw [hc24, cm_d1 hlt hgv _ (by omega)]; done) | (rw [hc24, cm_d0 hlt hgv _ (by omega)]; done) | (rw [hc24, cm_d0 hlt hgv _ (by omega)]; rfl)) _ _ hO _ (lv_sub hl [2, 3, 4, 1, 0] rfl)
                · have hv9 : s_val S (t - 1) = 0 := c_6
                  refine lv_aload_n C.1 C.2.1 dX3_mark_80 rfl (lv_at hl 0 rfl) ?_
                  refine gGet (v := .ref (b 1)) (ref := RX3) (Cn := RX3) (T := TX3) (N := 19) C iX3 hO 0 rfl rfl 2 (by decide) w9 (fun _ h9 => h9) rfl dX3_mark_81 ?_
                  refine lv_iload C.1 C.2.1 dX3_mark_84 (lv_at hl 4 rfl) ?_
                  refine lv_eqi (y := nI (t - 1)) (nI_p (by omega)) ?_
                  refine gIald (v := (s_off S) (t - 1)) (j := (t - 1)) C hO 1 rfl (by omega) (by decide) rfl dX3_mark_86 ?_
                  refine lv_iload_n C.1 C.2.1 dX3_mark_87 rfl (lv_at hl 1 rfl) ?_
                  refine gGeI (tgt := 95) C.1 C.2.1 dX3_mark_88 (by decide) (fun c_8 => ?_) (fun c_8 => ?_)
                  · have ho9 : ¬ s_off S (t - 1) < lst (s_at S) (s_nx S) (s_sh S) := c_8
                    refine lv_iconst (v := 0) C.1 C.2.1 dX3_mark_95 (by decide) ?_
                    have hgv9 : s_cm S (t - 1) = 0 := by unfold s_cm; first | exact gComp_0 (fun g => g.elim (fun z => z (by rw [hkt9.2, show t - 1 + 1 = t by omega]; exact wasF_0 hkt9.1 hw9)) (fun z => hv9 z.1)) | exact gComp_0 (fun g => g.elim (fun z => z (by rw [hkt9.2, show t - 1 + 1 = t by omega]; exact wasF_0 hkt9.1 hw9)) (fun z => ho9 z.2))
                    refine gZast (j := (t - 1)) (ws' := (mW E b S th (mkD (s_cm S) mk (t - 1) (s_n S)) ++ ((q_was, .inl (eZ E, 10, .inl (wasF S t))) :: F))) C hO 5 rfl (by omega) (by decide) rfl (by rw [mkD_s (x := 0) hlt ht9 hgv9]; rfl) dX3_mark_96 (fun H locs hO => ?_)
                    refine lv_aload_n C.1 C.2.1 dX3_mark_97 rfl (lv_at hl 2 rfl) ?_
                    refine lv_aload_n C.1 C.2.1 dX3_mark_98 rfl (lv_at hl 0 rfl) ?_
                    refine gGet (v := .ref (b 2)) (ref := RX3) (Cn := RX3) (T := TX3) (N := 19) C iX3 hO 0 rfl rfl 3 (by decide) w13 (fun _ h9 => h9) rfl dX3_mark_99 ?_
                    refine lv_iload C.1 C.2.1 dX3_mark_102 (lv_at hl 4 rfl) ?_
                    refine lv_eqi (y := nI (t - 1)) (nI_p (by omega)) ?_
                    refine gIald (v := (s_key S) (t - 1)) (j := (t - 1)) C hO 2 rfl (by omega) (by decide) rfl dX3_mark_104 ?_
                    refine lv_eqi (y := nI ((s_key S (t - 1)).toNatClampNeg)) hkt9.2 ?_
                    refine lv_iconst (v := 1) C.1 C.2.1 dX3_mark_105 (by decide) ?_
                    refine gZast (j := ((s_key S (t - 1)).toNatClampNeg)) (ws' := (mW E b S th (mkD (s_cm S) mk (t - 1) (s_n S)) ++ ((q_was, .inl (eZ E, 10, .inl (wasF S (t - 1)))) :: F))) C hO 12 rfl hkt9.1 (by decide) rfl (by rw [wasF_s hlt ht9 hkt9.1 hkt9.2]; rfl) dX3_mark_106 (fun H locs hO => ?_)
                    refine lv_iload_n C.1 C.2.1 dX3_mark_107 rfl (lv_at hl 3 rfl) ?_
                    refine lv_aload_n C.1 C.2.1 dX3_mark_108 rfl (lv_at hl 0 rfl) ?_
                    refine gGet (v := .ref (b 5)) (ref := RX3) (Cn := RX3) (T := TX3) (N := 19) C iX3 hO 0 rfl rfl 6 (by decide) w22 (fun _ h9 => h9) rfl dX3_mark_109 ?_
                    refine lv_iload C.1 C.2.1 dX3_mark_112 (lv_at hl 4 rfl) ?_
                    refine lv_eqi (y := nI (t - 1)) (nI_p (by omega)) ?_
                    refine gZald (v := s_cm S (t - 1)) (j := (t - 1)) C hO 5 rfl (by omega) (by decide) (by unfold mkD; rw [if_pos ⟨Nat.le_refl _, by omega⟩]) dX3_mark_114 ?_
                    refine lv_if_eq (tgt := 122) C.1 C.2.1 dX3_mark_115 (by decide) (fun c_9 => ?_) (fun c_9 => ?_)
                    · have hgv : s_cm S (t - 1) = 0 := c_9
                      refine lv_iconst (v := 0) C.1 C.2.1 dX3_mark_122 (by decide) ?_
                      refine gAddN (x := c2) (y := 0) C.1 C.2.1 dX3_mark_123 ?_
                      refine lv_istore_n (lv' := [(3, .int (nI (c2 + 0))), (0, .ref (b 0)), (1, .int (lst (s_at S) (s_nx S) (s_sh S))), (2, .ref q_was), (4, .int (nI t - 1))]) C.1 C.2.1 dX3_mark_124 rfl hl (by decide) rfl (fun ls hl => ?_)
                      refine lv_iinc (v := nI (t - 1) - 1) (lv' := [(4, .int (nI (t - 1) - 1)), (3, .int (nI (c2 + 0))), (0, .ref (b 0)), (1, .int (lst (s_at S) (s_nx S) (s_sh S))), (2, .ref q_was)]) C.1 C.2.1 dX3_mark_125 hl (k := 4) rfl (by rw [iDec, nI_p (by omega)]) (by decide) rfl (fun ls hl => ?_)
                      refine lv_goto (tgt := 47) C.1 C.2.1 dX3_mark_128 (by decide) ?_
                      exact ih_lp25 (t - 1) (c2 + 0) (by omega) (by omega) (by first | (rw [hc24, cm_d1 hlt hgv _ (by omega)]; done) | (rw [hc24, cm_d0 hlt hgv _ (by omega)]; done) | (rw [hc24, cm_d0 hlt hgv _ (by omega)]; rfl)) _ _ hO _ (lv_sub hl [2, 3, 4, 1, 0] rfl)
                    · have hgv : ¬ s_cm S (t - 1) = 0 := c_9
                      refine lv_iconst (v := 1) C.1 C.2.1 dX3_mark_118 (by decide) ?_
                      refine lv_goto (tgt := 123) C.1 C.2.1 dX3_mark_119 (by decide) ?_
                      refine gAddN (x := c2) (y := 1) C.1 C.2.1 dX3_mark_123 ?_
                      refine lv_istore_n (lv' := [(3, .int (nI (c2 + 1))), (0, .ref (b 0)), (1, .int (lst (s_at S) (s_nx S) (s_sh S))), (2, .ref q_was), (4, .int (nI t - 1))]) C.1 C.2.1 dX3_mark_124 rfl hl (by decide) rfl (fun ls hl => ?_)
                      refine lv_iinc (v := nI (t - 1) - 1) (lv' := [(4, .int (nI (t - 1) - 1)), (3, .int (nI (c2 + 1))), (0, .ref (b 0)), (1, .int (lst (s_at S) (s_nx S) (s_sh S))), (2, .ref q_was)]) C.1 C.2.1 dX3_mark_125 hl (k := 4) rfl (by rw [iDec, nI_p (by omega)]) (by decide) rfl (fun ls hl => ?_)
                      refine lv_goto (tgt := 47) C.1 C.2.1 dX3_mark_128 (by decide) ?_
                      exact ih_lp25 (t - 1) (c2 + 1) (by omega) (by omega) (by first | (rw [hc24, cm_d1 hlt hgv _ (by omega)]; done) | (rw [hc24, cm_d0 hlt hgv _ (by omega)]; done) | (rw [hc24, cm_d0 hlt hgv _ (by omega)]; rfl)) _ _ hO _ (lv_sub hl [2, 3, 4, 1, 0] rfl)
                  · have ho9 : s_off S (t - 1) < lst (s_at S) (s_nx S) (s_sh S) := c_8
                    refine lv_iconst (v := 1) C.1 C.2.1 dX3_mark_91 (by decide) ?_
                    refine lv_goto (tgt := 96) C.1 C.2.1 dX3_mark_92 (by decide) ?_
                    have hgv9 : s_cm S (t - 1) = 1 := by unfold s_cm; first | exact gComp_1 (Or.inl (by rw [hkt9.2, show t - 1 + 1 = t by omega]; exact wasF_1 hw9)) | exact gComp_1 (Or.inr ⟨hv9, ho9⟩)
                    refine gZast (j := (t - 1)) (ws' := (mW E b S th (mkD (s_cm S) mk (t - 1) (s_n S)) ++ ((q_was, .inl (eZ E, 10, .inl (wasF S t))) :: F))) C hO 5 rfl (by omega) (by decide) rfl (by rw [mkD_s (x := 1) hlt ht9 hgv9]; rfl) dX3_mark_96 (fun H locs hO => ?_)
                    refine lv_aload_n C.1 C.2.1 dX3_mark_97 rfl (lv_at hl 2 rfl) ?_
                    refine lv_aload_n C.1 C.2.1 dX3_mark_98 rfl (lv_at hl 0 rfl) ?_
                    refine gGet (v := .ref (b 2)) (ref := RX3) (Cn := RX3) (T := TX3) (N := 19) C iX3 hO 0 rfl rfl 3 (by decide) w13 (fun _ h9 => h9) rfl dX3_mark_99 ?_
                    refine lv_iload C.1 C.2.1 dX3_mark_102 (lv_at hl 4 rfl) ?_
                    refine lv_eqi (y := nI (t - 1)) (nI_p (by omega)) ?_
                    refine gIald (v := (s_key S) (t - 1)) (j := (t - 1)) C hO 2 rfl (by omega) (by decide) rfl dX3_mark_104 ?_
                    refine lv_eqi (y := nI ((s_key S (t - 1)).toNatClampNeg)) hkt9.2 ?_
                    refine lv_iconst (v := 1) C.1 C.2.1 dX3_mark_105 (by decide) ?_
                    refine gZast (j := ((s_key S (t - 1)).toNatClampNeg)) (ws' := (mW E b S th (mkD (s_cm S) mk (t - 1) (s_n S)) ++ ((q_was, .inl (eZ E, 10, .inl (wasF S (t - 1)))) :: F))) C hO 12 rfl hkt9.1 (by decide) rfl (by rw [wasF_s hlt ht9 hkt9.1 hkt9.2]; rfl) dX3_mark_106 (fun H locs hO => ?_)
                    refine lv_iload_n C.1 C.2.1 dX3_mark_107 rfl (lv_at hl 3 rfl) ?_
                    refine lv_aload_n C.1 C.2.1 dX3_mark_108 rfl (lv_at hl 0 rfl) ?_
                    refine gGet (v := .ref (b 5)) (ref := RX3) (Cn := RX3) (T := TX3) (N := 19) C iX3 hO 0 rfl rfl 6 (by decide) w22 (fun _ h9 => h9) rfl dX3_mark_109 ?_
                    refine lv_iload C.1 C.2.1 dX3_mark_112 (lv_at hl 4 rfl) ?_
                    refine lv_eqi (y := nI (t - 1)) (nI_p (by omega)) ?_
                    refine gZald (v := s_cm S (t - 1)) (j := (t - 1)) C hO 5 rfl (by omega) (by decide) (by unfold mkD; rw [if_pos ⟨Nat.le_refl _, by omega⟩]) dX3_mark_114 ?_
                    refine lv_if_eq (tgt := 122) C.1 C.2.1 dX3_mark_115 (by decide) (fun c_10 => ?_) (fun c_10 => ?_)
                    · have hgv : s_cm S (t - 1) = 0 := c_10
                      refine lv_iconst (v := 0) C.1 C.2.1 dX3_mark_122 (by decide) ?_
                      refine gAddN (x := c2) (y := 0) C.1 C.2.1 dX3_mark_123 ?_
                      refine lv_istore_n (lv' := [(3, .int (nI (c2 + 0))), (0, .ref (b 0)), (1, .int (lst (s_at S) (s_nx S) (s_sh S))), (2, .ref q_was), (4, .int (nI t - 1))]) C.1 C.2.1 dX3_mark_124 rfl hl (by decide) rfl (fun ls hl => ?_)
                      refine lv_iinc (v := nI (t - 1) - 1) (lv' := [(4, .int (nI (t - 1) - 1)), (3, .int (nI (c2 + 0))), (0, .ref (b 0)), (1, .int (lst (s_at S) (s_nx S) (s_sh S))), (2, .ref q_was)]) C.1 C.2.1 dX3_mark_125 hl (k := 4) rfl (by rw [iDec, nI_p (by omega)]) (by decide) rfl (fun ls hl => ?_)
                      refine lv_goto (tgt := 47) C.1 C.2.1 dX3_mark_128 (by decide) ?_
                      exact ih_lp25 (t - 1) (c2 + 0) (by omega) (by omega) (by first | (rw [hc24, cm_d1 hlt hgv _ (by omega)]; done) | (rw [hc24, cm_d0 hlt hgv _ (by omega)]; done) | (rw [hc24, cm_d0 hlt hgv _ (by omega)]; rfl)) _ _ hO _ (lv_sub hl [2, 3, 4, 1, 0] rfl)
                    · have hgv : ¬ s_cm S (t - 1) = 0 := c_10
                      refine lv_iconst (v := 1) C.1 C.2.1 dX3_mark_118 (by decide) ?_
                      refine lv_goto (tgt := 123) C.1 C.2.1 dX3_mark_119 (by decide) ?_
                      refine gAddN (x := c2) (y := 1) C.1 C.2.1 dX3_mark_123 ?_
                      refine lv_istore_n (lv' := [(3, .int (nI (c2 + 1))), (0, .ref (b 0)), (1, .int (lst (s_at S) (s_nx S) (s_sh S))), (2, .ref q_was), (4, .int (nI t - 1))]) C.1 C.2.1 dX3_mark_124 rfl hl (by decide) rfl (fun ls hl => ?_)
                      refine lv_iinc (v := nI (t - 1) - 1) (lv' := [(4, .int (nI (t - 1) - 1)), (3, .int (nI (c2 + 1))), (0, .ref (b 0)), (1, .int (lst (s_at S) (s_nx S) (s_sh S))), (2, .ref q_was)]) C.1 C.2.1 dX3_mark_125 hl (k := 4) rfl (by rw [iDec, nI_p (by omega)]) (by decide) rfl (fun ls hl => ?_)
                      refine lv_goto (tgt := 47) C.1 C.2.1 dX3_mark_128 (by decide) ?_
                      exact ih_lp25 (t - 1) (c2 + 1) (by omega) (by omega) (by first | (rw [hc24, cm_d1 hlt hgv _ (by omega)]; done) | (rw [hc24, cm_d0 hlt hgv _ (by omega)]; done) | (rw [hc24, cm_d0 hlt hgv _ (by omega)]; rfl)) _ _ hO _ (lv_sub hl [2, 3, 4, 1, 0] rfl)
        refine W.widen (k := 1) (n := 10) (by omega) (by omega) ?_
        exact lp25 (s_n S + 1) (s_n S) 0 (by omega) (Nat.le_refl _) ((cm_fr _ _ _ (Nat.le_refl _)).symm) _ _ hO _ (lv_sub hl [3, 4, 2, 1, 0] rfl)
      · refine lv_iload_n C.1 C.2.1 dX3_mark_15 rfl (lv_at hl 1 rfl) ?_
        refine lv_aload_n C.1 C.2.1 dX3_mark_16 rfl (lv_at hl 0 rfl) ?_
        refine gGet (v := .ref (b 8)) (ref := RX3) (Cn := RX3) (T := TX3) (N := 19) C iX3 hO 0 rfl rfl 15 (by decide) w32 (fun _ h9 => h9) rfl dX3_mark_17 ?_
        refine lv_iload_n C.1 C.2.1 dX3_mark_20 rfl (lv_at hl 2 rfl) ?_
        refine gIald (v := (s_at S) k) (j := k) C hO 8 rfl (by omega) (by decide) rfl dX3_mark_21 ?_
        refine va_mmin C.1 C.2.1 (by rw [C.2.2.1]; exact hl.1.symm) C.2.2.2.1 (C.2.2.2.2.1 (.methodLink RX3 75 Lib.Math.min.name) (by decide +kernel)) (C.2.2.2.2.1 (.static Lib.Math.min.name) (by decide +kernel)) (C.2.2.2.2.1 (.initialized "java/lang/Math") (by decide +kernel)) (C.2.2.2.2.1 (.code Lib.Math.min.name Lib.Math.min.code 2 (some .int)) (by decide +kernel)) (Nat.le_of_ble_eq_true rfl) (Nat.le_of_ble_eq_true rfl) (Nat.le_of_ble_eq_true rfl) (Nat.le_of_ble_eq_true rfl) dX3_mark_22 ?_
        refine lv_istore_n (lv' := [(1, .int (if (s_at S) k < lst (s_at S) (s_nx S) k then (s_at S) k else lst (s_at S) (s_nx S) k)), (0, .ref (b 0)), (2, .int (nI k))]) C.1 C.2.1 dX3_mark_25 rfl hl (by decide) rfl (fun ls hl => ?_)
        refine gInc (j := k) (k := 2) (lv' := [(2, .int (nI (k + 1))), (1, .int (if (s_at S) k < lst (s_at S) (s_nx S) k then (s_at S) k else lst (s_at S) (s_nx S) k)), (0, .ref (b 0))]) C.1 C.2.1 dX3_mark_26 hl rfl (by decide) rfl (fun ls hl => ?_)
        refine lv_goto (tgt := 7) C.1 C.2.1 dX3_mark_29 (by decide) ?_
        exact ih_lp24 (k + 1) (by omega) (by omega) _ _ hO _ (lv_sub hl [2, 1, 0] rfl)
  exact lp24 (s_sh S + 1) 0 (by omega) (Nat.zero_le _) _ _ hO _ (lv_sub hl [2, 1, 0] rfl)
