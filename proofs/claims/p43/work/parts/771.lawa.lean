section LC
variable {p : Program} {l : Launch} {e : Env} {s : State} {m : MethodId} {args : Array Value} {below : List Frame} {meth : Method} {c : Code} {H : Heap} {locs : List Loc} {Q : State → Prop} {E : gE} {A : Nat → Prop} {ret9 : Option FieldType}
variable {a : Nat → Nat} {o : Nat} {d : Dt} {S : St} {mk rk rv : Nat → Int32} {F : va_W} {B : Int} {bs L t z0 nc ns : Nat} {xs : Nat → Int32} {x : Int32} {ls : Array Slot}
set_option maxHeartbeats 4000000 in
set_option maxRecDepth 100000 in
theorem law_A (hst : l.stackTraces = false) (hJ : J9 S B) (hB : B + 100 < 2147480000) (hR : Rep E d S) (ez0 : s_nx S = nI z0) (hz0 : z0 < 2147480000) (hnc : nc ≤ 100000) (hns : ns ≤ 2000000) (C : gCx p s m args meth c cL_law 21 wsL_law RL ret9 E A)  (hO : gO E A s ((xW E a S mk rk rv) ++ (sW E o d S F)) H locs) (hl : lv_has ls 21 [(4, .int x), (3, .int (nI t)), (2, .ref o), (1, .ref (a 0)), (0, .ref bs)]) (kk : ∀ (H : Heap) (locs : List Loc), gO E A s ((xW E a S mk rk rv) ++ (sW E o d S F)) H locs → ∀ ls : Array Slot, lv_has ls 21 [(0, .ref bs), (1, .ref (a 0)), (2, .ref o), (3, .int (nI t)), (4, .int x), (5, .int (nI (s_n S))), (6, .int (nI z0)), (7, .int (s_first S)), (8, .int (nI (s_sh S)))] → W p l e room_1 s m args below meth c H locs nc ns Q (F0 m 183 ls [])) : W p l e room_1 s m args below meth c H locs nc ns Q (F0 m 63 ls []) := by
  have hI : s_inv S := hJ.1.inv
  obtain ⟨hn, hsh, hsc, hOn, hOb, hok9, hpc9, hp0⟩ := id hI
  have hsr : s_srt S := hJ.1.1.srt
  have hlg := hJ.1.1
  have hxI := hJ.2
  obtain ⟨hnz1, hnz2, hnz3⟩ := nx_sum hxI hn ez0 hz0
  refine lv_aload_n C.1 C.2.1 dL_law_63 rfl (lv_at hl 3 rfl) ?_
  refine gCall_i (mc := 0) (ms := 0) (As := []) (rest := []) C hO (c_X2_phrases l E a S mk rk rv (sW E o d S F)  hI) (cwV 0 C.2.2.2.2.1 gL_law_X2_phrases rfl rfl rfl (by decide +kernel) ⟨(Nat.le_of_ble_eq_true rfl), (Nat.le_of_ble_eq_true rfl)⟩) (va_recv C.2.2.2.2.2.2.2.1.1 hO.1 (ci := 2) (q0 := 0) rfl rfl) rfl hl.1 rfl (Nat.le_of_ble_eq_true rfl) dL_law_64 ⟨(by show nc + 0 ≤ 600172; omega), (by show ns + 0 ≤ 7300668; omega)⟩ (fun H locs hO => ?_)
  refine lv_istore (lv' := [(5, .int (nI (s_n S))), (4, .int x), (3, .int (nI t)), (2, .ref o), (1, .ref (a 0)), (0, .ref bs)]) C.1 C.2.1 dL_law_67 hl (by decide) rfl (fun ls hl => ?_)
  refine lv_aload_n C.1 C.2.1 dL_law_69 rfl (lv_at hl 4 rfl) ?_
  refine gCall_i (mc := 0) (ms := 0) (As := []) (rest := []) C hO (c_X2_nextOffset l E a S mk rk rv (sW E o d S F)  hI) (cwV 0 C.2.2.2.2.1 gL_law_X2_nextOffset rfl rfl rfl (by decide +kernel) ⟨(Nat.le_of_ble_eq_true rfl), (Nat.le_of_ble_eq_true rfl)⟩) (va_recv C.2.2.2.2.2.2.2.1.1 hO.1 (ci := 2) (q0 := 0) rfl rfl) rfl hl.1 rfl (Nat.le_of_ble_eq_true rfl) dL_law_70 ⟨(by show nc + 0 + 0 ≤ 600172; omega), (by show ns + 0 + 0 ≤ 7300668; omega)⟩ (fun H locs hO => ?_)
  refine lv_eqi (y := nI z0) ez0 ?_
  refine lv_istore (lv' := [(6, .int (nI z0)), (5, .int (nI (s_n S))), (4, .int x), (3, .int (nI t)), (2, .ref o), (1, .ref (a 0)), (0, .ref bs)]) C.1 C.2.1 dL_law_73 hl (by decide) rfl (fun ls hl => ?_)
  refine lv_aload_n C.1 C.2.1 dL_law_75 rfl (lv_at hl 5 rfl) ?_
  refine gCall_i (mc := 0) (ms := 0) (As := []) (rest := []) C hO (c_X2_firstOffset l E a S mk rk rv (sW E o d S F)  hI) (cwV 0 C.2.2.2.2.1 gL_law_X2_firstOffset rfl rfl rfl (by decide +kernel) ⟨(Nat.le_of_ble_eq_true rfl), (Nat.le_of_ble_eq_true rfl)⟩) (va_recv C.2.2.2.2.2.2.2.1.1 hO.1 (ci := 2) (q0 := 0) rfl rfl) rfl hl.1 rfl (Nat.le_of_ble_eq_true rfl) dL_law_76 ⟨(by show nc + 0 + 0 + 0 ≤ 600172; omega), (by show ns + 0 + 0 + 0 ≤ 7300668; omega)⟩ (fun H locs hO => ?_)
  refine lv_istore (lv' := [(7, .int (s_first S)), (6, .int (nI z0)), (5, .int (nI (s_n S))), (4, .int x), (3, .int (nI t)), (2, .ref o), (1, .ref (a 0)), (0, .ref bs)]) C.1 C.2.1 dL_law_79 hl (by decide) rfl (fun ls hl => ?_)
  refine lv_aload_n C.1 C.2.1 dL_law_81 rfl (lv_at hl 6 rfl) ?_
  refine gCall_i (mc := 0) (ms := 0) (As := []) (rest := []) C hO (c_X2_ships l E a S mk rk rv (sW E o d S F)  hI) (cwV 0 C.2.2.2.2.1 gL_law_X2_ships rfl rfl rfl (by decide +kernel) ⟨(Nat.le_of_ble_eq_true rfl), (Nat.le_of_ble_eq_true rfl)⟩) (va_recv C.2.2.2.2.2.2.2.1.1 hO.1 (ci := 2) (q0 := 0) rfl rfl) rfl hl.1 rfl (Nat.le_of_ble_eq_true rfl) dL_law_82 ⟨(by show nc + 0 + 0 + 0 + 0 ≤ 600172; omega), (by show ns + 0 + 0 + 0 + 0 ≤ 7300668; omega)⟩ (fun H locs hO => ?_)
  refine lv_istore (lv' := [(8, .int (nI (s_sh S))), (7, .int (s_first S)), (6, .int (nI z0)), (5, .int (nI (s_n S))), (4, .int x), (3, .int (nI t)), (2, .ref o), (1, .ref (a 0)), (0, .ref bs)]) C.1 C.2.1 dL_law_85 hl (by decide) rfl (fun ls hl => ?_)
  refine lv_iload C.1 C.2.1 dL_law_87 (lv_at hl 3 rfl) ?_
  refine lv_if_lt (tgt := 181) C.1 C.2.1 dL_law_89 (by decide) (fun c_1 => ?_) (fun c_1 => ?_)
  · exact absurd c_1 (nI_pos (by omega))
  · refine lv_iload C.1 C.2.1 dL_law_92 (lv_at hl 3 rfl) ?_
    refine lv_bipush (v := nI 48) C.1 C.2.1 dL_law_94 (by decide) ?_
    refine gGtN (x := (s_n S)) (y := 48) (tgt := 181) C.1 C.2.1 (by omega) (by omega) dL_law_96 (by decide) (fun c_2 => ?_) (fun c_2 => ?_)
    · exact absurd c_2 (by omega)
    · refine lv_iload C.1 C.2.1 dL_law_99 (lv_at hl 3 rfl) ?_
      refine lv_aload_n C.1 C.2.1 dL_law_101 rfl (lv_at hl 7 rfl) ?_
      refine gCall_i (mc := 0) (ms := 0) (As := []) (rest := [.int (nI (s_n S))]) C hO (c_X2_dropped l E a S mk rk rv (sW E o d S F)  hI) (cwV 0 C.2.2.2.2.1 gL_law_X2_dropped rfl rfl rfl (by decide +kernel) ⟨(Nat.le_of_ble_eq_true rfl), (Nat.le_of_ble_eq_true rfl)⟩) (va_recv C.2.2.2.2.2.2.2.1.1 hO.1 (ci := 2) (q0 := 0) rfl rfl) rfl hl.1 rfl (Nat.le_of_ble_eq_true rfl) dL_law_102 ⟨(by show nc + 0 + 0 + 0 + 0 + 0 ≤ 600172; omega), (by show ns + 0 + 0 + 0 + 0 + 0 ≤ 7300668; omega)⟩ (fun H locs hO => ?_)
      refine lv_iadd C.1 C.2.1 dL_law_105 ?_
      refine lv_eqi (y := nI z0) hnz1 ?_
      refine lv_iload C.1 C.2.1 dL_law_106 (lv_at hl 2 rfl) ?_
      refine lv_icmp_ne (tgt := 181) C.1 C.2.1 dL_law_108 (by decide) (fun c_3 => ?_) (fun c_3 => ?_)
      · exact absurd rfl c_3
      · refine lv_iload C.1 C.2.1 dL_law_111 (lv_at hl 1 rfl) ?_
        refine gGe0 (tgt := 120) C.1 C.2.1 dL_law_113 (by decide) (fun c_4 => ?_) (fun c_4 => ?_)
        · have hf9 : ¬ s_n S = 0 := fun q => c_4 ((first_neg hlg).mpr q)
          refine lv_iconst (v := 0) C.1 C.2.1 dL_law_120 (by decide) ?_
          refine lv_iload C.1 C.2.1 dL_law_121 (lv_at hl 3 rfl) ?_
          refine lv_if_ne (tgt := 130) C.1 C.2.1 dL_law_123 (by decide) (fun c_5 => ?_) (fun c_5 => ?_)
          · refine lv_iconst (v := 0) C.1 C.2.1 dL_law_130 (by decide) ?_
            refine lv_icmp_ne (tgt := 181) C.1 C.2.1 dL_law_131 (by decide) (fun c_6 => ?_) (fun c_6 => ?_)
            · exact absurd rfl c_6
            · refine lv_iload C.1 C.2.1 dL_law_134 (lv_at hl 3 rfl) ?_
              refine gLe0 (tgt := 164) C.1 C.2.1 dL_law_136 (by decide) (fun c_7 => ?_) (fun c_7 => ?_)
              · exact absurd ((nI_ltI (a := 0) (by omega) (by omega)).mpr (by omega)) c_7
              · refine lv_iload C.1 C.2.1 dL_law_139 (lv_at hl 1 rfl) ?_
                refine lv_iload C.1 C.2.1 dL_law_141 (lv_at hl 2 rfl) ?_
                refine gGeI (tgt := 181) C.1 C.2.1 dL_law_143 (by decide) (fun c_8 => ?_) (fun c_8 => ?_)
                · exact absurd (by rw [← ez0]; exact first_nx hlg hf9) c_8
                · refine lv_aload_n C.1 C.2.1 dL_law_146 rfl (lv_at hl 7 rfl) ?_
                  refine lv_iload C.1 C.2.1 dL_law_147 (lv_at hl 1 rfl) ?_
                  refine gCall_i (mc := 0) (ms := 0) (As := [.int (s_first S)]) (rest := []) C hO (c_X2_isKept l E a S mk rk rv (sW E o d S F) (s_first S) hI) (cwV 1 C.2.2.2.2.1 gL_law_X2_isKept rfl rfl rfl (by decide +kernel) ⟨(Nat.le_of_ble_eq_true rfl), (Nat.le_of_ble_eq_true rfl)⟩) (va_recv C.2.2.2.2.2.2.2.1.1 hO.1 (ci := 2) (q0 := 0) rfl rfl) rfl hl.1 rfl (Nat.le_of_ble_eq_true rfl) dL_law_149 ⟨(by show nc + 0 + 0 + 0 + 0 + 0 + 0 ≤ 600172; omega), (by show ns + 0 + 0 + 0 + 0 + 0 + 0 ≤ 7300668; omega)⟩ (fun H locs hO => ?_)
                  refine lv_eqi (y := 1) (by rw [first_of hf9]; exact s_kp_at hsr (by omega)) ?_
                  refine lv_if_eq (tgt := 181) C.1 C.2.1 dL_law_152 (by decide) (fun c_9 => ?_) (fun c_9 => ?_)
                  · exact absurd c_9 (by decide)
                  · refine lv_iload C.1 C.2.1 dL_law_155 (lv_at hl 1 rfl) ?_
                    refine lv_aload_n C.1 C.2.1 dL_law_157 rfl (lv_at hl 7 rfl) ?_
                    refine gCall_i (mc := 0) (ms := 0) (As := []) (rest := [.int (s_first S)]) C hO (c_X2_dropped l E a S mk rk rv (sW E o d S F)  hI) (cwV 0 C.2.2.2.2.1 gL_law_X2_dropped rfl rfl rfl (by decide +kernel) ⟨(Nat.le_of_ble_eq_true rfl), (Nat.le_of_ble_eq_true rfl)⟩) (va_recv C.2.2.2.2.2.2.2.1.1 hO.1 (ci := 2) (q0 := 0) rfl rfl) rfl hl.1 rfl (Nat.le_of_ble_eq_true rfl) dL_law_158 ⟨(by show nc + 0 + 0 + 0 + 0 + 0 + 0 + 0 ≤ 600172; omega), (by show ns + 0 + 0 + 0 + 0 + 0 + 0 + 0 ≤ 7300668; omega)⟩ (fun H locs hO => ?_)
                    refine lv_icmp_gt (tgt := 181) C.1 C.2.1 dL_law_161 (by decide) (fun c_10 => ?_) (fun c_10 => ?_)
                    · exact absurd c_10 (first_dr hlg hxI hf9)
                    · refine lv_aload_n C.1 C.2.1 dL_law_164 rfl (lv_at hl 7 rfl) ?_
                      refine lv_iconst (v := (-1)) C.1 C.2.1 dL_law_165 (by decide) ?_
                      refine gCall_i (mc := 0) (ms := 0) (As := [.int (-1)]) (rest := []) C hO (c_X2_isKept l E a S mk rk rv (sW E o d S F) (-1) hI) (cwV 1 C.2.2.2.2.1 gL_law_X2_isKept rfl rfl rfl (by decide +kernel) ⟨(Nat.le_of_ble_eq_true rfl), (Nat.le_of_ble_eq_true rfl)⟩) (va_recv C.2.2.2.2.2.2.2.1.1 hO.1 (ci := 2) (q0 := 0) rfl rfl) rfl hl.1 rfl (Nat.le_of_ble_eq_true rfl) dL_law_166 ⟨(by show nc + 0 + 0 + 0 + 0 + 0 + 0 + 0 + 0 ≤ 600172; omega), (by show ns + 0 + 0 + 0 + 0 + 0 + 0 + 0 + 0 ≤ 7300668; omega)⟩ (fun H locs hO => ?_)
                      refine lv_eqi (y := 0) (kp_m1 hlg) ?_
                      refine lv_if_ne (tgt := 181) C.1 C.2.1 dL_law_169 (by decide) (fun c_11 => ?_) (fun c_11 => ?_)
                      · exact absurd rfl c_11
                      · refine lv_aload_n C.1 C.2.1 dL_law_172 rfl (lv_at hl 7 rfl) ?_
                        refine lv_iload C.1 C.2.1 dL_law_173 (lv_at hl 2 rfl) ?_
                        refine gCall_i (mc := 0) (ms := 0) (As := [.int (nI z0)]) (rest := []) C hO (c_X2_isKept l E a S mk rk rv (sW E o d S F) (nI z0) hI) (cwV 1 C.2.2.2.2.1 gL_law_X2_isKept rfl rfl rfl (by decide +kernel) ⟨(Nat.le_of_ble_eq_true rfl), (Nat.le_of_ble_eq_true rfl)⟩) (va_recv C.2.2.2.2.2.2.2.1.1 hO.1 (ci := 2) (q0 := 0) rfl rfl) rfl hl.1 rfl (Nat.le_of_ble_eq_true rfl) dL_law_175 ⟨(by show nc + 0 + 0 + 0 + 0 + 0 + 0 + 0 + 0 + 0 ≤ 600172; omega), (by show ns + 0 + 0 + 0 + 0 + 0 + 0 + 0 + 0 + 0 ≤ 7300668; omega)⟩ (fun H locs hO => ?_)
                        refine lv_eqi (y := 0) (by rw [← ez0]; exact kp_nx hlg) ?_
                        refine lv_if_eq (tgt := 183) C.1 C.2.1 dL_law_178 (by decide) (fun c_12 => ?_) (fun c_12 => ?_)
                        · refine W.widen (k := nc) (n := ns) (by omega) (by omega) ?_
                          exact kk   _ _ hO _ (lv_sub hl [8, 7, 6, 5, 4, 3, 2, 1, 0] rfl)
                        · exact absurd rfl c_12
          · exact absurd (nI_z (by omega) c_5) hf9
        · have hf9 : s_n S = 0 := (first_neg hlg).mp c_4
          refine lv_iconst (v := 1) C.1 C.2.1 dL_law_116 (by decide) ?_
          refine lv_goto (tgt := 121) C.1 C.2.1 dL_law_117 (by decide) ?_
          refine lv_iload C.1 C.2.1 dL_law_121 (lv_at hl 3 rfl) ?_
          refine lv_if_ne (tgt := 130) C.1 C.2.1 dL_law_123 (by decide) (fun c_13 => ?_) (fun c_13 => ?_)
          · exact absurd (by rw [hf9]; rfl) c_13
          · refine lv_iconst (v := 1) C.1 C.2.1 dL_law_126 (by decide) ?_
            refine lv_goto (tgt := 131) C.1 C.2.1 dL_law_127 (by decide) ?_
            refine lv_icmp_ne (tgt := 181) C.1 C.2.1 dL_law_131 (by decide) (fun c_14 => ?_) (fun c_14 => ?_)
            · exact absurd rfl c_14
            · refine lv_iload C.1 C.2.1 dL_law_134 (lv_at hl 3 rfl) ?_
              refine gLe0 (tgt := 164) C.1 C.2.1 dL_law_136 (by decide) (fun c_15 => ?_) (fun c_15 => ?_)
              · refine lv_aload_n C.1 C.2.1 dL_law_164 rfl (lv_at hl 7 rfl) ?_
                refine lv_iconst (v := (-1)) C.1 C.2.1 dL_law_165 (by decide) ?_
                refine gCall_i (mc := 0) (ms := 0) (As := [.int (-1)]) (rest := []) C hO (c_X2_isKept l E a S mk rk rv (sW E o d S F) (-1) hI) (cwV 1 C.2.2.2.2.1 gL_law_X2_isKept rfl rfl rfl (by decide +kernel) ⟨(Nat.le_of_ble_eq_true rfl), (Nat.le_of_ble_eq_true rfl)⟩) (va_recv C.2.2.2.2.2.2.2.1.1 hO.1 (ci := 2) (q0 := 0) rfl rfl) rfl hl.1 rfl (Nat.le_of_ble_eq_true rfl) dL_law_166 ⟨(by show nc + 0 + 0 + 0 + 0 + 0 + 0 ≤ 600172; omega), (by show ns + 0 + 0 + 0 + 0 + 0 + 0 ≤ 7300668; omega)⟩ (fun H locs hO => ?_)
                refine lv_eqi (y := 0) (kp_m1 hlg) ?_
                refine lv_if_ne (tgt := 181) C.1 C.2.1 dL_law_169 (by decide) (fun c_16 => ?_) (fun c_16 => ?_)
                · exact absurd rfl c_16
                · refine lv_aload_n C.1 C.2.1 dL_law_172 rfl (lv_at hl 7 rfl) ?_
                  refine lv_iload C.1 C.2.1 dL_law_173 (lv_at hl 2 rfl) ?_
                  refine gCall_i (mc := 0) (ms := 0) (As := [.int (nI z0)]) (rest := []) C hO (c_X2_isKept l E a S mk rk rv (sW E o d S F) (nI z0) hI) (cwV 1 C.2.2.2.2.1 gL_law_X2_isKept rfl rfl rfl (by decide +kernel) ⟨(Nat.le_of_ble_eq_true rfl), (Nat.le_of_ble_eq_true rfl)⟩) (va_recv C.2.2.2.2.2.2.2.1.1 hO.1 (ci := 2) (q0 := 0) rfl rfl) rfl hl.1 rfl (Nat.le_of_ble_eq_true rfl) dL_law_175 ⟨(by show nc + 0 + 0 + 0 + 0 + 0 + 0 + 0 ≤ 600172; omega), (by show ns + 0 + 0 + 0 + 0 + 0 + 0 + 0 ≤ 7300668; omega)⟩ (fun H locs hO => ?_)
                  refine lv_eqi (y := 0) (by rw [← ez0]; exact kp_nx hlg) ?_
                  refine lv_if_eq (tgt := 183) C.1 C.2.1 dL_law_178 (by decide) (fun c_17 => ?_) (fun c_17 => ?_)
                  · refine W.widen (k := nc) (n := ns) (by omega) (by omega) ?_
                    exact kk   _ _ hO _ (lv_sub hl [8, 7, 6, 5, 4, 3, 2, 1, 0] rfl)
                  · exact absurd rfl c_17
              · exact absurd (by have h9 := (nI_ltI (a := 0) (by omega) (by omega)).mp c_15; omega) (fun q : False => q)
end LC
