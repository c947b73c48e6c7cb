section LC
variable {p : Program} {l : Launch} {e : Env} {s : State} {m : MethodId} {args : Array Value} {below : List Frame} {meth : Method} {c : Code} {H : Heap} {locs : List Loc} {Q : State → Prop} {E : gE} {A : Nat → Prop} {ret9 : Option FieldType}
variable {a : Nat → Nat} {o : Nat} {d : Dt} {S : St} {mk rk rv : Nat → Int32} {F : va_W} {B : Int} {bs L t z0 nc ns : Nat} {xs : Nat → Int32} {x : Int32} {ls : Array Slot}
set_option maxHeartbeats 4000000 in
set_option maxRecDepth 100000 in
theorem law_B (hst : l.stackTraces = false) (hJ : J9 S B) (hB : B + 100 < 2147480000) (hR : Rep E d S) (ez0 : s_nx S = nI z0) (hz0 : z0 < 2147480000) (hnc : nc ≤ 100000) (hns : ns ≤ 2000000) (C : gCx p s m args meth c cL_law 21 wsL_law RL ret9 E A)  (hO : gO E A s ((xW E a S mk rk rv) ++ (sW E o d S F)) H locs) (hl : lv_has ls 21 [(0, .ref bs), (1, .ref (a 0)), (2, .ref o), (3, .int (nI t)), (4, .int x), (5, .int (nI (s_n S))), (6, .int (nI z0)), (7, .int (s_first S)), (8, .int (nI (s_sh S)))]) (kk : ∀ (H : Heap) (locs : List Loc), gO E A s ((xW E a S mk rk rv) ++ (sW E o d S F)) H locs → ∀ ls : Array Slot, lv_has ls 21 [(0, .ref bs), (1, .ref (a 0)), (2, .ref o), (3, .int (nI t)), (4, .int x), (5, .int (nI (s_n S))), (6, .int (nI z0)), (7, .int (s_first S)), (8, .int (nI (s_sh S))), (9, .int (nI (s_n S)))] → W p l e room_1 s m args below meth c H locs (nc + 60) (ns + 360) Q (F0 m 302 ls [])) : W p l e room_1 s m args below meth c H locs nc ns Q (F0 m 183 ls []) := by
  have hI : s_inv S := hJ.1.inv
  obtain ⟨hn, hsh, hsc, hOn, hOb, hok9, hpc9, hp0⟩ := id hI
  have hsr : s_srt S := hJ.1.1.srt
  have hlg := hJ.1.1
  have hxI := hJ.2
  obtain ⟨hnz1, hnz2, hnz3⟩ := nx_sum hxI hn ez0 hz0
  refine lv_iconst (v := 0) C.1 C.2.1 dL_law_183 (by decide) ?_
  refine lv_istore (lv' := [(9, .int 0), (0, .ref bs), (1, .ref (a 0)), (2, .ref o), (3, .int (nI t)), (4, .int x), (5, .int (nI (s_n S))), (6, .int (nI z0)), (7, .int (s_first S)), (8, .int (nI (s_sh S)))]) C.1 C.2.1 dL_law_184 hl (by decide) rfl (fun ls hl => ?_)
  refine lv_iconst (v := 0) C.1 C.2.1 dL_law_186 (by decide) ?_
  refine lv_istore (lv' := [(10, .int 0), (9, .int 0), (0, .ref bs), (1, .ref (a 0)), (2, .ref o), (3, .int (nI t)), (4, .int x), (5, .int (nI (s_n S))), (6, .int (nI z0)), (7, .int (s_first S)), (8, .int (nI (s_sh S)))]) C.1 C.2.1 dL_law_187 hl (by decide) rfl (fun ls hl => ?_)
  have lp189 : ∀ (f : Nat) (c24 : Nat), (11 ≤ c24 + f) → (c24 ≤ 10) → ∀ (H : Heap) (locs : List Loc), gO E A s ((xW E a S mk rk rv) ++ (sW E o d S F)) H locs → ∀ ls : Array Slot, lv_has ls 21 [(0, .ref bs), (1, .ref (a 0)), (2, .ref o), (3, .int (nI t)), (4, .int x), (5, .int (nI (s_n S))), (6, .int (nI z0)), (7, .int (s_first S)), (8, .int (nI (s_sh S))), (9, .int (nI (sumN (fun c => cnt (s_key S) (nI c) (s_n S)) c24))), (10, .int (nI c24))] → W p l e room_1 s m args below meth c H locs (nc + 6 * c24) (ns + 36 * c24) Q (F0 m 189 ls []) := by
    intro f
    induction f with
    | zero =>
      intro c24 hf hc24
      exact absurd hf (by omega)
    | succ f ih_lp189 =>
      intro c24 hf hc24 H locs hO ls hl
      refine lv_iload C.1 C.2.1 dL_law_189 (lv_at hl 10 rfl) ?_
      refine lv_bipush (v := nI 10) C.1 C.2.1 dL_law_191 (by decide) ?_
      refine gGeN (x := c24) (y := 10) (tgt := 302) C.1 C.2.1 (by omega) (by omega) dL_law_193 (by decide) (fun c_1 => ?_) (fun c_1 => ?_)
      · have hse9 := sum_cnt (f := s_key S) (s_n S) (fun i hi => hlg.2.1 i hi)
        have hce9 : c24 = 10 := by omega
        have hl : lv_has ls 21 [(0, .ref bs), (1, .ref (a 0)), (2, .ref o), (3, .int (nI t)), (4, .int x), (5, .int (nI (s_n S))), (6, .int (nI z0)), (7, .int (s_first S)), (8, .int (nI (s_sh S))), (9, .int (nI (s_n S))), (10, .int (nI 10))] := by rw [hce9, hse9] at hl; exact hl
        refine W.widen (k := nc + 60) (n := ns + 360) (by omega) (by omega) ?_
        exact kk   _ _ hO _ (lv_sub hl [0, 1, 2, 3, 4, 5, 6, 7, 8, 9] rfl)
      · refine lv_aload_n C.1 C.2.1 dL_law_196 rfl (lv_at hl 1 rfl) ?_
        refine lv_iload C.1 C.2.1 dL_law_197 (lv_at hl 10 rfl) ?_
        refine gXCall_i (mc := 1) (ms := 6) (As := [.int (nI c24)]) (rest := []) C hO (c_X2_latestOf l E a S mk rk rv (sW E o d S F) (nI c24) hst hI) (cwV 1 C.2.2.2.2.1 gL_law_X2_latestOf rfl rfl rfl (by decide +kernel) ⟨(Nat.le_of_ble_eq_true rfl), (Nat.le_of_ble_eq_true rfl)⟩) (va_recv C.2.2.2.2.2.2.2.1.1 hO.1 (ci := 2) (q0 := 0) rfl rfl) rfl hl.1 rfl (Nat.le_of_ble_eq_true rfl) dL_law_199 ⟨(by show nc + 6 * c24 + 1 ≤ 600172; omega), (by show ns + 36 * c24 + 6 ≤ 7300668; omega)⟩ (fun E0 ce q9 H locs hO hcell hcv hcl hbad => ?_) (fun H locs hO _ => ?_)
        · exact absurd (okKey_nI (by omega)) hbad.2
        refine lv_istore (lv' := [(11, .int (s_lo S (nI c24))), (0, .ref bs), (1, .ref (a 0)), (2, .ref o), (3, .int (nI t)), (4, .int x), (5, .int (nI (s_n S))), (6, .int (nI z0)), (7, .int (s_first S)), (8, .int (nI (s_sh S))), (9, .int (nI (sumN (fun c => cnt (s_key S) (nI c) (s_n S)) c24))), (10, .int (nI c24))]) C.1 C.2.1 dL_law_202 hl (by decide) rfl (fun ls hl => ?_)
        refine lv_iload C.1 C.2.1 dL_law_204 (lv_at hl 10 rfl) ?_
        refine lv_aload_n C.1 C.2.1 dL_law_206 rfl (lv_at hl 2 rfl) ?_
        refine lv_iload C.1 C.2.1 dL_law_207 (lv_at hl 11 rfl) ?_
        refine gXCall_i (mc := 1) (ms := 6) (As := [.int (nI c24)]) (rest := [.int (nI (sumN (fun c => cnt (s_key S) (nI c) (s_n S)) c24))]) C hO (c_X2_countOf l E a S mk rk rv (sW E o d S F) (nI c24) hst hI) (cwV 1 C.2.2.2.2.1 gL_law_X2_countOf rfl rfl rfl (by decide +kernel) ⟨(Nat.le_of_ble_eq_true rfl), (Nat.le_of_ble_eq_true rfl)⟩) (va_recv C.2.2.2.2.2.2.2.1.1 hO.1 (ci := 2) (q0 := 0) rfl rfl) rfl hl.1 rfl (Nat.le_of_ble_eq_true rfl) dL_law_209 ⟨(by show nc + 6 * c24 + 1 + 1 ≤ 600172; omega), (by show ns + 36 * c24 + 6 + 6 ≤ 7300668; omega)⟩ (fun E0 ce q9 H locs hO hcell hcv hcl hbad => ?_) (fun H locs hO _ => ?_)
        · exact absurd (okKey_nI (by omega)) hbad.2
        refine gAddN (x := (sumN (fun c => cnt (s_key S) (nI c) (s_n S)) c24)) (y := (cnt (s_key S) (nI c24) (s_n S))) C.1 C.2.1 dL_law_212 ?_
        refine lv_eqi (y := nI (sumN (fun c => cnt (s_key S) (nI c) (s_n S)) (c24 + 1))) rfl ?_
        refine lv_istore (lv' := [(9, .int (nI (sumN (fun c => cnt (s_key S) (nI c) (s_n S)) (c24 + 1)))), (11, .int (s_lo S (nI c24))), (0, .ref bs), (1, .ref (a 0)), (2, .ref o), (3, .int (nI t)), (4, .int x), (5, .int (nI (s_n S))), (6, .int (nI z0)), (7, .int (s_first S)), (8, .int (nI (s_sh S))), (10, .int (nI c24))]) C.1 C.2.1 dL_law_213 hl (by decide) rfl (fun ls hl => ?_)
        refine lv_iload C.1 C.2.1 dL_law_215 (lv_at hl 1 rfl) ?_
        refine gGe0 (tgt := 224) C.1 C.2.1 dL_law_217 (by decide) (fun c_4 => ?_) (fun c_4 => ?_)
        · obtain ⟨i9, hi9, hlo9, hwv9, hke9, hcp9⟩ := lo_pos c_4
          have hl : lv_has ls 21 [(9, .int (nI (sumN (fun c => cnt (s_key S) (nI c) (s_n S)) (c24 + 1)))), (11, .int (s_off S i9)), (0, .ref bs), (1, .ref (a 0)), (2, .ref o), (3, .int (nI t)), (4, .int x), (5, .int (nI (s_n S))), (6, .int (nI z0)), (7, .int (s_first S)), (8, .int (nI (s_sh S))), (10, .int (nI c24))] := by rw [← hlo9]; exact hl
          refine lv_iconst (v := 0) C.1 C.2.1 dL_law_224 (by decide) ?_
          refine lv_aload_n C.1 C.2.1 dL_law_225 rfl (lv_at hl 3 rfl) ?_
          refine lv_iload C.1 C.2.1 dL_law_226 (lv_at hl 11 rfl) ?_
          refine gXCall_i (mc := 1) (ms := 6) (As := [.int (nI c24)]) (rest := [.int 0]) C hO (c_X2_countOf l E a S mk rk rv (sW E o d S F) (nI c24) hst hI) (cwV 1 C.2.2.2.2.1 gL_law_X2_countOf rfl rfl rfl (by decide +kernel) ⟨(Nat.le_of_ble_eq_true rfl), (Nat.le_of_ble_eq_true rfl)⟩) (va_recv C.2.2.2.2.2.2.2.1.1 hO.1 (ci := 2) (q0 := 0) rfl rfl) rfl hl.1 rfl (Nat.le_of_ble_eq_true rfl) dL_law_228 ⟨(by show nc + 6 * c24 + 1 + 1 + 1 ≤ 600172; omega), (by show ns + 36 * c24 + 6 + 6 + 6 ≤ 7300668; omega)⟩ (fun E0 ce q9 H locs hO hcell hcv hcl hbad => ?_) (fun H locs hO _ => ?_)
          · exact absurd (okKey_nI (by omega)) hbad.2
          refine lv_if_ne (tgt := 238) C.1 C.2.1 dL_law_231 (by decide) (fun c_6 => ?_) (fun c_6 => ?_)
          · refine lv_iconst (v := 0) C.1 C.2.1 dL_law_238 (by decide) ?_
            refine lv_icmp_ne (tgt := 294) C.1 C.2.1 dL_law_239 (by decide) (fun c_7 => ?_) (fun c_7 => ?_)
            · exact absurd rfl c_7
            · refine lv_iload C.1 C.2.1 dL_law_242 (lv_at hl 1 rfl) ?_
              refine lv_if_lt (tgt := 280) C.1 C.2.1 dL_law_244 (by decide) (fun c_8 => ?_) (fun c_8 => ?_)
              · exact absurd c_8 (by rw [Int32.lt_iff_toInt_lt, show (0 : Int32).toInt = 0 from rfl]; have h9 := (hlg.2.2.2.1 i9 hi9).1; omega)
              · refine lv_aload_n C.1 C.2.1 dL_law_247 rfl (lv_at hl 3 rfl) ?_
                refine lv_iload C.1 C.2.1 dL_law_248 (lv_at hl 1 rfl) ?_
                refine gXCall_i (mc := 1) (ms := 6) (As := [.int (s_off S i9)]) (rest := []) C hO (c_X2_keyAt l E a S mk rk rv (sW E o d S F) (s_off S i9) hst hI) (cwV 1 C.2.2.2.2.1 gL_law_X2_keyAt rfl rfl rfl (by decide +kernel) ⟨(Nat.le_of_ble_eq_true rfl), (Nat.le_of_ble_eq_true rfl)⟩) (va_recv C.2.2.2.2.2.2.2.1.1 hO.1 (ci := 2) (q0 := 0) rfl rfl) rfl hl.1 rfl (Nat.le_of_ble_eq_true rfl) dL_law_250 ⟨(by show nc + 6 * c24 + 1 + 1 + 1 + 1 ≤ 600172; omega), (by show ns + 36 * c24 + 6 + 6 + 6 + 6 ≤ 7300668; omega)⟩ (fun E0 ce q9 H locs hO hcell hcv hcl hbad => ?_) (fun H locs hO _ => ?_)
                · exact absurd hbad.2 (show s_po S (s_off S i9) ≠ none by rw [s_po_at hsr hi9]; exact fun q => by cases q)
                refine lv_eqi (y := nI c24) ((s_ka_at hsr hi9 _).trans hke9) ?_
                refine lv_iload C.1 C.2.1 dL_law_253 (lv_at hl 11 rfl) ?_
                refine lv_icmp_ne (tgt := 294) C.1 C.2.1 dL_law_255 (by decide) (fun c_10 => ?_) (fun c_10 => ?_)
                · exact absurd rfl c_10
                · refine lv_aload_n C.1 C.2.1 dL_law_258 rfl (lv_at hl 3 rfl) ?_
                  refine lv_iload C.1 C.2.1 dL_law_259 (lv_at hl 1 rfl) ?_
                  refine gXCall_i (mc := 1) (ms := 6) (As := [.int (s_off S i9)]) (rest := []) C hO (c_X2_valueAt l E a S mk rk rv (sW E o d S F) (s_off S i9) hst hI) (cwV 1 C.2.2.2.2.1 gL_law_X2_valueAt rfl rfl rfl (by decide +kernel) ⟨(Nat.le_of_ble_eq_true rfl), (Nat.le_of_ble_eq_true rfl)⟩) (va_recv C.2.2.2.2.2.2.2.1.1 hO.1 (ci := 2) (q0 := 0) rfl rfl) rfl hl.1 rfl (Nat.le_of_ble_eq_true rfl) dL_law_261 ⟨(by show nc + 6 * c24 + 1 + 1 + 1 + 1 + 1 ≤ 600172; omega), (by show ns + 36 * c24 + 6 + 6 + 6 + 6 + 6 ≤ 7300668; omega)⟩ (fun E0 ce q9 H locs hO hcell hcv hcl hbad => ?_) (fun H locs hO _ => ?_)
                  · exact absurd hbad.2 (show s_po S (s_off S i9) ≠ none by rw [s_po_at hsr hi9]; exact fun q => by cases q)
                  refine lv_eqi (y := s_val S i9) (s_ka_at hsr hi9 _) ?_
                  refine lv_aload_n C.1 C.2.1 dL_law_264 rfl (lv_at hl 3 rfl) ?_
                  refine lv_iload C.1 C.2.1 dL_law_265 (lv_at hl 11 rfl) ?_
                  refine gXCall_i (mc := 1) (ms := 6) (As := [.int (nI c24)]) (rest := [.int (s_val S i9)]) C hO (c_X2_valueOf l E a S mk rk rv (sW E o d S F) (nI c24) hst hI) (cwV 1 C.2.2.2.2.1 gL_law_X2_valueOf rfl rfl rfl (by decide +kernel) ⟨(Nat.le_of_ble_eq_true rfl), (Nat.le_of_ble_eq_true rfl)⟩) (va_recv C.2.2.2.2.2.2.2.1.1 hO.1 (ci := 2) (q0 := 0) rfl rfl) rfl hl.1 rfl (Nat.le_of_ble_eq_true rfl) dL_law_267 ⟨(by show nc + 6 * c24 + 1 + 1 + 1 + 1 + 1 + 1 ≤ 600172; omega), (by show ns + 36 * c24 + 6 + 6 + 6 + 6 + 6 + 6 ≤ 7300668; omega)⟩ (fun E0 ce q9 H locs hO hcell hcv hcl hbad => ?_) (fun H locs hO _ => ?_)
                  · exact absurd (okKey_nI (by omega)) hbad.2
                  refine lv_eqi (y := s_val S i9) hwv9 ?_
                  refine lv_icmp_ne (tgt := 294) C.1 C.2.1 dL_law_270 (by decide) (fun c_13 => ?_) (fun c_13 => ?_)
                  · exact absurd rfl c_13
                  · refine lv_iload C.1 C.2.1 dL_law_273 (lv_at hl 1 rfl) ?_
                    refine lv_iload C.1 C.2.1 dL_law_275 (lv_at hl 9 rfl) ?_
                    refine lv_icmp_lt (tgt := 294) C.1 C.2.1 dL_law_277 (by decide) (fun c_14 => ?_) (fun c_14 => ?_)
                    · exact absurd c_14 (first_le hlg hi9)
                    · refine lv_iload C.1 C.2.1 dL_law_280 (lv_at hl 1 rfl) ?_
                      refine gGe0 (tgt := 296) C.1 C.2.1 dL_law_282 (by decide) (fun c_15 => ?_) (fun c_15 => ?_)
                      · have hl : lv_has ls 21 [(9, .int (nI (sumN (fun c => cnt (s_key S) (nI c) (s_n S)) (c24 + 1)))), (0, .ref bs), (1, .ref (a 0)), (2, .ref o), (3, .int (nI t)), (4, .int x), (5, .int (nI (s_n S))), (6, .int (nI z0)), (7, .int (s_first S)), (8, .int (nI (s_sh S))), (10, .int (nI c24))] := lv_sub hl [0, 2, 3, 4, 5, 6, 7, 8, 9, 10, 11] rfl
                        refine gInc (j := c24) (k := 10) (lv' := [(10, .int (nI (c24 + 1))), (9, .int (nI (sumN (fun c => cnt (s_key S) (nI c) (s_n S)) (c24 + 1)))), (0, .ref bs), (1, .ref (a 0)), (2, .ref o), (3, .int (nI t)), (4, .int x), (5, .int (nI (s_n S))), (6, .int (nI z0)), (7, .int (s_first S)), (8, .int (nI (s_sh S)))]) C.1 C.2.1 dL_law_296 hl rfl (by decide) rfl (fun ls hl => ?_)
                        refine lv_goto (tgt := 189) C.1 C.2.1 dL_law_299 (by decide) ?_
                        refine W.widen (k := nc + 6 * (c24 + 1)) (n := ns + 36 * (c24 + 1)) (by omega) (by omega) ?_
                        exact ih_lp189 (c24 + 1) (by omega) (by omega) _ _ hO _ (lv_sub hl [2, 3, 4, 5, 6, 7, 8, 9, 10, 1, 0] rfl)
                      · exact absurd c_15 (by rw [Int32.lt_iff_toInt_lt, show (0 : Int32).toInt = 0 from rfl]; have h9 := (hlg.2.2.2.1 i9 hi9).1; omega)
          · exact absurd (nI_z (Nat.lt_of_le_of_lt (cnt_le _ _ _) (by omega)) c_6) (by omega)
        · have hlz9 := lo_zero hlg c_4
          have hln9 := c_4
          refine lv_iconst (v := 1) C.1 C.2.1 dL_law_220 (by decide) ?_
          refine lv_goto (tgt := 225) C.1 C.2.1 dL_law_221 (by decide) ?_
          refine lv_aload_n C.1 C.2.1 dL_law_225 rfl (lv_at hl 3 rfl) ?_
          refine lv_iload C.1 C.2.1 dL_law_226 (lv_at hl 11 rfl) ?_
          refine gXCall_i (mc := 1) (ms := 6) (As := [.int (nI c24)]) (rest := [.int 1]) C hO (c_X2_countOf l E a S mk rk rv (sW E o d S F) (nI c24) hst hI) (cwV 1 C.2.2.2.2.1 gL_law_X2_countOf rfl rfl rfl (by decide +kernel) ⟨(Nat.le_of_ble_eq_true rfl), (Nat.le_of_ble_eq_true rfl)⟩) (va_recv C.2.2.2.2.2.2.2.1.1 hO.1 (ci := 2) (q0 := 0) rfl rfl) rfl hl.1 rfl (Nat.le_of_ble_eq_true rfl) dL_law_228 ⟨(by show nc + 6 * c24 + 1 + 1 + 1 ≤ 600172; omega), (by show ns + 36 * c24 + 6 + 6 + 6 ≤ 7300668; omega)⟩ (fun E0 ce q9 H locs hO hcell hcv hcl hbad => ?_) (fun H locs hO _ => ?_)
          · exact absurd (okKey_nI (by omega)) hbad.2
          refine lv_if_ne (tgt := 238) C.1 C.2.1 dL_law_231 (by decide) (fun c_17 => ?_) (fun c_17 => ?_)
          · exact absurd (by rw [hlz9.2]; rfl) c_17
          · refine lv_iconst (v := 1) C.1 C.2.1 dL_law_234 (by decide) ?_
            refine lv_goto (tgt := 239) C.1 C.2.1 dL_law_235 (by decide) ?_
            refine lv_icmp_ne (tgt := 294) C.1 C.2.1 dL_law_239 (by decide) (fun c_18 => ?_) (fun c_18 => ?_)
            · exact absurd rfl c_18
            · refine lv_iload C.1 C.2.1 dL_law_242 (lv_at hl 1 rfl) ?_
              refine lv_if_lt (tgt := 280) C.1 C.2.1 dL_law_244 (by decide) (fun c_19 => ?_) (fun c_19 => ?_)
              · refine lv_iload C.1 C.2.1 dL_law_280 (lv_at hl 1 rfl) ?_
                refine gGe0 (tgt := 296) C.1 C.2.1 dL_law_282 (by decide) (fun c_20 => ?_) (fun c_20 => ?_)
                · exact absurd hln9 c_20
                · refine lv_aload_n C.1 C.2.1 dL_law_285 rfl (lv_at hl 3 rfl) ?_
                  refine lv_iload C.1 C.2.1 dL_law_286 (lv_at hl 11 rfl) ?_
                  refine gXCall_i (mc := 1) (ms := 6) (As := [.int (nI c24)]) (rest := []) C hO (c_X2_valueOf l E a S mk rk rv (sW E o d S F) (nI c24) hst hI) (cwV 1 C.2.2.2.2.1 gL_law_X2_valueOf rfl rfl rfl (by decide +kernel) ⟨(Nat.le_of_ble_eq_true rfl), (Nat.le_of_ble_eq_true rfl)⟩) (va_recv C.2.2.2.2.2.2.2.1.1 hO.1 (ci := 2) (q0 := 0) rfl rfl) rfl hl.1 rfl (Nat.le_of_ble_eq_true rfl) dL_law_288 ⟨(by show nc + 6 * c24 + 1 + 1 + 1 + 1 ≤ 600172; omega), (by show ns + 36 * c24 + 6 + 6 + 6 + 6 ≤ 7300668; omega)⟩ (fun E0 ce q9 H locs hO hcell hcv hcl hbad => ?_) (fun H locs hO _ => ?_)
                  · exact absurd (okKey_nI (by omega)) hbad.2
                  refine lv_eqi (y := 0) hlz9.1 ?_
                  refine lv_if_eq (tgt := 296) C.1 C.2.1 dL_law_291 (by decide) (fun c_22 => ?_) (fun c_22 => ?_)
                  · have hl : lv_has ls 21 [(9, .int (nI (sumN (fun c => cnt (s_key S) (nI c) (s_n S)) (c24 + 1)))), (0, .ref bs), (1, .ref (a 0)), (2, .ref o), (3, .int (nI t)), (4, .int x), (5, .int (nI (s_n S))), (6, .int (nI z0)), (7, .int (s_first S)), (8, .int (nI (s_sh S))), (10, .int (nI c24))] := lv_sub hl [0, 2, 3, 4, 5, 6, 7, 8, 9, 10, 11] rfl
                    refine gInc (j := c24) (k := 10) (lv' := [(10, .int (nI (c24 + 1))), (9, .int (nI (sumN (fun c => cnt (s_key S) (nI c) (s_n S)) (c24 + 1)))), (0, .ref bs), (1, .ref (a 0)), (2, .ref o), (3, .int (nI t)), (4, .int x), (5, .int (nI (s_n S))), (6, .int (nI z0)), (7, .int (s_first S)), (8, .int (nI (s_sh S)))]) C.1 C.2.1 dL_law_296 hl rfl (by decide) rfl (fun ls hl => ?_)
                    refine lv_goto (tgt := 189) C.1 C.2.1 dL_law_299 (by decide) ?_
                    refine W.widen (k := nc + 6 * (c24 + 1)) (n := ns + 36 * (c24 + 1)) (by omega) (by omega) ?_
                    exact ih_lp189 (c24 + 1) (by omega) (by omega) _ _ hO _ (lv_sub hl [2, 3, 4, 5, 6, 7, 8, 9, 10, 1, 0] rfl)
                  · exact absurd rfl c_22
              · exact absurd hln9 c_19
  refine W.widen (k := nc + 6 * 0) (n := ns + 36 * 0) (by omega) (by omega) ?_
  exact lp189 11 0 (by omega) (Nat.zero_le _) _ _ hO _ (lv_sub hl [2, 3, 4, 5, 6, 7, 8, 9, 10, 1, 0] rfl)
end LC
