theorem ni_2 (i : Nat) : nI i + 2 = nI (i + 2) := by
  rw [nI_succ, nI_succ, Int32.add_assoc]
  rfl
set_option maxHeartbeats 4000000 in
set_option maxRecDepth 100000 in
theorem st_p212 {p : Program} {l : Launch} {e : Env} {s : State} {m : MethodId} {args : Array Value} {below : List Frame} {meth : Method} {c : Code} {H : Heap} {locs : List Loc} {cells slots : Nat} {Q : State → Prop} {E : gE} {A : Nat → Prop} {bs L : Nat} {xs : Nat → Int32} {a b : Nat → Nat} {o i : Nat} {S : St} {mkA rk rv : Nat → Int32} {f : Nat → Int64} {mkB : Nat → Int32} {th : Int32} {B : Int} {ls : Array Slot} (C : gCx p s m args meth c cL_law 9 wsL_law RL ret E A) (hst : l.stackTraces = false) (hX : va_X bs L xs s s.heap) (hbl : bs < s.heap.size) (hbA : ¬ A bs) (hL : L ≤ 1536) (hi : i + 2 < L) (hw9 : lwI S B) (hB : B + 48 < 2147483647) (hc9 : cells ≤ 600000) (hs9 : slots ≤ 7000000) (hO : gO E A s (lwW E a b o S mkA rk rv f mkB th) H locs) (hl : lv_has ls 9 (lwV bs a b o i)) (kk : lwK p l e s m args below meth c E A bs a b o i (cells + 32) (slots + 400) (B + 48) Q) : W p l e room_1 s m args below meth c H locs cells slots Q (F0 m 212 ls []) := by
  have hI := hw9.inv
  have hsr := hw9.1.srt
  by_cases hok : (okKey (xs (i + 1)) ∧ okVal (xs (i + 2)))
  · refine lv_aload_n C.1 C.2.1 dL_law_212 rfl (lv_at hl 1 rfl) ?_
    refine lv_aload_n C.1 C.2.1 dL_law_213 rfl (lv_at hl 0 rfl) ?_
    refine lv_iload C.1 C.2.1 dL_law_214 (lv_at hl 4 rfl) ?_
    refine lv_iconst (v := 1) C.1 C.2.1 dL_law_216 (by decide) ?_
    refine lv_iadd C.1 C.2.1 dL_law_217 ?_
    refine gSld (j := i + 1) C hX hbl hbA hO (nI_succ i).symm (by omega) hL dL_law_218 ?_
    refine lv_aload_n C.1 C.2.1 dL_law_219 rfl (lv_at hl 0 rfl) ?_
    refine lv_iload C.1 C.2.1 dL_law_220 (lv_at hl 4 rfl) ?_
    refine lv_iconst (v := 2) C.1 C.2.1 dL_law_222 (by decide) ?_
    refine lv_iadd C.1 C.2.1 dL_law_223 ?_
    refine gSld (j := i + 2) C hX hbl hbA hO (ni_2 i) (by omega) hL dL_law_224 ?_
    refine lv_aload_n C.1 C.2.1 dL_law_225 rfl (lv_at hl 3 rfl) ?_
    refine gCallW_i (As := [.ref (a 0), .int (xs (i + 1)), .int (xs (i + 2)), .ref o]) (rest := []) C hO (c_L_say_ok l E a S mkA rk rv (mW E b S th mkB) o f (xs (i + 1)) (xs (i + 2)) hst hI hok) (vx_cwSW 4 C.2.2.2.2.1 gL_law_L_say rfl rfl rfl (by decide +kernel) ⟨(Nat.le_of_ble_eq_true rfl), (Nat.le_of_ble_eq_true rfl)⟩) rfl hl.1 rfl (Nat.le_of_ble_eq_true rfl) dL_law_226 ⟨by show _ ≤ 601024; omega, by show _ ≤ 7293034; omega⟩ (fun H locs hO => ?_)
    refine lv_istore (lv' := (5, .int 0) :: lwV bs a b o i) C.1 C.2.1 dL_law_229 hl (by decide) rfl (fun ls hl => ?_)
    have hO := hO.flip
    refine lv_aload_n C.1 C.2.1 dL_law_231 rfl (lv_at hl 3 rfl) ?_
    refine lv_aload_n C.1 C.2.1 dL_law_232 rfl (lv_at hl 1 rfl) ?_
    refine lv_iload C.1 C.2.1 dL_law_233 (lv_at hl 5 rfl) ?_
    refine lv_iconst (v := 1) C.1 C.2.1 dL_law_235 (by decide) ?_
    refine lv_iadd C.1 C.2.1 dL_law_236 ?_
    refine gSld (j := i + 1) C hX hbl hbA hO (nI_succ i).symm (by omega) hL dL_law_237 ?_
    refine lv_aload_n C.1 C.2.1 dL_law_238 rfl (lv_at hl 1 rfl) ?_
    refine lv_iload C.1 C.2.1 dL_law_239 (lv_at hl 5 rfl) ?_
    refine lv_iconst (v := 2) C.1 C.2.1 dL_law_241 (by decide) ?_
    refine lv_iadd C.1 C.2.1 dL_law_242 ?_
    refine gSld (j := i + 2) C hX hbl hbA hO (ni_2 i) (by omega) hL dL_law_243 ?_
    refine gCall_i (As := [.int (xs (i + 1)), .int (xs (i + 2))]) (rest := []) C hO (c_X3_say_ok l E b S th mkB _ (xs (i + 1)) (xs (i + 2)) hI hsr hok) (cwV 2 C.2.2.2.2.1 gL_law_X3_say rfl rfl rfl (by decide +kernel) ⟨(Nat.le_of_ble_eq_true rfl), (Nat.le_of_ble_eq_true rfl)⟩) (va_recv C.2.2.2.2.2.2.2.1.1 hO.1 (ci := 3) (q0 := 0) rfl rfl) rfl hl.1 rfl (Nat.le_of_ble_eq_true rfl) dL_law_244 ⟨by show _ ≤ 601024; omega, by show _ ≤ 7293034; omega⟩ (fun H locs hO => ?_)
    refine lv_istore (lv' := (6, .int (s_nx S)) :: (5, .int 0) :: lwV bs a b o i) C.1 C.2.1 dL_law_247 hl (by decide) rfl (fun ls hl => ?_)
    refine lv_aload_n C.1 C.2.1 dL_law_249 rfl (lv_at hl 4 rfl) ?_
    refine gCall_i (As := []) (rest := []) C hO (c_X3_thrown l E b _ 0 _ _) (cwV 0 C.2.2.2.2.1 gL_law_X3_thrown rfl rfl rfl (by decide +kernel) ⟨(Nat.le_of_ble_eq_true rfl), (Nat.le_of_ble_eq_true rfl)⟩) (va_recv C.2.2.2.2.2.2.2.1.1 hO.1 (ci := 3) (q0 := 0) rfl rfl) rfl hl.1 rfl (Nat.le_of_ble_eq_true rfl) dL_law_250 ⟨by show _ ≤ 601024; omega, by show _ ≤ 7293034; omega⟩ (fun H locs hO => ?_)
    have hO := hO.flop
    refine lv_iload C.1 C.2.1 dL_law_253 (lv_at hl 1 rfl) ?_
    refine lv_icmp_eq (tgt := 260) C.1 C.2.1 dL_law_255 (by decide) (fun _ => ?_) (fun z9 => absurd rfl z9)
    refine lv_iload C.1 C.2.1 dL_law_260 (lv_at hl 1 rfl) ?_
    refine lv_if_ne (tgt := 277) C.1 C.2.1 dL_law_262 (by decide) (fun z9 => absurd rfl z9) (fun _ => ?_)
    refine lv_aload_n C.1 C.2.1 dL_law_265 rfl (lv_at hl 5 rfl) ?_
    refine lv_iconst (v := 0) C.1 C.2.1 dL_law_266 (by decide) ?_
    refine gLald C hO dL_law_267 ?_
    rw [vp_u09]
    refine lv_iload C.1 C.2.1 dL_law_268 (lv_at hl 0 rfl) ?_
    refine lv_i2l C.1 C.2.1 dL_law_270 rfl ?_
    refine W.lcmp C.1 C.2.1 dL_law_271 ?_
    refine lv_if_eq (tgt := 277) C.1 C.2.1 dL_law_272 (by decide) (fun _ => ?_) (fun z9 => absurd (lcm9 _) z9)
    refine lv_goto (tgt := 1939) C.1 C.2.1 dL_law_277 (by decide) ?_
    exact W.widen (show _ ≤ cells + 32 by omega) (show _ ≤ slots + 400 by omega) (kk _ _ _ _ _ _ _ _ _ _ ((hw9.spk (by omega) (okKey_n hok.1) _).mono (by omega)) hO (lv_sub hl [2, 3, 4, 5, 6] rfl))
  · have hno : ¬ (okKey (xs (i + 1)) ∧ okVal (xs (i + 2))) := by first | exact hok | exact Classical.not_not.mp hok
    have hno3 : ¬ (okKey (xs (i + 1)) ∧ okVal (xs (i + 2))) := by first | exact hno | exact hok
    refine lv_aload_n C.1 C.2.1 dL_law_212 rfl (lv_at hl 1 rfl) ?_
    refine lv_aload_n C.1 C.2.1 dL_law_213 rfl (lv_at hl 0 rfl) ?_
    refine lv_iload C.1 C.2.1 dL_law_214 (lv_at hl 4 rfl) ?_
    refine lv_iconst (v := 1) C.1 C.2.1 dL_law_216 (by decide) ?_
    refine lv_iadd C.1 C.2.1 dL_law_217 ?_
    refine gSld (j := i + 1) C hX hbl hbA hO (nI_succ i).symm (by omega) hL dL_law_218 ?_
    refine lv_aload_n C.1 C.2.1 dL_law_219 rfl (lv_at hl 0 rfl) ?_
    refine lv_iload C.1 C.2.1 dL_law_220 (lv_at hl 4 rfl) ?_
    refine lv_iconst (v := 2) C.1 C.2.1 dL_law_222 (by decide) ?_
    refine lv_iadd C.1 C.2.1 dL_law_223 ?_
    refine gSld (j := i + 2) C hX hbl hbA hO (ni_2 i) (by omega) hL dL_law_224 ?_
    refine lv_aload_n C.1 C.2.1 dL_law_225 rfl (lv_at hl 3 rfl) ?_
    refine gCallW_i (As := [.ref (a 0), .int (xs (i + 1)), .int (xs (i + 2)), .ref o]) (rest := []) C hO (c_L_say_no l E a S mkA rk rv (mW E b S th mkB) o f (xs (i + 1)) (xs (i + 2)) hst hI hno) (vx_cwSW 4 C.2.2.2.2.1 gL_law_L_say rfl rfl rfl (by decide +kernel) ⟨(Nat.le_of_ble_eq_true rfl), (Nat.le_of_ble_eq_true rfl)⟩) rfl hl.1 rfl (Nat.le_of_ble_eq_true rfl) dL_law_226 ⟨by show _ ≤ 601024; omega, by show _ ≤ 7293034; omega⟩ (fun H locs hO => ?_)
    refine lv_istore (lv' := (5, .int 1) :: lwV bs a b o i) C.1 C.2.1 dL_law_229 hl (by decide) rfl (fun ls hl => ?_)
    have hO := hO.flip
    refine lv_aload_n C.1 C.2.1 dL_law_231 rfl (lv_at hl 3 rfl) ?_
    refine lv_aload_n C.1 C.2.1 dL_law_232 rfl (lv_at hl 1 rfl) ?_
    refine lv_iload C.1 C.2.1 dL_law_233 (lv_at hl 5 rfl) ?_
    refine lv_iconst (v := 1) C.1 C.2.1 dL_law_235 (by decide) ?_
    refine lv_iadd C.1 C.2.1 dL_law_236 ?_
    refine gSld (j := i + 1) C hX hbl hbA hO (nI_succ i).symm (by omega) hL dL_law_237 ?_
    refine lv_aload_n C.1 C.2.1 dL_law_238 rfl (lv_at hl 1 rfl) ?_
    refine lv_iload C.1 C.2.1 dL_law_239 (lv_at hl 5 rfl) ?_
    refine lv_iconst (v := 2) C.1 C.2.1 dL_law_241 (by decide) ?_
    refine lv_iadd C.1 C.2.1 dL_law_242 ?_
    refine gSld (j := i + 2) C hX hbl hbA hO (ni_2 i) (by omega) hL dL_law_243 ?_
    refine gCall_i (As := [.int (xs (i + 1)), .int (xs (i + 2))]) (rest := []) C hO (c_X3_say_no l E b S th mkB _ (xs (i + 1)) (xs (i + 2)) hI hsr hno3) (cwV 2 C.2.2.2.2.1 gL_law_X3_say rfl rfl rfl (by decide +kernel) ⟨(Nat.le_of_ble_eq_true rfl), (Nat.le_of_ble_eq_true rfl)⟩) (va_recv C.2.2.2.2.2.2.2.1.1 hO.1 (ci := 3) (q0 := 0) rfl rfl) rfl hl.1 rfl (Nat.le_of_ble_eq_true rfl) dL_law_244 ⟨by show _ ≤ 601024; omega, by show _ ≤ 7293034; omega⟩ (fun H locs hO => ?_)
    refine lv_istore (lv' := (6, .int 0) :: (5, .int 1) :: lwV bs a b o i) C.1 C.2.1 dL_law_247 hl (by decide) rfl (fun ls hl => ?_)
    refine lv_aload_n C.1 C.2.1 dL_law_249 rfl (lv_at hl 4 rfl) ?_
    refine gCall_i (As := []) (rest := []) C hO (c_X3_thrown l E b _ 1 _ _) (cwV 0 C.2.2.2.2.1 gL_law_X3_thrown rfl rfl rfl (by decide +kernel) ⟨(Nat.le_of_ble_eq_true rfl), (Nat.le_of_ble_eq_true rfl)⟩) (va_recv C.2.2.2.2.2.2.2.1.1 hO.1 (ci := 3) (q0 := 0) rfl rfl) rfl hl.1 rfl (Nat.le_of_ble_eq_true rfl) dL_law_250 ⟨by show _ ≤ 601024; omega, by show _ ≤ 7293034; omega⟩ (fun H locs hO => ?_)
    have hO := hO.flop
    refine lv_iload C.1 C.2.1 dL_law_253 (lv_at hl 1 rfl) ?_
    refine lv_icmp_eq (tgt := 260) C.1 C.2.1 dL_law_255 (by decide) (fun _ => ?_) (fun z9 => absurd rfl z9)
    refine lv_iload C.1 C.2.1 dL_law_260 (lv_at hl 1 rfl) ?_
    refine lv_if_ne (tgt := 277) C.1 C.2.1 dL_law_262 (by decide) (fun _ => ?_) (fun z9 => absurd z9 (by decide))
    refine lv_goto (tgt := 1939) C.1 C.2.1 dL_law_277 (by decide) ?_
    exact W.widen (show _ ≤ cells + 32 by omega) (show _ ≤ slots + 400 by omega) (kk _ _ _ _ _ _ _ _ _ _ (hw9.mono (by omega)) hO (lv_sub hl [2, 3, 4, 5, 6] rfl))
set_option maxHeartbeats 4000000 in
set_option maxRecDepth 100000 in
theorem st_p280 {p : Program} {l : Launch} {e : Env} {s : State} {m : MethodId} {args : Array Value} {below : List Frame} {meth : Method} {c : Code} {H : Heap} {locs : List Loc} {cells slots : Nat} {Q : State → Prop} {E : gE} {A : Nat → Prop} {bs L : Nat} {xs : Nat → Int32} {a b : Nat → Nat} {o i : Nat} {S : St} {mkA rk rv : Nat → Int32} {f : Nat → Int64} {mkB : Nat → Int32} {th : Int32} {B : Int} {ls : Array Slot} (C : gCx p s m args meth c cL_law 9 wsL_law RL ret E A) (hst : l.stackTraces = false) (hX : va_X bs L xs s s.heap) (hbl : bs < s.heap.size) (hbA : ¬ A bs) (hL : L ≤ 1536) (hi : i + 2 < L) (hw9 : lwI S B) (hB : B + 48 < 2147483647) (hc9 : cells ≤ 600000) (hs9 : slots ≤ 7000000) (hO : gO E A s (lwW E a b o S mkA rk rv f mkB th) H locs) (hl : lv_has ls 9 (lwV bs a b o i)) (kk : lwK p l e s m args below meth c E A bs a b o i (cells + 32) (slots + 400) (B + 48) Q) : W p l e room_1 s m args below meth c H locs cells slots Q (F0 m 280 ls []) := by
  have hI := hw9.inv
  have hsr := hw9.1.srt
  by_cases hok : (s_on S = 0 ∧ s_sc S < 8)
  · refine lv_aload_n C.1 C.2.1 dL_law_280 rfl (lv_at hl 1 rfl) ?_
    refine lv_aload_n C.1 C.2.1 dL_law_281 rfl (lv_at hl 3 rfl) ?_
    refine gCallW_i (As := [.ref (a 0), .ref o]) (rest := []) C hO (c_L_startStorm_ok l E a S mkA rk rv (mW E b S th mkB) o f  hst hI hok) (vx_cwSW 2 C.2.2.2.2.1 gL_law_L_startStorm rfl rfl rfl (by decide +kernel) ⟨(Nat.le_of_ble_eq_true rfl), (Nat.le_of_ble_eq_true rfl)⟩) rfl hl.1 rfl (Nat.le_of_ble_eq_true rfl) dL_law_282 ⟨by show _ ≤ 601024; omega, by show _ ≤ 7293034; omega⟩ (fun H locs hO => ?_)
    refine lv_istore (lv' := (5, .int 0) :: lwV bs a b o i) C.1 C.2.1 dL_law_285 hl (by decide) rfl (fun ls hl => ?_)
    have hO := hO.flip
    refine lv_aload_n C.1 C.2.1 dL_law_287 rfl (lv_at hl 3 rfl) ?_
    refine gCall_i (As := []) (rest := []) C hO (c_X3_startStorm_ok l E b S th mkB _  hI hsr hok) (cwV 0 C.2.2.2.2.1 gL_law_X3_startStorm rfl rfl rfl (by decide +kernel) ⟨(Nat.le_of_ble_eq_true rfl), (Nat.le_of_ble_eq_true rfl)⟩) (va_recv C.2.2.2.2.2.2.2.1.1 hO.1 (ci := 3) (q0 := 0) rfl rfl) rfl hl.1 rfl (Nat.le_of_ble_eq_true rfl) dL_law_288 ⟨by show _ ≤ 601024; omega, by show _ ≤ 7293034; omega⟩ (fun H locs hO => ?_)
    refine lv_istore (lv' := (6, .int (nI (s_sc S))) :: (5, .int 0) :: lwV bs a b o i) C.1 C.2.1 dL_law_291 hl (by decide) rfl (fun ls hl => ?_)
    refine lv_aload_n C.1 C.2.1 dL_law_293 rfl (lv_at hl 4 rfl) ?_
    refine gCall_i (As := []) (rest := []) C hO (c_X3_thrown l E b _ 0 _ _) (cwV 0 C.2.2.2.2.1 gL_law_X3_thrown rfl rfl rfl (by decide +kernel) ⟨(Nat.le_of_ble_eq_true rfl), (Nat.le_of_ble_eq_true rfl)⟩) (va_recv C.2.2.2.2.2.2.2.1.1 hO.1 (ci := 3) (q0 := 0) rfl rfl) rfl hl.1 rfl (Nat.le_of_ble_eq_true rfl) dL_law_294 ⟨by show _ ≤ 601024; omega, by show _ ≤ 7293034; omega⟩ (fun H locs hO => ?_)
    have hO := hO.flop
    refine lv_iload C.1 C.2.1 dL_law_297 (lv_at hl 1 rfl) ?_
    refine lv_icmp_eq (tgt := 304) C.1 C.2.1 dL_law_299 (by decide) (fun _ => ?_) (fun z9 => absurd rfl z9)
    refine lv_iload C.1 C.2.1 dL_law_304 (lv_at hl 1 rfl) ?_
    refine lv_if_ne (tgt := 321) C.1 C.2.1 dL_law_306 (by decide) (fun z9 => absurd rfl z9) (fun _ => ?_)
    refine lv_aload_n C.1 C.2.1 dL_law_309 rfl (lv_at hl 5 rfl) ?_
    refine lv_iconst (v := 0) C.1 C.2.1 dL_law_310 (by decide) ?_
    refine gLald C hO dL_law_311 ?_
    rw [vp_u09]
    refine lv_iload C.1 C.2.1 dL_law_312 (lv_at hl 0 rfl) ?_
    refine lv_i2l C.1 C.2.1 dL_law_314 rfl ?_
    refine W.lcmp C.1 C.2.1 dL_law_315 ?_
    refine lv_if_eq (tgt := 321) C.1 C.2.1 dL_law_316 (by decide) (fun _ => ?_) (fun z9 => absurd (lcm9 _) z9)
    refine lv_goto (tgt := 1939) C.1 C.2.1 dL_law_321 (by decide) ?_
    exact W.widen (show _ ≤ cells + 32 by omega) (show _ ≤ slots + 400 by omega) (kk _ _ _ _ _ _ _ _ _ _ ((hw9.storm1 hok.2).mono (by omega)) hO (lv_sub hl [2, 3, 4, 5, 6] rfl))
  · have hno : ¬ (s_on S = 0 ∧ s_sc S < 8) := by first | exact hok | exact Classical.not_not.mp hok
    have hno3 : ¬ (s_on S = 0 ∧ s_sc S < 8) := by first | exact hno | exact hok
    refine lv_aload_n C.1 C.2.1 dL_law_280 rfl (lv_at hl 1 rfl) ?_
    refine lv_aload_n C.1 C.2.1 dL_law_281 rfl (lv_at hl 3 rfl) ?_
    refine gCallW_i (As := [.ref (a 0), .ref o]) (rest := []) C hO (c_L_startStorm_no l E a S mkA rk rv (mW E b S th mkB) o f  hst hI hno) (vx_cwSW 2 C.2.2.2.2.1 gL_law_L_startStorm rfl rfl rfl (by decide +kernel) ⟨(Nat.le_of_ble_eq_true rfl), (Nat.le_of_ble_eq_true rfl)⟩) rfl hl.1 rfl (Nat.le_of_ble_eq_true rfl) dL_law_282 ⟨by show _ ≤ 601024; omega, by show _ ≤ 7293034; omega⟩ (fun H locs hO => ?_)
    refine lv_istore (lv' := (5, .int 1) :: lwV bs a b o i) C.1 C.2.1 dL_law_285 hl (by decide) rfl (fun ls hl => ?_)
    have hO := hO.flip
    refine lv_aload_n C.1 C.2.1 dL_law_287 rfl (lv_at hl 3 rfl) ?_
    refine gCall_i (As := []) (rest := []) C hO (c_X3_startStorm_no l E b S th mkB _  hI hsr hno3) (cwV 0 C.2.2.2.2.1 gL_law_X3_startStorm rfl rfl rfl (by decide +kernel) ⟨(Nat.le_of_ble_eq_true rfl), (Nat.le_of_ble_eq_true rfl)⟩) (va_recv C.2.2.2.2.2.2.2.1.1 hO.1 (ci := 3) (q0 := 0) rfl rfl) rfl hl.1 rfl (Nat.le_of_ble_eq_true rfl) dL_law_288 ⟨by show _ ≤ 601024; omega, by show _ ≤ 7293034; omega⟩ (fun H locs hO => ?_)
    refine lv_istore (lv' := (6, .int 0) :: (5, .int 1) :: lwV bs a b o i) C.1 C.2.1 dL_law_291 hl (by decide) rfl (fun ls hl => ?_)
    refine lv_aload_n C.1 C.2.1 dL_law_293 rfl (lv_at hl 4 rfl) ?_
    refine gCall_i (As := []) (rest := []) C hO (c_X3_thrown l E b _ 1 _ _) (cwV 0 C.2.2.2.2.1 gL_law_X3_thrown rfl rfl rfl (by decide +kernel) ⟨(Nat.le_of_ble_eq_true rfl), (Nat.le_of_ble_eq_true rfl)⟩) (va_recv C.2.2.2.2.2.2.2.1.1 hO.1 (ci := 3) (q0 := 0) rfl rfl) rfl hl.1 rfl (Nat.le_of_ble_eq_true rfl) dL_law_294 ⟨by show _ ≤ 601024; omega, by show _ ≤ 7293034; omega⟩ (fun H locs hO => ?_)
    have hO := hO.flop
    refine lv_iload C.1 C.2.1 dL_law_297 (lv_at hl 1 rfl) ?_
    refine lv_icmp_eq (tgt := 304) C.1 C.2.1 dL_law_299 (by decide) (fun _ => ?_) (fun z9 => absurd rfl z9)
    refine lv_iload C.1 C.2.1 dL_law_304 (lv_at hl 1 rfl) ?_
    refine lv_if_ne (tgt := 321) C.1 C.2.1 dL_law_306 (by decide) (fun _ => ?_) (fun z9 => absurd z9 (by decide))
    refine lv_goto (tgt := 1939) C.1 C.2.1 dL_law_321 (by decide) ?_
    exact W.widen (show _ ≤ cells + 32 by omega) (show _ ≤ slots + 400 by omega) (kk _ _ _ _ _ _ _ _ _ _ (hw9.mono (by omega)) hO (lv_sub hl [2, 3, 4, 5, 6] rfl))
set_option maxHeartbeats 4000000 in
set_option maxRecDepth 100000 in
theorem st_p324 {p : Program} {l : Launch} {e : Env} {s : State} {m : MethodId} {args : Array Value} {below : List Frame} {meth : Method} {c : Code} {H : Heap} {locs : List Loc} {cells slots : Nat} {Q : State → Prop} {E : gE} {A : Nat → Prop} {bs L : Nat} {xs : Nat → Int32} {a b : Nat → Nat} {o i : Nat} {S : St} {mkA rk rv : Nat → Int32} {f : Nat → Int64} {mkB : Nat → Int32} {th : Int32} {B : Int} {ls : Array Slot} (C : gCx p s m args meth c cL_law 9 wsL_law RL ret E A) (hst : l.stackTraces = false) (hX : va_X bs L xs s s.heap) (hbl : bs < s.heap.size) (hbA : ¬ A bs) (hL : L ≤ 1536) (hi : i + 2 < L) (hw9 : lwI S B) (hB : B + 48 < 2147483647) (hc9 : cells ≤ 600000) (hs9 : slots ≤ 7000000) (hO : gO E A s (lwW E a b o S mkA rk rv f mkB th) H locs) (hl : lv_has ls 9 (lwV bs a b o i)) (kk : lwK p l e s m args below meth c E A bs a b o i (cells + 32) (slots + 400) (B + 48) Q) : W p l e room_1 s m args below meth c H locs cells slots Q (F0 m 324 ls []) := by
  have hI := hw9.inv
  have hsr := hw9.1.srt
  by_cases hok : (¬ s_on S = 0)
  · refine lv_aload_n C.1 C.2.1 dL_law_324 rfl (lv_at hl 1 rfl) ?_
    refine lv_aload_n C.1 C.2.1 dL_law_325 rfl (lv_at hl 3 rfl) ?_
    refine gCallW_i (As := [.ref (a 0), .ref o]) (rest := []) C hO (c_L_endStorm_ok l E a S mkA rk rv (mW E b S th mkB) o f  hst hI hok) (vx_cwSW 2 C.2.2.2.2.1 gL_law_L_endStorm rfl rfl rfl (by decide +kernel) ⟨(Nat.le_of_ble_eq_true rfl), (Nat.le_of_ble_eq_true rfl)⟩) rfl hl.1 rfl (Nat.le_of_ble_eq_true rfl) dL_law_326 ⟨by show _ ≤ 601024; omega, by show _ ≤ 7293034; omega⟩ (fun H locs hO => ?_)
    refine lv_istore (lv' := (5, .int 0) :: lwV bs a b o i) C.1 C.2.1 dL_law_329 hl (by decide) rfl (fun ls hl => ?_)
    have hO := hO.flip
    refine lv_aload_n C.1 C.2.1 dL_law_331 rfl (lv_at hl 3 rfl) ?_
    refine gCall_i (As := []) (rest := []) C hO (c_X3_endStorm_ok l E b S th mkB _  hI hsr hok) (cwV 0 C.2.2.2.2.1 gL_law_X3_endStorm rfl rfl rfl (by decide +kernel) ⟨(Nat.le_of_ble_eq_true rfl), (Nat.le_of_ble_eq_true rfl)⟩) (va_recv C.2.2.2.2.2.2.2.1.1 hO.1 (ci := 3) (q0 := 0) rfl rfl) rfl hl.1 rfl (Nat.le_of_ble_eq_true rfl) dL_law_332 ⟨by show _ ≤ 601024; omega, by show _ ≤ 7293034; omega⟩ (fun H locs hO => ?_)
    refine lv_istore (lv' := (6, .int (s_said S (s_sc S - 1))) :: (5, .int 0) :: lwV bs a b o i) C.1 C.2.1 dL_law_335 hl (by decide) rfl (fun ls hl => ?_)
    refine lv_aload_n C.1 C.2.1 dL_law_337 rfl (lv_at hl 4 rfl) ?_
    refine gCall_i (As := []) (rest := []) C hO (c_X3_thrown l E b _ 0 _ _) (cwV 0 C.2.2.2.2.1 gL_law_X3_thrown rfl rfl rfl (by decide +kernel) ⟨(Nat.le_of_ble_eq_true rfl), (Nat.le_of_ble_eq_true rfl)⟩) (va_recv C.2.2.2.2.2.2.2.1.1 hO.1 (ci := 3) (q0 := 0) rfl rfl) rfl hl.1 rfl (Nat.le_of_ble_eq_true rfl) dL_law_338 ⟨by show _ ≤ 601024; omega, by show _ ≤ 7293034; omega⟩ (fun H locs hO => ?_)
    have hO := hO.flop
    refine lv_iload C.1 C.2.1 dL_law_341 (lv_at hl 1 rfl) ?_
    refine lv_icmp_eq (tgt := 348) C.1 C.2.1 dL_law_343 (by decide) (fun _ => ?_) (fun z9 => absurd rfl z9)
    refine lv_iload C.1 C.2.1 dL_law_348 (lv_at hl 1 rfl) ?_
    refine lv_if_ne (tgt := 365) C.1 C.2.1 dL_law_350 (by decide) (fun z9 => absurd rfl z9) (fun _ => ?_)
    refine lv_aload_n C.1 C.2.1 dL_law_353 rfl (lv_at hl 5 rfl) ?_
    refine lv_iconst (v := 0) C.1 C.2.1 dL_law_354 (by decide) ?_
    refine gLald C hO dL_law_355 ?_
    rw [vp_u09]
    refine lv_iload C.1 C.2.1 dL_law_356 (lv_at hl 0 rfl) ?_
    refine lv_i2l C.1 C.2.1 dL_law_358 rfl ?_
    refine W.lcmp C.1 C.2.1 dL_law_359 ?_
    refine lv_if_eq (tgt := 365) C.1 C.2.1 dL_law_360 (by decide) (fun _ => ?_) (fun z9 => absurd (lcm9 _) z9)
    refine lv_goto (tgt := 1939) C.1 C.2.1 dL_law_365 (by decide) ?_
    exact W.widen (show _ ≤ cells + 32 by omega) (show _ ≤ slots + 400 by omega) (kk _ _ _ _ _ _ _ _ _ _ (hw9.storm0.mono (by omega)) hO (lv_sub hl [2, 3, 4, 5, 6] rfl))
  · have hno : s_on S = 0 := by first | exact hok | exact Classical.not_not.mp hok
    have hno3 : s_on S = 0 := by first | exact hno | exact hok
    refine lv_aload_n C.1 C.2.1 dL_law_324 rfl (lv_at hl 1 rfl) ?_
    refine lv_aload_n C.1 C.2.1 dL_law_325 rfl (lv_at hl 3 rfl) ?_
    refine gCallW_i (As := [.ref (a 0), .ref o]) (rest := []) C hO (c_L_endStorm_no l E a S mkA rk rv (mW E b S th mkB) o f  hst hI hno) (vx_cwSW 2 C.2.2.2.2.1 gL_law_L_endStorm rfl rfl rfl (by decide +kernel) ⟨(Nat.le_of_ble_eq_true rfl), (Nat.le_of_ble_eq_true rfl)⟩) rfl hl.1 rfl (Nat.le_of_ble_eq_true rfl) dL_law_326 ⟨by show _ ≤ 601024; omega, by show _ ≤ 7293034; omega⟩ (fun H locs hO => ?_)
    refine lv_istore (lv' := (5, .int 1) :: lwV bs a b o i) C.1 C.2.1 dL_law_329 hl (by decide) rfl (fun ls hl => ?_)
    have hO := hO.flip
    refine lv_aload_n C.1 C.2.1 dL_law_331 rfl (lv_at hl 3 rfl) ?_
    refine gCall_i (As := []) (rest := []) C hO (c_X3_endStorm_no l E b S th mkB _  hI hsr hno3) (cwV 0 C.2.2.2.2.1 gL_law_X3_endStorm rfl rfl rfl (by decide +kernel) ⟨(Nat.le_of_ble_eq_true rfl), (Nat.le_of_ble_eq_true rfl)⟩) (va_recv C.2.2.2.2.2.2.2.1.1 hO.1 (ci := 3) (q0 := 0) rfl rfl) rfl hl.1 rfl (Nat.le_of_ble_eq_true rfl) dL_law_332 ⟨by show _ ≤ 601024; omega, by show _ ≤ 7293034; omega⟩ (fun H locs hO => ?_)
    refine lv_istore (lv' := (6, .int 0) :: (5, .int 1) :: lwV bs a b o i) C.1 C.2.1 dL_law_335 hl (by decide) rfl (fun ls hl => ?_)
    refine lv_aload_n C.1 C.2.1 dL_law_337 rfl (lv_at hl 4 rfl) ?_
    refine gCall_i (As := []) (rest := []) C hO (c_X3_thrown l E b _ 1 _ _) (cwV 0 C.2.2.2.2.1 gL_law_X3_thrown rfl rfl rfl (by decide +kernel) ⟨(Nat.le_of_ble_eq_true rfl), (Nat.le_of_ble_eq_true rfl)⟩) (va_recv C.2.2.2.2.2.2.2.1.1 hO.1 (ci := 3) (q0 := 0) rfl rfl) rfl hl.1 rfl (Nat.le_of_ble_eq_true rfl) dL_law_338 ⟨by show _ ≤ 601024; omega, by show _ ≤ 7293034; omega⟩ (fun H locs hO => ?_)
    have hO := hO.flop
    refine lv_iload C.1 C.2.1 dL_law_341 (lv_at hl 1 rfl) ?_
    refine lv_icmp_eq (tgt := 348) C.1 C.2.1 dL_law_343 (by decide) (fun _ => ?_) (fun z9 => absurd rfl z9)
    refine lv_iload C.1 C.2.1 dL_law_348 (lv_at hl 1 rfl) ?_
    refine lv_if_ne (tgt := 365) C.1 C.2.1 dL_law_350 (by decide) (fun _ => ?_) (fun z9 => absurd z9 (by decide))
    refine lv_goto (tgt := 1939) C.1 C.2.1 dL_law_365 (by decide) ?_
    exact W.widen (show _ ≤ cells + 32 by omega) (show _ ≤ slots + 400 by omega) (kk _ _ _ _ _ _ _ _ _ _ (hw9.mono (by omega)) hO (lv_sub hl [2, 3, 4, 5, 6] rfl))
set_option maxHeartbeats 4000000 in
set_option maxRecDepth 100000 in
theorem st_p368 {p : Program} {l : Launch} {e : Env} {s : State} {m : MethodId} {args : Array Value} {below : List Frame} {meth : Method} {c : Code} {H : Heap} {locs : List Loc} {cells slots : Nat} {Q : State → Prop} {E : gE} {A : Nat → Prop} {bs L : Nat} {xs : Nat → Int32} {a b : Nat → Nat} {o i : Nat} {S : St} {mkA rk rv : Nat → Int32} {f : Nat → Int64} {mkB : Nat → Int32} {th : Int32} {B : Int} {ls : Array Slot} (C : gCx p s m args meth c cL_law 9 wsL_law RL ret E A) (hst : l.stackTraces = false) (hX : va_X bs L xs s s.heap) (hbl : bs < s.heap.size) (hbA : ¬ A bs) (hL : L ≤ 1536) (hi : i + 2 < L) (hw9 : lwI S B) (hB : B + 48 < 2147483647) (hc9 : cells ≤ 600000) (hs9 : slots ≤ 7000000) (hO : gO E A s (lwW E a b o S mkA rk rv f mkB th) H locs) (hl : lv_has ls 9 (lwV bs a b o i)) (kk : lwK p l e s m args below meth c E A bs a b o i (cells + 32) (slots + 400) (B + 48) Q) : W p l e room_1 s m args below meth c H locs cells slots Q (F0 m 368 ls []) := by
  have hI := hw9.inv
  have hsr := hw9.1.srt
  by_cases hp9 : okStorm S (xs (i + 1))
  · by_cases hq9 : s_on S = 0
    · have hok : (okStorm S (xs (i + 1)) ∧ s_on S = 0) := by first | exact ⟨hp9, hq9⟩ | exact ⟨hp9.1, hp9.2, hq9⟩
      refine lv_aload_n C.1 C.2.1 dL_law_368 rfl (lv_at hl 1 rfl) ?_
      refine lv_aload_n C.1 C.2.1 dL_law_369 rfl (lv_at hl 0 rfl) ?_
      refine lv_iload C.1 C.2.1 dL_law_370 (lv_at hl 4 rfl) ?_
      refine lv_iconst (v := 1) C.1 C.2.1 dL_law_372 (by decide) ?_
      refine lv_iadd C.1 C.2.1 dL_law_373 ?_
      refine gSld (j := i + 1) C hX hbl hbA hO (nI_succ i).symm (by omega) hL dL_law_374 ?_
      refine lv_aload_n C.1 C.2.1 dL_law_375 rfl (lv_at hl 3 rfl) ?_
      refine gCallW_i (As := [.ref (a 0), .int (xs (i + 1)), .ref o]) (rest := []) C hO (c_L_replay_ok l E a S mkA rk rv (mW E b S th mkB) o f (xs (i + 1)) hst hI hok) (vx_cwSW 3 C.2.2.2.2.1 gL_law_L_replay rfl rfl rfl (by decide +kernel) ⟨(Nat.le_of_ble_eq_true rfl), (Nat.le_of_ble_eq_true rfl)⟩) rfl hl.1 rfl (Nat.le_of_ble_eq_true rfl) dL_law_376 ⟨by show _ ≤ 601024; omega, by show _ ≤ 7293034; omega⟩ (fun H locs hO => ?_)
      refine lv_istore (lv' := (5, .int 0) :: lwV bs a b o i) C.1 C.2.1 dL_law_379 hl (by decide) rfl (fun ls hl => ?_)
      have hO := hO.flip
      refine lv_aload_n C.1 C.2.1 dL_law_381 rfl (lv_at hl 3 rfl) ?_
      refine lv_aload_n C.1 C.2.1 dL_law_382 rfl (lv_at hl 1 rfl) ?_
      refine lv_iload C.1 C.2.1 dL_law_383 (lv_at hl 5 rfl) ?_
      refine lv_iconst (v := 1) C.1 C.2.1 dL_law_385 (by decide) ?_
      refine lv_iadd C.1 C.2.1 dL_law_386 ?_
      refine gSld (j := i + 1) C hX hbl hbA hO (nI_succ i).symm (by omega) hL dL_law_387 ?_
      refine gCall_i (As := [.int (xs (i + 1))]) (rest := []) C hO (c_X3_replay_ok l E b S th mkB _ (xs (i + 1)) hI hsr hok (hw9.rps (by omega) _)) (cwV 1 C.2.2.2.2.1 gL_law_X3_replay rfl rfl rfl (by decide +kernel) ⟨(Nat.le_of_ble_eq_true rfl), (Nat.le_of_ble_eq_true rfl)⟩) (va_recv C.2.2.2.2.2.2.2.1.1 hO.1 (ci := 3) (q0 := 0) rfl rfl) rfl hl.1 rfl (Nat.le_of_ble_eq_true rfl) dL_law_388 ⟨by show _ ≤ 601024; omega, by show _ ≤ 7293034; omega⟩ (fun H locs hO => ?_)
      refine lv_istore (lv' := (6, .int (nI (cnt (s_sto S) (xs (i + 1)) (s_n S)))) :: (5, .int 0) :: lwV bs a b o i) C.1 C.2.1 dL_law_391 hl (by decide) rfl (fun ls hl => ?_)
      refine lv_aload_n C.1 C.2.1 dL_law_393 rfl (lv_at hl 4 rfl) ?_
      refine gCall_i (As := []) (rest := []) C hO (c_X3_thrown l E b _ 0 _ _) (cwV 0 C.2.2.2.2.1 gL_law_X3_thrown rfl rfl rfl (by decide +kernel) ⟨(Nat.le_of_ble_eq_true rfl), (Nat.le_of_ble_eq_true rfl)⟩) (va_recv C.2.2.2.2.2.2.2.1.1 hO.1 (ci := 3) (q0 := 0) rfl rfl) rfl hl.1 rfl (Nat.le_of_ble_eq_true rfl) dL_law_394 ⟨by show _ ≤ 601024; omega, by show _ ≤ 7293034; omega⟩ (fun H locs hO => ?_)
      have hO := hO.flop
      refine lv_iload C.1 C.2.1 dL_law_397 (lv_at hl 1 rfl) ?_
      refine lv_icmp_eq (tgt := 404) C.1 C.2.1 dL_law_399 (by decide) (fun _ => ?_) (fun z9 => absurd rfl z9)
      refine lv_iload C.1 C.2.1 dL_law_404 (lv_at hl 1 rfl) ?_
      refine lv_if_ne (tgt := 421) C.1 C.2.1 dL_law_406 (by decide) (fun z9 => absurd rfl z9) (fun _ => ?_)
      refine lv_aload_n C.1 C.2.1 dL_law_409 rfl (lv_at hl 5 rfl) ?_
      refine lv_iconst (v := 0) C.1 C.2.1 dL_law_410 (by decide) ?_
      refine gLald C hO dL_law_411 ?_
      rw [vp_u09]
      refine lv_iload C.1 C.2.1 dL_law_412 (lv_at hl 0 rfl) ?_
      refine lv_i2l C.1 C.2.1 dL_law_414 rfl ?_
      refine W.lcmp C.1 C.2.1 dL_law_415 ?_
      refine lv_if_eq (tgt := 421) C.1 C.2.1 dL_law_416 (by decide) (fun _ => ?_) (fun z9 => absurd (lcm9 _) z9)
      refine lv_goto (tgt := 1939) C.1 C.2.1 dL_law_421 (by decide) ?_
      exact W.widen (show _ ≤ cells + 32 by omega) (show _ ≤ slots + 400 by omega) (kk _ _ _ _ _ _ _ _ _ _ (hw9.rpl (by omega) _) hO (lv_sub hl [2, 3, 4, 5, 6] rfl))
    · have hno : okStorm S (xs (i + 1)) ∧ ¬ s_on S = 0 := by first | exact ⟨hp9, hq9⟩ | exact ⟨hp9.1, hp9.2, hq9⟩
      have hno3 : okStorm S (xs (i + 1)) ∧ ¬ s_on S = 0 := by first | exact hno | exact ⟨hp9, hq9⟩
      refine lv_aload_n C.1 C.2.1 dL_law_368 rfl (lv_at hl 1 rfl) ?_
      refine lv_aload_n C.1 C.2.1 dL_law_369 rfl (lv_at hl 0 rfl) ?_
      refine lv_iload C.1 C.2.1 dL_law_370 (lv_at hl 4 rfl) ?_
      refine lv_iconst (v := 1) C.1 C.2.1 dL_law_372 (by decide) ?_
      refine lv_iadd C.1 C.2.1 dL_law_373 ?_
      refine gSld (j := i + 1) C hX hbl hbA hO (nI_succ i).symm (by omega) hL dL_law_374 ?_
      refine lv_aload_n C.1 C.2.1 dL_law_375 rfl (lv_at hl 3 rfl) ?_
      refine gCallW_i (As := [.ref (a 0), .int (xs (i + 1)), .ref o]) (rest := []) C hO (c_L_replay_no2 l E a S mkA rk rv (mW E b S th mkB) o f (xs (i + 1)) hst hI hno) (vx_cwSW 3 C.2.2.2.2.1 gL_law_L_replay rfl rfl rfl (by decide +kernel) ⟨(Nat.le_of_ble_eq_true rfl), (Nat.le_of_ble_eq_true rfl)⟩) rfl hl.1 rfl (Nat.le_of_ble_eq_true rfl) dL_law_376 ⟨by show _ ≤ 601024; omega, by show _ ≤ 7293034; omega⟩ (fun H locs hO => ?_)
      refine lv_istore (lv' := (5, .int 2) :: lwV bs a b o i) C.1 C.2.1 dL_law_379 hl (by decide) rfl (fun ls hl => ?_)
      have hO := hO.flip
      refine lv_aload_n C.1 C.2.1 dL_law_381 rfl (lv_at hl 3 rfl) ?_
      refine lv_aload_n C.1 C.2.1 dL_law_382 rfl (lv_at hl 1 rfl) ?_
      refine lv_iload C.1 C.2.1 dL_law_383 (lv_at hl 5 rfl) ?_
      refine lv_iconst (v := 1) C.1 C.2.1 dL_law_385 (by decide) ?_
      refine lv_iadd C.1 C.2.1 dL_law_386 ?_
      refine gSld (j := i + 1) C hX hbl hbA hO (nI_succ i).symm (by omega) hL dL_law_387 ?_
      refine gCall_i (As := [.int (xs (i + 1))]) (rest := []) C hO (c_X3_replay_no2 l E b S th mkB _ (xs (i + 1)) hI hsr hno3) (cwV 1 C.2.2.2.2.1 gL_law_X3_replay rfl rfl rfl (by decide +kernel) ⟨(Nat.le_of_ble_eq_true rfl), (Nat.le_of_ble_eq_true rfl)⟩) (va_recv C.2.2.2.2.2.2.2.1.1 hO.1 (ci := 3) (q0 := 0) rfl rfl) rfl hl.1 rfl (Nat.le_of_ble_eq_true rfl) dL_law_388 ⟨by show _ ≤ 601024; omega, by show _ ≤ 7293034; omega⟩ (fun H locs hO => ?_)
      refine lv_istore (lv' := (6, .int 0) :: (5, .int 2) :: lwV bs a b o i) C.1 C.2.1 dL_law_391 hl (by decide) rfl (fun ls hl => ?_)
      refine lv_aload_n C.1 C.2.1 dL_law_393 rfl (lv_at hl 4 rfl) ?_
      refine gCall_i (As := []) (rest := []) C hO (c_X3_thrown l E b _ 2 _ _) (cwV 0 C.2.2.2.2.1 gL_law_X3_thrown rfl rfl rfl (by decide +kernel) ⟨(Nat.le_of_ble_eq_true rfl), (Nat.le_of_ble_eq_true rfl)⟩) (va_recv C.2.2.2.2.2.2.2.1.1 hO.1 (ci := 3) (q0 := 0) rfl rfl) rfl hl.1 rfl (Nat.le_of_ble_eq_true rfl) dL_law_394 ⟨by show _ ≤ 601024; omega, by show _ ≤ 7293034; omega⟩ (fun H locs hO => ?_)
      have hO := hO.flop
      refine lv_iload C.1 C.2.1 dL_law_397 (lv_at hl 1 rfl) ?_
      refine lv_icmp_eq (tgt := 404) C.1 C.2.1 dL_law_399 (by decide) (fun _ => ?_) (fun z9 => absurd rfl z9)
      refine lv_iload C.1 C.2.1 dL_law_404 (lv_at hl 1 rfl) ?_
      refine lv_if_ne (tgt := 421) C.1 C.2.1 dL_law_406 (by decide) (fun _ => ?_) (fun z9 => absurd z9 (by decide))
      refine lv_goto (tgt := 1939) C.1 C.2.1 dL_law_421 (by decide) ?_
      exact W.widen (show _ ≤ cells + 32 by omega) (show _ ≤ slots + 400 by omega) (kk _ _ _ _ _ _ _ _ _ _ (hw9.mono (by omega)) hO (lv_sub hl [2, 3, 4, 5, 6] rfl))
  · have hno : ¬ okStorm S (xs (i + 1)) := hp9
    have hno3 : ¬ okStorm S (xs (i + 1)) := by first | exact hno | exact hp9
    refine lv_aload_n C.1 C.2.1 dL_law_368 rfl (lv_at hl 1 rfl) ?_
    refine lv_aload_n C.1 C.2.1 dL_law_369 rfl (lv_at hl 0 rfl) ?_
    refine lv_iload C.1 C.2.1 dL_law_370 (lv_at hl 4 rfl) ?_
    refine lv_iconst (v := 1) C.1 C.2.1 dL_law_372 (by decide) ?_
    refine lv_iadd C.1 C.2.1 dL_law_373 ?_
    refine gSld (j := i + 1) C hX hbl hbA hO (nI_succ i).symm (by omega) hL dL_law_374 ?_
    refine lv_aload_n C.1 C.2.1 dL_law_375 rfl (lv_at hl 3 rfl) ?_
    refine gCallW_i (As := [.ref (a 0), .int (xs (i + 1)), .ref o]) (rest := []) C hO (c_L_replay_no1 l E a S mkA rk rv (mW E b S th mkB) o f (xs (i + 1)) hst hI hno) (vx_cwSW 3 C.2.2.2.2.1 gL_law_L_replay rfl rfl rfl (by decide +kernel) ⟨(Nat.le_of_ble_eq_true rfl), (Nat.le_of_ble_eq_true rfl)⟩) rfl hl.1 rfl (Nat.le_of_ble_eq_true rfl) dL_law_376 ⟨by show _ ≤ 601024; omega, by show _ ≤ 7293034; omega⟩ (fun H locs hO => ?_)
    refine lv_istore (lv' := (5, .int 1) :: lwV bs a b o i) C.1 C.2.1 dL_law_379 hl (by decide) rfl (fun ls hl => ?_)
    have hO := hO.flip
    refine lv_aload_n C.1 C.2.1 dL_law_381 rfl (lv_at hl 3 rfl) ?_
    refine lv_aload_n C.1 C.2.1 dL_law_382 rfl (lv_at hl 1 rfl) ?_
    refine lv_iload C.1 C.2.1 dL_law_383 (lv_at hl 5 rfl) ?_
    refine lv_iconst (v := 1) C.1 C.2.1 dL_law_385 (by decide) ?_
    refine lv_iadd C.1 C.2.1 dL_law_386 ?_
    refine gSld (j := i + 1) C hX hbl hbA hO (nI_succ i).symm (by omega) hL dL_law_387 ?_
    refine gCall_i (As := [.int (xs (i + 1))]) (rest := []) C hO (c_X3_replay_no l E b S th mkB _ (xs (i + 1)) hI hsr hno3) (cwV 1 C.2.2.2.2.1 gL_law_X3_replay rfl rfl rfl (by decide +kernel) ⟨(Nat.le_of_ble_eq_true rfl), (Nat.le_of_ble_eq_true rfl)⟩) (va_recv C.2.2.2.2.2.2.2.1.1 hO.1 (ci := 3) (q0 := 0) rfl rfl) rfl hl.1 rfl (Nat.le_of_ble_eq_true rfl) dL_law_388 ⟨by show _ ≤ 601024; omega, by show _ ≤ 7293034; omega⟩ (fun H locs hO => ?_)
    refine lv_istore (lv' := (6, .int 0) :: (5, .int 1) :: lwV bs a b o i) C.1 C.2.1 dL_law_391 hl (by decide) rfl (fun ls hl => ?_)
    refine lv_aload_n C.1 C.2.1 dL_law_393 rfl (lv_at hl 4 rfl) ?_
    refine gCall_i (As := []) (rest := []) C hO (c_X3_thrown l E b _ 1 _ _) (cwV 0 C.2.2.2.2.1 gL_law_X3_thrown rfl rfl rfl (by decide +kernel) ⟨(Nat.le_of_ble_eq_true rfl), (Nat.le_of_ble_eq_true rfl)⟩) (va_recv C.2.2.2.2.2.2.2.1.1 hO.1 (ci := 3) (q0 := 0) rfl rfl) rfl hl.1 rfl (Nat.le_of_ble_eq_true rfl) dL_law_394 ⟨by show _ ≤ 601024; omega, by show _ ≤ 7293034; omega⟩ (fun H locs hO => ?_)
    have hO := hO.flop
    refine lv_iload C.1 C.2.1 dL_law_397 (lv_at hl 1 rfl) ?_
    refine lv_icmp_eq (tgt := 404) C.1 C.2.1 dL_law_399 (by decide) (fun _ => ?_) (fun z9 => absurd rfl z9)
    refine lv_iload C.1 C.2.1 dL_law_404 (lv_at hl 1 rfl) ?_
    refine lv_if_ne (tgt := 421) C.1 C.2.1 dL_law_406 (by decide) (fun _ => ?_) (fun z9 => absurd z9 (by decide))
    refine lv_goto (tgt := 1939) C.1 C.2.1 dL_law_421 (by decide) ?_
    exact W.widen (show _ ≤ cells + 32 by omega) (show _ ≤ slots + 400 by omega) (kk _ _ _ _ _ _ _ _ _ _ (hw9.mono (by omega)) hO (lv_sub hl [2, 3, 4, 5, 6] rfl))
set_option maxHeartbeats 4000000 in
set_option maxRecDepth 100000 in
theorem st_p424 {p : Program} {l : Launch} {e : Env} {s : State} {m : MethodId} {args : Array Value} {below : List Frame} {meth : Method} {c : Code} {H : Heap} {locs : List Loc} {cells slots : Nat} {Q : State → Prop} {E : gE} {A : Nat → Prop} {bs L : Nat} {xs : Nat → Int32} {a b : Nat → Nat} {o i : Nat} {S : St} {mkA rk rv : Nat → Int32} {f : Nat → Int64} {mkB : Nat → Int32} {th : Int32} {B : Int} {ls : Array Slot} (C : gCx p s m args meth c cL_law 9 wsL_law RL ret E A) (hst : l.stackTraces = false) (hX : va_X bs L xs s s.heap) (hbl : bs < s.heap.size) (hbA : ¬ A bs) (hL : L ≤ 1536) (hi : i + 2 < L) (hw9 : lwI S B) (hB : B + 48 < 2147483647) (hc9 : cells ≤ 600000) (hs9 : slots ≤ 7000000) (hO : gO E A s (lwW E a b o S mkA rk rv f mkB th) H locs) (hl : lv_has ls 9 (lwV bs a b o i)) (kk : lwK p l e s m args below meth c E A bs a b o i (cells + 32) (slots + 400) (B + 48) Q) : W p l e room_1 s m args below meth c H locs cells slots Q (F0 m 424 ls []) := by
  have hI := hw9.inv
  have hsr := hw9.1.srt
  refine lv_aload_n C.1 C.2.1 dL_law_424 rfl (lv_at hl 1 rfl) ?_
  refine gCall_i (As := []) (rest := []) C hO (c_X2_compact l E a S mkA rk rv _  hI) (cwV 0 C.2.2.2.2.1 gL_law_X2_compact rfl rfl rfl (by decide +kernel) ⟨(Nat.le_of_ble_eq_true rfl), (Nat.le_of_ble_eq_true rfl)⟩) (va_recv C.2.2.2.2.2.2.2.1.1 hO.1 (ci := 2) (q0 := 0) rfl rfl) rfl hl.1 rfl (Nat.le_of_ble_eq_true rfl) dL_law_425 ⟨by show _ ≤ 601024; omega, by show _ ≤ 7293034; omega⟩ (fun H locs hO => ?_)
  have hO := hO.flip
  refine lv_aload_n C.1 C.2.1 dL_law_428 rfl (lv_at hl 2 rfl) ?_
  refine gCall_i (As := []) (rest := [.int _]) C hO (c_X3_compact l E b S th mkB _  hI hsr) (cwV 0 C.2.2.2.2.1 gL_law_X3_compact rfl rfl rfl (by decide +kernel) ⟨(Nat.le_of_ble_eq_true rfl), (Nat.le_of_ble_eq_true rfl)⟩) (va_recv C.2.2.2.2.2.2.2.1.1 hO.1 (ci := 3) (q0 := 0) rfl rfl) rfl hl.1 rfl (Nat.le_of_ble_eq_true rfl) dL_law_429 ⟨by show _ ≤ 601024; omega, by show _ ≤ 7293034; omega⟩ (fun H locs hO => ?_)
  have hO := hO.flop
  refine lv_icmp_eq (tgt := 1939) C.1 C.2.1 dL_law_432 (by decide) (fun _ => ?_) (fun z9 => absurd rfl z9)
  exact W.widen (show _ ≤ cells + 32 by omega) (show _ ≤ slots + 400 by omega) (kk _ _ _ _ _ _ _ _ _ _ ((hw9.drop _).mono (by omega)) hO (lv_sub hl [0, 1, 2, 3, 4] rfl))
set_option maxHeartbeats 4000000 in
set_option maxRecDepth 100000 in
theorem st_p437 {p : Program} {l : Launch} {e : Env} {s : State} {m : MethodId} {args : Array Value} {below : List Frame} {meth : Method} {c : Code} {H : Heap} {locs : List Loc} {cells slots : Nat} {Q : State → Prop} {E : gE} {A : Nat → Prop} {bs L : Nat} {xs : Nat → Int32} {a b : Nat → Nat} {o i : Nat} {S : St} {mkA rk rv : Nat → Int32} {f : Nat → Int64} {mkB : Nat → Int32} {th : Int32} {B : Int} {ls : Array Slot} (C : gCx p s m args meth c cL_law 9 wsL_law RL ret E A) (hst : l.stackTraces = false) (hX : va_X bs L xs s s.heap) (hbl : bs < s.heap.size) (hbA : ¬ A bs) (hL : L ≤ 1536) (hi : i + 2 < L) (hw9 : lwI S B) (hB : B + 48 < 2147483647) (hc9 : cells ≤ 600000) (hs9 : slots ≤ 7000000) (hO : gO E A s (lwW E a b o S mkA rk rv f mkB th) H locs) (hl : lv_has ls 9 (lwV bs a b o i)) (kk : lwK p l e s m args below meth c E A bs a b o i (cells + 32) (slots + 400) (B + 48) Q) : W p l e room_1 s m args below meth c H locs cells slots Q (F0 m 437 ls []) := by
  have hI := hw9.inv
  have hsr := hw9.1.srt
  by_cases hok : (okOff S (xs (i + 1)))
  · refine lv_aload_n C.1 C.2.1 dL_law_437 rfl (lv_at hl 1 rfl) ?_
    refine lv_aload_n C.1 C.2.1 dL_law_438 rfl (lv_at hl 0 rfl) ?_
    refine lv_iload C.1 C.2.1 dL_law_439 (lv_at hl 4 rfl) ?_
    refine lv_iconst (v := 1) C.1 C.2.1 dL_law_441 (by decide) ?_
    refine lv_iadd C.1 C.2.1 dL_law_442 ?_
    refine gSld (j := i + 1) C hX hbl hbA hO (nI_succ i).symm (by omega) hL dL_law_443 ?_
    refine lv_aload_n C.1 C.2.1 dL_law_444 rfl (lv_at hl 3 rfl) ?_
    refine gCallW_i (As := [.ref (a 0), .int (xs (i + 1)), .ref o]) (rest := []) C hO (c_L_trimTo_ok l E a S mkA rk rv (mW E b S th mkB) o f (xs (i + 1)) hst hI hok) (vx_cwSW 3 C.2.2.2.2.1 gL_law_L_trimTo rfl rfl rfl (by decide +kernel) ⟨(Nat.le_of_ble_eq_true rfl), (Nat.le_of_ble_eq_true rfl)⟩) rfl hl.1 rfl (Nat.le_of_ble_eq_true rfl) dL_law_445 ⟨by show _ ≤ 601024; omega, by show _ ≤ 7293034; omega⟩ (fun H locs hO => ?_)
    refine lv_istore (lv' := (5, .int 0) :: lwV bs a b o i) C.1 C.2.1 dL_law_448 hl (by decide) rfl (fun ls hl => ?_)
    have hO := hO.flip
    refine lv_aload_n C.1 C.2.1 dL_law_450 rfl (lv_at hl 3 rfl) ?_
    refine lv_aload_n C.1 C.2.1 dL_law_451 rfl (lv_at hl 1 rfl) ?_
    refine lv_iload C.1 C.2.1 dL_law_452 (lv_at hl 5 rfl) ?_
    refine lv_iconst (v := 1) C.1 C.2.1 dL_law_454 (by decide) ?_
    refine lv_iadd C.1 C.2.1 dL_law_455 ?_
    refine gSld (j := i + 1) C hX hbl hbA hO (nI_succ i).symm (by omega) hL dL_law_456 ?_
    refine gCall_i (As := [.int (xs (i + 1))]) (rest := []) C hO (c_X3_trimTo_ok l E b S th mkB _ (xs (i + 1)) hI hsr hok) (cwV 1 C.2.2.2.2.1 gL_law_X3_trimTo rfl rfl rfl (by decide +kernel) ⟨(Nat.le_of_ble_eq_true rfl), (Nat.le_of_ble_eq_true rfl)⟩) (va_recv C.2.2.2.2.2.2.2.1.1 hO.1 (ci := 3) (q0 := 0) rfl rfl) rfl hl.1 rfl (Nat.le_of_ble_eq_true rfl) dL_law_457 ⟨by show _ ≤ 601024; omega, by show _ ≤ 7293034; omega⟩ (fun H locs hO => ?_)
    refine lv_istore (lv' := (6, .int (nI (s_n S - cpN (gAhead (s_off S) (xs (i + 1))) (s_n S)))) :: (5, .int 0) :: lwV bs a b o i) C.1 C.2.1 dL_law_460 hl (by decide) rfl (fun ls hl => ?_)
    refine lv_aload_n C.1 C.2.1 dL_law_462 rfl (lv_at hl 4 rfl) ?_
    refine gCall_i (As := []) (rest := []) C hO (c_X3_thrown l E b _ 0 _ _) (cwV 0 C.2.2.2.2.1 gL_law_X3_thrown rfl rfl rfl (by decide +kernel) ⟨(Nat.le_of_ble_eq_true rfl), (Nat.le_of_ble_eq_true rfl)⟩) (va_recv C.2.2.2.2.2.2.2.1.1 hO.1 (ci := 3) (q0 := 0) rfl rfl) rfl hl.1 rfl (Nat.le_of_ble_eq_true rfl) dL_law_463 ⟨by show _ ≤ 601024; omega, by show _ ≤ 7293034; omega⟩ (fun H locs hO => ?_)
    have hO := hO.flop
    refine lv_iload C.1 C.2.1 dL_law_466 (lv_at hl 1 rfl) ?_
    refine lv_icmp_eq (tgt := 473) C.1 C.2.1 dL_law_468 (by decide) (fun _ => ?_) (fun z9 => absurd rfl z9)
    refine lv_iload C.1 C.2.1 dL_law_473 (lv_at hl 1 rfl) ?_
    refine lv_if_ne (tgt := 490) C.1 C.2.1 dL_law_475 (by decide) (fun z9 => absurd rfl z9) (fun _ => ?_)
    refine lv_aload_n C.1 C.2.1 dL_law_478 rfl (lv_at hl 5 rfl) ?_
    refine lv_iconst (v := 0) C.1 C.2.1 dL_law_479 (by decide) ?_
    refine gLald C hO dL_law_480 ?_
    rw [vp_u09]
    refine lv_iload C.1 C.2.1 dL_law_481 (lv_at hl 0 rfl) ?_
    refine lv_i2l C.1 C.2.1 dL_law_483 rfl ?_
    refine W.lcmp C.1 C.2.1 dL_law_484 ?_
    refine lv_if_eq (tgt := 490) C.1 C.2.1 dL_law_485 (by decide) (fun _ => ?_) (fun z9 => absurd (lcm9 _) z9)
    refine lv_goto (tgt := 1939) C.1 C.2.1 dL_law_490 (by decide) ?_
    exact W.widen (show _ ≤ cells + 32 by omega) (show _ ≤ slots + 400 by omega) (kk _ _ _ _ _ _ _ _ _ _ ((hw9.drop _).mono (by omega)) hO (lv_sub hl [2, 3, 4, 5, 6] rfl))
  · have hno : ¬ okOff S (xs (i + 1)) := by first | exact hok | exact Classical.not_not.mp hok
    have hno3 : ¬ okOff S (xs (i + 1)) := by first | exact hno | exact hok
    refine lv_aload_n C.1 C.2.1 dL_law_437 rfl (lv_at hl 1 rfl) ?_
    refine lv_aload_n C.1 C.2.1 dL_law_438 rfl (lv_at hl 0 rfl) ?_
    refine lv_iload C.1 C.2.1 dL_law_439 (lv_at hl 4 rfl) ?_
    refine lv_iconst (v := 1) C.1 C.2.1 dL_law_441 (by decide) ?_
    refine lv_iadd C.1 C.2.1 dL_law_442 ?_
    refine gSld (j := i + 1) C hX hbl hbA hO (nI_succ i).symm (by omega) hL dL_law_443 ?_
    refine lv_aload_n C.1 C.2.1 dL_law_444 rfl (lv_at hl 3 rfl) ?_
    refine gCallW_i (As := [.ref (a 0), .int (xs (i + 1)), .ref o]) (rest := []) C hO (c_L_trimTo_no l E a S mkA rk rv (mW E b S th mkB) o f (xs (i + 1)) hst hI hno) (vx_cwSW 3 C.2.2.2.2.1 gL_law_L_trimTo rfl rfl rfl (by decide +kernel) ⟨(Nat.le_of_ble_eq_true rfl), (Nat.le_of_ble_eq_true rfl)⟩) rfl hl.1 rfl (Nat.le_of_ble_eq_true rfl) dL_law_445 ⟨by show _ ≤ 601024; omega, by show _ ≤ 7293034; omega⟩ (fun H locs hO => ?_)
    refine lv_istore (lv' := (5, .int 1) :: lwV bs a b o i) C.1 C.2.1 dL_law_448 hl (by decide) rfl (fun ls hl => ?_)
    have hO := hO.flip
    refine lv_aload_n C.1 C.2.1 dL_law_450 rfl (lv_at hl 3 rfl) ?_
    refine lv_aload_n C.1 C.2.1 dL_law_451 rfl (lv_at hl 1 rfl) ?_
    refine lv_iload C.1 C.2.1 dL_law_452 (lv_at hl 5 rfl) ?_
    refine lv_iconst (v := 1) C.1 C.2.1 dL_law_454 (by decide) ?_
    refine lv_iadd C.1 C.2.1 dL_law_455 ?_
    refine gSld (j := i + 1) C hX hbl hbA hO (nI_succ i).symm (by omega) hL dL_law_456 ?_
    refine gCall_i (As := [.int (xs (i + 1))]) (rest := []) C hO (c_X3_trimTo_no l E b S th mkB _ (xs (i + 1)) hI hsr hno3) (cwV 1 C.2.2.2.2.1 gL_law_X3_trimTo rfl rfl rfl (by decide +kernel) ⟨(Nat.le_of_ble_eq_true rfl), (Nat.le_of_ble_eq_true rfl)⟩) (va_recv C.2.2.2.2.2.2.2.1.1 hO.1 (ci := 3) (q0 := 0) rfl rfl) rfl hl.1 rfl (Nat.le_of_ble_eq_true rfl) dL_law_457 ⟨by show _ ≤ 601024; omega, by show _ ≤ 7293034; omega⟩ (fun H locs hO => ?_)
    refine lv_istore (lv' := (6, .int 0) :: (5, .int 1) :: lwV bs a b o i) C.1 C.2.1 dL_law_460 hl (by decide) rfl (fun ls hl => ?_)
    refine lv_aload_n C.1 C.2.1 dL_law_462 rfl (lv_at hl 4 rfl) ?_
    refine gCall_i (As := []) (rest := []) C hO (c_X3_thrown l E b _ 1 _ _) (cwV 0 C.2.2.2.2.1 gL_law_X3_thrown rfl rfl rfl (by decide +kernel) ⟨(Nat.le_of_ble_eq_true rfl), (Nat.le_of_ble_eq_true rfl)⟩) (va_recv C.2.2.2.2.2.2.2.1.1 hO.1 (ci := 3) (q0 := 0) rfl rfl) rfl hl.1 rfl (Nat.le_of_ble_eq_true rfl) dL_law_463 ⟨by show _ ≤ 601024; omega, by show _ ≤ 7293034; omega⟩ (fun H locs hO => ?_)
    have hO := hO.flop
    refine lv_iload C.1 C.2.1 dL_law_466 (lv_at hl 1 rfl) ?_
    refine lv_icmp_eq (tgt := 473) C.1 C.2.1 dL_law_468 (by decide) (fun _ => ?_) (fun z9 => absurd rfl z9)
    refine lv_iload C.1 C.2.1 dL_law_473 (lv_at hl 1 rfl) ?_
    refine lv_if_ne (tgt := 490) C.1 C.2.1 dL_law_475 (by decide) (fun _ => ?_) (fun z9 => absurd z9 (by decide))
    refine lv_goto (tgt := 1939) C.1 C.2.1 dL_law_490 (by decide) ?_
    exact W.widen (show _ ≤ cells + 32 by omega) (show _ ≤ slots + 400 by omega) (kk _ _ _ _ _ _ _ _ _ _ (hw9.mono (by omega)) hO (lv_sub hl [2, 3, 4, 5, 6] rfl))
set_option maxHeartbeats 4000000 in
set_option maxRecDepth 100000 in
theorem st_p493 {p : Program} {l : Launch} {e : Env} {s : State} {m : MethodId} {args : Array Value} {below : List Frame} {meth : Method} {c : Code} {H : Heap} {locs : List Loc} {cells slots : Nat} {Q : State → Prop} {E : gE} {A : Nat → Prop} {bs L : Nat} {xs : Nat → Int32} {a b : Nat → Nat} {o i : Nat} {S : St} {mkA rk rv : Nat → Int32} {f : Nat → Int64} {mkB : Nat → Int32} {th : Int32} {B : Int} {ls : Array Slot} (C : gCx p s m args meth c cL_law 9 wsL_law RL ret E A) (hst : l.stackTraces = false) (hX : va_X bs L xs s s.heap) (hbl : bs < s.heap.size) (hbA : ¬ A bs) (hL : L ≤ 1536) (hi : i + 2 < L) (hw9 : lwI S B) (hB : B + 48 < 2147483647) (hc9 : cells ≤ 600000) (hs9 : slots ≤ 7000000) (hO : gO E A s (lwW E a b o S mkA rk rv f mkB th) H locs) (hl : lv_has ls 9 (lwV bs a b o i)) (kk : lwK p l e s m args below meth c E A bs a b o i (cells + 32) (slots + 400) (B + 48) Q) : W p l e room_1 s m args below meth c H locs cells slots Q (F0 m 493 ls []) := by
  have hI := hw9.inv
  have hsr := hw9.1.srt
  by_cases hp9 : (okPace (xs (i + 1)) ∧ okOff S (xs (i + 2)))
  · by_cases hq9 : s_sh S < 6
    · have hok : (okPace (xs (i + 1)) ∧ okOff S (xs (i + 2)) ∧ s_sh S < 6) := by first | exact ⟨hp9, hq9⟩ | exact ⟨hp9.1, hp9.2, hq9⟩
      refine lv_aload_n C.1 C.2.1 dL_law_493 rfl (lv_at hl 1 rfl) ?_
      refine lv_aload_n C.1 C.2.1 dL_law_494 rfl (lv_at hl 0 rfl) ?_
      refine lv_iload C.1 C.2.1 dL_law_495 (lv_at hl 4 rfl) ?_
      refine lv_iconst (v := 1) C.1 C.2.1 dL_law_497 (by decide) ?_
      refine lv_iadd C.1 C.2.1 dL_law_498 ?_
      refine gSld (j := i + 1) C hX hbl hbA hO (nI_succ i).symm (by omega) hL dL_law_499 ?_
      refine lv_aload_n C.1 C.2.1 dL_law_500 rfl (lv_at hl 0 rfl) ?_
      refine lv_iload C.1 C.2.1 dL_law_501 (lv_at hl 4 rfl) ?_
      refine lv_iconst (v := 2) C.1 C.2.1 dL_law_503 (by decide) ?_
      refine lv_iadd C.1 C.2.1 dL_law_504 ?_
      refine gSld (j := i + 2) C hX hbl hbA hO (ni_2 i) (by omega) hL dL_law_505 ?_
      refine lv_aload_n C.1 C.2.1 dL_law_506 rfl (lv_at hl 3 rfl) ?_
      refine gCallW_i (As := [.ref (a 0), .int (xs (i + 1)), .int (xs (i + 2)), .ref o]) (rest := []) C hO (c_L_addShip_ok l E a S mkA rk rv (mW E b S th mkB) o f (xs (i + 1)) (xs (i + 2)) hst hI hok) (vx_cwSW 4 C.2.2.2.2.1 gL_law_L_addShip rfl rfl rfl (by decide +kernel) ⟨(Nat.le_of_ble_eq_true rfl), (Nat.le_of_ble_eq_true rfl)⟩) rfl hl.1 rfl (Nat.le_of_ble_eq_true rfl) dL_law_507 ⟨by show _ ≤ 601024; omega, by show _ ≤ 7293034; omega⟩ (fun H locs hO => ?_)
      refine lv_istore (lv' := (5, .int 0) :: lwV bs a b o i) C.1 C.2.1 dL_law_510 hl (by decide) rfl (fun ls hl => ?_)
      have hO := hO.flip
      refine lv_aload_n C.1 C.2.1 dL_law_512 rfl (lv_at hl 3 rfl) ?_
      refine lv_aload_n C.1 C.2.1 dL_law_513 rfl (lv_at hl 1 rfl) ?_
      refine lv_iload C.1 C.2.1 dL_law_514 (lv_at hl 5 rfl) ?_
      refine lv_iconst (v := 1) C.1 C.2.1 dL_law_516 (by decide) ?_
      refine lv_iadd C.1 C.2.1 dL_law_517 ?_
      refine gSld (j := i + 1) C hX hbl hbA hO (nI_succ i).symm (by omega) hL dL_law_518 ?_
      refine lv_aload_n C.1 C.2.1 dL_law_519 rfl (lv_at hl 1 rfl) ?_
      refine lv_iload C.1 C.2.1 dL_law_520 (lv_at hl 5 rfl) ?_
      refine lv_iconst (v := 2) C.1 C.2.1 dL_law_522 (by decide) ?_
      refine lv_iadd C.1 C.2.1 dL_law_523 ?_
      refine gSld (j := i + 2) C hX hbl hbA hO (ni_2 i) (by omega) hL dL_law_524 ?_
      refine gCall_i (As := [.int (xs (i + 1)), .int (xs (i + 2))]) (rest := []) C hO (c_X3_addShip_ok l E b S th mkB _ (xs (i + 1)) (xs (i + 2)) hI hsr hok) (cwV 2 C.2.2.2.2.1 gL_law_X3_addShip rfl rfl rfl (by decide +kernel) ⟨(Nat.le_of_ble_eq_true rfl), (Nat.le_of_ble_eq_true rfl)⟩) (va_recv C.2.2.2.2.2.2.2.1.1 hO.1 (ci := 3) (q0 := 0) rfl rfl) rfl hl.1 rfl (Nat.le_of_ble_eq_true rfl) dL_law_525 ⟨by show _ ≤ 601024; omega, by show _ ≤ 7293034; omega⟩ (fun H locs hO => ?_)
      refine lv_istore (lv' := (6, .int (nI (s_sh S))) :: (5, .int 0) :: lwV bs a b o i) C.1 C.2.1 dL_law_528 hl (by decide) rfl (fun ls hl => ?_)
      refine lv_aload_n C.1 C.2.1 dL_law_530 rfl (lv_at hl 4 rfl) ?_
      refine gCall_i (As := []) (rest := []) C hO (c_X3_thrown l E b _ 0 _ _) (cwV 0 C.2.2.2.2.1 gL_law_X3_thrown rfl rfl rfl (by decide +kernel) ⟨(Nat.le_of_ble_eq_true rfl), (Nat.le_of_ble_eq_true rfl)⟩) (va_recv C.2.2.2.2.2.2.2.1.1 hO.1 (ci := 3) (q0 := 0) rfl rfl) rfl hl.1 rfl (Nat.le_of_ble_eq_true rfl) dL_law_531 ⟨by show _ ≤ 601024; omega, by show _ ≤ 7293034; omega⟩ (fun H locs hO => ?_)
      have hO := hO.flop
      refine lv_iload C.1 C.2.1 dL_law_534 (lv_at hl 1 rfl) ?_
      refine lv_icmp_eq (tgt := 541) C.1 C.2.1 dL_law_536 (by decide) (fun _ => ?_) (fun z9 => absurd rfl z9)
      refine lv_iload C.1 C.2.1 dL_law_541 (lv_at hl 1 rfl) ?_
      refine lv_if_ne (tgt := 558) C.1 C.2.1 dL_law_543 (by decide) (fun z9 => absurd rfl z9) (fun _ => ?_)
      refine lv_aload_n C.1 C.2.1 dL_law_546 rfl (lv_at hl 5 rfl) ?_
      refine lv_iconst (v := 0) C.1 C.2.1 dL_law_547 (by decide) ?_
      refine gLald C hO dL_law_548 ?_
      rw [vp_u09]
      refine lv_iload C.1 C.2.1 dL_law_549 (lv_at hl 0 rfl) ?_
      refine lv_i2l C.1 C.2.1 dL_law_551 rfl ?_
      refine W.lcmp C.1 C.2.1 dL_law_552 ?_
      refine lv_if_eq (tgt := 558) C.1 C.2.1 dL_law_553 (by decide) (fun _ => ?_) (fun z9 => absurd (lcm9 _) z9)
      refine lv_goto (tgt := 1939) C.1 C.2.1 dL_law_558 (by decide) ?_
      exact W.widen (show _ ≤ cells + 32 by omega) (show _ ≤ slots + 400 by omega) (kk _ _ _ _ _ _ _ _ _ _ ((hw9.ship hok.1 hok.2.2).mono (by omega)) hO (lv_sub hl [2, 3, 4, 5, 6] rfl))
    · have hno : okPace (xs (i + 1)) ∧ okOff S (xs (i + 2)) ∧ ¬ s_sh S < 6 := by first | exact ⟨hp9, hq9⟩ | exact ⟨hp9.1, hp9.2, hq9⟩
      have hno3 : okPace (xs (i + 1)) ∧ okOff S (xs (i + 2)) ∧ ¬ s_sh S < 6 := by first | exact hno | exact ⟨hp9, hq9⟩
      refine lv_aload_n C.1 C.2.1 dL_law_493 rfl (lv_at hl 1 rfl) ?_
      refine lv_aload_n C.1 C.2.1 dL_law_494 rfl (lv_at hl 0 rfl) ?_
      refine lv_iload C.1 C.2.1 dL_law_495 (lv_at hl 4 rfl) ?_
      refine lv_iconst (v := 1) C.1 C.2.1 dL_law_497 (by decide) ?_
      refine lv_iadd C.1 C.2.1 dL_law_498 ?_
      refine gSld (j := i + 1) C hX hbl hbA hO (nI_succ i).symm (by omega) hL dL_law_499 ?_
      refine lv_aload_n C.1 C.2.1 dL_law_500 rfl (lv_at hl 0 rfl) ?_
      refine lv_iload C.1 C.2.1 dL_law_501 (lv_at hl 4 rfl) ?_
      refine lv_iconst (v := 2) C.1 C.2.1 dL_law_503 (by decide) ?_
      refine lv_iadd C.1 C.2.1 dL_law_504 ?_
      refine gSld (j := i + 2) C hX hbl hbA hO (ni_2 i) (by omega) hL dL_law_505 ?_
      refine lv_aload_n C.1 C.2.1 dL_law_506 rfl (lv_at hl 3 rfl) ?_
      refine gCallW_i (As := [.ref (a 0), .int (xs (i + 1)), .int (xs (i + 2)), .ref o]) (rest := []) C hO (c_L_addShip_no2 l E a S mkA rk rv (mW E b S th mkB) o f (xs (i + 1)) (xs (i + 2)) hst hI hno) (vx_cwSW 4 C.2.2.2.2.1 gL_law_L_addShip rfl rfl rfl (by decide +kernel) ⟨(Nat.le_of_ble_eq_true rfl), (Nat.le_of_ble_eq_true rfl)⟩) rfl hl.1 rfl (Nat.le_of_ble_eq_true rfl) dL_law_507 ⟨by show _ ≤ 601024; omega, by show _ ≤ 7293034; omega⟩ (fun H locs hO => ?_)
      refine lv_istore (lv' := (5, .int 2) :: lwV bs a b o i) C.1 C.2.1 dL_law_510 hl (by decide) rfl (fun ls hl => ?_)
      have hO := hO.flip
      refine lv_aload_n C.1 C.2.1 dL_law_512 rfl (lv_at hl 3 rfl) ?_
      refine lv_aload_n C.1 C.2.1 dL_law_513 rfl (lv_at hl 1 rfl) ?_
      refine lv_iload C.1 C.2.1 dL_law_514 (lv_at hl 5 rfl) ?_
      refine lv_iconst (v := 1) C.1 C.2.1 dL_law_516 (by decide) ?_
      refine lv_iadd C.1 C.2.1 dL_law_517 ?_
      refine gSld (j := i + 1) C hX hbl hbA hO (nI_succ i).symm (by omega) hL dL_law_518 ?_
      refine lv_aload_n C.1 C.2.1 dL_law_519 rfl (lv_at hl 1 rfl) ?_
      refine lv_iload C.1 C.2.1 dL_law_520 (lv_at hl 5 rfl) ?_
      refine lv_iconst (v := 2) C.1 C.2.1 dL_law_522 (by decide) ?_
      refine lv_iadd C.1 C.2.1 dL_law_523 ?_
      refine gSld (j := i + 2) C hX hbl hbA hO (ni_2 i) (by omega) hL dL_law_524 ?_
      refine gCall_i (As := [.int (xs (i + 1)), .int (xs (i + 2))]) (rest := []) C hO (c_X3_addShip_no2 l E b S th mkB _ (xs (i + 1)) (xs (i + 2)) hI hsr hno3) (cwV 2 C.2.2.2.2.1 gL_law_X3_addShip rfl rfl rfl (by decide +kernel) ⟨(Nat.le_of_ble_eq_true rfl), (Nat.le_of_ble_eq_true rfl)⟩) (va_recv C.2.2.2.2.2.2.2.1.1 hO.1 (ci := 3) (q0 := 0) rfl rfl) rfl hl.1 rfl (Nat.le_of_ble_eq_true rfl) dL_law_525 ⟨by show _ ≤ 601024; omega, by show _ ≤ 7293034; omega⟩ (fun H locs hO => ?_)
      refine lv_istore (lv' := (6, .int 0) :: (5, .int 2) :: lwV bs a b o i) C.1 C.2.1 dL_law_528 hl (by decide) rfl (fun ls hl => ?_)
      refine lv_aload_n C.1 C.2.1 dL_law_530 rfl (lv_at hl 4 rfl) ?_
      refine gCall_i (As := []) (rest := []) C hO (c_X3_thrown l E b _ 2 _ _) (cwV 0 C.2.2.2.2.1 gL_law_X3_thrown rfl rfl rfl (by decide +kernel) ⟨(Nat.le_of_ble_eq_true rfl), (Nat.le_of_ble_eq_true rfl)⟩) (va_recv C.2.2.2.2.2.2.2.1.1 hO.1 (ci := 3) (q0 := 0) rfl rfl) rfl hl.1 rfl (Nat.le_of_ble_eq_true rfl) dL_law_531 ⟨by show _ ≤ 601024; omega, by show _ ≤ 7293034; omega⟩ (fun H locs hO => ?_)
      have hO := hO.flop
      refine lv_iload C.1 C.2.1 dL_law_534 (lv_at hl 1 rfl) ?_
      refine lv_icmp_eq (tgt := 541) C.1 C.2.1 dL_law_536 (by decide) (fun _ => ?_) (fun z9 => absurd rfl z9)
      refine lv_iload C.1 C.2.1 dL_law_541 (lv_at hl 1 rfl) ?_
      refine lv_if_ne (tgt := 558) C.1 C.2.1 dL_law_543 (by decide) (fun _ => ?_) (fun z9 => absurd z9 (by decide))
      refine lv_goto (tgt := 1939) C.1 C.2.1 dL_law_558 (by decide) ?_
      exact W.widen (show _ ≤ cells + 32 by omega) (show _ ≤ slots + 400 by omega) (kk _ _ _ _ _ _ _ _ _ _ (hw9.mono (by omega)) hO (lv_sub hl [2, 3, 4, 5, 6] rfl))
  · have hno : ¬ (okPace (xs (i + 1)) ∧ okOff S (xs (i + 2))) := hp9
    have hno3 : ¬ (okPace (xs (i + 1)) ∧ okOff S (xs (i + 2))) := by first | exact hno | exact hp9
    refine lv_aload_n C.1 C.2.1 dL_law_493 rfl (lv_at hl 1 rfl) ?_
    refine lv_aload_n C.1 C.2.1 dL_law_494 rfl (lv_at hl 0 rfl) ?_
    refine lv_iload C.1 C.2.1 dL_law_495 (lv_at hl 4 rfl) ?_
    refine lv_iconst (v := 1) C.1 C.2.1 dL_law_497 (by decide) ?_
    refine lv_iadd C.1 C.2.1 dL_law_498 ?_
    refine gSld (j := i + 1) C hX hbl hbA hO (nI_succ i).symm (by omega) hL dL_law_499 ?_
    refine lv_aload_n C.1 C.2.1 dL_law_500 rfl (lv_at hl 0 rfl) ?_
    refine lv_iload C.1 C.2.1 dL_law_501 (lv_at hl 4 rfl) ?_
    refine lv_iconst (v := 2) C.1 C.2.1 dL_law_503 (by decide) ?_
    refine lv_iadd C.1 C.2.1 dL_law_504 ?_
    refine gSld (j := i + 2) C hX hbl hbA hO (ni_2 i) (by omega) hL dL_law_505 ?_
    refine lv_aload_n C.1 C.2.1 dL_law_506 rfl (lv_at hl 3 rfl) ?_
    refine gCallW_i (As := [.ref (a 0), .int (xs (i + 1)), .int (xs (i + 2)), .ref o]) (rest := []) C hO (c_L_addShip_no1 l E a S mkA rk rv (mW E b S th mkB) o f (xs (i + 1)) (xs (i + 2)) hst hI hno) (vx_cwSW 4 C.2.2.2.2.1 gL_law_L_addShip rfl rfl rfl (by decide +kernel) ⟨(Nat.le_of_ble_eq_true rfl), (Nat.le_of_ble_eq_true rfl)⟩) rfl hl.1 rfl (Nat.le_of_ble_eq_true rfl) dL_law_507 ⟨by show _ ≤ 601024; omega, by show _ ≤ 7293034; omega⟩ (fun H locs hO => ?_)
    refine lv_istore (lv' := (5, .int 1) :: lwV bs a b o i) C.1 C.2.1 dL_law_510 hl (by decide) rfl (fun ls hl => ?_)
    have hO := hO.flip
    refine lv_aload_n C.1 C.2.1 dL_law_512 rfl (lv_at hl 3 rfl) ?_
    refine lv_aload_n C.1 C.2.1 dL_law_513 rfl (lv_at hl 1 rfl) ?_
    refine lv_iload C.1 C.2.1 dL_law_514 (lv_at hl 5 rfl) ?_
    refine lv_iconst (v := 1) C.1 C.2.1 dL_law_516 (by decide) ?_
    refine lv_iadd C.1 C.2.1 dL_law_517 ?_
    refine gSld (j := i + 1) C hX hbl hbA hO (nI_succ i).symm (by omega) hL dL_law_518 ?_
    refine lv_aload_n C.1 C.2.1 dL_law_519 rfl (lv_at hl 1 rfl) ?_
    refine lv_iload C.1 C.2.1 dL_law_520 (lv_at hl 5 rfl) ?_
    refine lv_iconst (v := 2) C.1 C.2.1 dL_law_522 (by decide) ?_
    refine lv_iadd C.1 C.2.1 dL_law_523 ?_
    refine gSld (j := i + 2) C hX hbl hbA hO (ni_2 i) (by omega) hL dL_law_524 ?_
    refine gCall_i (As := [.int (xs (i + 1)), .int (xs (i + 2))]) (rest := []) C hO (c_X3_addShip_no l E b S th mkB _ (xs (i + 1)) (xs (i + 2)) hI hsr hno3) (cwV 2 C.2.2.2.2.1 gL_law_X3_addShip rfl rfl rfl (by decide +kernel) ⟨(Nat.le_of_ble_eq_true rfl), (Nat.le_of_ble_eq_true rfl)⟩) (va_recv C.2.2.2.2.2.2.2.1.1 hO.1 (ci := 3) (q0 := 0) rfl rfl) rfl hl.1 rfl (Nat.le_of_ble_eq_true rfl) dL_law_525 ⟨by show _ ≤ 601024; omega, by show _ ≤ 7293034; omega⟩ (fun H locs hO => ?_)
    refine lv_istore (lv' := (6, .int 0) :: (5, .int 1) :: lwV bs a b o i) C.1 C.2.1 dL_law_528 hl (by decide) rfl (fun ls hl => ?_)
    refine lv_aload_n C.1 C.2.1 dL_law_530 rfl (lv_at hl 4 rfl) ?_
    refine gCall_i (As := []) (rest := []) C hO (c_X3_thrown l E b _ 1 _ _) (cwV 0 C.2.2.2.2.1 gL_law_X3_thrown rfl rfl rfl (by decide +kernel) ⟨(Nat.le_of_ble_eq_true rfl), (Nat.le_of_ble_eq_true rfl)⟩) (va_recv C.2.2.2.2.2.2.2.1.1 hO.1 (ci := 3) (q0 := 0) rfl rfl) rfl hl.1 rfl (Nat.le_of_ble_eq_true rfl) dL_law_531 ⟨by show _ ≤ 601024; omega, by show _ ≤ 7293034; omega⟩ (fun H locs hO => ?_)
    have hO := hO.flop
    refine lv_iload C.1 C.2.1 dL_law_534 (lv_at hl 1 rfl) ?_
    refine lv_icmp_eq (tgt := 541) C.1 C.2.1 dL_law_536 (by decide) (fun _ => ?_) (fun z9 => absurd rfl z9)
    refine lv_iload C.1 C.2.1 dL_law_541 (lv_at hl 1 rfl) ?_
    refine lv_if_ne (tgt := 558) C.1 C.2.1 dL_law_543 (by decide) (fun _ => ?_) (fun z9 => absurd z9 (by decide))
    refine lv_goto (tgt := 1939) C.1 C.2.1 dL_law_558 (by decide) ?_
    exact W.widen (show _ ≤ cells + 32 by omega) (show _ ≤ slots + 400 by omega) (kk _ _ _ _ _ _ _ _ _ _ (hw9.mono (by omega)) hO (lv_sub hl [2, 3, 4, 5, 6] rfl))
