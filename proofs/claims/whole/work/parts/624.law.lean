set_option maxHeartbeats 4000000 in
set_option maxRecDepth 100000 in
theorem st_p1111 {p : Program} {l : Launch} {e : Env} {s : State} {m : MethodId} {args : Array Value} {below : List Frame} {meth : Method} {c : Code} {H : Heap} {locs : List Loc} {cells slots : Nat} {Q : State → Prop} {E : gE} {A : Nat → Prop} {bs L : Nat} {xs : Nat → Int32} {a b : Nat → Nat} {o i : Nat} {S : St} {mkA rk rv : Nat → Int32} {f : Nat → Int64} {mkB : Nat → Int32} {th : Int32} {B : Int} {ls : Array Slot} (C : gCx p s m args meth c cL_law 9 wsL_law RL ret E A) (hst : l.stackTraces = false) (hX : va_X bs L xs s s.heap) (hbl : bs < s.heap.size) (hbA : ¬ A bs) (hL : L ≤ 1536) (hi : i + 2 < L) (hw9 : lwI S B) (hB : B + 48 < 2147483647) (hc9 : cells ≤ 600000) (hs9 : slots ≤ 7000000) (hO : gO E A s (lwW E a b o S mkA rk rv f mkB th) H locs) (hl : lv_has ls 9 (lwV bs a b o i)) (kk : lwK p l e s m args below meth c E A bs a b o i (cells + 32) (slots + 400) (B + 48) Q) : W p l e room_1 s m args below meth c H locs cells slots Q (F0 m 1111 ls []) := by
  have hI := hw9.inv
  have hsr := hw9.1.srt
  refine lv_aload_n C.1 C.2.1 dL_law_1111 rfl (lv_at hl 1 rfl) ?_
  refine gCall_i (As := []) (rest := []) C hO (c_X2_storms l E a S mkA rk rv _  hI) (cwV 0 C.2.2.2.2.1 gL_law_X2_storms rfl rfl rfl (by decide +kernel) ⟨(Nat.le_of_ble_eq_true rfl), (Nat.le_of_ble_eq_true rfl)⟩) (va_recv C.2.2.2.2.2.2.2.1.1 hO.1 (ci := 2) (q0 := 0) rfl rfl) rfl hl.1 rfl (Nat.le_of_ble_eq_true rfl) dL_law_1112 ⟨by show _ ≤ 601024; omega, by show _ ≤ 7293034; omega⟩ (fun H locs hO => ?_)
  have hO := hO.flip
  refine lv_aload_n C.1 C.2.1 dL_law_1115 rfl (lv_at hl 2 rfl) ?_
  refine gCall_i (As := []) (rest := [.int _]) C hO (c_X3_storms l E b S th mkB _  hI hsr) (cwV 0 C.2.2.2.2.1 gL_law_X3_storms rfl rfl rfl (by decide +kernel) ⟨(Nat.le_of_ble_eq_true rfl), (Nat.le_of_ble_eq_true rfl)⟩) (va_recv C.2.2.2.2.2.2.2.1.1 hO.1 (ci := 3) (q0 := 0) rfl rfl) rfl hl.1 rfl (Nat.le_of_ble_eq_true rfl) dL_law_1116 ⟨by show _ ≤ 601024; omega, by show _ ≤ 7293034; omega⟩ (fun H locs hO => ?_)
  have hO := hO.flop
  refine lv_icmp_eq (tgt := 1939) C.1 C.2.1 dL_law_1119 (by decide) (fun _ => ?_) (fun z9 => absurd rfl z9)
  exact W.widen (show _ ≤ cells + 32 by omega) (show _ ≤ slots + 400 by omega) (kk _ _ _ _ _ _ _ _ _ _ (hw9.mono (by omega)) hO (lv_sub hl [0, 1, 2, 3, 4] rfl))
set_option maxHeartbeats 4000000 in
set_option maxRecDepth 100000 in
theorem st_p1124 {p : Program} {l : Launch} {e : Env} {s : State} {m : MethodId} {args : Array Value} {below : List Frame} {meth : Method} {c : Code} {H : Heap} {locs : List Loc} {cells slots : Nat} {Q : State → Prop} {E : gE} {A : Nat → Prop} {bs L : Nat} {xs : Nat → Int32} {a b : Nat → Nat} {o i : Nat} {S : St} {mkA rk rv : Nat → Int32} {f : Nat → Int64} {mkB : Nat → Int32} {th : Int32} {B : Int} {ls : Array Slot} (C : gCx p s m args meth c cL_law 9 wsL_law RL ret E A) (hst : l.stackTraces = false) (hX : va_X bs L xs s s.heap) (hbl : bs < s.heap.size) (hbA : ¬ A bs) (hL : L ≤ 1536) (hi : i + 2 < L) (hw9 : lwI S B) (hB : B + 48 < 2147483647) (hc9 : cells ≤ 600000) (hs9 : slots ≤ 7000000) (hO : gO E A s (lwW E a b o S mkA rk rv f mkB th) H locs) (hl : lv_has ls 9 (lwV bs a b o i)) (kk : lwK p l e s m args below meth c E A bs a b o i (cells + 32) (slots + 400) (B + 48) Q) : W p l e room_1 s m args below meth c H locs cells slots Q (F0 m 1124 ls []) := by
  have hI := hw9.inv
  have hsr := hw9.1.srt
  refine lv_aload_n C.1 C.2.1 dL_law_1124 rfl (lv_at hl 1 rfl) ?_
  refine gCall_i (As := []) (rest := []) C hO (c_X2_isStormy l E a S mkA rk rv _  hI) (cwV 0 C.2.2.2.2.1 gL_law_X2_isStormy rfl rfl rfl (by decide +kernel) ⟨(Nat.le_of_ble_eq_true rfl), (Nat.le_of_ble_eq_true rfl)⟩) (va_recv C.2.2.2.2.2.2.2.1.1 hO.1 (ci := 2) (q0 := 0) rfl rfl) rfl hl.1 rfl (Nat.le_of_ble_eq_true rfl) dL_law_1125 ⟨by show _ ≤ 601024; omega, by show _ ≤ 7293034; omega⟩ (fun H locs hO => ?_)
  have hO := hO.flip
  refine lv_aload_n C.1 C.2.1 dL_law_1128 rfl (lv_at hl 2 rfl) ?_
  refine gCall_i (As := []) (rest := [.int _]) C hO (c_X3_isStormy l E b S th mkB _  hI hsr) (cwV 0 C.2.2.2.2.1 gL_law_X3_isStormy rfl rfl rfl (by decide +kernel) ⟨(Nat.le_of_ble_eq_true rfl), (Nat.le_of_ble_eq_true rfl)⟩) (va_recv C.2.2.2.2.2.2.2.1.1 hO.1 (ci := 3) (q0 := 0) rfl rfl) rfl hl.1 rfl (Nat.le_of_ble_eq_true rfl) dL_law_1129 ⟨by show _ ≤ 601024; omega, by show _ ≤ 7293034; omega⟩ (fun H locs hO => ?_)
  have hO := hO.flop
  refine lv_icmp_eq (tgt := 1939) C.1 C.2.1 dL_law_1132 (by decide) (fun _ => ?_) (fun z9 => absurd rfl z9)
  exact W.widen (show _ ≤ cells + 32 by omega) (show _ ≤ slots + 400 by omega) (kk _ _ _ _ _ _ _ _ _ _ (hw9.mono (by omega)) hO (lv_sub hl [0, 1, 2, 3, 4] rfl))
set_option maxHeartbeats 4000000 in
set_option maxRecDepth 100000 in
theorem st_p1137 {p : Program} {l : Launch} {e : Env} {s : State} {m : MethodId} {args : Array Value} {below : List Frame} {meth : Method} {c : Code} {H : Heap} {locs : List Loc} {cells slots : Nat} {Q : State → Prop} {E : gE} {A : Nat → Prop} {bs L : Nat} {xs : Nat → Int32} {a b : Nat → Nat} {o i : Nat} {S : St} {mkA rk rv : Nat → Int32} {f : Nat → Int64} {mkB : Nat → Int32} {th : Int32} {B : Int} {ls : Array Slot} (C : gCx p s m args meth c cL_law 9 wsL_law RL ret E A) (hst : l.stackTraces = false) (hX : va_X bs L xs s s.heap) (hbl : bs < s.heap.size) (hbA : ¬ A bs) (hL : L ≤ 1536) (hi : i + 2 < L) (hw9 : lwI S B) (hB : B + 48 < 2147483647) (hc9 : cells ≤ 600000) (hs9 : slots ≤ 7000000) (hO : gO E A s (lwW E a b o S mkA rk rv f mkB th) H locs) (hl : lv_has ls 9 (lwV bs a b o i)) (kk : lwK p l e s m args below meth c E A bs a b o i (cells + 32) (slots + 400) (B + 48) Q) : W p l e room_1 s m args below meth c H locs cells slots Q (F0 m 1137 ls []) := by
  have hI := hw9.inv
  have hsr := hw9.1.srt
  by_cases hok : (okStorm S (xs (i + 1)))
  · refine lv_aload_n C.1 C.2.1 dL_law_1137 rfl (lv_at hl 1 rfl) ?_
    refine lv_aload_n C.1 C.2.1 dL_law_1138 rfl (lv_at hl 0 rfl) ?_
    refine lv_iload C.1 C.2.1 dL_law_1139 (lv_at hl 4 rfl) ?_
    refine lv_iconst (v := 1) C.1 C.2.1 dL_law_1141 (by decide) ?_
    refine lv_iadd C.1 C.2.1 dL_law_1142 ?_
    refine gSld (j := i + 1) C hX hbl hbA hO (nI_succ i).symm (by omega) hL dL_law_1143 ?_
    refine lv_aload_n C.1 C.2.1 dL_law_1144 rfl (lv_at hl 3 rfl) ?_
    refine gCallW_i (As := [.ref (a 0), .int (xs (i + 1)), .ref o]) (rest := []) C hO (c_L_saidIn_ok l E a S mkA rk rv (mW E b S th mkB) o f (xs (i + 1)) hst hI hok) (vx_cwSW 3 C.2.2.2.2.1 gL_law_L_saidIn rfl rfl rfl (by decide +kernel) ⟨(Nat.le_of_ble_eq_true rfl), (Nat.le_of_ble_eq_true rfl)⟩) rfl hl.1 rfl (Nat.le_of_ble_eq_true rfl) dL_law_1145 ⟨by show _ ≤ 601024; omega, by show _ ≤ 7293034; omega⟩ (fun H locs hO => ?_)
    refine lv_istore (lv' := (5, .int 0) :: lwV bs a b o i) C.1 C.2.1 dL_law_1148 hl (by decide) rfl (fun ls hl => ?_)
    have hO := hO.flip
    refine lv_aload_n C.1 C.2.1 dL_law_1150 rfl (lv_at hl 3 rfl) ?_
    refine lv_aload_n C.1 C.2.1 dL_law_1151 rfl (lv_at hl 1 rfl) ?_
    refine lv_iload C.1 C.2.1 dL_law_1152 (lv_at hl 5 rfl) ?_
    refine lv_iconst (v := 1) C.1 C.2.1 dL_law_1154 (by decide) ?_
    refine lv_iadd C.1 C.2.1 dL_law_1155 ?_
    refine gSld (j := i + 1) C hX hbl hbA hO (nI_succ i).symm (by omega) hL dL_law_1156 ?_
    refine gCall_i (As := [.int (xs (i + 1))]) (rest := []) C hO (c_X3_saidIn_ok l E b S th mkB _ (xs (i + 1)) hI hsr hok) (cwV 1 C.2.2.2.2.1 gL_law_X3_saidIn rfl rfl rfl (by decide +kernel) ⟨(Nat.le_of_ble_eq_true rfl), (Nat.le_of_ble_eq_true rfl)⟩) (va_recv C.2.2.2.2.2.2.2.1.1 hO.1 (ci := 3) (q0 := 0) rfl rfl) rfl hl.1 rfl (Nat.le_of_ble_eq_true rfl) dL_law_1157 ⟨by show _ ≤ 601024; omega, by show _ ≤ 7293034; omega⟩ (fun H locs hO => ?_)
    refine lv_istore (lv' := (6, .int (s_said S (xs (i + 1)).toNatClampNeg)) :: (5, .int 0) :: lwV bs a b o i) C.1 C.2.1 dL_law_1160 hl (by decide) rfl (fun ls hl => ?_)
    refine lv_aload_n C.1 C.2.1 dL_law_1162 rfl (lv_at hl 4 rfl) ?_
    refine gCall_i (As := []) (rest := []) C hO (c_X3_thrown l E b _ 0 _ _) (cwV 0 C.2.2.2.2.1 gL_law_X3_thrown rfl rfl rfl (by decide +kernel) ⟨(Nat.le_of_ble_eq_true rfl), (Nat.le_of_ble_eq_true rfl)⟩) (va_recv C.2.2.2.2.2.2.2.1.1 hO.1 (ci := 3) (q0 := 0) rfl rfl) rfl hl.1 rfl (Nat.le_of_ble_eq_true rfl) dL_law_1163 ⟨by show _ ≤ 601024; omega, by show _ ≤ 7293034; omega⟩ (fun H locs hO => ?_)
    have hO := hO.flop
    refine lv_iload C.1 C.2.1 dL_law_1166 (lv_at hl 1 rfl) ?_
    refine lv_icmp_eq (tgt := 1173) C.1 C.2.1 dL_law_1168 (by decide) (fun _ => ?_) (fun z9 => absurd rfl z9)
    refine lv_iload C.1 C.2.1 dL_law_1173 (lv_at hl 1 rfl) ?_
    refine lv_if_ne (tgt := 1190) C.1 C.2.1 dL_law_1175 (by decide) (fun z9 => absurd rfl z9) (fun _ => ?_)
    refine lv_aload_n C.1 C.2.1 dL_law_1178 rfl (lv_at hl 5 rfl) ?_
    refine lv_iconst (v := 0) C.1 C.2.1 dL_law_1179 (by decide) ?_
    refine gLald C hO dL_law_1180 ?_
    rw [vp_u09]
    refine lv_iload C.1 C.2.1 dL_law_1181 (lv_at hl 0 rfl) ?_
    refine lv_i2l C.1 C.2.1 dL_law_1183 rfl ?_
    refine W.lcmp C.1 C.2.1 dL_law_1184 ?_
    refine lv_if_eq (tgt := 1190) C.1 C.2.1 dL_law_1185 (by decide) (fun _ => ?_) (fun z9 => absurd (lcm9 _) z9)
    refine lv_goto (tgt := 1939) C.1 C.2.1 dL_law_1190 (by decide) ?_
    exact W.widen (show _ ≤ cells + 32 by omega) (show _ ≤ slots + 400 by omega) (kk _ _ _ _ _ _ _ _ _ _ (hw9.mono (by omega)) hO (lv_sub hl [2, 3, 4, 5, 6] rfl))
  · have hno : ¬ okStorm S (xs (i + 1)) := by first | exact hok | exact Classical.not_not.mp hok
    have hno3 : ¬ okStorm S (xs (i + 1)) := by first | exact hno | exact hok
    refine lv_aload_n C.1 C.2.1 dL_law_1137 rfl (lv_at hl 1 rfl) ?_
    refine lv_aload_n C.1 C.2.1 dL_law_1138 rfl (lv_at hl 0 rfl) ?_
    refine lv_iload C.1 C.2.1 dL_law_1139 (lv_at hl 4 rfl) ?_
    refine lv_iconst (v := 1) C.1 C.2.1 dL_law_1141 (by decide) ?_
    refine lv_iadd C.1 C.2.1 dL_law_1142 ?_
    refine gSld (j := i + 1) C hX hbl hbA hO (nI_succ i).symm (by omega) hL dL_law_1143 ?_
    refine lv_aload_n C.1 C.2.1 dL_law_1144 rfl (lv_at hl 3 rfl) ?_
    refine gCallW_i (As := [.ref (a 0), .int (xs (i + 1)), .ref o]) (rest := []) C hO (c_L_saidIn_no l E a S mkA rk rv (mW E b S th mkB) o f (xs (i + 1)) hst hI hno) (vx_cwSW 3 C.2.2.2.2.1 gL_law_L_saidIn rfl rfl rfl (by decide +kernel) ⟨(Nat.le_of_ble_eq_true rfl), (Nat.le_of_ble_eq_true rfl)⟩) rfl hl.1 rfl (Nat.le_of_ble_eq_true rfl) dL_law_1145 ⟨by show _ ≤ 601024; omega, by show _ ≤ 7293034; omega⟩ (fun H locs hO => ?_)
    refine lv_istore (lv' := (5, .int 1) :: lwV bs a b o i) C.1 C.2.1 dL_law_1148 hl (by decide) rfl (fun ls hl => ?_)
    have hO := hO.flip
    refine lv_aload_n C.1 C.2.1 dL_law_1150 rfl (lv_at hl 3 rfl) ?_
    refine lv_aload_n C.1 C.2.1 dL_law_1151 rfl (lv_at hl 1 rfl) ?_
    refine lv_iload C.1 C.2.1 dL_law_1152 (lv_at hl 5 rfl) ?_
    refine lv_iconst (v := 1) C.1 C.2.1 dL_law_1154 (by decide) ?_
    refine lv_iadd C.1 C.2.1 dL_law_1155 ?_
    refine gSld (j := i + 1) C hX hbl hbA hO (nI_succ i).symm (by omega) hL dL_law_1156 ?_
    refine gCall_i (As := [.int (xs (i + 1))]) (rest := []) C hO (c_X3_saidIn_no l E b S th mkB _ (xs (i + 1)) hI hsr hno3) (cwV 1 C.2.2.2.2.1 gL_law_X3_saidIn rfl rfl rfl (by decide +kernel) ⟨(Nat.le_of_ble_eq_true rfl), (Nat.le_of_ble_eq_true rfl)⟩) (va_recv C.2.2.2.2.2.2.2.1.1 hO.1 (ci := 3) (q0 := 0) rfl rfl) rfl hl.1 rfl (Nat.le_of_ble_eq_true rfl) dL_law_1157 ⟨by show _ ≤ 601024; omega, by show _ ≤ 7293034; omega⟩ (fun H locs hO => ?_)
    refine lv_istore (lv' := (6, .int 0) :: (5, .int 1) :: lwV bs a b o i) C.1 C.2.1 dL_law_1160 hl (by decide) rfl (fun ls hl => ?_)
    refine lv_aload_n C.1 C.2.1 dL_law_1162 rfl (lv_at hl 4 rfl) ?_
    refine gCall_i (As := []) (rest := []) C hO (c_X3_thrown l E b _ 1 _ _) (cwV 0 C.2.2.2.2.1 gL_law_X3_thrown rfl rfl rfl (by decide +kernel) ⟨(Nat.le_of_ble_eq_true rfl), (Nat.le_of_ble_eq_true rfl)⟩) (va_recv C.2.2.2.2.2.2.2.1.1 hO.1 (ci := 3) (q0 := 0) rfl rfl) rfl hl.1 rfl (Nat.le_of_ble_eq_true rfl) dL_law_1163 ⟨by show _ ≤ 601024; omega, by show _ ≤ 7293034; omega⟩ (fun H locs hO => ?_)
    have hO := hO.flop
    refine lv_iload C.1 C.2.1 dL_law_1166 (lv_at hl 1 rfl) ?_
    refine lv_icmp_eq (tgt := 1173) C.1 C.2.1 dL_law_1168 (by decide) (fun _ => ?_) (fun z9 => absurd rfl z9)
    refine lv_iload C.1 C.2.1 dL_law_1173 (lv_at hl 1 rfl) ?_
    refine lv_if_ne (tgt := 1190) C.1 C.2.1 dL_law_1175 (by decide) (fun _ => ?_) (fun z9 => absurd z9 (by decide))
    refine lv_goto (tgt := 1939) C.1 C.2.1 dL_law_1190 (by decide) ?_
    exact W.widen (show _ ≤ cells + 32 by omega) (show _ ≤ slots + 400 by omega) (kk _ _ _ _ _ _ _ _ _ _ (hw9.mono (by omega)) hO (lv_sub hl [2, 3, 4, 5, 6] rfl))
set_option maxHeartbeats 4000000 in
set_option maxRecDepth 100000 in
theorem st_p1193 {p : Program} {l : Launch} {e : Env} {s : State} {m : MethodId} {args : Array Value} {below : List Frame} {meth : Method} {c : Code} {H : Heap} {locs : List Loc} {cells slots : Nat} {Q : State → Prop} {E : gE} {A : Nat → Prop} {bs L : Nat} {xs : Nat → Int32} {a b : Nat → Nat} {o i : Nat} {S : St} {mkA rk rv : Nat → Int32} {f : Nat → Int64} {mkB : Nat → Int32} {th : Int32} {B : Int} {ls : Array Slot} (C : gCx p s m args meth c cL_law 9 wsL_law RL ret E A) (hst : l.stackTraces = false) (hX : va_X bs L xs s s.heap) (hbl : bs < s.heap.size) (hbA : ¬ A bs) (hL : L ≤ 1536) (hi : i + 2 < L) (hw9 : lwI S B) (hB : B + 48 < 2147483647) (hc9 : cells ≤ 600000) (hs9 : slots ≤ 7000000) (hO : gO E A s (lwW E a b o S mkA rk rv f mkB th) H locs) (hl : lv_has ls 9 (lwV bs a b o i)) (kk : lwK p l e s m args below meth c E A bs a b o i (cells + 32) (slots + 400) (B + 48) Q) : W p l e room_1 s m args below meth c H locs cells slots Q (F0 m 1193 ls []) := by
  have hI := hw9.inv
  have hsr := hw9.1.srt
  by_cases hok : (okStorm S (xs (i + 1)))
  · refine lv_aload_n C.1 C.2.1 dL_law_1193 rfl (lv_at hl 1 rfl) ?_
    refine lv_aload_n C.1 C.2.1 dL_law_1194 rfl (lv_at hl 0 rfl) ?_
    refine lv_iload C.1 C.2.1 dL_law_1195 (lv_at hl 4 rfl) ?_
    refine lv_iconst (v := 1) C.1 C.2.1 dL_law_1197 (by decide) ?_
    refine lv_iadd C.1 C.2.1 dL_law_1198 ?_
    refine gSld (j := i + 1) C hX hbl hbA hO (nI_succ i).symm (by omega) hL dL_law_1199 ?_
    refine lv_aload_n C.1 C.2.1 dL_law_1200 rfl (lv_at hl 3 rfl) ?_
    refine gCallW_i (As := [.ref (a 0), .int (xs (i + 1)), .ref o]) (rest := []) C hO (c_L_keptOf_ok l E a S mkA rk rv (mW E b S th mkB) o f (xs (i + 1)) hst hI hok) (vx_cwSW 3 C.2.2.2.2.1 gL_law_L_keptOf rfl rfl rfl (by decide +kernel) ⟨(Nat.le_of_ble_eq_true rfl), (Nat.le_of_ble_eq_true rfl)⟩) rfl hl.1 rfl (Nat.le_of_ble_eq_true rfl) dL_law_1201 ⟨by show _ ≤ 601024; omega, by show _ ≤ 7293034; omega⟩ (fun H locs hO => ?_)
    refine lv_istore (lv' := (5, .int 0) :: lwV bs a b o i) C.1 C.2.1 dL_law_1204 hl (by decide) rfl (fun ls hl => ?_)
    have hO := hO.flip
    refine lv_aload_n C.1 C.2.1 dL_law_1206 rfl (lv_at hl 3 rfl) ?_
    refine lv_aload_n C.1 C.2.1 dL_law_1207 rfl (lv_at hl 1 rfl) ?_
    refine lv_iload C.1 C.2.1 dL_law_1208 (lv_at hl 5 rfl) ?_
    refine lv_iconst (v := 1) C.1 C.2.1 dL_law_1210 (by decide) ?_
    refine lv_iadd C.1 C.2.1 dL_law_1211 ?_
    refine gSld (j := i + 1) C hX hbl hbA hO (nI_succ i).symm (by omega) hL dL_law_1212 ?_
    refine gCall_i (As := [.int (xs (i + 1))]) (rest := []) C hO (c_X3_keptOf_ok l E b S th mkB _ (xs (i + 1)) hI hsr hok) (cwV 1 C.2.2.2.2.1 gL_law_X3_keptOf rfl rfl rfl (by decide +kernel) ⟨(Nat.le_of_ble_eq_true rfl), (Nat.le_of_ble_eq_true rfl)⟩) (va_recv C.2.2.2.2.2.2.2.1.1 hO.1 (ci := 3) (q0 := 0) rfl rfl) rfl hl.1 rfl (Nat.le_of_ble_eq_true rfl) dL_law_1213 ⟨by show _ ≤ 601024; omega, by show _ ≤ 7293034; omega⟩ (fun H locs hO => ?_)
    refine lv_istore (lv' := (6, .int (nI (cnt (s_sto S) (xs (i + 1)) (s_n S)))) :: (5, .int 0) :: lwV bs a b o i) C.1 C.2.1 dL_law_1216 hl (by decide) rfl (fun ls hl => ?_)
    refine lv_aload_n C.1 C.2.1 dL_law_1218 rfl (lv_at hl 4 rfl) ?_
    refine gCall_i (As := []) (rest := []) C hO (c_X3_thrown l E b _ 0 _ _) (cwV 0 C.2.2.2.2.1 gL_law_X3_thrown rfl rfl rfl (by decide +kernel) ⟨(Nat.le_of_ble_eq_true rfl), (Nat.le_of_ble_eq_true rfl)⟩) (va_recv C.2.2.2.2.2.2.2.1.1 hO.1 (ci := 3) (q0 := 0) rfl rfl) rfl hl.1 rfl (Nat.le_of_ble_eq_true rfl) dL_law_1219 ⟨by show _ ≤ 601024; omega, by show _ ≤ 7293034; omega⟩ (fun H locs hO => ?_)
    have hO := hO.flop
    refine lv_iload C.1 C.2.1 dL_law_1222 (lv_at hl 1 rfl) ?_
    refine lv_icmp_eq (tgt := 1229) C.1 C.2.1 dL_law_1224 (by decide) (fun _ => ?_) (fun z9 => absurd rfl z9)
    refine lv_iload C.1 C.2.1 dL_law_1229 (lv_at hl 1 rfl) ?_
    refine lv_if_ne (tgt := 1246) C.1 C.2.1 dL_law_1231 (by decide) (fun z9 => absurd rfl z9) (fun _ => ?_)
    refine lv_aload_n C.1 C.2.1 dL_law_1234 rfl (lv_at hl 5 rfl) ?_
    refine lv_iconst (v := 0) C.1 C.2.1 dL_law_1235 (by decide) ?_
    refine gLald C hO dL_law_1236 ?_
    rw [vp_u09]
    refine lv_iload C.1 C.2.1 dL_law_1237 (lv_at hl 0 rfl) ?_
    refine lv_i2l C.1 C.2.1 dL_law_1239 rfl ?_
    refine W.lcmp C.1 C.2.1 dL_law_1240 ?_
    refine lv_if_eq (tgt := 1246) C.1 C.2.1 dL_law_1241 (by decide) (fun _ => ?_) (fun z9 => absurd (lcm9 _) z9)
    refine lv_goto (tgt := 1939) C.1 C.2.1 dL_law_1246 (by decide) ?_
    exact W.widen (show _ ≤ cells + 32 by omega) (show _ ≤ slots + 400 by omega) (kk _ _ _ _ _ _ _ _ _ _ (hw9.mono (by omega)) hO (lv_sub hl [2, 3, 4, 5, 6] rfl))
  · have hno : ¬ okStorm S (xs (i + 1)) := by first | exact hok | exact Classical.not_not.mp hok
    have hno3 : ¬ okStorm S (xs (i + 1)) := by first | exact hno | exact hok
    refine lv_aload_n C.1 C.2.1 dL_law_1193 rfl (lv_at hl 1 rfl) ?_
    refine lv_aload_n C.1 C.2.1 dL_law_1194 rfl (lv_at hl 0 rfl) ?_
    refine lv_iload C.1 C.2.1 dL_law_1195 (lv_at hl 4 rfl) ?_
    refine lv_iconst (v := 1) C.1 C.2.1 dL_law_1197 (by decide) ?_
    refine lv_iadd C.1 C.2.1 dL_law_1198 ?_
    refine gSld (j := i + 1) C hX hbl hbA hO (nI_succ i).symm (by omega) hL dL_law_1199 ?_
    refine lv_aload_n C.1 C.2.1 dL_law_1200 rfl (lv_at hl 3 rfl) ?_
    refine gCallW_i (As := [.ref (a 0), .int (xs (i + 1)), .ref o]) (rest := []) C hO (c_L_keptOf_no l E a S mkA rk rv (mW E b S th mkB) o f (xs (i + 1)) hst hI hno) (vx_cwSW 3 C.2.2.2.2.1 gL_law_L_keptOf rfl rfl rfl (by decide +kernel) ⟨(Nat.le_of_ble_eq_true rfl), (Nat.le_of_ble_eq_true rfl)⟩) rfl hl.1 rfl (Nat.le_of_ble_eq_true rfl) dL_law_1201 ⟨by show _ ≤ 601024; omega, by show _ ≤ 7293034; omega⟩ (fun H locs hO => ?_)
    refine lv_istore (lv' := (5, .int 1) :: lwV bs a b o i) C.1 C.2.1 dL_law_1204 hl (by decide) rfl (fun ls hl => ?_)
    have hO := hO.flip
    refine lv_aload_n C.1 C.2.1 dL_law_1206 rfl (lv_at hl 3 rfl) ?_
    refine lv_aload_n C.1 C.2.1 dL_law_1207 rfl (lv_at hl 1 rfl) ?_
    refine lv_iload C.1 C.2.1 dL_law_1208 (lv_at hl 5 rfl) ?_
    refine lv_iconst (v := 1) C.1 C.2.1 dL_law_1210 (by decide) ?_
    refine lv_iadd C.1 C.2.1 dL_law_1211 ?_
    refine gSld (j := i + 1) C hX hbl hbA hO (nI_succ i).symm (by omega) hL dL_law_1212 ?_
    refine gCall_i (As := [.int (xs (i + 1))]) (rest := []) C hO (c_X3_keptOf_no l E b S th mkB _ (xs (i + 1)) hI hsr hno3) (cwV 1 C.2.2.2.2.1 gL_law_X3_keptOf rfl rfl rfl (by decide +kernel) ⟨(Nat.le_of_ble_eq_true rfl), (Nat.le_of_ble_eq_true rfl)⟩) (va_recv C.2.2.2.2.2.2.2.1.1 hO.1 (ci := 3) (q0 := 0) rfl rfl) rfl hl.1 rfl (Nat.le_of_ble_eq_true rfl) dL_law_1213 ⟨by show _ ≤ 601024; omega, by show _ ≤ 7293034; omega⟩ (fun H locs hO => ?_)
    refine lv_istore (lv' := (6, .int 0) :: (5, .int 1) :: lwV bs a b o i) C.1 C.2.1 dL_law_1216 hl (by decide) rfl (fun ls hl => ?_)
    refine lv_aload_n C.1 C.2.1 dL_law_1218 rfl (lv_at hl 4 rfl) ?_
    refine gCall_i (As := []) (rest := []) C hO (c_X3_thrown l E b _ 1 _ _) (cwV 0 C.2.2.2.2.1 gL_law_X3_thrown rfl rfl rfl (by decide +kernel) ⟨(Nat.le_of_ble_eq_true rfl), (Nat.le_of_ble_eq_true rfl)⟩) (va_recv C.2.2.2.2.2.2.2.1.1 hO.1 (ci := 3) (q0 := 0) rfl rfl) rfl hl.1 rfl (Nat.le_of_ble_eq_true rfl) dL_law_1219 ⟨by show _ ≤ 601024; omega, by show _ ≤ 7293034; omega⟩ (fun H locs hO => ?_)
    have hO := hO.flop
    refine lv_iload C.1 C.2.1 dL_law_1222 (lv_at hl 1 rfl) ?_
    refine lv_icmp_eq (tgt := 1229) C.1 C.2.1 dL_law_1224 (by decide) (fun _ => ?_) (fun z9 => absurd rfl z9)
    refine lv_iload C.1 C.2.1 dL_law_1229 (lv_at hl 1 rfl) ?_
    refine lv_if_ne (tgt := 1246) C.1 C.2.1 dL_law_1231 (by decide) (fun _ => ?_) (fun z9 => absurd z9 (by decide))
    refine lv_goto (tgt := 1939) C.1 C.2.1 dL_law_1246 (by decide) ?_
    exact W.widen (show _ ≤ cells + 32 by omega) (show _ ≤ slots + 400 by omega) (kk _ _ _ _ _ _ _ _ _ _ (hw9.mono (by omega)) hO (lv_sub hl [2, 3, 4, 5, 6] rfl))
set_option maxHeartbeats 4000000 in
set_option maxRecDepth 100000 in
theorem st_p1249 {p : Program} {l : Launch} {e : Env} {s : State} {m : MethodId} {args : Array Value} {below : List Frame} {meth : Method} {c : Code} {H : Heap} {locs : List Loc} {cells slots : Nat} {Q : State → Prop} {E : gE} {A : Nat → Prop} {bs L : Nat} {xs : Nat → Int32} {a b : Nat → Nat} {o i : Nat} {S : St} {mkA rk rv : Nat → Int32} {f : Nat → Int64} {mkB : Nat → Int32} {th : Int32} {B : Int} {ls : Array Slot} (C : gCx p s m args meth c cL_law 9 wsL_law RL ret E A) (hst : l.stackTraces = false) (hX : va_X bs L xs s s.heap) (hbl : bs < s.heap.size) (hbA : ¬ A bs) (hL : L ≤ 1536) (hi : i + 2 < L) (hw9 : lwI S B) (hB : B + 48 < 2147483647) (hc9 : cells ≤ 600000) (hs9 : slots ≤ 7000000) (hO : gO E A s (lwW E a b o S mkA rk rv f mkB th) H locs) (hl : lv_has ls 9 (lwV bs a b o i)) (kk : lwK p l e s m args below meth c E A bs a b o i (cells + 32) (slots + 400) (B + 48) Q) : W p l e room_1 s m args below meth c H locs cells slots Q (F0 m 1249 ls []) := by
  have hI := hw9.inv
  have hsr := hw9.1.srt
  refine lv_aload_n C.1 C.2.1 dL_law_1249 rfl (lv_at hl 1 rfl) ?_
  refine gCall_i (As := []) (rest := []) C hO (c_X2_ships l E a S mkA rk rv _  hI) (cwV 0 C.2.2.2.2.1 gL_law_X2_ships rfl rfl rfl (by decide +kernel) ⟨(Nat.le_of_ble_eq_true rfl), (Nat.le_of_ble_eq_true rfl)⟩) (va_recv C.2.2.2.2.2.2.2.1.1 hO.1 (ci := 2) (q0 := 0) rfl rfl) rfl hl.1 rfl (Nat.le_of_ble_eq_true rfl) dL_law_1250 ⟨by show _ ≤ 601024; omega, by show _ ≤ 7293034; omega⟩ (fun H locs hO => ?_)
  have hO := hO.flip
  refine lv_aload_n C.1 C.2.1 dL_law_1253 rfl (lv_at hl 2 rfl) ?_
  refine gCall_i (As := []) (rest := [.int _]) C hO (c_X3_ships l E b S th mkB _  hI hsr) (cwV 0 C.2.2.2.2.1 gL_law_X3_ships rfl rfl rfl (by decide +kernel) ⟨(Nat.le_of_ble_eq_true rfl), (Nat.le_of_ble_eq_true rfl)⟩) (va_recv C.2.2.2.2.2.2.2.1.1 hO.1 (ci := 3) (q0 := 0) rfl rfl) rfl hl.1 rfl (Nat.le_of_ble_eq_true rfl) dL_law_1254 ⟨by show _ ≤ 601024; omega, by show _ ≤ 7293034; omega⟩ (fun H locs hO => ?_)
  have hO := hO.flop
  refine lv_icmp_eq (tgt := 1939) C.1 C.2.1 dL_law_1257 (by decide) (fun _ => ?_) (fun z9 => absurd rfl z9)
  exact W.widen (show _ ≤ cells + 32 by omega) (show _ ≤ slots + 400 by omega) (kk _ _ _ _ _ _ _ _ _ _ (hw9.mono (by omega)) hO (lv_sub hl [0, 1, 2, 3, 4] rfl))
set_option maxHeartbeats 4000000 in
set_option maxRecDepth 100000 in
theorem st_p1262 {p : Program} {l : Launch} {e : Env} {s : State} {m : MethodId} {args : Array Value} {below : List Frame} {meth : Method} {c : Code} {H : Heap} {locs : List Loc} {cells slots : Nat} {Q : State → Prop} {E : gE} {A : Nat → Prop} {bs L : Nat} {xs : Nat → Int32} {a b : Nat → Nat} {o i : Nat} {S : St} {mkA rk rv : Nat → Int32} {f : Nat → Int64} {mkB : Nat → Int32} {th : Int32} {B : Int} {ls : Array Slot} (C : gCx p s m args meth c cL_law 9 wsL_law RL ret E A) (hst : l.stackTraces = false) (hX : va_X bs L xs s s.heap) (hbl : bs < s.heap.size) (hbA : ¬ A bs) (hL : L ≤ 1536) (hi : i + 2 < L) (hw9 : lwI S B) (hB : B + 48 < 2147483647) (hc9 : cells ≤ 600000) (hs9 : slots ≤ 7000000) (hO : gO E A s (lwW E a b o S mkA rk rv f mkB th) H locs) (hl : lv_has ls 9 (lwV bs a b o i)) (kk : lwK p l e s m args below meth c E A bs a b o i (cells + 32) (slots + 400) (B + 48) Q) : W p l e room_1 s m args below meth c H locs cells slots Q (F0 m 1262 ls []) := by
  have hI := hw9.inv
  have hsr := hw9.1.srt
  by_cases hok : (okShip S (xs (i + 1)))
  · refine lv_aload_n C.1 C.2.1 dL_law_1262 rfl (lv_at hl 1 rfl) ?_
    refine lv_aload_n C.1 C.2.1 dL_law_1263 rfl (lv_at hl 0 rfl) ?_
    refine lv_iload C.1 C.2.1 dL_law_1264 (lv_at hl 4 rfl) ?_
    refine lv_iconst (v := 1) C.1 C.2.1 dL_law_1266 (by decide) ?_
    refine lv_iadd C.1 C.2.1 dL_law_1267 ?_
    refine gSld (j := i + 1) C hX hbl hbA hO (nI_succ i).symm (by omega) hL dL_law_1268 ?_
    refine lv_aload_n C.1 C.2.1 dL_law_1269 rfl (lv_at hl 3 rfl) ?_
    refine gCallW_i (As := [.ref (a 0), .int (xs (i + 1)), .ref o]) (rest := []) C hO (c_L_offsetOf_ok l E a S mkA rk rv (mW E b S th mkB) o f (xs (i + 1)) hst hI hok) (vx_cwSW 3 C.2.2.2.2.1 gL_law_L_offsetOf rfl rfl rfl (by decide +kernel) ⟨(Nat.le_of_ble_eq_true rfl), (Nat.le_of_ble_eq_true rfl)⟩) rfl hl.1 rfl (Nat.le_of_ble_eq_true rfl) dL_law_1270 ⟨by show _ ≤ 601024; omega, by show _ ≤ 7293034; omega⟩ (fun H locs hO => ?_)
    refine lv_istore (lv' := (5, .int 0) :: lwV bs a b o i) C.1 C.2.1 dL_law_1273 hl (by decide) rfl (fun ls hl => ?_)
    have hO := hO.flip
    refine lv_aload_n C.1 C.2.1 dL_law_1275 rfl (lv_at hl 3 rfl) ?_
    refine lv_aload_n C.1 C.2.1 dL_law_1276 rfl (lv_at hl 1 rfl) ?_
    refine lv_iload C.1 C.2.1 dL_law_1277 (lv_at hl 5 rfl) ?_
    refine lv_iconst (v := 1) C.1 C.2.1 dL_law_1279 (by decide) ?_
    refine lv_iadd C.1 C.2.1 dL_law_1280 ?_
    refine gSld (j := i + 1) C hX hbl hbA hO (nI_succ i).symm (by omega) hL dL_law_1281 ?_
    refine gCall_i (As := [.int (xs (i + 1))]) (rest := []) C hO (c_X3_offsetOf_ok l E b S th mkB _ (xs (i + 1)) hI hsr hok) (cwV 1 C.2.2.2.2.1 gL_law_X3_offsetOf rfl rfl rfl (by decide +kernel) ⟨(Nat.le_of_ble_eq_true rfl), (Nat.le_of_ble_eq_true rfl)⟩) (va_recv C.2.2.2.2.2.2.2.1.1 hO.1 (ci := 3) (q0 := 0) rfl rfl) rfl hl.1 rfl (Nat.le_of_ble_eq_true rfl) dL_law_1282 ⟨by show _ ≤ 601024; omega, by show _ ≤ 7293034; omega⟩ (fun H locs hO => ?_)
    refine lv_istore (lv' := (6, .int (s_at S (xs (i + 1)).toNatClampNeg)) :: (5, .int 0) :: lwV bs a b o i) C.1 C.2.1 dL_law_1285 hl (by decide) rfl (fun ls hl => ?_)
    refine lv_aload_n C.1 C.2.1 dL_law_1287 rfl (lv_at hl 4 rfl) ?_
    refine gCall_i (As := []) (rest := []) C hO (c_X3_thrown l E b _ 0 _ _) (cwV 0 C.2.2.2.2.1 gL_law_X3_thrown rfl rfl rfl (by decide +kernel) ⟨(Nat.le_of_ble_eq_true rfl), (Nat.le_of_ble_eq_true rfl)⟩) (va_recv C.2.2.2.2.2.2.2.1.1 hO.1 (ci := 3) (q0 := 0) rfl rfl) rfl hl.1 rfl (Nat.le_of_ble_eq_true rfl) dL_law_1288 ⟨by show _ ≤ 601024; omega, by show _ ≤ 7293034; omega⟩ (fun H locs hO => ?_)
    have hO := hO.flop
    refine lv_iload C.1 C.2.1 dL_law_1291 (lv_at hl 1 rfl) ?_
    refine lv_icmp_eq (tgt := 1298) C.1 C.2.1 dL_law_1293 (by decide) (fun _ => ?_) (fun z9 => absurd rfl z9)
    refine lv_iload C.1 C.2.1 dL_law_1298 (lv_at hl 1 rfl) ?_
    refine lv_if_ne (tgt := 1315) C.1 C.2.1 dL_law_1300 (by decide) (fun z9 => absurd rfl z9) (fun _ => ?_)
    refine lv_aload_n C.1 C.2.1 dL_law_1303 rfl (lv_at hl 5 rfl) ?_
    refine lv_iconst (v := 0) C.1 C.2.1 dL_law_1304 (by decide) ?_
    refine gLald C hO dL_law_1305 ?_
    rw [vp_u09]
    refine lv_iload C.1 C.2.1 dL_law_1306 (lv_at hl 0 rfl) ?_
    refine lv_i2l C.1 C.2.1 dL_law_1308 rfl ?_
    refine W.lcmp C.1 C.2.1 dL_law_1309 ?_
    refine lv_if_eq (tgt := 1315) C.1 C.2.1 dL_law_1310 (by decide) (fun _ => ?_) (fun z9 => absurd (lcm9 _) z9)
    refine lv_goto (tgt := 1939) C.1 C.2.1 dL_law_1315 (by decide) ?_
    exact W.widen (show _ ≤ cells + 32 by omega) (show _ ≤ slots + 400 by omega) (kk _ _ _ _ _ _ _ _ _ _ (hw9.mono (by omega)) hO (lv_sub hl [2, 3, 4, 5, 6] rfl))
  · have hno : ¬ okShip S (xs (i + 1)) := by first | exact hok | exact Classical.not_not.mp hok
    have hno3 : ¬ okShip S (xs (i + 1)) := by first | exact hno | exact hok
    refine lv_aload_n C.1 C.2.1 dL_law_1262 rfl (lv_at hl 1 rfl) ?_
    refine lv_aload_n C.1 C.2.1 dL_law_1263 rfl (lv_at hl 0 rfl) ?_
    refine lv_iload C.1 C.2.1 dL_law_1264 (lv_at hl 4 rfl) ?_
    refine lv_iconst (v := 1) C.1 C.2.1 dL_law_1266 (by decide) ?_
    refine lv_iadd C.1 C.2.1 dL_law_1267 ?_
    refine gSld (j := i + 1) C hX hbl hbA hO (nI_succ i).symm (by omega) hL dL_law_1268 ?_
    refine lv_aload_n C.1 C.2.1 dL_law_1269 rfl (lv_at hl 3 rfl) ?_
    refine gCallW_i (As := [.ref (a 0), .int (xs (i + 1)), .ref o]) (rest := []) C hO (c_L_offsetOf_no l E a S mkA rk rv (mW E b S th mkB) o f (xs (i + 1)) hst hI hno) (vx_cwSW 3 C.2.2.2.2.1 gL_law_L_offsetOf rfl rfl rfl (by decide +kernel) ⟨(Nat.le_of_ble_eq_true rfl), (Nat.le_of_ble_eq_true rfl)⟩) rfl hl.1 rfl (Nat.le_of_ble_eq_true rfl) dL_law_1270 ⟨by show _ ≤ 601024; omega, by show _ ≤ 7293034; omega⟩ (fun H locs hO => ?_)
    refine lv_istore (lv' := (5, .int 1) :: lwV bs a b o i) C.1 C.2.1 dL_law_1273 hl (by decide) rfl (fun ls hl => ?_)
    have hO := hO.flip
    refine lv_aload_n C.1 C.2.1 dL_law_1275 rfl (lv_at hl 3 rfl) ?_
    refine lv_aload_n C.1 C.2.1 dL_law_1276 rfl (lv_at hl 1 rfl) ?_
    refine lv_iload C.1 C.2.1 dL_law_1277 (lv_at hl 5 rfl) ?_
    refine lv_iconst (v := 1) C.1 C.2.1 dL_law_1279 (by decide) ?_
    refine lv_iadd C.1 C.2.1 dL_law_1280 ?_
    refine gSld (j := i + 1) C hX hbl hbA hO (nI_succ i).symm (by omega) hL dL_law_1281 ?_
    refine gCall_i (As := [.int (xs (i + 1))]) (rest := []) C hO (c_X3_offsetOf_no l E b S th mkB _ (xs (i + 1)) hI hsr hno3) (cwV 1 C.2.2.2.2.1 gL_law_X3_offsetOf rfl rfl rfl (by decide +kernel) ⟨(Nat.le_of_ble_eq_true rfl), (Nat.le_of_ble_eq_true rfl)⟩) (va_recv C.2.2.2.2.2.2.2.1.1 hO.1 (ci := 3) (q0 := 0) rfl rfl) rfl hl.1 rfl (Nat.le_of_ble_eq_true rfl) dL_law_1282 ⟨by show _ ≤ 601024; omega, by show _ ≤ 7293034; omega⟩ (fun H locs hO => ?_)
    refine lv_istore (lv' := (6, .int 0) :: (5, .int 1) :: lwV bs a b o i) C.1 C.2.1 dL_law_1285 hl (by decide) rfl (fun ls hl => ?_)
    refine lv_aload_n C.1 C.2.1 dL_law_1287 rfl (lv_at hl 4 rfl) ?_
    refine gCall_i (As := []) (rest := []) C hO (c_X3_thrown l E b _ 1 _ _) (cwV 0 C.2.2.2.2.1 gL_law_X3_thrown rfl rfl rfl (by decide +kernel) ⟨(Nat.le_of_ble_eq_true rfl), (Nat.le_of_ble_eq_true rfl)⟩) (va_recv C.2.2.2.2.2.2.2.1.1 hO.1 (ci := 3) (q0 := 0) rfl rfl) rfl hl.1 rfl (Nat.le_of_ble_eq_true rfl) dL_law_1288 ⟨by show _ ≤ 601024; omega, by show _ ≤ 7293034; omega⟩ (fun H locs hO => ?_)
    have hO := hO.flop
    refine lv_iload C.1 C.2.1 dL_law_1291 (lv_at hl 1 rfl) ?_
    refine lv_icmp_eq (tgt := 1298) C.1 C.2.1 dL_law_1293 (by decide) (fun _ => ?_) (fun z9 => absurd rfl z9)
    refine lv_iload C.1 C.2.1 dL_law_1298 (lv_at hl 1 rfl) ?_
    refine lv_if_ne (tgt := 1315) C.1 C.2.1 dL_law_1300 (by decide) (fun _ => ?_) (fun z9 => absurd z9 (by decide))
    refine lv_goto (tgt := 1939) C.1 C.2.1 dL_law_1315 (by decide) ?_
    exact W.widen (show _ ≤ cells + 32 by omega) (show _ ≤ slots + 400 by omega) (kk _ _ _ _ _ _ _ _ _ _ (hw9.mono (by omega)) hO (lv_sub hl [2, 3, 4, 5, 6] rfl))
set_option maxHeartbeats 4000000 in
set_option maxRecDepth 100000 in
theorem st_p1318 {p : Program} {l : Launch} {e : Env} {s : State} {m : MethodId} {args : Array Value} {below : List Frame} {meth : Method} {c : Code} {H : Heap} {locs : List Loc} {cells slots : Nat} {Q : State → Prop} {E : gE} {A : Nat → Prop} {bs L : Nat} {xs : Nat → Int32} {a b : Nat → Nat} {o i : Nat} {S : St} {mkA rk rv : Nat → Int32} {f : Nat → Int64} {mkB : Nat → Int32} {th : Int32} {B : Int} {ls : Array Slot} (C : gCx p s m args meth c cL_law 9 wsL_law RL ret E A) (hst : l.stackTraces = false) (hX : va_X bs L xs s s.heap) (hbl : bs < s.heap.size) (hbA : ¬ A bs) (hL : L ≤ 1536) (hi : i + 2 < L) (hw9 : lwI S B) (hB : B + 48 < 2147483647) (hc9 : cells ≤ 600000) (hs9 : slots ≤ 7000000) (hO : gO E A s (lwW E a b o S mkA rk rv f mkB th) H locs) (hl : lv_has ls 9 (lwV bs a b o i)) (kk : lwK p l e s m args below meth c E A bs a b o i (cells + 32) (slots + 400) (B + 48) Q) : W p l e room_1 s m args below meth c H locs cells slots Q (F0 m 1318 ls []) := by
  have hI := hw9.inv
  have hsr := hw9.1.srt
  by_cases hok : (okShip S (xs (i + 1)))
  · refine lv_aload_n C.1 C.2.1 dL_law_1318 rfl (lv_at hl 1 rfl) ?_
    refine lv_aload_n C.1 C.2.1 dL_law_1319 rfl (lv_at hl 0 rfl) ?_
    refine lv_iload C.1 C.2.1 dL_law_1320 (lv_at hl 4 rfl) ?_
    refine lv_iconst (v := 1) C.1 C.2.1 dL_law_1322 (by decide) ?_
    refine lv_iadd C.1 C.2.1 dL_law_1323 ?_
    refine gSld (j := i + 1) C hX hbl hbA hO (nI_succ i).symm (by omega) hL dL_law_1324 ?_
    refine lv_aload_n C.1 C.2.1 dL_law_1325 rfl (lv_at hl 3 rfl) ?_
    refine gCallW_i (As := [.ref (a 0), .int (xs (i + 1)), .ref o]) (rest := []) C hO (c_L_lagOf_ok l E a S mkA rk rv (mW E b S th mkB) o f (xs (i + 1)) hst hI hok) (vx_cwSW 3 C.2.2.2.2.1 gL_law_L_lagOf rfl rfl rfl (by decide +kernel) ⟨(Nat.le_of_ble_eq_true rfl), (Nat.le_of_ble_eq_true rfl)⟩) rfl hl.1 rfl (Nat.le_of_ble_eq_true rfl) dL_law_1326 ⟨by show _ ≤ 601024; omega, by show _ ≤ 7293034; omega⟩ (fun H locs hO => ?_)
    refine lv_istore (lv' := (5, .int 0) :: lwV bs a b o i) C.1 C.2.1 dL_law_1329 hl (by decide) rfl (fun ls hl => ?_)
    have hO := hO.flip
    refine lv_aload_n C.1 C.2.1 dL_law_1331 rfl (lv_at hl 3 rfl) ?_
    refine lv_aload_n C.1 C.2.1 dL_law_1332 rfl (lv_at hl 1 rfl) ?_
    refine lv_iload C.1 C.2.1 dL_law_1333 (lv_at hl 5 rfl) ?_
    refine lv_iconst (v := 1) C.1 C.2.1 dL_law_1335 (by decide) ?_
    refine lv_iadd C.1 C.2.1 dL_law_1336 ?_
    refine gSld (j := i + 1) C hX hbl hbA hO (nI_succ i).symm (by omega) hL dL_law_1337 ?_
    refine gCall_i (As := [.int (xs (i + 1))]) (rest := []) C hO (c_X3_lagOf_ok l E b S th mkB _ (xs (i + 1)) hI hsr hok) (cwV 1 C.2.2.2.2.1 gL_law_X3_lagOf rfl rfl rfl (by decide +kernel) ⟨(Nat.le_of_ble_eq_true rfl), (Nat.le_of_ble_eq_true rfl)⟩) (va_recv C.2.2.2.2.2.2.2.1.1 hO.1 (ci := 3) (q0 := 0) rfl rfl) rfl hl.1 rfl (Nat.le_of_ble_eq_true rfl) dL_law_1338 ⟨by show _ ≤ 601024; omega, by show _ ≤ 7293034; omega⟩ (fun H locs hO => ?_)
    refine lv_istore (lv' := (6, .int (nI (s_lag S (xs (i + 1)).toNatClampNeg))) :: (5, .int 0) :: lwV bs a b o i) C.1 C.2.1 dL_law_1341 hl (by decide) rfl (fun ls hl => ?_)
    refine lv_aload_n C.1 C.2.1 dL_law_1343 rfl (lv_at hl 4 rfl) ?_
    refine gCall_i (As := []) (rest := []) C hO (c_X3_thrown l E b _ 0 _ _) (cwV 0 C.2.2.2.2.1 gL_law_X3_thrown rfl rfl rfl (by decide +kernel) ⟨(Nat.le_of_ble_eq_true rfl), (Nat.le_of_ble_eq_true rfl)⟩) (va_recv C.2.2.2.2.2.2.2.1.1 hO.1 (ci := 3) (q0 := 0) rfl rfl) rfl hl.1 rfl (Nat.le_of_ble_eq_true rfl) dL_law_1344 ⟨by show _ ≤ 601024; omega, by show _ ≤ 7293034; omega⟩ (fun H locs hO => ?_)
    have hO := hO.flop
    refine lv_iload C.1 C.2.1 dL_law_1347 (lv_at hl 1 rfl) ?_
    refine lv_icmp_eq (tgt := 1354) C.1 C.2.1 dL_law_1349 (by decide) (fun _ => ?_) (fun z9 => absurd rfl z9)
    refine lv_iload C.1 C.2.1 dL_law_1354 (lv_at hl 1 rfl) ?_
    refine lv_if_ne (tgt := 1371) C.1 C.2.1 dL_law_1356 (by decide) (fun z9 => absurd rfl z9) (fun _ => ?_)
    refine lv_aload_n C.1 C.2.1 dL_law_1359 rfl (lv_at hl 5 rfl) ?_
    refine lv_iconst (v := 0) C.1 C.2.1 dL_law_1360 (by decide) ?_
    refine gLald C hO dL_law_1361 ?_
    rw [vp_u09]
    refine lv_iload C.1 C.2.1 dL_law_1362 (lv_at hl 0 rfl) ?_
    refine lv_i2l C.1 C.2.1 dL_law_1364 rfl ?_
    refine W.lcmp C.1 C.2.1 dL_law_1365 ?_
    refine lv_if_eq (tgt := 1371) C.1 C.2.1 dL_law_1366 (by decide) (fun _ => ?_) (fun z9 => absurd (lcm9 _) z9)
    refine lv_goto (tgt := 1939) C.1 C.2.1 dL_law_1371 (by decide) ?_
    exact W.widen (show _ ≤ cells + 32 by omega) (show _ ≤ slots + 400 by omega) (kk _ _ _ _ _ _ _ _ _ _ (hw9.mono (by omega)) hO (lv_sub hl [2, 3, 4, 5, 6] rfl))
  · have hno : ¬ okShip S (xs (i + 1)) := by first | exact hok | exact Classical.not_not.mp hok
    have hno3 : ¬ okShip S (xs (i + 1)) := by first | exact hno | exact hok
    refine lv_aload_n C.1 C.2.1 dL_law_1318 rfl (lv_at hl 1 rfl) ?_
    refine lv_aload_n C.1 C.2.1 dL_law_1319 rfl (lv_at hl 0 rfl) ?_
    refine lv_iload C.1 C.2.1 dL_law_1320 (lv_at hl 4 rfl) ?_
    refine lv_iconst (v := 1) C.1 C.2.1 dL_law_1322 (by decide) ?_
    refine lv_iadd C.1 C.2.1 dL_law_1323 ?_
    refine gSld (j := i + 1) C hX hbl hbA hO (nI_succ i).symm (by omega) hL dL_law_1324 ?_
    refine lv_aload_n C.1 C.2.1 dL_law_1325 rfl (lv_at hl 3 rfl) ?_
    refine gCallW_i (As := [.ref (a 0), .int (xs (i + 1)), .ref o]) (rest := []) C hO (c_L_lagOf_no l E a S mkA rk rv (mW E b S th mkB) o f (xs (i + 1)) hst hI hno) (vx_cwSW 3 C.2.2.2.2.1 gL_law_L_lagOf rfl rfl rfl (by decide +kernel) ⟨(Nat.le_of_ble_eq_true rfl), (Nat.le_of_ble_eq_true rfl)⟩) rfl hl.1 rfl (Nat.le_of_ble_eq_true rfl) dL_law_1326 ⟨by show _ ≤ 601024; omega, by show _ ≤ 7293034; omega⟩ (fun H locs hO => ?_)
    refine lv_istore (lv' := (5, .int 1) :: lwV bs a b o i) C.1 C.2.1 dL_law_1329 hl (by decide) rfl (fun ls hl => ?_)
    have hO := hO.flip
    refine lv_aload_n C.1 C.2.1 dL_law_1331 rfl (lv_at hl 3 rfl) ?_
    refine lv_aload_n C.1 C.2.1 dL_law_1332 rfl (lv_at hl 1 rfl) ?_
    refine lv_iload C.1 C.2.1 dL_law_1333 (lv_at hl 5 rfl) ?_
    refine lv_iconst (v := 1) C.1 C.2.1 dL_law_1335 (by decide) ?_
    refine lv_iadd C.1 C.2.1 dL_law_1336 ?_
    refine gSld (j := i + 1) C hX hbl hbA hO (nI_succ i).symm (by omega) hL dL_law_1337 ?_
    refine gCall_i (As := [.int (xs (i + 1))]) (rest := []) C hO (c_X3_lagOf_no l E b S th mkB _ (xs (i + 1)) hI hsr hno3) (cwV 1 C.2.2.2.2.1 gL_law_X3_lagOf rfl rfl rfl (by decide +kernel) ⟨(Nat.le_of_ble_eq_true rfl), (Nat.le_of_ble_eq_true rfl)⟩) (va_recv C.2.2.2.2.2.2.2.1.1 hO.1 (ci := 3) (q0 := 0) rfl rfl) rfl hl.1 rfl (Nat.le_of_ble_eq_true rfl) dL_law_1338 ⟨by show _ ≤ 601024; omega, by show _ ≤ 7293034; omega⟩ (fun H locs hO => ?_)
    refine lv_istore (lv' := (6, .int 0) :: (5, .int 1) :: lwV bs a b o i) C.1 C.2.1 dL_law_1341 hl (by decide) rfl (fun ls hl => ?_)
    refine lv_aload_n C.1 C.2.1 dL_law_1343 rfl (lv_at hl 4 rfl) ?_
    refine gCall_i (As := []) (rest := []) C hO (c_X3_thrown l E b _ 1 _ _) (cwV 0 C.2.2.2.2.1 gL_law_X3_thrown rfl rfl rfl (by decide +kernel) ⟨(Nat.le_of_ble_eq_true rfl), (Nat.le_of_ble_eq_true rfl)⟩) (va_recv C.2.2.2.2.2.2.2.1.1 hO.1 (ci := 3) (q0 := 0) rfl rfl) rfl hl.1 rfl (Nat.le_of_ble_eq_true rfl) dL_law_1344 ⟨by show _ ≤ 601024; omega, by show _ ≤ 7293034; omega⟩ (fun H locs hO => ?_)
    have hO := hO.flop
    refine lv_iload C.1 C.2.1 dL_law_1347 (lv_at hl 1 rfl) ?_
    refine lv_icmp_eq (tgt := 1354) C.1 C.2.1 dL_law_1349 (by decide) (fun _ => ?_) (fun z9 => absurd rfl z9)
    refine lv_iload C.1 C.2.1 dL_law_1354 (lv_at hl 1 rfl) ?_
    refine lv_if_ne (tgt := 1371) C.1 C.2.1 dL_law_1356 (by decide) (fun _ => ?_) (fun z9 => absurd z9 (by decide))
    refine lv_goto (tgt := 1939) C.1 C.2.1 dL_law_1371 (by decide) ?_
    exact W.widen (show _ ≤ cells + 32 by omega) (show _ ≤ slots + 400 by omega) (kk _ _ _ _ _ _ _ _ _ _ (hw9.mono (by omega)) hO (lv_sub hl [2, 3, 4, 5, 6] rfl))
