set_option maxHeartbeats 4000000 in
set_option maxRecDepth 100000 in
theorem c_L_say_ok (l : Launch) (E : gE) (a : Nat → Nat) (S : St) (mk rk rv : Nat → Int32) (F : va_W) (o9 : Nat) (f9 : Nat → Int64) (k v : Int32) (hst : l.stackTraces = false) (hI : s_inv S) (hok : (okKey k ∧ okVal v)) : gMi l E yL_say wsL_say ({ frames := 7, cells := 1, slots := 6, locals := 111 }) (xW E a S mk rk rv ++ ((o9, .inl (eL E, 1, .inr (.inl f9))) :: F)) [.ref (a 0), .int k, .int v, .ref o9] 0 (xW E a (S_spk S k v) (mk_spk S mk) rk rv ++ ((o9, .inl (eL E, 1, .inr (.inl (vp_updL f9 0 (s_nx S).toInt64)))) :: F)) 1 6 := by
  refine gMi.ofW (cc := cL_say) (maxL := 5) (ty := .int) (by decide) rfl (Nat.le_of_ble_eq_true rfl) ?_
  intro p e s m args below meth c A C ht ls hl hO
  have hl : lv_has ls 5 [(0, .ref (a 0)), (1, .int k), (2, .int v), (3, .ref o9)] := hl
  refine lv_aload_n C.1 C.2.1 dL_say_0 rfl (lv_at hl 3 rfl) ?_
  refine lv_iconst (v := 0) C.1 C.2.1 dL_say_1 (by decide) ?_
  refine lv_aload_n C.1 C.2.1 dL_say_2 rfl (lv_at hl 0 rfl) ?_
  refine lv_iload_n C.1 C.2.1 dL_say_3 rfl (lv_at hl 1 rfl) ?_
  refine lv_iload_n C.1 C.2.1 dL_say_4 rfl (lv_at hl 2 rfl) ?_
  refine gXCall_i (As := [.int k, .int v]) (rest := [.int 0, .ref o9]) C hO (c_X2_say l E a S mk rk rv ((o9, .inl (eL E, 1, .inr (.inl f9))) :: F) k v hst hI) (cwV 2 C.2.2.2.2.1 gL_say_X2_say rfl rfl rfl (by decide +kernel) ⟨(Nat.le_of_ble_eq_true rfl), (Nat.le_of_ble_eq_true rfl)⟩) (va_recv C.2.2.2.2.2.2.2.1.1 hO.1 (ci := 2) (q0 := 0) rfl rfl) rfl hl.1 rfl (Nat.le_of_ble_eq_true rfl) dL_say_5 ⟨(Nat.le_of_ble_eq_true rfl), (Nat.le_of_ble_eq_true rfl)⟩ (fun E0 ce q9 H locs hO hcell hcv hcl hbad => ?_) (fun H locs hO hok9 => ?_)
  · obtain ⟨_, hno⟩ := hbad
    first | exact absurd hok hno | exact absurd hno hok | exact absurd hok.1 hno | exact absurd (And.intro hok.1 hok.2.1) hno | exact absurd hok.2 hno.2 | exact absurd hok.2.2 hno.2.2
  · refine lv_i2l C.1 C.2.1 dL_say_8 rfl ?_
    refine gLast C hO dL_say_9 (fun H locs hO => ?_)
    refine lv_goto (tgt := 17) C.1 C.2.1 dL_say_10 (by decide) ?_
    refine lv_iconst (v := 0) C.1 C.2.1 dL_say_17 (by decide) ?_
    exact gRi C hO rfl rfl dL_say_18 (Nat.le_of_ble_eq_true rfl) (Nat.le_of_ble_eq_true rfl)
set_option maxHeartbeats 4000000 in
set_option maxRecDepth 100000 in
theorem c_L_say_no (l : Launch) (E : gE) (a : Nat → Nat) (S : St) (mk rk rv : Nat → Int32) (F : va_W) (o9 : Nat) (f9 : Nat → Int64) (k v : Int32) (hst : l.stackTraces = false) (hI : s_inv S) (hno : ¬ (okKey k ∧ okVal v)) : gMi l E yL_say wsL_say ({ frames := 7, cells := 1, slots := 6, locals := 111 }) (xW E a S mk rk rv ++ ((o9, .inl (eL E, 1, .inr (.inl f9))) :: F)) [.ref (a 0), .int k, .int v, .ref o9] 1 (xW E a S mk rk rv ++ ((o9, .inl (eL E, 1, .inr (.inl f9))) :: F)) 1 6 := by
  refine gMi.ofW (cc := cL_say) (maxL := 5) (ty := .int) (by decide) rfl (Nat.le_of_ble_eq_true rfl) ?_
  intro p e s m args below meth c A C ht ls hl hO
  have hl : lv_has ls 5 [(0, .ref (a 0)), (1, .int k), (2, .int v), (3, .ref o9)] := hl
  refine lv_aload_n C.1 C.2.1 dL_say_0 rfl (lv_at hl 3 rfl) ?_
  refine lv_iconst (v := 0) C.1 C.2.1 dL_say_1 (by decide) ?_
  refine lv_aload_n C.1 C.2.1 dL_say_2 rfl (lv_at hl 0 rfl) ?_
  refine lv_iload_n C.1 C.2.1 dL_say_3 rfl (lv_at hl 1 rfl) ?_
  refine lv_iload_n C.1 C.2.1 dL_say_4 rfl (lv_at hl 2 rfl) ?_
  refine gXCall_i (As := [.int k, .int v]) (rest := [.int 0, .ref o9]) C hO (c_X2_say l E a S mk rk rv ((o9, .inl (eL E, 1, .inr (.inl f9))) :: F) k v hst hI) (cwV 2 C.2.2.2.2.1 gL_say_X2_say rfl rfl rfl (by decide +kernel) ⟨(Nat.le_of_ble_eq_true rfl), (Nat.le_of_ble_eq_true rfl)⟩) (va_recv C.2.2.2.2.2.2.2.1.1 hO.1 (ci := 2) (q0 := 0) rfl rfl) rfl hl.1 rfl (Nat.le_of_ble_eq_true rfl) dL_say_5 ⟨(Nat.le_of_ble_eq_true rfl), (Nat.le_of_ble_eq_true rfl)⟩ (fun E0 ce q9 H locs hO hcell hcv hcl hbad => ?_) (fun H locs hO hok9 => ?_)
  · obtain ⟨rfl, _⟩ := hbad
    refine gCatch1 C ht (by decide) (by decide) (by decide +kernel) (by decide +kernel) hcell hcv hcl ?_
    refine lv_astore (lv' := [(4, .ref q9), (0, .ref (a 0)), (1, .int k), (2, .int v), (3, .ref o9)]) C.1 C.2.1 dL_say_13 hl (by decide) rfl (fun ls hl => ?_)
    refine lv_iconst (v := 1) C.1 C.2.1 dL_say_15 (by decide) ?_
    exact gRi C hO rfl rfl dL_say_16 (Nat.le_of_ble_eq_true rfl) (Nat.le_of_ble_eq_true rfl)
  · have hok := hok9
    first | exact absurd hok hno | exact absurd hno hok | exact absurd hok.1 hno | exact absurd (And.intro hok.1 hok.2.1) hno | exact absurd hok.2 hno.2 | exact absurd hok.2.2 hno.2.2
set_option maxHeartbeats 4000000 in
set_option maxRecDepth 100000 in
theorem c_L_startStorm_ok (l : Launch) (E : gE) (a : Nat → Nat) (S : St) (mk rk rv : Nat → Int32) (F : va_W) (o9 : Nat) (f9 : Nat → Int64) (hst : l.stackTraces = false) (hI : s_inv S) (hok : (s_on S = 0 ∧ s_sc S < 8)) : gMi l E yL_startStorm wsL_startStorm ({ frames := 7, cells := 1, slots := 6, locals := 102 }) (xW E a S mk rk rv ++ ((o9, .inl (eL E, 1, .inr (.inl f9))) :: F)) [.ref (a 0), .ref o9] 0 (xW E a (S_storm S 1 (s_sc S + 1)) mk rk rv ++ ((o9, .inl (eL E, 1, .inr (.inl (vp_updL f9 0 (nI (s_sc S)).toInt64)))) :: F)) 1 6 := by
  refine gMi.ofW (cc := cL_startStorm) (maxL := 3) (ty := .int) (by decide) rfl (Nat.le_of_ble_eq_true rfl) ?_
  intro p e s m args below meth c A C ht ls hl hO
  have hl : lv_has ls 3 [(0, .ref (a 0)), (1, .ref o9)] := hl
  refine lv_aload_n C.1 C.2.1 dL_startStorm_0 rfl (lv_at hl 1 rfl) ?_
  refine lv_iconst (v := 0) C.1 C.2.1 dL_startStorm_1 (by decide) ?_
  refine lv_aload_n C.1 C.2.1 dL_startStorm_2 rfl (lv_at hl 0 rfl) ?_
  refine gXCall_i (As := []) (rest := [.int 0, .ref o9]) C hO (c_X2_startStorm l E a S mk rk rv ((o9, .inl (eL E, 1, .inr (.inl f9))) :: F)  hst hI) (cwV 0 C.2.2.2.2.1 gL_startStorm_X2_startStorm rfl rfl rfl (by decide +kernel) ⟨(Nat.le_of_ble_eq_true rfl), (Nat.le_of_ble_eq_true rfl)⟩) (va_recv C.2.2.2.2.2.2.2.1.1 hO.1 (ci := 2) (q0 := 0) rfl rfl) rfl hl.1 rfl (Nat.le_of_ble_eq_true rfl) dL_startStorm_3 ⟨(Nat.le_of_ble_eq_true rfl), (Nat.le_of_ble_eq_true rfl)⟩ (fun E0 ce q9 H locs hO hcell hcv hcl hbad => ?_) (fun H locs hO hok9 => ?_)
  · obtain ⟨_, hno⟩ := hbad
    first | exact absurd hok hno | exact absurd hno hok | exact absurd hok.1 hno | exact absurd (And.intro hok.1 hok.2.1) hno | exact absurd hok.2 hno.2 | exact absurd hok.2.2 hno.2.2
  · refine lv_i2l C.1 C.2.1 dL_startStorm_6 rfl ?_
    refine gLast C hO dL_startStorm_7 (fun H locs hO => ?_)
    refine lv_goto (tgt := 14) C.1 C.2.1 dL_startStorm_8 (by decide) ?_
    refine lv_iconst (v := 0) C.1 C.2.1 dL_startStorm_14 (by decide) ?_
    exact gRi C hO rfl rfl dL_startStorm_15 (Nat.le_of_ble_eq_true rfl) (Nat.le_of_ble_eq_true rfl)
set_option maxHeartbeats 4000000 in
set_option maxRecDepth 100000 in
theorem c_L_startStorm_no (l : Launch) (E : gE) (a : Nat → Nat) (S : St) (mk rk rv : Nat → Int32) (F : va_W) (o9 : Nat) (f9 : Nat → Int64) (hst : l.stackTraces = false) (hI : s_inv S) (hno : ¬ (s_on S = 0 ∧ s_sc S < 8)) : gMi l E yL_startStorm wsL_startStorm ({ frames := 7, cells := 1, slots := 6, locals := 102 }) (xW E a S mk rk rv ++ ((o9, .inl (eL E, 1, .inr (.inl f9))) :: F)) [.ref (a 0), .ref o9] 1 (xW E a S mk rk rv ++ ((o9, .inl (eL E, 1, .inr (.inl f9))) :: F)) 1 6 := by
  refine gMi.ofW (cc := cL_startStorm) (maxL := 3) (ty := .int) (by decide) rfl (Nat.le_of_ble_eq_true rfl) ?_
  intro p e s m args below meth c A C ht ls hl hO
  have hl : lv_has ls 3 [(0, .ref (a 0)), (1, .ref o9)] := hl
  refine lv_aload_n C.1 C.2.1 dL_startStorm_0 rfl (lv_at hl 1 rfl) ?_
  refine lv_iconst (v := 0) C.1 C.2.1 dL_startStorm_1 (by decide) ?_
  refine lv_aload_n C.1 C.2.1 dL_startStorm_2 rfl (lv_at hl 0 rfl) ?_
  refine gXCall_i (As := []) (rest := [.int 0, .ref o9]) C hO (c_X2_startStorm l E a S mk rk rv ((o9, .inl (eL E, 1, .inr (.inl f9))) :: F)  hst hI) (cwV 0 C.2.2.2.2.1 gL_startStorm_X2_startStorm rfl rfl rfl (by decide +kernel) ⟨(Nat.le_of_ble_eq_true rfl), (Nat.le_of_ble_eq_true rfl)⟩) (va_recv C.2.2.2.2.2.2.2.1.1 hO.1 (ci := 2) (q0 := 0) rfl rfl) rfl hl.1 rfl (Nat.le_of_ble_eq_true rfl) dL_startStorm_3 ⟨(Nat.le_of_ble_eq_true rfl), (Nat.le_of_ble_eq_true rfl)⟩ (fun E0 ce q9 H locs hO hcell hcv hcl hbad => ?_) (fun H locs hO hok9 => ?_)
  · obtain ⟨rfl, _⟩ := hbad
    refine gCatch1 C ht (by decide) (by decide) (by decide +kernel) (by decide +kernel) hcell hcv hcl ?_
    refine lv_astore_n (lv' := [(2, .ref q9), (0, .ref (a 0)), (1, .ref o9)]) C.1 C.2.1 dL_startStorm_11 rfl hl (by decide) rfl (fun ls hl => ?_)
    refine lv_iconst (v := 1) C.1 C.2.1 dL_startStorm_12 (by decide) ?_
    exact gRi C hO rfl rfl dL_startStorm_13 (Nat.le_of_ble_eq_true rfl) (Nat.le_of_ble_eq_true rfl)
  · have hok := hok9
    first | exact absurd hok hno | exact absurd hno hok | exact absurd hok.1 hno | exact absurd (And.intro hok.1 hok.2.1) hno | exact absurd hok.2 hno.2 | exact absurd hok.2.2 hno.2.2
set_option maxHeartbeats 4000000 in
set_option maxRecDepth 100000 in
theorem c_L_endStorm_ok (l : Launch) (E : gE) (a : Nat → Nat) (S : St) (mk rk rv : Nat → Int32) (F : va_W) (o9 : Nat) (f9 : Nat → Int64) (hst : l.stackTraces = false) (hI : s_inv S) (hok : (¬ s_on S = 0)) : gMi l E yL_endStorm wsL_endStorm ({ frames := 7, cells := 1, slots := 6, locals := 102 }) (xW E a S mk rk rv ++ ((o9, .inl (eL E, 1, .inr (.inl f9))) :: F)) [.ref (a 0), .ref o9] 0 (xW E a (S_storm S 0 (s_sc S)) mk rk rv ++ ((o9, .inl (eL E, 1, .inr (.inl (vp_updL f9 0 (s_said S (s_sc S - 1)).toInt64)))) :: F)) 1 6 := by
  refine gMi.ofW (cc := cL_endStorm) (maxL := 3) (ty := .int) (by decide) rfl (Nat.le_of_ble_eq_true rfl) ?_
  intro p e s m args below meth c A C ht ls hl hO
  have hl : lv_has ls 3 [(0, .ref (a 0)), (1, .ref o9)] := hl
  refine lv_aload_n C.1 C.2.1 dL_endStorm_0 rfl (lv_at hl 1 rfl) ?_
  refine lv_iconst (v := 0) C.1 C.2.1 dL_endStorm_1 (by decide) ?_
  refine lv_aload_n C.1 C.2.1 dL_endStorm_2 rfl (lv_at hl 0 rfl) ?_
  refine gXCall_i (As := []) (rest := [.int 0, .ref o9]) C hO (c_X2_endStorm l E a S mk rk rv ((o9, .inl (eL E, 1, .inr (.inl f9))) :: F)  hst hI) (cwV 0 C.2.2.2.2.1 gL_endStorm_X2_endStorm rfl rfl rfl (by decide +kernel) ⟨(Nat.le_of_ble_eq_true rfl), (Nat.le_of_ble_eq_true rfl)⟩) (va_recv C.2.2.2.2.2.2.2.1.1 hO.1 (ci := 2) (q0 := 0) rfl rfl) rfl hl.1 rfl (Nat.le_of_ble_eq_true rfl) dL_endStorm_3 ⟨(Nat.le_of_ble_eq_true rfl), (Nat.le_of_ble_eq_true rfl)⟩ (fun E0 ce q9 H locs hO hcell hcv hcl hbad => ?_) (fun H locs hO hok9 => ?_)
  · obtain ⟨_, hno⟩ := hbad
    first | exact absurd hok hno | exact absurd hno hok | exact absurd hok.1 hno | exact absurd (And.intro hok.1 hok.2.1) hno | exact absurd hok.2 hno.2 | exact absurd hok.2.2 hno.2.2
  · refine lv_i2l C.1 C.2.1 dL_endStorm_6 rfl ?_
    refine gLast C hO dL_endStorm_7 (fun H locs hO => ?_)
    refine lv_goto (tgt := 14) C.1 C.2.1 dL_endStorm_8 (by decide) ?_
    refine lv_iconst (v := 0) C.1 C.2.1 dL_endStorm_14 (by decide) ?_
    exact gRi C hO rfl rfl dL_endStorm_15 (Nat.le_of_ble_eq_true rfl) (Nat.le_of_ble_eq_true rfl)
set_option maxHeartbeats 4000000 in
set_option maxRecDepth 100000 in
theorem c_L_endStorm_no (l : Launch) (E : gE) (a : Nat → Nat) (S : St) (mk rk rv : Nat → Int32) (F : va_W) (o9 : Nat) (f9 : Nat → Int64) (hst : l.stackTraces = false) (hI : s_inv S) (hno : s_on S = 0) : gMi l E yL_endStorm wsL_endStorm ({ frames := 7, cells := 1, slots := 6, locals := 102 }) (xW E a S mk rk rv ++ ((o9, .inl (eL E, 1, .inr (.inl f9))) :: F)) [.ref (a 0), .ref o9] 1 (xW E a S mk rk rv ++ ((o9, .inl (eL E, 1, .inr (.inl f9))) :: F)) 1 6 := by
  refine gMi.ofW (cc := cL_endStorm) (maxL := 3) (ty := .int) (by decide) rfl (Nat.le_of_ble_eq_true rfl) ?_
  intro p e s m args below meth c A C ht ls hl hO
  have hl : lv_has ls 3 [(0, .ref (a 0)), (1, .ref o9)] := hl
  refine lv_aload_n C.1 C.2.1 dL_endStorm_0 rfl (lv_at hl 1 rfl) ?_
  refine lv_iconst (v := 0) C.1 C.2.1 dL_endStorm_1 (by decide) ?_
  refine lv_aload_n C.1 C.2.1 dL_endStorm_2 rfl (lv_at hl 0 rfl) ?_
  refine gXCall_i (As := []) (rest := [.int 0, .ref o9]) C hO (c_X2_endStorm l E a S mk rk rv ((o9, .inl (eL E, 1, .inr (.inl f9))) :: F)  hst hI) (cwV 0 C.2.2.2.2.1 gL_endStorm_X2_endStorm rfl rfl rfl (by decide +kernel) ⟨(Nat.le_of_ble_eq_true rfl), (Nat.le_of_ble_eq_true rfl)⟩) (va_recv C.2.2.2.2.2.2.2.1.1 hO.1 (ci := 2) (q0 := 0) rfl rfl) rfl hl.1 rfl (Nat.le_of_ble_eq_true rfl) dL_endStorm_3 ⟨(Nat.le_of_ble_eq_true rfl), (Nat.le_of_ble_eq_true rfl)⟩ (fun E0 ce q9 H locs hO hcell hcv hcl hbad => ?_) (fun H locs hO hok9 => ?_)
  · obtain ⟨rfl, _⟩ := hbad
    refine gCatch1 C ht (by decide) (by decide) (by decide +kernel) (by decide +kernel) hcell hcv hcl ?_
    refine lv_astore_n (lv' := [(2, .ref q9), (0, .ref (a 0)), (1, .ref o9)]) C.1 C.2.1 dL_endStorm_11 rfl hl (by decide) rfl (fun ls hl => ?_)
    refine lv_iconst (v := 1) C.1 C.2.1 dL_endStorm_12 (by decide) ?_
    exact gRi C hO rfl rfl dL_endStorm_13 (Nat.le_of_ble_eq_true rfl) (Nat.le_of_ble_eq_true rfl)
  · have hok := hok9
    first | exact absurd hok hno | exact absurd hno hok | exact absurd hok.1 hno | exact absurd (And.intro hok.1 hok.2.1) hno | exact absurd hok.2 hno.2 | exact absurd hok.2.2 hno.2.2
set_option maxHeartbeats 4000000 in
set_option maxRecDepth 100000 in
theorem c_L_replay_ok (l : Launch) (E : gE) (a : Nat → Nat) (S : St) (mk rk rv : Nat → Int32) (F : va_W) (o9 : Nat) (f9 : Nat → Int64) (x : Int32) (hst : l.stackTraces = false) (hI : s_inv S) (hok : (okStorm S x ∧ s_on S = 0)) : gMi l E yL_replay wsL_replay ({ frames := 8, cells := 2, slots := 12, locals := 126 }) (xW E a S mk rk rv ++ ((o9, .inl (eL E, 1, .inr (.inl f9))) :: F)) [.ref (a 0), .int x, .ref o9] 0 (xW E a (S_rpl S x) (mk_rpl S x mk) (flF (s_key S) (s_sto S) x rk (s_n S)) (flF (s_val S) (s_sto S) x rv (s_n S)) ++ ((o9, .inl (eL E, 1, .inr (.inl (vp_updL f9 0 (nI (cnt (s_sto S) x (s_n S))).toInt64)))) :: F)) 2 12 := by
  refine gMi.ofW (cc := cL_replay) (maxL := 4) (ty := .int) (by decide) rfl (Nat.le_of_ble_eq_true rfl) ?_
  intro p e s m args below meth c A C ht ls hl hO
  have hl : lv_has ls 4 [(0, .ref (a 0)), (1, .int x), (2, .ref o9)] := hl
  refine lv_aload_n C.1 C.2.1 dL_replay_0 rfl (lv_at hl 2 rfl) ?_
  refine lv_iconst (v := 0) C.1 C.2.1 dL_replay_1 (by decide) ?_
  refine lv_aload_n C.1 C.2.1 dL_replay_2 rfl (lv_at hl 0 rfl) ?_
  refine lv_iload_n C.1 C.2.1 dL_replay_3 rfl (lv_at hl 1 rfl) ?_
  refine gXCall_i (As := [.int x]) (rest := [.int 0, .ref o9]) C hO (c_X2_replay l E a S mk rk rv ((o9, .inl (eL E, 1, .inr (.inl f9))) :: F) x hst hI) (cwV 1 C.2.2.2.2.1 gL_replay_X2_replay rfl rfl rfl (by decide +kernel) ⟨(Nat.le_of_ble_eq_true rfl), (Nat.le_of_ble_eq_true rfl)⟩) (va_recv C.2.2.2.2.2.2.2.1.1 hO.1 (ci := 2) (q0 := 0) rfl rfl) rfl hl.1 rfl (Nat.le_of_ble_eq_true rfl) dL_replay_4 ⟨(Nat.le_of_ble_eq_true rfl), (Nat.le_of_ble_eq_true rfl)⟩ (fun E0 ce q9 H locs hO hcell hcv hcl hbad => ?_) (fun H locs hO hok9 => ?_)
  · rcases hbad with ⟨_, hno⟩ | ⟨_, hno⟩
    · first | exact absurd hok hno | exact absurd hno hok | exact absurd hok.1 hno | exact absurd (And.intro hok.1 hok.2.1) hno | exact absurd hok.2 hno.2 | exact absurd hok.2.2 hno.2.2
    · first | exact absurd hok hno | exact absurd hno hok | exact absurd hok.1 hno | exact absurd (And.intro hok.1 hok.2.1) hno | exact absurd hok.2 hno.2 | exact absurd hok.2.2 hno.2.2
  · refine lv_i2l C.1 C.2.1 dL_replay_7 rfl ?_
    refine gLast C hO dL_replay_8 (fun H locs hO => ?_)
    refine lv_goto (tgt := 18) C.1 C.2.1 dL_replay_9 (by decide) ?_
    refine lv_iconst (v := 0) C.1 C.2.1 dL_replay_18 (by decide) ?_
    exact gRi C hO rfl rfl dL_replay_19 (Nat.le_of_ble_eq_true rfl) (Nat.le_of_ble_eq_true rfl)
set_option maxHeartbeats 4000000 in
set_option maxRecDepth 100000 in
theorem c_L_replay_no1 (l : Launch) (E : gE) (a : Nat → Nat) (S : St) (mk rk rv : Nat → Int32) (F : va_W) (o9 : Nat) (f9 : Nat → Int64) (x : Int32) (hst : l.stackTraces = false) (hI : s_inv S) (hno : ¬ okStorm S x) : gMi l E yL_replay wsL_replay ({ frames := 8, cells := 2, slots := 12, locals := 126 }) (xW E a S mk rk rv ++ ((o9, .inl (eL E, 1, .inr (.inl f9))) :: F)) [.ref (a 0), .int x, .ref o9] 1 (xW E a S mk rk rv ++ ((o9, .inl (eL E, 1, .inr (.inl f9))) :: F)) 2 12 := by
  refine gMi.ofW (cc := cL_replay) (maxL := 4) (ty := .int) (by decide) rfl (Nat.le_of_ble_eq_true rfl) ?_
  intro p e s m args below meth c A C ht ls hl hO
  have hl : lv_has ls 4 [(0, .ref (a 0)), (1, .int x), (2, .ref o9)] := hl
  refine lv_aload_n C.1 C.2.1 dL_replay_0 rfl (lv_at hl 2 rfl) ?_
  refine lv_iconst (v := 0) C.1 C.2.1 dL_replay_1 (by decide) ?_
  refine lv_aload_n C.1 C.2.1 dL_replay_2 rfl (lv_at hl 0 rfl) ?_
  refine lv_iload_n C.1 C.2.1 dL_replay_3 rfl (lv_at hl 1 rfl) ?_
  refine gXCall_i (As := [.int x]) (rest := [.int 0, .ref o9]) C hO (c_X2_replay l E a S mk rk rv ((o9, .inl (eL E, 1, .inr (.inl f9))) :: F) x hst hI) (cwV 1 C.2.2.2.2.1 gL_replay_X2_replay rfl rfl rfl (by decide +kernel) ⟨(Nat.le_of_ble_eq_true rfl), (Nat.le_of_ble_eq_true rfl)⟩) (va_recv C.2.2.2.2.2.2.2.1.1 hO.1 (ci := 2) (q0 := 0) rfl rfl) rfl hl.1 rfl (Nat.le_of_ble_eq_true rfl) dL_replay_4 ⟨(Nat.le_of_ble_eq_true rfl), (Nat.le_of_ble_eq_true rfl)⟩ (fun E0 ce q9 H locs hO hcell hcv hcl hbad => ?_) (fun H locs hO hok9 => ?_)
  · rcases hbad with ⟨rfl, _⟩ | ⟨_, hb9⟩
    · refine gCatch1 C ht (by decide) (by decide) (by decide +kernel) (by decide +kernel) hcell hcv hcl ?_
      refine lv_astore_n (lv' := [(3, .ref q9), (0, .ref (a 0)), (1, .int x), (2, .ref o9)]) C.1 C.2.1 dL_replay_12 rfl hl (by decide) rfl (fun ls hl => ?_)
      refine lv_iconst (v := 1) C.1 C.2.1 dL_replay_13 (by decide) ?_
      exact gRi C hO rfl rfl dL_replay_14 (Nat.le_of_ble_eq_true rfl) (Nat.le_of_ble_eq_true rfl)
    · first | exact absurd hb9.1 hno | exact absurd (And.intro hb9.1 hb9.2.1) hno
  · have hok := hok9
    first | exact absurd hok hno | exact absurd hno hok | exact absurd hok.1 hno | exact absurd (And.intro hok.1 hok.2.1) hno | exact absurd hok.2 hno.2 | exact absurd hok.2.2 hno.2.2
set_option maxHeartbeats 4000000 in
set_option maxRecDepth 100000 in
theorem c_L_replay_no2 (l : Launch) (E : gE) (a : Nat → Nat) (S : St) (mk rk rv : Nat → Int32) (F : va_W) (o9 : Nat) (f9 : Nat → Int64) (x : Int32) (hst : l.stackTraces = false) (hI : s_inv S) (hno : okStorm S x ∧ ¬ s_on S = 0) : gMi l E yL_replay wsL_replay ({ frames := 8, cells := 2, slots := 12, locals := 126 }) (xW E a S mk rk rv ++ ((o9, .inl (eL E, 1, .inr (.inl f9))) :: F)) [.ref (a 0), .int x, .ref o9] 2 (xW E a S mk rk rv ++ ((o9, .inl (eL E, 1, .inr (.inl f9))) :: F)) 2 12 := by
  refine gMi.ofW (cc := cL_replay) (maxL := 4) (ty := .int) (by decide) rfl (Nat.le_of_ble_eq_true rfl) ?_
  intro p e s m args below meth c A C ht ls hl hO
  have hl : lv_has ls 4 [(0, .ref (a 0)), (1, .int x), (2, .ref o9)] := hl
  refine lv_aload_n C.1 C.2.1 dL_replay_0 rfl (lv_at hl 2 rfl) ?_
  refine lv_iconst (v := 0) C.1 C.2.1 dL_replay_1 (by decide) ?_
  refine lv_aload_n C.1 C.2.1 dL_replay_2 rfl (lv_at hl 0 rfl) ?_
  refine lv_iload_n C.1 C.2.1 dL_replay_3 rfl (lv_at hl 1 rfl) ?_
  refine gXCall_i (As := [.int x]) (rest := [.int 0, .ref o9]) C hO (c_X2_replay l E a S mk rk rv ((o9, .inl (eL E, 1, .inr (.inl f9))) :: F) x hst hI) (cwV 1 C.2.2.2.2.1 gL_replay_X2_replay rfl rfl rfl (by decide +kernel) ⟨(Nat.le_of_ble_eq_true rfl), (Nat.le_of_ble_eq_true rfl)⟩) (va_recv C.2.2.2.2.2.2.2.1.1 hO.1 (ci := 2) (q0 := 0) rfl rfl) rfl hl.1 rfl (Nat.le_of_ble_eq_true rfl) dL_replay_4 ⟨(Nat.le_of_ble_eq_true rfl), (Nat.le_of_ble_eq_true rfl)⟩ (fun E0 ce q9 H locs hO hcell hcv hcl hbad => ?_) (fun H locs hO hok9 => ?_)
  · rcases hbad with ⟨_, hb9⟩ | ⟨rfl, _⟩
    · first | exact absurd hno.1 hb9 | exact absurd (And.intro hno.1 hno.2.1) hb9
    · refine gCatch2 (E1 := xIOE) C ht (by decide) (by decide +kernel) (by decide +kernel) (by decide) (by decide) (by decide +kernel) (by decide +kernel) hcell hcv hcl ?_
      refine lv_astore_n (lv' := [(3, .ref q9), (0, .ref (a 0)), (1, .int x), (2, .ref o9)]) C.1 C.2.1 dL_replay_15 rfl hl (by decide) rfl (fun ls hl => ?_)
      refine lv_iconst (v := 2) C.1 C.2.1 dL_replay_16 (by decide) ?_
      exact gRi C hO rfl rfl dL_replay_17 (Nat.le_of_ble_eq_true rfl) (Nat.le_of_ble_eq_true rfl)
  · have hok := hok9
    first | exact absurd hok hno | exact absurd hno hok | exact absurd hok.1 hno | exact absurd (And.intro hok.1 hok.2.1) hno | exact absurd hok.2 hno.2 | exact absurd hok.2.2 hno.2.2
set_option maxHeartbeats 4000000 in
set_option maxRecDepth 100000 in
theorem c_L_trimTo_ok (l : Launch) (E : gE) (a : Nat → Nat) (S : St) (mk rk rv : Nat → Int32) (F : va_W) (o9 : Nat) (f9 : Nat → Int64) (o : Int32) (hst : l.stackTraces = false) (hI : s_inv S) (hok : (okOff S o)) : gMi l E yL_trimTo wsL_trimTo ({ frames := 8, cells := 1, slots := 6, locals := 124 }) (xW E a S mk rk rv ++ ((o9, .inl (eL E, 1, .inr (.inl f9))) :: F)) [.ref (a 0), .int o, .ref o9] 0 (xW E a (S_drop S (gAhead (s_off S) o)) (mkU (gAhead (s_off S) o) mk (s_n S)) rk rv ++ ((o9, .inl (eL E, 1, .inr (.inl (vp_updL f9 0 (nI (s_n S - cpN (gAhead (s_off S) o) (s_n S))).toInt64)))) :: F)) 1 6 := by
  refine gMi.ofW (cc := cL_trimTo) (maxL := 4) (ty := .int) (by decide) rfl (Nat.le_of_ble_eq_true rfl) ?_
  intro p e s m args below meth c A C ht ls hl hO
  have hl : lv_has ls 4 [(0, .ref (a 0)), (1, .int o), (2, .ref o9)] := hl
  refine lv_aload_n C.1 C.2.1 dL_trimTo_0 rfl (lv_at hl 2 rfl) ?_
  refine lv_iconst (v := 0) C.1 C.2.1 dL_trimTo_1 (by decide) ?_
  refine lv_aload_n C.1 C.2.1 dL_trimTo_2 rfl (lv_at hl 0 rfl) ?_
  refine lv_iload_n C.1 C.2.1 dL_trimTo_3 rfl (lv_at hl 1 rfl) ?_
  refine gXCall_i (As := [.int o]) (rest := [.int 0, .ref o9]) C hO (c_X2_trimTo l E a S mk rk rv ((o9, .inl (eL E, 1, .inr (.inl f9))) :: F) o hst hI) (cwV 1 C.2.2.2.2.1 gL_trimTo_X2_trimTo rfl rfl rfl (by decide +kernel) ⟨(Nat.le_of_ble_eq_true rfl), (Nat.le_of_ble_eq_true rfl)⟩) (va_recv C.2.2.2.2.2.2.2.1.1 hO.1 (ci := 2) (q0 := 0) rfl rfl) rfl hl.1 rfl (Nat.le_of_ble_eq_true rfl) dL_trimTo_4 ⟨(Nat.le_of_ble_eq_true rfl), (Nat.le_of_ble_eq_true rfl)⟩ (fun E0 ce q9 H locs hO hcell hcv hcl hbad => ?_) (fun H locs hO hok9 => ?_)
  · obtain ⟨_, hno⟩ := hbad
    first | exact absurd hok hno | exact absurd hno hok | exact absurd hok.1 hno | exact absurd (And.intro hok.1 hok.2.1) hno | exact absurd hok.2 hno.2 | exact absurd hok.2.2 hno.2.2
  · refine lv_i2l C.1 C.2.1 dL_trimTo_7 rfl ?_
    refine gLast C hO dL_trimTo_8 (fun H locs hO => ?_)
    refine lv_goto (tgt := 15) C.1 C.2.1 dL_trimTo_9 (by decide) ?_
    refine lv_iconst (v := 0) C.1 C.2.1 dL_trimTo_15 (by decide) ?_
    exact gRi C hO rfl rfl dL_trimTo_16 (Nat.le_of_ble_eq_true rfl) (Nat.le_of_ble_eq_true rfl)
set_option maxHeartbeats 4000000 in
set_option maxRecDepth 100000 in
theorem c_L_trimTo_no (l : Launch) (E : gE) (a : Nat → Nat) (S : St) (mk rk rv : Nat → Int32) (F : va_W) (o9 : Nat) (f9 : Nat → Int64) (o : Int32) (hst : l.stackTraces = false) (hI : s_inv S) (hno : ¬ okOff S o) : gMi l E yL_trimTo wsL_trimTo ({ frames := 8, cells := 1, slots := 6, locals := 124 }) (xW E a S mk rk rv ++ ((o9, .inl (eL E, 1, .inr (.inl f9))) :: F)) [.ref (a 0), .int o, .ref o9] 1 (xW E a S mk rk rv ++ ((o9, .inl (eL E, 1, .inr (.inl f9))) :: F)) 1 6 := by
  refine gMi.ofW (cc := cL_trimTo) (maxL := 4) (ty := .int) (by decide) rfl (Nat.le_of_ble_eq_true rfl) ?_
  intro p e s m args below meth c A C ht ls hl hO
  have hl : lv_has ls 4 [(0, .ref (a 0)), (1, .int o), (2, .ref o9)] := hl
  refine lv_aload_n C.1 C.2.1 dL_trimTo_0 rfl (lv_at hl 2 rfl) ?_
  refine lv_iconst (v := 0) C.1 C.2.1 dL_trimTo_1 (by decide) ?_
  refine lv_aload_n C.1 C.2.1 dL_trimTo_2 rfl (lv_at hl 0 rfl) ?_
  refine lv_iload_n C.1 C.2.1 dL_trimTo_3 rfl (lv_at hl 1 rfl) ?_
  refine gXCall_i (As := [.int o]) (rest := [.int 0, .ref o9]) C hO (c_X2_trimTo l E a S mk rk rv ((o9, .inl (eL E, 1, .inr (.inl f9))) :: F) o hst hI) (cwV 1 C.2.2.2.2.1 gL_trimTo_X2_trimTo rfl rfl rfl (by decide +kernel) ⟨(Nat.le_of_ble_eq_true rfl), (Nat.le_of_ble_eq_true rfl)⟩) (va_recv C.2.2.2.2.2.2.2.1.1 hO.1 (ci := 2) (q0 := 0) rfl rfl) rfl hl.1 rfl (Nat.le_of_ble_eq_true rfl) dL_trimTo_4 ⟨(Nat.le_of_ble_eq_true rfl), (Nat.le_of_ble_eq_true rfl)⟩ (fun E0 ce q9 H locs hO hcell hcv hcl hbad => ?_) (fun H locs hO hok9 => ?_)
  · obtain ⟨rfl, _⟩ := hbad
    refine gCatch1 C ht (by decide) (by decide) (by decide +kernel) (by decide +kernel) hcell hcv hcl ?_
    refine lv_astore_n (lv' := [(3, .ref q9), (0, .ref (a 0)), (1, .int o), (2, .ref o9)]) C.1 C.2.1 dL_trimTo_12 rfl hl (by decide) rfl (fun ls hl => ?_)
    refine lv_iconst (v := 1) C.1 C.2.1 dL_trimTo_13 (by decide) ?_
    exact gRi C hO rfl rfl dL_trimTo_14 (Nat.le_of_ble_eq_true rfl) (Nat.le_of_ble_eq_true rfl)
  · have hok := hok9
    first | exact absurd hok hno | exact absurd hno hok | exact absurd hok.1 hno | exact absurd (And.intro hok.1 hok.2.1) hno | exact absurd hok.2 hno.2 | exact absurd hok.2.2 hno.2.2
set_option maxHeartbeats 4000000 in
set_option maxRecDepth 100000 in
theorem c_L_addShip_ok (l : Launch) (E : gE) (a : Nat → Nat) (S : St) (mk rk rv : Nat → Int32) (F : va_W) (o9 : Nat) (f9 : Nat → Int64) (q o : Int32) (hst : l.stackTraces = false) (hI : s_inv S) (hok : (okPace q ∧ okOff S o ∧ s_sh S < 6)) : gMi l E yL_addShip wsL_addShip ({ frames := 8, cells := 2, slots := 12, locals := 126 }) (xW E a S mk rk rv ++ ((o9, .inl (eL E, 1, .inr (.inl f9))) :: F)) [.ref (a 0), .int q, .int o, .ref o9] 0 (xW E a (S_ship S q o) mk rk rv ++ ((o9, .inl (eL E, 1, .inr (.inl (vp_updL f9 0 (nI (s_sh S)).toInt64)))) :: F)) 2 12 := by
  refine gMi.ofW (cc := cL_addShip) (maxL := 5) (ty := .int) (by decide) rfl (Nat.le_of_ble_eq_true rfl) ?_
  intro p e s m args below meth c A C ht ls hl hO
  have hl : lv_has ls 5 [(0, .ref (a 0)), (1, .int q), (2, .int o), (3, .ref o9)] := hl
  refine lv_aload_n C.1 C.2.1 dL_addShip_0 rfl (lv_at hl 3 rfl) ?_
  refine lv_iconst (v := 0) C.1 C.2.1 dL_addShip_1 (by decide) ?_
  refine lv_aload_n C.1 C.2.1 dL_addShip_2 rfl (lv_at hl 0 rfl) ?_
  refine lv_iload_n C.1 C.2.1 dL_addShip_3 rfl (lv_at hl 1 rfl) ?_
  refine lv_iload_n C.1 C.2.1 dL_addShip_4 rfl (lv_at hl 2 rfl) ?_
  refine gXCall_i (As := [.int q, .int o]) (rest := [.int 0, .ref o9]) C hO (c_X2_addShip l E a S mk rk rv ((o9, .inl (eL E, 1, .inr (.inl f9))) :: F) q o hst hI) (cwV 2 C.2.2.2.2.1 gL_addShip_X2_addShip rfl rfl rfl (by decide +kernel) ⟨(Nat.le_of_ble_eq_true rfl), (Nat.le_of_ble_eq_true rfl)⟩) (va_recv C.2.2.2.2.2.2.2.1.1 hO.1 (ci := 2) (q0 := 0) rfl rfl) rfl hl.1 rfl (Nat.le_of_ble_eq_true rfl) dL_addShip_5 ⟨(Nat.le_of_ble_eq_true rfl), (Nat.le_of_ble_eq_true rfl)⟩ (fun E0 ce q9 H locs hO hcell hcv hcl hbad => ?_) (fun H locs hO hok9 => ?_)
  · rcases hbad with ⟨_, hno⟩ | ⟨_, hno⟩
    · first | exact absurd hok hno | exact absurd hno hok | exact absurd hok.1 hno | exact absurd (And.intro hok.1 hok.2.1) hno | exact absurd hok.2 hno.2 | exact absurd hok.2.2 hno.2.2
    · first | exact absurd hok hno | exact absurd hno hok | exact absurd hok.1 hno | exact absurd (And.intro hok.1 hok.2.1) hno | exact absurd hok.2 hno.2 | exact absurd hok.2.2 hno.2.2
  · refine lv_i2l C.1 C.2.1 dL_addShip_8 rfl ?_
    refine gLast C hO dL_addShip_9 (fun H locs hO => ?_)
    refine lv_goto (tgt := 21) C.1 C.2.1 dL_addShip_10 (by decide) ?_
    refine lv_iconst (v := 0) C.1 C.2.1 dL_addShip_21 (by decide) ?_
    exact gRi C hO rfl rfl dL_addShip_22 (Nat.le_of_ble_eq_true rfl) (Nat.le_of_ble_eq_true rfl)
set_option maxHeartbeats 4000000 in
set_option maxRecDepth 100000 in
theorem c_L_addShip_no1 (l : Launch) (E : gE) (a : Nat → Nat) (S : St) (mk rk rv : Nat → Int32) (F : va_W) (o9 : Nat) (f9 : Nat → Int64) (q o : Int32) (hst : l.stackTraces = false) (hI : s_inv S) (hno : ¬ (okPace q ∧ okOff S o)) : gMi l E yL_addShip wsL_addShip ({ frames := 8, cells := 2, slots := 12, locals := 126 }) (xW E a S mk rk rv ++ ((o9, .inl (eL E, 1, .inr (.inl f9))) :: F)) [.ref (a 0), .int q, .int o, .ref o9] 1 (xW E a S mk rk rv ++ ((o9, .inl (eL E, 1, .inr (.inl f9))) :: F)) 2 12 := by
  refine gMi.ofW (cc := cL_addShip) (maxL := 5) (ty := .int) (by decide) rfl (Nat.le_of_ble_eq_true rfl) ?_
  intro p e s m args below meth c A C ht ls hl hO
  have hl : lv_has ls 5 [(0, .ref (a 0)), (1, .int q), (2, .int o), (3, .ref o9)] := hl
  refine lv_aload_n C.1 C.2.1 dL_addShip_0 rfl (lv_at hl 3 rfl) ?_
  refine lv_iconst (v := 0) C.1 C.2.1 dL_addShip_1 (by decide) ?_
  refine lv_aload_n C.1 C.2.1 dL_addShip_2 rfl (lv_at hl 0 rfl) ?_
  refine lv_iload_n C.1 C.2.1 dL_addShip_3 rfl (lv_at hl 1 rfl) ?_
  refine lv_iload_n C.1 C.2.1 dL_addShip_4 rfl (lv_at hl 2 rfl) ?_
  refine gXCall_i (As := [.int q, .int o]) (rest := [.int 0, .ref o9]) C hO (c_X2_addShip l E a S mk rk rv ((o9, .inl (eL E, 1, .inr (.inl f9))) :: F) q o hst hI) (cwV 2 C.2.2.2.2.1 gL_addShip_X2_addShip rfl rfl rfl (by decide +kernel) ⟨(Nat.le_of_ble_eq_true rfl), (Nat.le_of_ble_eq_true rfl)⟩) (va_recv C.2.2.2.2.2.2.2.1.1 hO.1 (ci := 2) (q0 := 0) rfl rfl) rfl hl.1 rfl (Nat.le_of_ble_eq_true rfl) dL_addShip_5 ⟨(Nat.le_of_ble_eq_true rfl), (Nat.le_of_ble_eq_true rfl)⟩ (fun E0 ce q9 H locs hO hcell hcv hcl hbad => ?_) (fun H locs hO hok9 => ?_)
  · rcases hbad with ⟨rfl, _⟩ | ⟨_, hb9⟩
    · refine gCatch1 C ht (by decide) (by decide) (by decide +kernel) (by decide +kernel) hcell hcv hcl ?_
      refine lv_astore (lv' := [(4, .ref q9), (0, .ref (a 0)), (1, .int q), (2, .int o), (3, .ref o9)]) C.1 C.2.1 dL_addShip_13 hl (by decide) rfl (fun ls hl => ?_)
      refine lv_iconst (v := 1) C.1 C.2.1 dL_addShip_15 (by decide) ?_
      exact gRi C hO rfl rfl dL_addShip_16 (Nat.le_of_ble_eq_true rfl) (Nat.le_of_ble_eq_true rfl)
    · first | exact absurd hb9.1 hno | exact absurd (And.intro hb9.1 hb9.2.1) hno
  · have hok := hok9
    first | exact absurd hok hno | exact absurd hno hok | exact absurd hok.1 hno | exact absurd (And.intro hok.1 hok.2.1) hno | exact absurd hok.2 hno.2 | exact absurd hok.2.2 hno.2.2
set_option maxHeartbeats 4000000 in
set_option maxRecDepth 100000 in
theorem c_L_addShip_no2 (l : Launch) (E : gE) (a : Nat → Nat) (S : St) (mk rk rv : Nat → Int32) (F : va_W) (o9 : Nat) (f9 : Nat → Int64) (q o : Int32) (hst : l.stackTraces = false) (hI : s_inv S) (hno : okPace q ∧ okOff S o ∧ ¬ s_sh S < 6) : gMi l E yL_addShip wsL_addShip ({ frames := 8, cells := 2, slots := 12, locals := 126 }) (xW E a S mk rk rv ++ ((o9, .inl (eL E, 1, .inr (.inl f9))) :: F)) [.ref (a 0), .int q, .int o, .ref o9] 2 (xW E a S mk rk rv ++ ((o9, .inl (eL E, 1, .inr (.inl f9))) :: F)) 2 12 := by
  refine gMi.ofW (cc := cL_addShip) (maxL := 5) (ty := .int) (by decide) rfl (Nat.le_of_ble_eq_true rfl) ?_
  intro p e s m args below meth c A C ht ls hl hO
  have hl : lv_has ls 5 [(0, .ref (a 0)), (1, .int q), (2, .int o), (3, .ref o9)] := hl
  refine lv_aload_n C.1 C.2.1 dL_addShip_0 rfl (lv_at hl 3 rfl) ?_
  refine lv_iconst (v := 0) C.1 C.2.1 dL_addShip_1 (by decide) ?_
  refine lv_aload_n C.1 C.2.1 dL_addShip_2 rfl (lv_at hl 0 rfl) ?_
  refine lv_iload_n C.1 C.2.1 dL_addShip_3 rfl (lv_at hl 1 rfl) ?_
  refine lv_iload_n C.1 C.2.1 dL_addShip_4 rfl (lv_at hl 2 rfl) ?_
  refine gXCall_i (As := [.int q, .int o]) (rest := [.int 0, .ref o9]) C hO (c_X2_addShip l E a S mk rk rv ((o9, .inl (eL E, 1, .inr (.inl f9))) :: F) q o hst hI) (cwV 2 C.2.2.2.2.1 gL_addShip_X2_addShip rfl rfl rfl (by decide +kernel) ⟨(Nat.le_of_ble_eq_true rfl), (Nat.le_of_ble_eq_true rfl)⟩) (va_recv C.2.2.2.2.2.2.2.1.1 hO.1 (ci := 2) (q0 := 0) rfl rfl) rfl hl.1 rfl (Nat.le_of_ble_eq_true rfl) dL_addShip_5 ⟨(Nat.le_of_ble_eq_true rfl), (Nat.le_of_ble_eq_true rfl)⟩ (fun E0 ce q9 H locs hO hcell hcv hcl hbad => ?_) (fun H locs hO hok9 => ?_)
  · rcases hbad with ⟨_, hb9⟩ | ⟨rfl, _⟩
    · first | exact absurd hno.1 hb9 | exact absurd (And.intro hno.1 hno.2.1) hb9
    · refine gCatch2 (E1 := xIAE) C ht (by decide) (by decide +kernel) (by decide +kernel) (by decide) (by decide) (by decide +kernel) (by decide +kernel) hcell hcv hcl ?_
      refine lv_astore (lv' := [(4, .ref q9), (0, .ref (a 0)), (1, .int q), (2, .int o), (3, .ref o9)]) C.1 C.2.1 dL_addShip_17 hl (by decide) rfl (fun ls hl => ?_)
      refine lv_iconst (v := 2) C.1 C.2.1 dL_addShip_19 (by decide) ?_
      exact gRi C hO rfl rfl dL_addShip_20 (Nat.le_of_ble_eq_true rfl) (Nat.le_of_ble_eq_true rfl)
  · have hok := hok9
    first | exact absurd hok hno | exact absurd hno hok | exact absurd hok.1 hno | exact absurd (And.intro hok.1 hok.2.1) hno | exact absurd hok.2 hno.2 | exact absurd hok.2.2 hno.2.2
set_option maxHeartbeats 4000000 in
set_option maxRecDepth 100000 in
theorem c_L_seek_ok (l : Launch) (E : gE) (a : Nat → Nat) (S : St) (mk rk rv : Nat → Int32) (F : va_W) (o9 : Nat) (f9 : Nat → Int64) (x o : Int32) (hst : l.stackTraces = false) (hI : s_inv S) (hok : (okShip S x ∧ okOff S o)) : gMi l E yL_seek wsL_seek ({ frames := 8, cells := 2, slots := 12, locals := 127 }) (xW E a S mk rk rv ++ ((o9, .inl (eL E, 1, .inr (.inl f9))) :: F)) [.ref (a 0), .int x, .int o, .ref o9] 0 (xW E a (S_at S (upd (s_at S) x.toNatClampNeg o)) mk rk rv ++ ((o9, .inl (eL E, 1, .inr (.inl (vp_updL f9 0 (s_at S x.toNatClampNeg).toInt64)))) :: F)) 2 12 := by
  refine gMi.ofW (cc := cL_seek) (maxL := 5) (ty := .int) (by decide) rfl (Nat.le_of_ble_eq_true rfl) ?_
  intro p e s m args below meth c A C ht ls hl hO
  have hl : lv_has ls 5 [(0, .ref (a 0)), (1, .int x), (2, .int o), (3, .ref o9)] := hl
  refine lv_aload_n C.1 C.2.1 dL_seek_0 rfl (lv_at hl 3 rfl) ?_
  refine lv_iconst (v := 0) C.1 C.2.1 dL_seek_1 (by decide) ?_
  refine lv_aload_n C.1 C.2.1 dL_seek_2 rfl (lv_at hl 0 rfl) ?_
  refine lv_iload_n C.1 C.2.1 dL_seek_3 rfl (lv_at hl 1 rfl) ?_
  refine lv_iload_n C.1 C.2.1 dL_seek_4 rfl (lv_at hl 2 rfl) ?_
  refine gXCall_i (As := [.int x, .int o]) (rest := [.int 0, .ref o9]) C hO (c_X2_seek l E a S mk rk rv ((o9, .inl (eL E, 1, .inr (.inl f9))) :: F) x o hst hI) (cwV 2 C.2.2.2.2.1 gL_seek_X2_seek rfl rfl rfl (by decide +kernel) ⟨(Nat.le_of_ble_eq_true rfl), (Nat.le_of_ble_eq_true rfl)⟩) (va_recv C.2.2.2.2.2.2.2.1.1 hO.1 (ci := 2) (q0 := 0) rfl rfl) rfl hl.1 rfl (Nat.le_of_ble_eq_true rfl) dL_seek_5 ⟨(Nat.le_of_ble_eq_true rfl), (Nat.le_of_ble_eq_true rfl)⟩ (fun E0 ce q9 H locs hO hcell hcv hcl hbad => ?_) (fun H locs hO hok9 => ?_)
  · rcases hbad with ⟨_, hno⟩ | ⟨_, hno⟩
    · first | exact absurd hok hno | exact absurd hno hok | exact absurd hok.1 hno | exact absurd (And.intro hok.1 hok.2.1) hno | exact absurd hok.2 hno.2 | exact absurd hok.2.2 hno.2.2
    · first | exact absurd hok hno | exact absurd hno hok | exact absurd hok.1 hno | exact absurd (And.intro hok.1 hok.2.1) hno | exact absurd hok.2 hno.2 | exact absurd hok.2.2 hno.2.2
  · refine lv_i2l C.1 C.2.1 dL_seek_8 rfl ?_
    refine gLast C hO dL_seek_9 (fun H locs hO => ?_)
    refine lv_goto (tgt := 21) C.1 C.2.1 dL_seek_10 (by decide) ?_
    refine lv_iconst (v := 0) C.1 C.2.1 dL_seek_21 (by decide) ?_
    exact gRi C hO rfl rfl dL_seek_22 (Nat.le_of_ble_eq_true rfl) (Nat.le_of_ble_eq_true rfl)
set_option maxHeartbeats 4000000 in
set_option maxRecDepth 100000 in
theorem c_L_seek_no1 (l : Launch) (E : gE) (a : Nat → Nat) (S : St) (mk rk rv : Nat → Int32) (F : va_W) (o9 : Nat) (f9 : Nat → Int64) (x o : Int32) (hst : l.stackTraces = false) (hI : s_inv S) (hno : ¬ okShip S x) : gMi l E yL_seek wsL_seek ({ frames := 8, cells := 2, slots := 12, locals := 127 }) (xW E a S mk rk rv ++ ((o9, .inl (eL E, 1, .inr (.inl f9))) :: F)) [.ref (a 0), .int x, .int o, .ref o9] 1 (xW E a S mk rk rv ++ ((o9, .inl (eL E, 1, .inr (.inl f9))) :: F)) 2 12 := by
  refine gMi.ofW (cc := cL_seek) (maxL := 5) (ty := .int) (by decide) rfl (Nat.le_of_ble_eq_true rfl) ?_
  intro p e s m args below meth c A C ht ls hl hO
  have hl : lv_has ls 5 [(0, .ref (a 0)), (1, .int x), (2, .int o), (3, .ref o9)] := hl
  refine lv_aload_n C.1 C.2.1 dL_seek_0 rfl (lv_at hl 3 rfl) ?_
  refine lv_iconst (v := 0) C.1 C.2.1 dL_seek_1 (by decide) ?_
  refine lv_aload_n C.1 C.2.1 dL_seek_2 rfl (lv_at hl 0 rfl) ?_
  refine lv_iload_n C.1 C.2.1 dL_seek_3 rfl (lv_at hl 1 rfl) ?_
  refine lv_iload_n C.1 C.2.1 dL_seek_4 rfl (lv_at hl 2 rfl) ?_
  refine gXCall_i (As := [.int x, .int o]) (rest := [.int 0, .ref o9]) C hO (c_X2_seek l E a S mk rk rv ((o9, .inl (eL E, 1, .inr (.inl f9))) :: F) x o hst hI) (cwV 2 C.2.2.2.2.1 gL_seek_X2_seek rfl rfl rfl (by decide +kernel) ⟨(Nat.le_of_ble_eq_true rfl), (Nat.le_of_ble_eq_true rfl)⟩) (va_recv C.2.2.2.2.2.2.2.1.1 hO.1 (ci := 2) (q0 := 0) rfl rfl) rfl hl.1 rfl (Nat.le_of_ble_eq_true rfl) dL_seek_5 ⟨(Nat.le_of_ble_eq_true rfl), (Nat.le_of_ble_eq_true rfl)⟩ (fun E0 ce q9 H locs hO hcell hcv hcl hbad => ?_) (fun H locs hO hok9 => ?_)
  · rcases hbad with ⟨rfl, _⟩ | ⟨_, hb9⟩
    · refine gCatch1 C ht (by decide) (by decide) (by decide +kernel) (by decide +kernel) hcell hcv hcl ?_
      refine lv_astore (lv' := [(4, .ref q9), (0, .ref (a 0)), (1, .int x), (2, .int o), (3, .ref o9)]) C.1 C.2.1 dL_seek_13 hl (by decide) rfl (fun ls hl => ?_)
      refine lv_iconst (v := 1) C.1 C.2.1 dL_seek_15 (by decide) ?_
      exact gRi C hO rfl rfl dL_seek_16 (Nat.le_of_ble_eq_true rfl) (Nat.le_of_ble_eq_true rfl)
    · first | exact absurd hb9.1 hno | exact absurd (And.intro hb9.1 hb9.2.1) hno
  · have hok := hok9
    first | exact absurd hok hno | exact absurd hno hok | exact absurd hok.1 hno | exact absurd (And.intro hok.1 hok.2.1) hno | exact absurd hok.2 hno.2 | exact absurd hok.2.2 hno.2.2
set_option maxHeartbeats 4000000 in
set_option maxRecDepth 100000 in
theorem c_L_seek_no2 (l : Launch) (E : gE) (a : Nat → Nat) (S : St) (mk rk rv : Nat → Int32) (F : va_W) (o9 : Nat) (f9 : Nat → Int64) (x o : Int32) (hst : l.stackTraces = false) (hI : s_inv S) (hno : okShip S x ∧ ¬ okOff S o) : gMi l E yL_seek wsL_seek ({ frames := 8, cells := 2, slots := 12, locals := 127 }) (xW E a S mk rk rv ++ ((o9, .inl (eL E, 1, .inr (.inl f9))) :: F)) [.ref (a 0), .int x, .int o, .ref o9] 2 (xW E a S mk rk rv ++ ((o9, .inl (eL E, 1, .inr (.inl f9))) :: F)) 2 12 := by
  refine gMi.ofW (cc := cL_seek) (maxL := 5) (ty := .int) (by decide) rfl (Nat.le_of_ble_eq_true rfl) ?_
  intro p e s m args below meth c A C ht ls hl hO
  have hl : lv_has ls 5 [(0, .ref (a 0)), (1, .int x), (2, .int o), (3, .ref o9)] := hl
  refine lv_aload_n C.1 C.2.1 dL_seek_0 rfl (lv_at hl 3 rfl) ?_
  refine lv_iconst (v := 0) C.1 C.2.1 dL_seek_1 (by decide) ?_
  refine lv_aload_n C.1 C.2.1 dL_seek_2 rfl (lv_at hl 0 rfl) ?_
  refine lv_iload_n C.1 C.2.1 dL_seek_3 rfl (lv_at hl 1 rfl) ?_
  refine lv_iload_n C.1 C.2.1 dL_seek_4 rfl (lv_at hl 2 rfl) ?_
  refine gXCall_i (As := [.int x, .int o]) (rest := [.int 0, .ref o9]) C hO (c_X2_seek l E a S mk rk rv ((o9, .inl (eL E, 1, .inr (.inl f9))) :: F) x o hst hI) (cwV 2 C.2.2.2.2.1 gL_seek_X2_seek rfl rfl rfl (by decide +kernel) ⟨(Nat.le_of_ble_eq_true rfl), (Nat.le_of_ble_eq_true rfl)⟩) (va_recv C.2.2.2.2.2.2.2.1.1 hO.1 (ci := 2) (q0 := 0) rfl rfl) rfl hl.1 rfl (Nat.le_of_ble_eq_true rfl) dL_seek_5 ⟨(Nat.le_of_ble_eq_true rfl), (Nat.le_of_ble_eq_true rfl)⟩ (fun E0 ce q9 H locs hO hcell hcv hcl hbad => ?_) (fun H locs hO hok9 => ?_)
  · rcases hbad with ⟨_, hb9⟩ | ⟨rfl, _⟩
    · first | exact absurd hno.1 hb9 | exact absurd (And.intro hno.1 hno.2.1) hb9
    · refine gCatch2 (E1 := xIOE) C ht (by decide) (by decide +kernel) (by decide +kernel) (by decide) (by decide) (by decide +kernel) (by decide +kernel) hcell hcv hcl ?_
      refine lv_astore (lv' := [(4, .ref q9), (0, .ref (a 0)), (1, .int x), (2, .int o), (3, .ref o9)]) C.1 C.2.1 dL_seek_17 hl (by decide) rfl (fun ls hl => ?_)
      refine lv_iconst (v := 2) C.1 C.2.1 dL_seek_19 (by decide) ?_
      exact gRi C hO rfl rfl dL_seek_20 (Nat.le_of_ble_eq_true rfl) (Nat.le_of_ble_eq_true rfl)
  · have hok := hok9
    first | exact absurd hok hno | exact absurd hno hok | exact absurd hok.1 hno | exact absurd (And.intro hok.1 hok.2.1) hno | exact absurd hok.2 hno.2 | exact absurd hok.2.2 hno.2.2
set_option maxHeartbeats 4000000 in
set_option maxRecDepth 100000 in
theorem c_L_passHours_ok (l : Launch) (E : gE) (a : Nat → Nat) (S : St) (mk rk rv : Nat → Int32) (F : va_W) (o9 : Nat) (f9 : Nat → Int64) (h : Int32) (hst : l.stackTraces = false) (hI : s_inv S) (hok : (okHours h)) : gMi l E yL_passHours wsL_passHours ({ frames := 8, cells := 1, slots := 6, locals := 125 }) (xW E a S mk rk rv ++ ((o9, .inl (eL E, 1, .inr (.inl f9))) :: F)) [.ref (a 0), .int h, .ref o9] 0 (xW E a (S_pass S h) mk rk rv ++ ((o9, .inl (eL E, 1, .inr (.inl (vp_updL f9 0 (nI (s_ph S (h.toNatClampNeg) (s_sh S))).toInt64)))) :: F)) 1 6 := by
  refine gMi.ofW (cc := cL_passHours) (maxL := 4) (ty := .int) (by decide) rfl (Nat.le_of_ble_eq_true rfl) ?_
  intro p e s m args below meth c A C ht ls hl hO
  have hl : lv_has ls 4 [(0, .ref (a 0)), (1, .int h), (2, .ref o9)] := hl
  refine lv_aload_n C.1 C.2.1 dL_passHours_0 rfl (lv_at hl 2 rfl) ?_
  refine lv_iconst (v := 0) C.1 C.2.1 dL_passHours_1 (by decide) ?_
  refine lv_aload_n C.1 C.2.1 dL_passHours_2 rfl (lv_at hl 0 rfl) ?_
  refine lv_iload_n C.1 C.2.1 dL_passHours_3 rfl (lv_at hl 1 rfl) ?_
  refine gXCall_i (As := [.int h]) (rest := [.int 0, .ref o9]) C hO (c_X2_passHours l E a S mk rk rv ((o9, .inl (eL E, 1, .inr (.inl f9))) :: F) h hst hI) (cwV 1 C.2.2.2.2.1 gL_passHours_X2_passHours rfl rfl rfl (by decide +kernel) ⟨(Nat.le_of_ble_eq_true rfl), (Nat.le_of_ble_eq_true rfl)⟩) (va_recv C.2.2.2.2.2.2.2.1.1 hO.1 (ci := 2) (q0 := 0) rfl rfl) rfl hl.1 rfl (Nat.le_of_ble_eq_true rfl) dL_passHours_4 ⟨(Nat.le_of_ble_eq_true rfl), (Nat.le_of_ble_eq_true rfl)⟩ (fun E0 ce q9 H locs hO hcell hcv hcl hbad => ?_) (fun H locs hO hok9 => ?_)
  · obtain ⟨_, hno⟩ := hbad
    first | exact absurd hok hno | exact absurd hno hok | exact absurd hok.1 hno | exact absurd (And.intro hok.1 hok.2.1) hno | exact absurd hok.2 hno.2 | exact absurd hok.2.2 hno.2.2
  · refine lv_i2l C.1 C.2.1 dL_passHours_7 rfl ?_
    refine gLast C hO dL_passHours_8 (fun H locs hO => ?_)
    refine lv_goto (tgt := 15) C.1 C.2.1 dL_passHours_9 (by decide) ?_
    refine lv_iconst (v := 0) C.1 C.2.1 dL_passHours_15 (by decide) ?_
    exact gRi C hO rfl rfl dL_passHours_16 (Nat.le_of_ble_eq_true rfl) (Nat.le_of_ble_eq_true rfl)
set_option maxHeartbeats 4000000 in
set_option maxRecDepth 100000 in
theorem c_L_passHours_no (l : Launch) (E : gE) (a : Nat → Nat) (S : St) (mk rk rv : Nat → Int32) (F : va_W) (o9 : Nat) (f9 : Nat → Int64) (h : Int32) (hst : l.stackTraces = false) (hI : s_inv S) (hno : ¬ okHours h) : gMi l E yL_passHours wsL_passHours ({ frames := 8, cells := 1, slots := 6, locals := 125 }) (xW E a S mk rk rv ++ ((o9, .inl (eL E, 1, .inr (.inl f9))) :: F)) [.ref (a 0), .int h, .ref o9] 1 (xW E a S mk rk rv ++ ((o9, .inl (eL E, 1, .inr (.inl f9))) :: F)) 1 6 := by
  refine gMi.ofW (cc := cL_passHours) (maxL := 4) (ty := .int) (by decide) rfl (Nat.le_of_ble_eq_true rfl) ?_
  intro p e s m args below meth c A C ht ls hl hO
  have hl : lv_has ls 4 [(0, .ref (a 0)), (1, .int h), (2, .ref o9)] := hl
  refine lv_aload_n C.1 C.2.1 dL_passHours_0 rfl (lv_at hl 2 rfl) ?_
  refine lv_iconst (v := 0) C.1 C.2.1 dL_passHours_1 (by decide) ?_
  refine lv_aload_n C.1 C.2.1 dL_passHours_2 rfl (lv_at hl 0 rfl) ?_
  refine lv_iload_n C.1 C.2.1 dL_passHours_3 rfl (lv_at hl 1 rfl) ?_
  refine gXCall_i (As := [.int h]) (rest := [.int 0, .ref o9]) C hO (c_X2_passHours l E a S mk rk rv ((o9, .inl (eL E, 1, .inr (.inl f9))) :: F) h hst hI) (cwV 1 C.2.2.2.2.1 gL_passHours_X2_passHours rfl rfl rfl (by decide +kernel) ⟨(Nat.le_of_ble_eq_true rfl), (Nat.le_of_ble_eq_true rfl)⟩) (va_recv C.2.2.2.2.2.2.2.1.1 hO.1 (ci := 2) (q0 := 0) rfl rfl) rfl hl.1 rfl (Nat.le_of_ble_eq_true rfl) dL_passHours_4 ⟨(Nat.le_of_ble_eq_true rfl), (Nat.le_of_ble_eq_true rfl)⟩ (fun E0 ce q9 H locs hO hcell hcv hcl hbad => ?_) (fun H locs hO hok9 => ?_)
  · obtain ⟨rfl, _⟩ := hbad
    refine gCatch1 C ht (by decide) (by decide) (by decide +kernel) (by decide +kernel) hcell hcv hcl ?_
    refine lv_astore_n (lv' := [(3, .ref q9), (0, .ref (a 0)), (1, .int h), (2, .ref o9)]) C.1 C.2.1 dL_passHours_12 rfl hl (by decide) rfl (fun ls hl => ?_)
    refine lv_iconst (v := 1) C.1 C.2.1 dL_passHours_13 (by decide) ?_
    exact gRi C hO rfl rfl dL_passHours_14 (Nat.le_of_ble_eq_true rfl) (Nat.le_of_ble_eq_true rfl)
  · have hok := hok9
    first | exact absurd hok hno | exact absurd hno hok | exact absurd hok.1 hno | exact absurd (And.intro hok.1 hok.2.1) hno | exact absurd hok.2 hno.2 | exact absurd hok.2.2 hno.2.2
set_option maxHeartbeats 4000000 in
set_option maxRecDepth 100000 in
theorem c_L_keyAt_ok (l : Launch) (E : gE) (a : Nat → Nat) (S : St) (mk rk rv : Nat → Int32) (F : va_W) (o9 : Nat) (f9 : Nat → Int64) (o : Int32) (hst : l.stackTraces = false) (hI : s_inv S) (hok : (s_po S o ≠ none)) : gMi l E yL_keyAt wsL_keyAt ({ frames := 8, cells := 1, slots := 6, locals := 125 }) (xW E a S mk rk rv ++ ((o9, .inl (eL E, 1, .inr (.inl f9))) :: F)) [.ref (a 0), .int o, .ref o9] 0 (xW E a S mk rk rv ++ ((o9, .inl (eL E, 1, .inr (.inl (vp_updL f9 0 (s_ka S (s_key S) o).toInt64)))) :: F)) 1 6 := by
  refine gMi.ofW (cc := cL_keyAt) (maxL := 4) (ty := .int) (by decide) rfl (Nat.le_of_ble_eq_true rfl) ?_
  intro p e s m args below meth c A C ht ls hl hO
  have hl : lv_has ls 4 [(0, .ref (a 0)), (1, .int o), (2, .ref o9)] := hl
  refine lv_aload_n C.1 C.2.1 dL_keyAt_0 rfl (lv_at hl 2 rfl) ?_
  refine lv_iconst (v := 0) C.1 C.2.1 dL_keyAt_1 (by decide) ?_
  refine lv_aload_n C.1 C.2.1 dL_keyAt_2 rfl (lv_at hl 0 rfl) ?_
  refine lv_iload_n C.1 C.2.1 dL_keyAt_3 rfl (lv_at hl 1 rfl) ?_
  refine gXCall_i (As := [.int o]) (rest := [.int 0, .ref o9]) C hO (c_X2_keyAt l E a S mk rk rv ((o9, .inl (eL E, 1, .inr (.inl f9))) :: F) o hst hI) (cwV 1 C.2.2.2.2.1 gL_keyAt_X2_keyAt rfl rfl rfl (by decide +kernel) ⟨(Nat.le_of_ble_eq_true rfl), (Nat.le_of_ble_eq_true rfl)⟩) (va_recv C.2.2.2.2.2.2.2.1.1 hO.1 (ci := 2) (q0 := 0) rfl rfl) rfl hl.1 rfl (Nat.le_of_ble_eq_true rfl) dL_keyAt_4 ⟨(Nat.le_of_ble_eq_true rfl), (Nat.le_of_ble_eq_true rfl)⟩ (fun E0 ce q9 H locs hO hcell hcv hcl hbad => ?_) (fun H locs hO hok9 => ?_)
  · obtain ⟨_, hno⟩ := hbad
    first | exact absurd hok hno | exact absurd hno hok | exact absurd hok.1 hno | exact absurd (And.intro hok.1 hok.2.1) hno | exact absurd hok.2 hno.2 | exact absurd hok.2.2 hno.2.2
  · refine lv_i2l C.1 C.2.1 dL_keyAt_7 rfl ?_
    refine gLast C hO dL_keyAt_8 (fun H locs hO => ?_)
    refine lv_goto (tgt := 15) C.1 C.2.1 dL_keyAt_9 (by decide) ?_
    refine lv_iconst (v := 0) C.1 C.2.1 dL_keyAt_15 (by decide) ?_
    exact gRi C hO rfl rfl dL_keyAt_16 (Nat.le_of_ble_eq_true rfl) (Nat.le_of_ble_eq_true rfl)
set_option maxHeartbeats 4000000 in
set_option maxRecDepth 100000 in
theorem c_L_keyAt_no (l : Launch) (E : gE) (a : Nat → Nat) (S : St) (mk rk rv : Nat → Int32) (F : va_W) (o9 : Nat) (f9 : Nat → Int64) (o : Int32) (hst : l.stackTraces = false) (hI : s_inv S) (hno : s_po S o = none) : gMi l E yL_keyAt wsL_keyAt ({ frames := 8, cells := 1, slots := 6, locals := 125 }) (xW E a S mk rk rv ++ ((o9, .inl (eL E, 1, .inr (.inl f9))) :: F)) [.ref (a 0), .int o, .ref o9] 1 (xW E a S mk rk rv ++ ((o9, .inl (eL E, 1, .inr (.inl f9))) :: F)) 1 6 := by
  refine gMi.ofW (cc := cL_keyAt) (maxL := 4) (ty := .int) (by decide) rfl (Nat.le_of_ble_eq_true rfl) ?_
  intro p e s m args below meth c A C ht ls hl hO
  have hl : lv_has ls 4 [(0, .ref (a 0)), (1, .int o), (2, .ref o9)] := hl
  refine lv_aload_n C.1 C.2.1 dL_keyAt_0 rfl (lv_at hl 2 rfl) ?_
  refine lv_iconst (v := 0) C.1 C.2.1 dL_keyAt_1 (by decide) ?_
  refine lv_aload_n C.1 C.2.1 dL_keyAt_2 rfl (lv_at hl 0 rfl) ?_
  refine lv_iload_n C.1 C.2.1 dL_keyAt_3 rfl (lv_at hl 1 rfl) ?_
  refine gXCall_i (As := [.int o]) (rest := [.int 0, .ref o9]) C hO (c_X2_keyAt l E a S mk rk rv ((o9, .inl (eL E, 1, .inr (.inl f9))) :: F) o hst hI) (cwV 1 C.2.2.2.2.1 gL_keyAt_X2_keyAt rfl rfl rfl (by decide +kernel) ⟨(Nat.le_of_ble_eq_true rfl), (Nat.le_of_ble_eq_true rfl)⟩) (va_recv C.2.2.2.2.2.2.2.1.1 hO.1 (ci := 2) (q0 := 0) rfl rfl) rfl hl.1 rfl (Nat.le_of_ble_eq_true rfl) dL_keyAt_4 ⟨(Nat.le_of_ble_eq_true rfl), (Nat.le_of_ble_eq_true rfl)⟩ (fun E0 ce q9 H locs hO hcell hcv hcl hbad => ?_) (fun H locs hO hok9 => ?_)
  · obtain ⟨rfl, _⟩ := hbad
    refine gCatch1 C ht (by decide) (by decide) (by decide +kernel) (by decide +kernel) hcell hcv hcl ?_
    refine lv_astore_n (lv' := [(3, .ref q9), (0, .ref (a 0)), (1, .int o), (2, .ref o9)]) C.1 C.2.1 dL_keyAt_12 rfl hl (by decide) rfl (fun ls hl => ?_)
    refine lv_iconst (v := 1) C.1 C.2.1 dL_keyAt_13 (by decide) ?_
    exact gRi C hO rfl rfl dL_keyAt_14 (Nat.le_of_ble_eq_true rfl) (Nat.le_of_ble_eq_true rfl)
  · have hok := hok9
    first | exact absurd hok hno | exact absurd hno hok | exact absurd hok.1 hno | exact absurd (And.intro hok.1 hok.2.1) hno | exact absurd hok.2 hno.2 | exact absurd hok.2.2 hno.2.2
