set_option maxHeartbeats 4000000 in
set_option maxRecDepth 100000 in
theorem c_L_valueAt_ok (l : Launch) (E : gE) (a : Nat → Nat) (S : St) (mk rk rv : Nat → Int32) (F : va_W) (o9 : Nat) (f9 : Nat → Int64) (o : Int32) (hst : l.stackTraces = false) (hI : s_inv S) (hok : (s_po S o ≠ none)) : gMi l E yL_valueAt wsL_valueAt ({ frames := 8, cells := 1, slots := 6, locals := 125 }) (xW E a S mk rk rv ++ ((o9, .inl (eL E, 1, .inr (.inl f9))) :: F)) [.ref (a 0), .int o, .ref o9] 0 (xW E a S mk rk rv ++ ((o9, .inl (eL E, 1, .inr (.inl (vp_updL f9 0 (s_ka S (s_val S) o).toInt64)))) :: F)) 1 6 := by
  refine gMi.ofW (cc := cL_valueAt) (maxL := 4) (ty := .int) (by decide) rfl (Nat.le_of_ble_eq_true rfl) ?_
  intro p e s m args below meth c A C ht ls hl hO
  have hl : lv_has ls 4 [(0, .ref (a 0)), (1, .int o), (2, .ref o9)] := hl
  refine lv_aload_n C.1 C.2.1 dL_valueAt_0 rfl (lv_at hl 2 rfl) ?_
  refine lv_iconst (v := 0) C.1 C.2.1 dL_valueAt_1 (by decide) ?_
  refine lv_aload_n C.1 C.2.1 dL_valueAt_2 rfl (lv_at hl 0 rfl) ?_
  refine lv_iload_n C.1 C.2.1 dL_valueAt_3 rfl (lv_at hl 1 rfl) ?_
  refine gXCall_i (As := [.int o]) (rest := [.int 0, .ref o9]) C hO (c_X2_valueAt l E a S mk rk rv ((o9, .inl (eL E, 1, .inr (.inl f9))) :: F) o hst hI) (cwV 1 C.2.2.2.2.1 gL_valueAt_X2_valueAt rfl rfl rfl (by decide +kernel) ⟨(Nat.le_of_ble_eq_true rfl), (Nat.le_of_ble_eq_true rfl)⟩) (va_recv C.2.2.2.2.2.2.2.1.1 hO.1 (ci := 2) (q0 := 0) rfl rfl) rfl hl.1 rfl (Nat.le_of_ble_eq_true rfl) dL_valueAt_4 ⟨(Nat.le_of_ble_eq_true rfl), (Nat.le_of_ble_eq_true rfl)⟩ (fun E0 ce q9 H locs hO hcell hcv hcl hbad => ?_) (fun H locs hO hok9 => ?_)
  · obtain ⟨_, hno⟩ := hbad
    first | exact absurd hok hno | exact absurd hno hok | exact absurd hok.1 hno | exact absurd (And.intro hok.1 hok.2.1) hno | exact absurd hok.2 hno.2 | exact absurd hok.2.2 hno.2.2
  · refine lv_i2l C.1 C.2.1 dL_valueAt_7 rfl ?_
    refine gLast C hO dL_valueAt_8 (fun H locs hO => ?_)
    refine lv_goto (tgt := 15) C.1 C.2.1 dL_valueAt_9 (by decide) ?_
    refine lv_iconst (v := 0) C.1 C.2.1 dL_valueAt_15 (by decide) ?_
    exact gRi C hO rfl rfl dL_valueAt_16 (Nat.le_of_ble_eq_true rfl) (Nat.le_of_ble_eq_true rfl)
set_option maxHeartbeats 4000000 in
set_option maxRecDepth 100000 in
theorem c_L_valueAt_no (l : Launch) (E : gE) (a : Nat → Nat) (S : St) (mk rk rv : Nat → Int32) (F : va_W) (o9 : Nat) (f9 : Nat → Int64) (o : Int32) (hst : l.stackTraces = false) (hI : s_inv S) (hno : s_po S o = none) : gMi l E yL_valueAt wsL_valueAt ({ frames := 8, cells := 1, slots := 6, locals := 125 }) (xW E a S mk rk rv ++ ((o9, .inl (eL E, 1, .inr (.inl f9))) :: F)) [.ref (a 0), .int o, .ref o9] 1 (xW E a S mk rk rv ++ ((o9, .inl (eL E, 1, .inr (.inl f9))) :: F)) 1 6 := by
  refine gMi.ofW (cc := cL_valueAt) (maxL := 4) (ty := .int) (by decide) rfl (Nat.le_of_ble_eq_true rfl) ?_
  intro p e s m args below meth c A C ht ls hl hO
  have hl : lv_has ls 4 [(0, .ref (a 0)), (1, .int o), (2, .ref o9)] := hl
  refine lv_aload_n C.1 C.2.1 dL_valueAt_0 rfl (lv_at hl 2 rfl) ?_
  refine lv_iconst (v := 0) C.1 C.2.1 dL_valueAt_1 (by decide) ?_
  refine lv_aload_n C.1 C.2.1 dL_valueAt_2 rfl (lv_at hl 0 rfl) ?_
  refine lv_iload_n C.1 C.2.1 dL_valueAt_3 rfl (lv_at hl 1 rfl) ?_
  refine gXCall_i (As := [.int o]) (rest := [.int 0, .ref o9]) C hO (c_X2_valueAt l E a S mk rk rv ((o9, .inl (eL E, 1, .inr (.inl f9))) :: F) o hst hI) (cwV 1 C.2.2.2.2.1 gL_valueAt_X2_valueAt rfl rfl rfl (by decide +kernel) ⟨(Nat.le_of_ble_eq_true rfl), (Nat.le_of_ble_eq_true rfl)⟩) (va_recv C.2.2.2.2.2.2.2.1.1 hO.1 (ci := 2) (q0 := 0) rfl rfl) rfl hl.1 rfl (Nat.le_of_ble_eq_true rfl) dL_valueAt_4 ⟨(Nat.le_of_ble_eq_true rfl), (Nat.le_of_ble_eq_true rfl)⟩ (fun E0 ce q9 H locs hO hcell hcv hcl hbad => ?_) (fun H locs hO hok9 => ?_)
  · obtain ⟨rfl, _⟩ := hbad
    refine gCatch1 C ht (by decide) (by decide) (by decide +kernel) (by decide +kernel) hcell hcv hcl ?_
    refine lv_astore_n (lv' := [(3, .ref q9), (0, .ref (a 0)), (1, .int o), (2, .ref o9)]) C.1 C.2.1 dL_valueAt_12 rfl hl (by decide) rfl (fun ls hl => ?_)
    refine lv_iconst (v := 1) C.1 C.2.1 dL_valueAt_13 (by decide) ?_
    exact gRi C hO rfl rfl dL_valueAt_14 (Nat.le_of_ble_eq_true rfl) (Nat.le_of_ble_eq_true rfl)
  · have hok := hok9
    first | exact absurd hok hno | exact absurd hno hok | exact absurd hok.1 hno | exact absurd (And.intro hok.1 hok.2.1) hno | exact absurd hok.2 hno.2 | exact absurd hok.2.2 hno.2.2
set_option maxHeartbeats 4000000 in
set_option maxRecDepth 100000 in
theorem c_L_stormAt_ok (l : Launch) (E : gE) (a : Nat → Nat) (S : St) (mk rk rv : Nat → Int32) (F : va_W) (o9 : Nat) (f9 : Nat → Int64) (o : Int32) (hst : l.stackTraces = false) (hI : s_inv S) (hok : (s_po S o ≠ none)) : gMi l E yL_stormAt wsL_stormAt ({ frames := 8, cells := 1, slots := 6, locals := 125 }) (xW E a S mk rk rv ++ ((o9, .inl (eL E, 1, .inr (.inl f9))) :: F)) [.ref (a 0), .int o, .ref o9] 0 (xW E a S mk rk rv ++ ((o9, .inl (eL E, 1, .inr (.inl (vp_updL f9 0 (s_ka S (s_sto S) o).toInt64)))) :: F)) 1 6 := by
  refine gMi.ofW (cc := cL_stormAt) (maxL := 4) (ty := .int) (by decide) rfl (Nat.le_of_ble_eq_true rfl) ?_
  intro p e s m args below meth c A C ht ls hl hO
  have hl : lv_has ls 4 [(0, .ref (a 0)), (1, .int o), (2, .ref o9)] := hl
  refine lv_aload_n C.1 C.2.1 dL_stormAt_0 rfl (lv_at hl 2 rfl) ?_
  refine lv_iconst (v := 0) C.1 C.2.1 dL_stormAt_1 (by decide) ?_
  refine lv_aload_n C.1 C.2.1 dL_stormAt_2 rfl (lv_at hl 0 rfl) ?_
  refine lv_iload_n C.1 C.2.1 dL_stormAt_3 rfl (lv_at hl 1 rfl) ?_
  refine gXCall_i (As := [.int o]) (rest := [.int 0, .ref o9]) C hO (c_X2_stormAt l E a S mk rk rv ((o9, .inl (eL E, 1, .inr (.inl f9))) :: F) o hst hI) (cwV 1 C.2.2.2.2.1 gL_stormAt_X2_stormAt rfl rfl rfl (by decide +kernel) ⟨(Nat.le_of_ble_eq_true rfl), (Nat.le_of_ble_eq_true rfl)⟩) (va_recv C.2.2.2.2.2.2.2.1.1 hO.1 (ci := 2) (q0 := 0) rfl rfl) rfl hl.1 rfl (Nat.le_of_ble_eq_true rfl) dL_stormAt_4 ⟨(Nat.le_of_ble_eq_true rfl), (Nat.le_of_ble_eq_true rfl)⟩ (fun E0 ce q9 H locs hO hcell hcv hcl hbad => ?_) (fun H locs hO hok9 => ?_)
  · obtain ⟨_, hno⟩ := hbad
    first | exact absurd hok hno | exact absurd hno hok | exact absurd hok.1 hno | exact absurd (And.intro hok.1 hok.2.1) hno | exact absurd hok.2 hno.2 | exact absurd hok.2.2 hno.2.2
  · refine lv_i2l C.1 C.2.1 dL_stormAt_7 rfl ?_
    refine gLast C hO dL_stormAt_8 (fun H locs hO => ?_)
    refine lv_goto (tgt := 15) C.1 C.2.1 dL_stormAt_9 (by decide) ?_
    refine lv_iconst (v := 0) C.1 C.2.1 dL_stormAt_15 (by decide) ?_
    exact gRi C hO rfl rfl dL_stormAt_16 (Nat.le_of_ble_eq_true rfl) (Nat.le_of_ble_eq_true rfl)
set_option maxHeartbeats 4000000 in
set_option maxRecDepth 100000 in
theorem c_L_stormAt_no (l : Launch) (E : gE) (a : Nat → Nat) (S : St) (mk rk rv : Nat → Int32) (F : va_W) (o9 : Nat) (f9 : Nat → Int64) (o : Int32) (hst : l.stackTraces = false) (hI : s_inv S) (hno : s_po S o = none) : gMi l E yL_stormAt wsL_stormAt ({ frames := 8, cells := 1, slots := 6, locals := 125 }) (xW E a S mk rk rv ++ ((o9, .inl (eL E, 1, .inr (.inl f9))) :: F)) [.ref (a 0), .int o, .ref o9] 1 (xW E a S mk rk rv ++ ((o9, .inl (eL E, 1, .inr (.inl f9))) :: F)) 1 6 := by
  refine gMi.ofW (cc := cL_stormAt) (maxL := 4) (ty := .int) (by decide) rfl (Nat.le_of_ble_eq_true rfl) ?_
  intro p e s m args below meth c A C ht ls hl hO
  have hl : lv_has ls 4 [(0, .ref (a 0)), (1, .int o), (2, .ref o9)] := hl
  refine lv_aload_n C.1 C.2.1 dL_stormAt_0 rfl (lv_at hl 2 rfl) ?_
  refine lv_iconst (v := 0) C.1 C.2.1 dL_stormAt_1 (by decide) ?_
  refine lv_aload_n C.1 C.2.1 dL_stormAt_2 rfl (lv_at hl 0 rfl) ?_
  refine lv_iload_n C.1 C.2.1 dL_stormAt_3 rfl (lv_at hl 1 rfl) ?_
  refine gXCall_i (As := [.int o]) (rest := [.int 0, .ref o9]) C hO (c_X2_stormAt l E a S mk rk rv ((o9, .inl (eL E, 1, .inr (.inl f9))) :: F) o hst hI) (cwV 1 C.2.2.2.2.1 gL_stormAt_X2_stormAt rfl rfl rfl (by decide +kernel) ⟨(Nat.le_of_ble_eq_true rfl), (Nat.le_of_ble_eq_true rfl)⟩) (va_recv C.2.2.2.2.2.2.2.1.1 hO.1 (ci := 2) (q0 := 0) rfl rfl) rfl hl.1 rfl (Nat.le_of_ble_eq_true rfl) dL_stormAt_4 ⟨(Nat.le_of_ble_eq_true rfl), (Nat.le_of_ble_eq_true rfl)⟩ (fun E0 ce q9 H locs hO hcell hcv hcl hbad => ?_) (fun H locs hO hok9 => ?_)
  · obtain ⟨rfl, _⟩ := hbad
    refine gCatch1 C ht (by decide) (by decide) (by decide +kernel) (by decide +kernel) hcell hcv hcl ?_
    refine lv_astore_n (lv' := [(3, .ref q9), (0, .ref (a 0)), (1, .int o), (2, .ref o9)]) C.1 C.2.1 dL_stormAt_12 rfl hl (by decide) rfl (fun ls hl => ?_)
    refine lv_iconst (v := 1) C.1 C.2.1 dL_stormAt_13 (by decide) ?_
    exact gRi C hO rfl rfl dL_stormAt_14 (Nat.le_of_ble_eq_true rfl) (Nat.le_of_ble_eq_true rfl)
  · have hok := hok9
    first | exact absurd hok hno | exact absurd hno hok | exact absurd hok.1 hno | exact absurd (And.intro hok.1 hok.2.1) hno | exact absurd hok.2 hno.2 | exact absurd hok.2.2 hno.2.2
set_option maxHeartbeats 4000000 in
set_option maxRecDepth 100000 in
theorem c_L_latestOf_ok (l : Launch) (E : gE) (a : Nat → Nat) (S : St) (mk rk rv : Nat → Int32) (F : va_W) (o9 : Nat) (f9 : Nat → Int64) (k : Int32) (hst : l.stackTraces = false) (hI : s_inv S) (hok : (okKey k)) : gMi l E yL_latestOf wsL_latestOf ({ frames := 8, cells := 1, slots := 6, locals := 123 }) (xW E a S mk rk rv ++ ((o9, .inl (eL E, 1, .inr (.inl f9))) :: F)) [.ref (a 0), .int k, .ref o9] 0 (xW E a S mk rk rv ++ ((o9, .inl (eL E, 1, .inr (.inl (vp_updL f9 0 (s_lo S k).toInt64)))) :: F)) 1 6 := by
  refine gMi.ofW (cc := cL_latestOf) (maxL := 4) (ty := .int) (by decide) rfl (Nat.le_of_ble_eq_true rfl) ?_
  intro p e s m args below meth c A C ht ls hl hO
  have hl : lv_has ls 4 [(0, .ref (a 0)), (1, .int k), (2, .ref o9)] := hl
  refine lv_aload_n C.1 C.2.1 dL_latestOf_0 rfl (lv_at hl 2 rfl) ?_
  refine lv_iconst (v := 0) C.1 C.2.1 dL_latestOf_1 (by decide) ?_
  refine lv_aload_n C.1 C.2.1 dL_latestOf_2 rfl (lv_at hl 0 rfl) ?_
  refine lv_iload_n C.1 C.2.1 dL_latestOf_3 rfl (lv_at hl 1 rfl) ?_
  refine gXCall_i (As := [.int k]) (rest := [.int 0, .ref o9]) C hO (c_X2_latestOf l E a S mk rk rv ((o9, .inl (eL E, 1, .inr (.inl f9))) :: F) k hst hI) (cwV 1 C.2.2.2.2.1 gL_latestOf_X2_latestOf rfl rfl rfl (by decide +kernel) ⟨(Nat.le_of_ble_eq_true rfl), (Nat.le_of_ble_eq_true rfl)⟩) (va_recv C.2.2.2.2.2.2.2.1.1 hO.1 (ci := 2) (q0 := 0) rfl rfl) rfl hl.1 rfl (Nat.le_of_ble_eq_true rfl) dL_latestOf_4 ⟨(Nat.le_of_ble_eq_true rfl), (Nat.le_of_ble_eq_true rfl)⟩ (fun E0 ce q9 H locs hO hcell hcv hcl hbad => ?_) (fun H locs hO hok9 => ?_)
  · obtain ⟨_, hno⟩ := hbad
    first | exact absurd hok hno | exact absurd hno hok | exact absurd hok.1 hno | exact absurd (And.intro hok.1 hok.2.1) hno | exact absurd hok.2 hno.2 | exact absurd hok.2.2 hno.2.2
  · refine lv_i2l C.1 C.2.1 dL_latestOf_7 rfl ?_
    refine gLast C hO dL_latestOf_8 (fun H locs hO => ?_)
    refine lv_goto (tgt := 15) C.1 C.2.1 dL_latestOf_9 (by decide) ?_
    refine lv_iconst (v := 0) C.1 C.2.1 dL_latestOf_15 (by decide) ?_
    exact gRi C hO rfl rfl dL_latestOf_16 (Nat.le_of_ble_eq_true rfl) (Nat.le_of_ble_eq_true rfl)
set_option maxHeartbeats 4000000 in
set_option maxRecDepth 100000 in
theorem c_L_latestOf_no (l : Launch) (E : gE) (a : Nat → Nat) (S : St) (mk rk rv : Nat → Int32) (F : va_W) (o9 : Nat) (f9 : Nat → Int64) (k : Int32) (hst : l.stackTraces = false) (hI : s_inv S) (hno : ¬ okKey k) : gMi l E yL_latestOf wsL_latestOf ({ frames := 8, cells := 1, slots := 6, locals := 123 }) (xW E a S mk rk rv ++ ((o9, .inl (eL E, 1, .inr (.inl f9))) :: F)) [.ref (a 0), .int k, .ref o9] 1 (xW E a S mk rk rv ++ ((o9, .inl (eL E, 1, .inr (.inl f9))) :: F)) 1 6 := by
  refine gMi.ofW (cc := cL_latestOf) (maxL := 4) (ty := .int) (by decide) rfl (Nat.le_of_ble_eq_true rfl) ?_
  intro p e s m args below meth c A C ht ls hl hO
  have hl : lv_has ls 4 [(0, .ref (a 0)), (1, .int k), (2, .ref o9)] := hl
  refine lv_aload_n C.1 C.2.1 dL_latestOf_0 rfl (lv_at hl 2 rfl) ?_
  refine lv_iconst (v := 0) C.1 C.2.1 dL_latestOf_1 (by decide) ?_
  refine lv_aload_n C.1 C.2.1 dL_latestOf_2 rfl (lv_at hl 0 rfl) ?_
  refine lv_iload_n C.1 C.2.1 dL_latestOf_3 rfl (lv_at hl 1 rfl) ?_
  refine gXCall_i (As := [.int k]) (rest := [.int 0, .ref o9]) C hO (c_X2_latestOf l E a S mk rk rv ((o9, .inl (eL E, 1, .inr (.inl f9))) :: F) k hst hI) (cwV 1 C.2.2.2.2.1 gL_latestOf_X2_latestOf rfl rfl rfl (by decide +kernel) ⟨(Nat.le_of_ble_eq_true rfl), (Nat.le_of_ble_eq_true rfl)⟩) (va_recv C.2.2.2.2.2.2.2.1.1 hO.1 (ci := 2) (q0 := 0) rfl rfl) rfl hl.1 rfl (Nat.le_of_ble_eq_true rfl) dL_latestOf_4 ⟨(Nat.le_of_ble_eq_true rfl), (Nat.le_of_ble_eq_true rfl)⟩ (fun E0 ce q9 H locs hO hcell hcv hcl hbad => ?_) (fun H locs hO hok9 => ?_)
  · obtain ⟨rfl, _⟩ := hbad
    refine gCatch1 C ht (by decide) (by decide) (by decide +kernel) (by decide +kernel) hcell hcv hcl ?_
    refine lv_astore_n (lv' := [(3, .ref q9), (0, .ref (a 0)), (1, .int k), (2, .ref o9)]) C.1 C.2.1 dL_latestOf_12 rfl hl (by decide) rfl (fun ls hl => ?_)
    refine lv_iconst (v := 1) C.1 C.2.1 dL_latestOf_13 (by decide) ?_
    exact gRi C hO rfl rfl dL_latestOf_14 (Nat.le_of_ble_eq_true rfl) (Nat.le_of_ble_eq_true rfl)
  · have hok := hok9
    first | exact absurd hok hno | exact absurd hno hok | exact absurd hok.1 hno | exact absurd (And.intro hok.1 hok.2.1) hno | exact absurd hok.2 hno.2 | exact absurd hok.2.2 hno.2.2
set_option maxHeartbeats 4000000 in
set_option maxRecDepth 100000 in
theorem c_L_valueOf_ok (l : Launch) (E : gE) (a : Nat → Nat) (S : St) (mk rk rv : Nat → Int32) (F : va_W) (o9 : Nat) (f9 : Nat → Int64) (k : Int32) (hst : l.stackTraces = false) (hI : s_inv S) (hok : (okKey k)) : gMi l E yL_valueOf wsL_valueOf ({ frames := 8, cells := 1, slots := 6, locals := 123 }) (xW E a S mk rk rv ++ ((o9, .inl (eL E, 1, .inr (.inl f9))) :: F)) [.ref (a 0), .int k, .ref o9] 0 (xW E a S mk rk rv ++ ((o9, .inl (eL E, 1, .inr (.inl (vp_updL f9 0 (s_wv S k).toInt64)))) :: F)) 1 6 := by
  refine gMi.ofW (cc := cL_valueOf) (maxL := 4) (ty := .int) (by decide) rfl (Nat.le_of_ble_eq_true rfl) ?_
  intro p e s m args below meth c A C ht ls hl hO
  have hl : lv_has ls 4 [(0, .ref (a 0)), (1, .int k), (2, .ref o9)] := hl
  refine lv_aload_n C.1 C.2.1 dL_valueOf_0 rfl (lv_at hl 2 rfl) ?_
  refine lv_iconst (v := 0) C.1 C.2.1 dL_valueOf_1 (by decide) ?_
  refine lv_aload_n C.1 C.2.1 dL_valueOf_2 rfl (lv_at hl 0 rfl) ?_
  refine lv_iload_n C.1 C.2.1 dL_valueOf_3 rfl (lv_at hl 1 rfl) ?_
  refine gXCall_i (As := [.int k]) (rest := [.int 0, .ref o9]) C hO (c_X2_valueOf l E a S mk rk rv ((o9, .inl (eL E, 1, .inr (.inl f9))) :: F) k hst hI) (cwV 1 C.2.2.2.2.1 gL_valueOf_X2_valueOf rfl rfl rfl (by decide +kernel) ⟨(Nat.le_of_ble_eq_true rfl), (Nat.le_of_ble_eq_true rfl)⟩) (va_recv C.2.2.2.2.2.2.2.1.1 hO.1 (ci := 2) (q0 := 0) rfl rfl) rfl hl.1 rfl (Nat.le_of_ble_eq_true rfl) dL_valueOf_4 ⟨(Nat.le_of_ble_eq_true rfl), (Nat.le_of_ble_eq_true rfl)⟩ (fun E0 ce q9 H locs hO hcell hcv hcl hbad => ?_) (fun H locs hO hok9 => ?_)
  · obtain ⟨_, hno⟩ := hbad
    first | exact absurd hok hno | exact absurd hno hok | exact absurd hok.1 hno | exact absurd (And.intro hok.1 hok.2.1) hno | exact absurd hok.2 hno.2 | exact absurd hok.2.2 hno.2.2
  · refine lv_i2l C.1 C.2.1 dL_valueOf_7 rfl ?_
    refine gLast C hO dL_valueOf_8 (fun H locs hO => ?_)
    refine lv_goto (tgt := 15) C.1 C.2.1 dL_valueOf_9 (by decide) ?_
    refine lv_iconst (v := 0) C.1 C.2.1 dL_valueOf_15 (by decide) ?_
    exact gRi C hO rfl rfl dL_valueOf_16 (Nat.le_of_ble_eq_true rfl) (Nat.le_of_ble_eq_true rfl)
set_option maxHeartbeats 4000000 in
set_option maxRecDepth 100000 in
theorem c_L_valueOf_no (l : Launch) (E : gE) (a : Nat → Nat) (S : St) (mk rk rv : Nat → Int32) (F : va_W) (o9 : Nat) (f9 : Nat → Int64) (k : Int32) (hst : l.stackTraces = false) (hI : s_inv S) (hno : ¬ okKey k) : gMi l E yL_valueOf wsL_valueOf ({ frames := 8, cells := 1, slots := 6, locals := 123 }) (xW E a S mk rk rv ++ ((o9, .inl (eL E, 1, .inr (.inl f9))) :: F)) [.ref (a 0), .int k, .ref o9] 1 (xW E a S mk rk rv ++ ((o9, .inl (eL E, 1, .inr (.inl f9))) :: F)) 1 6 := by
  refine gMi.ofW (cc := cL_valueOf) (maxL := 4) (ty := .int) (by decide) rfl (Nat.le_of_ble_eq_true rfl) ?_
  intro p e s m args below meth c A C ht ls hl hO
  have hl : lv_has ls 4 [(0, .ref (a 0)), (1, .int k), (2, .ref o9)] := hl
  refine lv_aload_n C.1 C.2.1 dL_valueOf_0 rfl (lv_at hl 2 rfl) ?_
  refine lv_iconst (v := 0) C.1 C.2.1 dL_valueOf_1 (by decide) ?_
  refine lv_aload_n C.1 C.2.1 dL_valueOf_2 rfl (lv_at hl 0 rfl) ?_
  refine lv_iload_n C.1 C.2.1 dL_valueOf_3 rfl (lv_at hl 1 rfl) ?_
  refine gXCall_i (As := [.int k]) (rest := [.int 0, .ref o9]) C hO (c_X2_valueOf l E a S mk rk rv ((o9, .inl (eL E, 1, .inr (.inl f9))) :: F) k hst hI) (cwV 1 C.2.2.2.2.1 gL_valueOf_X2_valueOf rfl rfl rfl (by decide +kernel) ⟨(Nat.le_of_ble_eq_true rfl), (Nat.le_of_ble_eq_true rfl)⟩) (va_recv C.2.2.2.2.2.2.2.1.1 hO.1 (ci := 2) (q0 := 0) rfl rfl) rfl hl.1 rfl (Nat.le_of_ble_eq_true rfl) dL_valueOf_4 ⟨(Nat.le_of_ble_eq_true rfl), (Nat.le_of_ble_eq_true rfl)⟩ (fun E0 ce q9 H locs hO hcell hcv hcl hbad => ?_) (fun H locs hO hok9 => ?_)
  · obtain ⟨rfl, _⟩ := hbad
    refine gCatch1 C ht (by decide) (by decide) (by decide +kernel) (by decide +kernel) hcell hcv hcl ?_
    refine lv_astore_n (lv' := [(3, .ref q9), (0, .ref (a 0)), (1, .int k), (2, .ref o9)]) C.1 C.2.1 dL_valueOf_12 rfl hl (by decide) rfl (fun ls hl => ?_)
    refine lv_iconst (v := 1) C.1 C.2.1 dL_valueOf_13 (by decide) ?_
    exact gRi C hO rfl rfl dL_valueOf_14 (Nat.le_of_ble_eq_true rfl) (Nat.le_of_ble_eq_true rfl)
  · have hok := hok9
    first | exact absurd hok hno | exact absurd hno hok | exact absurd hok.1 hno | exact absurd (And.intro hok.1 hok.2.1) hno | exact absurd hok.2 hno.2 | exact absurd hok.2.2 hno.2.2
set_option maxHeartbeats 4000000 in
set_option maxRecDepth 100000 in
theorem c_L_countOf_ok (l : Launch) (E : gE) (a : Nat → Nat) (S : St) (mk rk rv : Nat → Int32) (F : va_W) (o9 : Nat) (f9 : Nat → Int64) (k : Int32) (hst : l.stackTraces = false) (hI : s_inv S) (hok : (okKey k)) : gMi l E yL_countOf wsL_countOf ({ frames := 8, cells := 1, slots := 6, locals := 123 }) (xW E a S mk rk rv ++ ((o9, .inl (eL E, 1, .inr (.inl f9))) :: F)) [.ref (a 0), .int k, .ref o9] 0 (xW E a S mk rk rv ++ ((o9, .inl (eL E, 1, .inr (.inl (vp_updL f9 0 (nI (cnt (s_key S) k (s_n S))).toInt64)))) :: F)) 1 6 := by
  refine gMi.ofW (cc := cL_countOf) (maxL := 4) (ty := .int) (by decide) rfl (Nat.le_of_ble_eq_true rfl) ?_
  intro p e s m args below meth c A C ht ls hl hO
  have hl : lv_has ls 4 [(0, .ref (a 0)), (1, .int k), (2, .ref o9)] := hl
  refine lv_aload_n C.1 C.2.1 dL_countOf_0 rfl (lv_at hl 2 rfl) ?_
  refine lv_iconst (v := 0) C.1 C.2.1 dL_countOf_1 (by decide) ?_
  refine lv_aload_n C.1 C.2.1 dL_countOf_2 rfl (lv_at hl 0 rfl) ?_
  refine lv_iload_n C.1 C.2.1 dL_countOf_3 rfl (lv_at hl 1 rfl) ?_
  refine gXCall_i (As := [.int k]) (rest := [.int 0, .ref o9]) C hO (c_X2_countOf l E a S mk rk rv ((o9, .inl (eL E, 1, .inr (.inl f9))) :: F) k hst hI) (cwV 1 C.2.2.2.2.1 gL_countOf_X2_countOf rfl rfl rfl (by decide +kernel) ⟨(Nat.le_of_ble_eq_true rfl), (Nat.le_of_ble_eq_true rfl)⟩) (va_recv C.2.2.2.2.2.2.2.1.1 hO.1 (ci := 2) (q0 := 0) rfl rfl) rfl hl.1 rfl (Nat.le_of_ble_eq_true rfl) dL_countOf_4 ⟨(Nat.le_of_ble_eq_true rfl), (Nat.le_of_ble_eq_true rfl)⟩ (fun E0 ce q9 H locs hO hcell hcv hcl hbad => ?_) (fun H locs hO hok9 => ?_)
  · obtain ⟨_, hno⟩ := hbad
    first | exact absurd hok hno | exact absurd hno hok | exact absurd hok.1 hno | exact absurd (And.intro hok.1 hok.2.1) hno | exact absurd hok.2 hno.2 | exact absurd hok.2.2 hno.2.2
  · refine lv_i2l C.1 C.2.1 dL_countOf_7 rfl ?_
    refine gLast C hO dL_countOf_8 (fun H locs hO => ?_)
    refine lv_goto (tgt := 15) C.1 C.2.1 dL_countOf_9 (by decide) ?_
    refine lv_iconst (v := 0) C.1 C.2.1 dL_countOf_15 (by decide) ?_
    exact gRi C hO rfl rfl dL_countOf_16 (Nat.le_of_ble_eq_true rfl) (Nat.le_of_ble_eq_true rfl)
set_option maxHeartbeats 4000000 in
set_option maxRecDepth 100000 in
theorem c_L_countOf_no (l : Launch) (E : gE) (a : Nat → Nat) (S : St) (mk rk rv : Nat → Int32) (F : va_W) (o9 : Nat) (f9 : Nat → Int64) (k : Int32) (hst : l.stackTraces = false) (hI : s_inv S) (hno : ¬ okKey k) : gMi l E yL_countOf wsL_countOf ({ frames := 8, cells := 1, slots := 6, locals := 123 }) (xW E a S mk rk rv ++ ((o9, .inl (eL E, 1, .inr (.inl f9))) :: F)) [.ref (a 0), .int k, .ref o9] 1 (xW E a S mk rk rv ++ ((o9, .inl (eL E, 1, .inr (.inl f9))) :: F)) 1 6 := by
  refine gMi.ofW (cc := cL_countOf) (maxL := 4) (ty := .int) (by decide) rfl (Nat.le_of_ble_eq_true rfl) ?_
  intro p e s m args below meth c A C ht ls hl hO
  have hl : lv_has ls 4 [(0, .ref (a 0)), (1, .int k), (2, .ref o9)] := hl
  refine lv_aload_n C.1 C.2.1 dL_countOf_0 rfl (lv_at hl 2 rfl) ?_
  refine lv_iconst (v := 0) C.1 C.2.1 dL_countOf_1 (by decide) ?_
  refine lv_aload_n C.1 C.2.1 dL_countOf_2 rfl (lv_at hl 0 rfl) ?_
  refine lv_iload_n C.1 C.2.1 dL_countOf_3 rfl (lv_at hl 1 rfl) ?_
  refine gXCall_i (As := [.int k]) (rest := [.int 0, .ref o9]) C hO (c_X2_countOf l E a S mk rk rv ((o9, .inl (eL E, 1, .inr (.inl f9))) :: F) k hst hI) (cwV 1 C.2.2.2.2.1 gL_countOf_X2_countOf rfl rfl rfl (by decide +kernel) ⟨(Nat.le_of_ble_eq_true rfl), (Nat.le_of_ble_eq_true rfl)⟩) (va_recv C.2.2.2.2.2.2.2.1.1 hO.1 (ci := 2) (q0 := 0) rfl rfl) rfl hl.1 rfl (Nat.le_of_ble_eq_true rfl) dL_countOf_4 ⟨(Nat.le_of_ble_eq_true rfl), (Nat.le_of_ble_eq_true rfl)⟩ (fun E0 ce q9 H locs hO hcell hcv hcl hbad => ?_) (fun H locs hO hok9 => ?_)
  · obtain ⟨rfl, _⟩ := hbad
    refine gCatch1 C ht (by decide) (by decide) (by decide +kernel) (by decide +kernel) hcell hcv hcl ?_
    refine lv_astore_n (lv' := [(3, .ref q9), (0, .ref (a 0)), (1, .int k), (2, .ref o9)]) C.1 C.2.1 dL_countOf_12 rfl hl (by decide) rfl (fun ls hl => ?_)
    refine lv_iconst (v := 1) C.1 C.2.1 dL_countOf_13 (by decide) ?_
    exact gRi C hO rfl rfl dL_countOf_14 (Nat.le_of_ble_eq_true rfl) (Nat.le_of_ble_eq_true rfl)
  · have hok := hok9
    first | exact absurd hok hno | exact absurd hno hok | exact absurd hok.1 hno | exact absurd (And.intro hok.1 hok.2.1) hno | exact absurd hok.2 hno.2 | exact absurd hok.2.2 hno.2.2
set_option maxHeartbeats 4000000 in
set_option maxRecDepth 100000 in
theorem c_L_saidIn_ok (l : Launch) (E : gE) (a : Nat → Nat) (S : St) (mk rk rv : Nat → Int32) (F : va_W) (o9 : Nat) (f9 : Nat → Int64) (x : Int32) (hst : l.stackTraces = false) (hI : s_inv S) (hok : (okStorm S x)) : gMi l E yL_saidIn wsL_saidIn ({ frames := 8, cells := 1, slots := 6, locals := 124 }) (xW E a S mk rk rv ++ ((o9, .inl (eL E, 1, .inr (.inl f9))) :: F)) [.ref (a 0), .int x, .ref o9] 0 (xW E a S mk rk rv ++ ((o9, .inl (eL E, 1, .inr (.inl (vp_updL f9 0 (s_said S x.toNatClampNeg).toInt64)))) :: F)) 1 6 := by
  refine gMi.ofW (cc := cL_saidIn) (maxL := 4) (ty := .int) (by decide) rfl (Nat.le_of_ble_eq_true rfl) ?_
  intro p e s m args below meth c A C ht ls hl hO
  have hl : lv_has ls 4 [(0, .ref (a 0)), (1, .int x), (2, .ref o9)] := hl
  refine lv_aload_n C.1 C.2.1 dL_saidIn_0 rfl (lv_at hl 2 rfl) ?_
  refine lv_iconst (v := 0) C.1 C.2.1 dL_saidIn_1 (by decide) ?_
  refine lv_aload_n C.1 C.2.1 dL_saidIn_2 rfl (lv_at hl 0 rfl) ?_
  refine lv_iload_n C.1 C.2.1 dL_saidIn_3 rfl (lv_at hl 1 rfl) ?_
  refine gXCall_i (As := [.int x]) (rest := [.int 0, .ref o9]) C hO (c_X2_saidIn l E a S mk rk rv ((o9, .inl (eL E, 1, .inr (.inl f9))) :: F) x hst hI) (cwV 1 C.2.2.2.2.1 gL_saidIn_X2_saidIn rfl rfl rfl (by decide +kernel) ⟨(Nat.le_of_ble_eq_true rfl), (Nat.le_of_ble_eq_true rfl)⟩) (va_recv C.2.2.2.2.2.2.2.1.1 hO.1 (ci := 2) (q0 := 0) rfl rfl) rfl hl.1 rfl (Nat.le_of_ble_eq_true rfl) dL_saidIn_4 ⟨(Nat.le_of_ble_eq_true rfl), (Nat.le_of_ble_eq_true rfl)⟩ (fun E0 ce q9 H locs hO hcell hcv hcl hbad => ?_) (fun H locs hO hok9 => ?_)
  · obtain ⟨_, hno⟩ := hbad
    first | exact absurd hok hno | exact absurd hno hok | exact absurd hok.1 hno | exact absurd (And.intro hok.1 hok.2.1) hno | exact absurd hok.2 hno.2 | exact absurd hok.2.2 hno.2.2
  · refine lv_i2l C.1 C.2.1 dL_saidIn_7 rfl ?_
    refine gLast C hO dL_saidIn_8 (fun H locs hO => ?_)
    refine lv_goto (tgt := 15) C.1 C.2.1 dL_saidIn_9 (by decide) ?_
    refine lv_iconst (v := 0) C.1 C.2.1 dL_saidIn_15 (by decide) ?_
    exact gRi C hO rfl rfl dL_saidIn_16 (Nat.le_of_ble_eq_true rfl) (Nat.le_of_ble_eq_true rfl)
set_option maxHeartbeats 4000000 in
set_option maxRecDepth 100000 in
theorem c_L_saidIn_no (l : Launch) (E : gE) (a : Nat → Nat) (S : St) (mk rk rv : Nat → Int32) (F : va_W) (o9 : Nat) (f9 : Nat → Int64) (x : Int32) (hst : l.stackTraces = false) (hI : s_inv S) (hno : ¬ okStorm S x) : gMi l E yL_saidIn wsL_saidIn ({ frames := 8, cells := 1, slots := 6, locals := 124 }) (xW E a S mk rk rv ++ ((o9, .inl (eL E, 1, .inr (.inl f9))) :: F)) [.ref (a 0), .int x, .ref o9] 1 (xW E a S mk rk rv ++ ((o9, .inl (eL E, 1, .inr (.inl f9))) :: F)) 1 6 := by
  refine gMi.ofW (cc := cL_saidIn) (maxL := 4) (ty := .int) (by decide) rfl (Nat.le_of_ble_eq_true rfl) ?_
  intro p e s m args below meth c A C ht ls hl hO
  have hl : lv_has ls 4 [(0, .ref (a 0)), (1, .int x), (2, .ref o9)] := hl
  refine lv_aload_n C.1 C.2.1 dL_saidIn_0 rfl (lv_at hl 2 rfl) ?_
  refine lv_iconst (v := 0) C.1 C.2.1 dL_saidIn_1 (by decide) ?_
  refine lv_aload_n C.1 C.2.1 dL_saidIn_2 rfl (lv_at hl 0 rfl) ?_
  refine lv_iload_n C.1 C.2.1 dL_saidIn_3 rfl (lv_at hl 1 rfl) ?_
  refine gXCall_i (As := [.int x]) (rest := [.int 0, .ref o9]) C hO (c_X2_saidIn l E a S mk rk rv ((o9, .inl (eL E, 1, .inr (.inl f9))) :: F) x hst hI) (cwV 1 C.2.2.2.2.1 gL_saidIn_X2_saidIn rfl rfl rfl (by decide +kernel) ⟨(Nat.le_of_ble_eq_true rfl), (Nat.le_of_ble_eq_true rfl)⟩) (va_recv C.2.2.2.2.2.2.2.1.1 hO.1 (ci := 2) (q0 := 0) rfl rfl) rfl hl.1 rfl (Nat.le_of_ble_eq_true rfl) dL_saidIn_4 ⟨(Nat.le_of_ble_eq_true rfl), (Nat.le_of_ble_eq_true rfl)⟩ (fun E0 ce q9 H locs hO hcell hcv hcl hbad => ?_) (fun H locs hO hok9 => ?_)
  · obtain ⟨rfl, _⟩ := hbad
    refine gCatch1 C ht (by decide) (by decide) (by decide +kernel) (by decide +kernel) hcell hcv hcl ?_
    refine lv_astore_n (lv' := [(3, .ref q9), (0, .ref (a 0)), (1, .int x), (2, .ref o9)]) C.1 C.2.1 dL_saidIn_12 rfl hl (by decide) rfl (fun ls hl => ?_)
    refine lv_iconst (v := 1) C.1 C.2.1 dL_saidIn_13 (by decide) ?_
    exact gRi C hO rfl rfl dL_saidIn_14 (Nat.le_of_ble_eq_true rfl) (Nat.le_of_ble_eq_true rfl)
  · have hok := hok9
    first | exact absurd hok hno | exact absurd hno hok | exact absurd hok.1 hno | exact absurd (And.intro hok.1 hok.2.1) hno | exact absurd hok.2 hno.2 | exact absurd hok.2.2 hno.2.2
set_option maxHeartbeats 4000000 in
set_option maxRecDepth 100000 in
theorem c_L_keptOf_ok (l : Launch) (E : gE) (a : Nat → Nat) (S : St) (mk rk rv : Nat → Int32) (F : va_W) (o9 : Nat) (f9 : Nat → Int64) (x : Int32) (hst : l.stackTraces = false) (hI : s_inv S) (hok : (okStorm S x)) : gMi l E yL_keptOf wsL_keptOf ({ frames := 8, cells := 1, slots := 6, locals := 124 }) (xW E a S mk rk rv ++ ((o9, .inl (eL E, 1, .inr (.inl f9))) :: F)) [.ref (a 0), .int x, .ref o9] 0 (xW E a S mk rk rv ++ ((o9, .inl (eL E, 1, .inr (.inl (vp_updL f9 0 (nI (cnt (s_sto S) x (s_n S))).toInt64)))) :: F)) 1 6 := by
  refine gMi.ofW (cc := cL_keptOf) (maxL := 4) (ty := .int) (by decide) rfl (Nat.le_of_ble_eq_true rfl) ?_
  intro p e s m args below meth c A C ht ls hl hO
  have hl : lv_has ls 4 [(0, .ref (a 0)), (1, .int x), (2, .ref o9)] := hl
  refine lv_aload_n C.1 C.2.1 dL_keptOf_0 rfl (lv_at hl 2 rfl) ?_
  refine lv_iconst (v := 0) C.1 C.2.1 dL_keptOf_1 (by decide) ?_
  refine lv_aload_n C.1 C.2.1 dL_keptOf_2 rfl (lv_at hl 0 rfl) ?_
  refine lv_iload_n C.1 C.2.1 dL_keptOf_3 rfl (lv_at hl 1 rfl) ?_
  refine gXCall_i (As := [.int x]) (rest := [.int 0, .ref o9]) C hO (c_X2_keptOf l E a S mk rk rv ((o9, .inl (eL E, 1, .inr (.inl f9))) :: F) x hst hI) (cwV 1 C.2.2.2.2.1 gL_keptOf_X2_keptOf rfl rfl rfl (by decide +kernel) ⟨(Nat.le_of_ble_eq_true rfl), (Nat.le_of_ble_eq_true rfl)⟩) (va_recv C.2.2.2.2.2.2.2.1.1 hO.1 (ci := 2) (q0 := 0) rfl rfl) rfl hl.1 rfl (Nat.le_of_ble_eq_true rfl) dL_keptOf_4 ⟨(Nat.le_of_ble_eq_true rfl), (Nat.le_of_ble_eq_true rfl)⟩ (fun E0 ce q9 H locs hO hcell hcv hcl hbad => ?_) (fun H locs hO hok9 => ?_)
  · obtain ⟨_, hno⟩ := hbad
    first | exact absurd hok hno | exact absurd hno hok | exact absurd hok.1 hno | exact absurd (And.intro hok.1 hok.2.1) hno | exact absurd hok.2 hno.2 | exact absurd hok.2.2 hno.2.2
  · refine lv_i2l C.1 C.2.1 dL_keptOf_7 rfl ?_
    refine gLast C hO dL_keptOf_8 (fun H locs hO => ?_)
    refine lv_goto (tgt := 15) C.1 C.2.1 dL_keptOf_9 (by decide) ?_
    refine lv_iconst (v := 0) C.1 C.2.1 dL_keptOf_15 (by decide) ?_
    exact gRi C hO rfl rfl dL_keptOf_16 (Nat.le_of_ble_eq_true rfl) (Nat.le_of_ble_eq_true rfl)
set_option maxHeartbeats 4000000 in
set_option maxRecDepth 100000 in
theorem c_L_keptOf_no (l : Launch) (E : gE) (a : Nat → Nat) (S : St) (mk rk rv : Nat → Int32) (F : va_W) (o9 : Nat) (f9 : Nat → Int64) (x : Int32) (hst : l.stackTraces = false) (hI : s_inv S) (hno : ¬ okStorm S x) : gMi l E yL_keptOf wsL_keptOf ({ frames := 8, cells := 1, slots := 6, locals := 124 }) (xW E a S mk rk rv ++ ((o9, .inl (eL E, 1, .inr (.inl f9))) :: F)) [.ref (a 0), .int x, .ref o9] 1 (xW E a S mk rk rv ++ ((o9, .inl (eL E, 1, .inr (.inl f9))) :: F)) 1 6 := by
  refine gMi.ofW (cc := cL_keptOf) (maxL := 4) (ty := .int) (by decide) rfl (Nat.le_of_ble_eq_true rfl) ?_
  intro p e s m args below meth c A C ht ls hl hO
  have hl : lv_has ls 4 [(0, .ref (a 0)), (1, .int x), (2, .ref o9)] := hl
  refine lv_aload_n C.1 C.2.1 dL_keptOf_0 rfl (lv_at hl 2 rfl) ?_
  refine lv_iconst (v := 0) C.1 C.2.1 dL_keptOf_1 (by decide) ?_
  refine lv_aload_n C.1 C.2.1 dL_keptOf_2 rfl (lv_at hl 0 rfl) ?_
  refine lv_iload_n C.1 C.2.1 dL_keptOf_3 rfl (lv_at hl 1 rfl) ?_
  refine gXCall_i (As := [.int x]) (rest := [.int 0, .ref o9]) C hO (c_X2_keptOf l E a S mk rk rv ((o9, .inl (eL E, 1, .inr (.inl f9))) :: F) x hst hI) (cwV 1 C.2.2.2.2.1 gL_keptOf_X2_keptOf rfl rfl rfl (by decide +kernel) ⟨(Nat.le_of_ble_eq_true rfl), (Nat.le_of_ble_eq_true rfl)⟩) (va_recv C.2.2.2.2.2.2.2.1.1 hO.1 (ci := 2) (q0 := 0) rfl rfl) rfl hl.1 rfl (Nat.le_of_ble_eq_true rfl) dL_keptOf_4 ⟨(Nat.le_of_ble_eq_true rfl), (Nat.le_of_ble_eq_true rfl)⟩ (fun E0 ce q9 H locs hO hcell hcv hcl hbad => ?_) (fun H locs hO hok9 => ?_)
  · obtain ⟨rfl, _⟩ := hbad
    refine gCatch1 C ht (by decide) (by decide) (by decide +kernel) (by decide +kernel) hcell hcv hcl ?_
    refine lv_astore_n (lv' := [(3, .ref q9), (0, .ref (a 0)), (1, .int x), (2, .ref o9)]) C.1 C.2.1 dL_keptOf_12 rfl hl (by decide) rfl (fun ls hl => ?_)
    refine lv_iconst (v := 1) C.1 C.2.1 dL_keptOf_13 (by decide) ?_
    exact gRi C hO rfl rfl dL_keptOf_14 (Nat.le_of_ble_eq_true rfl) (Nat.le_of_ble_eq_true rfl)
  · have hok := hok9
    first | exact absurd hok hno | exact absurd hno hok | exact absurd hok.1 hno | exact absurd (And.intro hok.1 hok.2.1) hno | exact absurd hok.2 hno.2 | exact absurd hok.2.2 hno.2.2
set_option maxHeartbeats 4000000 in
set_option maxRecDepth 100000 in
theorem c_L_offsetOf_ok (l : Launch) (E : gE) (a : Nat → Nat) (S : St) (mk rk rv : Nat → Int32) (F : va_W) (o9 : Nat) (f9 : Nat → Int64) (x : Int32) (hst : l.stackTraces = false) (hI : s_inv S) (hok : (okShip S x)) : gMi l E yL_offsetOf wsL_offsetOf ({ frames := 8, cells := 1, slots := 6, locals := 124 }) (xW E a S mk rk rv ++ ((o9, .inl (eL E, 1, .inr (.inl f9))) :: F)) [.ref (a 0), .int x, .ref o9] 0 (xW E a S mk rk rv ++ ((o9, .inl (eL E, 1, .inr (.inl (vp_updL f9 0 (s_at S x.toNatClampNeg).toInt64)))) :: F)) 1 6 := by
  refine gMi.ofW (cc := cL_offsetOf) (maxL := 4) (ty := .int) (by decide) rfl (Nat.le_of_ble_eq_true rfl) ?_
  intro p e s m args below meth c A C ht ls hl hO
  have hl : lv_has ls 4 [(0, .ref (a 0)), (1, .int x), (2, .ref o9)] := hl
  refine lv_aload_n C.1 C.2.1 dL_offsetOf_0 rfl (lv_at hl 2 rfl) ?_
  refine lv_iconst (v := 0) C.1 C.2.1 dL_offsetOf_1 (by decide) ?_
  refine lv_aload_n C.1 C.2.1 dL_offsetOf_2 rfl (lv_at hl 0 rfl) ?_
  refine lv_iload_n C.1 C.2.1 dL_offsetOf_3 rfl (lv_at hl 1 rfl) ?_
  refine gXCall_i (As := [.int x]) (rest := [.int 0, .ref o9]) C hO (c_X2_offsetOf l E a S mk rk rv ((o9, .inl (eL E, 1, .inr (.inl f9))) :: F) x hst hI) (cwV 1 C.2.2.2.2.1 gL_offsetOf_X2_offsetOf rfl rfl rfl (by decide +kernel) ⟨(Nat.le_of_ble_eq_true rfl), (Nat.le_of_ble_eq_true rfl)⟩) (va_recv C.2.2.2.2.2.2.2.1.1 hO.1 (ci := 2) (q0 := 0) rfl rfl) rfl hl.1 rfl (Nat.le_of_ble_eq_true rfl) dL_offsetOf_4 ⟨(Nat.le_of_ble_eq_true rfl), (Nat.le_of_ble_eq_true rfl)⟩ (fun E0 ce q9 H locs hO hcell hcv hcl hbad => ?_) (fun H locs hO hok9 => ?_)
  · obtain ⟨_, hno⟩ := hbad
    first | exact absurd hok hno | exact absurd hno hok | exact absurd hok.1 hno | exact absurd (And.intro hok.1 hok.2.1) hno | exact absurd hok.2 hno.2 | exact absurd hok.2.2 hno.2.2
  · refine lv_i2l C.1 C.2.1 dL_offsetOf_7 rfl ?_
    refine gLast C hO dL_offsetOf_8 (fun H locs hO => ?_)
    refine lv_goto (tgt := 15) C.1 C.2.1 dL_offsetOf_9 (by decide) ?_
    refine lv_iconst (v := 0) C.1 C.2.1 dL_offsetOf_15 (by decide) ?_
    exact gRi C hO rfl rfl dL_offsetOf_16 (Nat.le_of_ble_eq_true rfl) (Nat.le_of_ble_eq_true rfl)
set_option maxHeartbeats 4000000 in
set_option maxRecDepth 100000 in
theorem c_L_offsetOf_no (l : Launch) (E : gE) (a : Nat → Nat) (S : St) (mk rk rv : Nat → Int32) (F : va_W) (o9 : Nat) (f9 : Nat → Int64) (x : Int32) (hst : l.stackTraces = false) (hI : s_inv S) (hno : ¬ okShip S x) : gMi l E yL_offsetOf wsL_offsetOf ({ frames := 8, cells := 1, slots := 6, locals := 124 }) (xW E a S mk rk rv ++ ((o9, .inl (eL E, 1, .inr (.inl f9))) :: F)) [.ref (a 0), .int x, .ref o9] 1 (xW E a S mk rk rv ++ ((o9, .inl (eL E, 1, .inr (.inl f9))) :: F)) 1 6 := by
  refine gMi.ofW (cc := cL_offsetOf) (maxL := 4) (ty := .int) (by decide) rfl (Nat.le_of_ble_eq_true rfl) ?_
  intro p e s m args below meth c A C ht ls hl hO
  have hl : lv_has ls 4 [(0, .ref (a 0)), (1, .int x), (2, .ref o9)] := hl
  refine lv_aload_n C.1 C.2.1 dL_offsetOf_0 rfl (lv_at hl 2 rfl) ?_
  refine lv_iconst (v := 0) C.1 C.2.1 dL_offsetOf_1 (by decide) ?_
  refine lv_aload_n C.1 C.2.1 dL_offsetOf_2 rfl (lv_at hl 0 rfl) ?_
  refine lv_iload_n C.1 C.2.1 dL_offsetOf_3 rfl (lv_at hl 1 rfl) ?_
  refine gXCall_i (As := [.int x]) (rest := [.int 0, .ref o9]) C hO (c_X2_offsetOf l E a S mk rk rv ((o9, .inl (eL E, 1, .inr (.inl f9))) :: F) x hst hI) (cwV 1 C.2.2.2.2.1 gL_offsetOf_X2_offsetOf rfl rfl rfl (by decide +kernel) ⟨(Nat.le_of_ble_eq_true rfl), (Nat.le_of_ble_eq_true rfl)⟩) (va_recv C.2.2.2.2.2.2.2.1.1 hO.1 (ci := 2) (q0 := 0) rfl rfl) rfl hl.1 rfl (Nat.le_of_ble_eq_true rfl) dL_offsetOf_4 ⟨(Nat.le_of_ble_eq_true rfl), (Nat.le_of_ble_eq_true rfl)⟩ (fun E0 ce q9 H locs hO hcell hcv hcl hbad => ?_) (fun H locs hO hok9 => ?_)
  · obtain ⟨rfl, _⟩ := hbad
    refine gCatch1 C ht (by decide) (by decide) (by decide +kernel) (by decide +kernel) hcell hcv hcl ?_
    refine lv_astore_n (lv' := [(3, .ref q9), (0, .ref (a 0)), (1, .int x), (2, .ref o9)]) C.1 C.2.1 dL_offsetOf_12 rfl hl (by decide) rfl (fun ls hl => ?_)
    refine lv_iconst (v := 1) C.1 C.2.1 dL_offsetOf_13 (by decide) ?_
    exact gRi C hO rfl rfl dL_offsetOf_14 (Nat.le_of_ble_eq_true rfl) (Nat.le_of_ble_eq_true rfl)
  · have hok := hok9
    first | exact absurd hok hno | exact absurd hno hok | exact absurd hok.1 hno | exact absurd (And.intro hok.1 hok.2.1) hno | exact absurd hok.2 hno.2 | exact absurd hok.2.2 hno.2.2
set_option maxHeartbeats 4000000 in
set_option maxRecDepth 100000 in
theorem c_L_lagOf_ok (l : Launch) (E : gE) (a : Nat → Nat) (S : St) (mk rk rv : Nat → Int32) (F : va_W) (o9 : Nat) (f9 : Nat → Int64) (x : Int32) (hst : l.stackTraces = false) (hI : s_inv S) (hok : (okShip S x)) : gMi l E yL_lagOf wsL_lagOf ({ frames := 8, cells := 1, slots := 6, locals := 124 }) (xW E a S mk rk rv ++ ((o9, .inl (eL E, 1, .inr (.inl f9))) :: F)) [.ref (a 0), .int x, .ref o9] 0 (xW E a S mk rk rv ++ ((o9, .inl (eL E, 1, .inr (.inl (vp_updL f9 0 (nI (s_lag S x.toNatClampNeg)).toInt64)))) :: F)) 1 6 := by
  refine gMi.ofW (cc := cL_lagOf) (maxL := 4) (ty := .int) (by decide) rfl (Nat.le_of_ble_eq_true rfl) ?_
  intro p e s m args below meth c A C ht ls hl hO
  have hl : lv_has ls 4 [(0, .ref (a 0)), (1, .int x), (2, .ref o9)] := hl
  refine lv_aload_n C.1 C.2.1 dL_lagOf_0 rfl (lv_at hl 2 rfl) ?_
  refine lv_iconst (v := 0) C.1 C.2.1 dL_lagOf_1 (by decide) ?_
  refine lv_aload_n C.1 C.2.1 dL_lagOf_2 rfl (lv_at hl 0 rfl) ?_
  refine lv_iload_n C.1 C.2.1 dL_lagOf_3 rfl (lv_at hl 1 rfl) ?_
  refine gXCall_i (As := [.int x]) (rest := [.int 0, .ref o9]) C hO (c_X2_lagOf l E a S mk rk rv ((o9, .inl (eL E, 1, .inr (.inl f9))) :: F) x hst hI) (cwV 1 C.2.2.2.2.1 gL_lagOf_X2_lagOf rfl rfl rfl (by decide +kernel) ⟨(Nat.le_of_ble_eq_true rfl), (Nat.le_of_ble_eq_true rfl)⟩) (va_recv C.2.2.2.2.2.2.2.1.1 hO.1 (ci := 2) (q0 := 0) rfl rfl) rfl hl.1 rfl (Nat.le_of_ble_eq_true rfl) dL_lagOf_4 ⟨(Nat.le_of_ble_eq_true rfl), (Nat.le_of_ble_eq_true rfl)⟩ (fun E0 ce q9 H locs hO hcell hcv hcl hbad => ?_) (fun H locs hO hok9 => ?_)
  · obtain ⟨_, hno⟩ := hbad
    first | exact absurd hok hno | exact absurd hno hok | exact absurd hok.1 hno | exact absurd (And.intro hok.1 hok.2.1) hno | exact absurd hok.2 hno.2 | exact absurd hok.2.2 hno.2.2
  · refine lv_i2l C.1 C.2.1 dL_lagOf_7 rfl ?_
    refine gLast C hO dL_lagOf_8 (fun H locs hO => ?_)
    refine lv_goto (tgt := 15) C.1 C.2.1 dL_lagOf_9 (by decide) ?_
    refine lv_iconst (v := 0) C.1 C.2.1 dL_lagOf_15 (by decide) ?_
    exact gRi C hO rfl rfl dL_lagOf_16 (Nat.le_of_ble_eq_true rfl) (Nat.le_of_ble_eq_true rfl)
set_option maxHeartbeats 4000000 in
set_option maxRecDepth 100000 in
theorem c_L_lagOf_no (l : Launch) (E : gE) (a : Nat → Nat) (S : St) (mk rk rv : Nat → Int32) (F : va_W) (o9 : Nat) (f9 : Nat → Int64) (x : Int32) (hst : l.stackTraces = false) (hI : s_inv S) (hno : ¬ okShip S x) : gMi l E yL_lagOf wsL_lagOf ({ frames := 8, cells := 1, slots := 6, locals := 124 }) (xW E a S mk rk rv ++ ((o9, .inl (eL E, 1, .inr (.inl f9))) :: F)) [.ref (a 0), .int x, .ref o9] 1 (xW E a S mk rk rv ++ ((o9, .inl (eL E, 1, .inr (.inl f9))) :: F)) 1 6 := by
  refine gMi.ofW (cc := cL_lagOf) (maxL := 4) (ty := .int) (by decide) rfl (Nat.le_of_ble_eq_true rfl) ?_
  intro p e s m args below meth c A C ht ls hl hO
  have hl : lv_has ls 4 [(0, .ref (a 0)), (1, .int x), (2, .ref o9)] := hl
  refine lv_aload_n C.1 C.2.1 dL_lagOf_0 rfl (lv_at hl 2 rfl) ?_
  refine lv_iconst (v := 0) C.1 C.2.1 dL_lagOf_1 (by decide) ?_
  refine lv_aload_n C.1 C.2.1 dL_lagOf_2 rfl (lv_at hl 0 rfl) ?_
  refine lv_iload_n C.1 C.2.1 dL_lagOf_3 rfl (lv_at hl 1 rfl) ?_
  refine gXCall_i (As := [.int x]) (rest := [.int 0, .ref o9]) C hO (c_X2_lagOf l E a S mk rk rv ((o9, .inl (eL E, 1, .inr (.inl f9))) :: F) x hst hI) (cwV 1 C.2.2.2.2.1 gL_lagOf_X2_lagOf rfl rfl rfl (by decide +kernel) ⟨(Nat.le_of_ble_eq_true rfl), (Nat.le_of_ble_eq_true rfl)⟩) (va_recv C.2.2.2.2.2.2.2.1.1 hO.1 (ci := 2) (q0 := 0) rfl rfl) rfl hl.1 rfl (Nat.le_of_ble_eq_true rfl) dL_lagOf_4 ⟨(Nat.le_of_ble_eq_true rfl), (Nat.le_of_ble_eq_true rfl)⟩ (fun E0 ce q9 H locs hO hcell hcv hcl hbad => ?_) (fun H locs hO hok9 => ?_)
  · obtain ⟨rfl, _⟩ := hbad
    refine gCatch1 C ht (by decide) (by decide) (by decide +kernel) (by decide +kernel) hcell hcv hcl ?_
    refine lv_astore_n (lv' := [(3, .ref q9), (0, .ref (a 0)), (1, .int x), (2, .ref o9)]) C.1 C.2.1 dL_lagOf_12 rfl hl (by decide) rfl (fun ls hl => ?_)
    refine lv_iconst (v := 1) C.1 C.2.1 dL_lagOf_13 (by decide) ?_
    exact gRi C hO rfl rfl dL_lagOf_14 (Nat.le_of_ble_eq_true rfl) (Nat.le_of_ble_eq_true rfl)
  · have hok := hok9
    first | exact absurd hok hno | exact absurd hno hok | exact absurd hok.1 hno | exact absurd (And.intro hok.1 hok.2.1) hno | exact absurd hok.2 hno.2 | exact absurd hok.2.2 hno.2.2
