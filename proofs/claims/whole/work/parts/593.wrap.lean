set_option maxHeartbeats 4000000 in
set_option maxRecDepth 100000 in
theorem c_L_heardBy_ok (l : Launch) (E : gE) (a : Nat → Nat) (S : St) (mk rk rv : Nat → Int32) (F : va_W) (o9 : Nat) (f9 : Nat → Int64) (x : Int32) (hst : l.stackTraces = false) (hI : s_inv S) (hok : (okShip S x)) : gMi l E yL_heardBy wsL_heardBy ({ frames := 8, cells := 1, slots := 6, locals := 124 }) (xW E a S mk rk rv ++ ((o9, .inl (eL E, 1, .inr (.inl f9))) :: F)) [.ref (a 0), .int x, .ref o9] 0 (xW E a S mk rk rv ++ ((o9, .inl (eL E, 1, .inr (.inl (vp_updL f9 0 (s_hd S x.toNatClampNeg).toInt64)))) :: F)) 1 6 := by
  refine gMi.ofW (cc := cL_heardBy) (maxL := 4) (ty := .int) (by decide) rfl (Nat.le_of_ble_eq_true rfl) ?_
  intro p e s m args below meth c A C ht ls hl hO
  have hl : lv_has ls 4 [(0, .ref (a 0)), (1, .int x), (2, .ref o9)] := hl
  refine lv_aload_n C.1 C.2.1 dL_heardBy_0 rfl (lv_at hl 2 rfl) ?_
  refine lv_iconst (v := 0) C.1 C.2.1 dL_heardBy_1 (by decide) ?_
  refine lv_aload_n C.1 C.2.1 dL_heardBy_2 rfl (lv_at hl 0 rfl) ?_
  refine lv_iload_n C.1 C.2.1 dL_heardBy_3 rfl (lv_at hl 1 rfl) ?_
  refine gXCall_i (As := [.int x]) (rest := [.int 0, .ref o9]) C hO (c_X2_heardBy l E a S mk rk rv ((o9, .inl (eL E, 1, .inr (.inl f9))) :: F) x hst hI) (cwV 1 C.2.2.2.2.1 gL_heardBy_X2_heardBy rfl rfl rfl (by decide +kernel) ⟨(Nat.le_of_ble_eq_true rfl), (Nat.le_of_ble_eq_true rfl)⟩) (va_recv C.2.2.2.2.2.2.2.1.1 hO.1 (ci := 2) (q0 := 0) rfl rfl) rfl hl.1 rfl (Nat.le_of_ble_eq_true rfl) dL_heardBy_4 ⟨(Nat.le_of_ble_eq_true rfl), (Nat.le_of_ble_eq_true rfl)⟩ (fun E0 ce q9 H locs hO hcell hcv hcl hbad => ?_) (fun H locs hO hok9 => ?_)
  · obtain ⟨_, hno⟩ := hbad
    first | exact absurd hok hno | exact absurd hno hok | exact absurd hok.1 hno | exact absurd (And.intro hok.1 hok.2.1) hno | exact absurd hok.2 hno.2 | exact absurd hok.2.2 hno.2.2
  · refine lv_i2l C.1 C.2.1 dL_heardBy_7 rfl ?_
    refine gLast C hO dL_heardBy_8 (fun H locs hO => ?_)
    refine lv_goto (tgt := 15) C.1 C.2.1 dL_heardBy_9 (by decide) ?_
    refine lv_iconst (v := 0) C.1 C.2.1 dL_heardBy_15 (by decide) ?_
    exact gRi C hO rfl rfl dL_heardBy_16 (Nat.le_of_ble_eq_true rfl) (Nat.le_of_ble_eq_true rfl)
set_option maxHeartbeats 4000000 in
set_option maxRecDepth 100000 in
theorem c_L_heardBy_no (l : Launch) (E : gE) (a : Nat → Nat) (S : St) (mk rk rv : Nat → Int32) (F : va_W) (o9 : Nat) (f9 : Nat → Int64) (x : Int32) (hst : l.stackTraces = false) (hI : s_inv S) (hno : ¬ okShip S x) : gMi l E yL_heardBy wsL_heardBy ({ frames := 8, cells := 1, slots := 6, locals := 124 }) (xW E a S mk rk rv ++ ((o9, .inl (eL E, 1, .inr (.inl f9))) :: F)) [.ref (a 0), .int x, .ref o9] 1 (xW E a S mk rk rv ++ ((o9, .inl (eL E, 1, .inr (.inl f9))) :: F)) 1 6 := by
  refine gMi.ofW (cc := cL_heardBy) (maxL := 4) (ty := .int) (by decide) rfl (Nat.le_of_ble_eq_true rfl) ?_
  intro p e s m args below meth c A C ht ls hl hO
  have hl : lv_has ls 4 [(0, .ref (a 0)), (1, .int x), (2, .ref o9)] := hl
  refine lv_aload_n C.1 C.2.1 dL_heardBy_0 rfl (lv_at hl 2 rfl) ?_
  refine lv_iconst (v := 0) C.1 C.2.1 dL_heardBy_1 (by decide) ?_
  refine lv_aload_n C.1 C.2.1 dL_heardBy_2 rfl (lv_at hl 0 rfl) ?_
  refine lv_iload_n C.1 C.2.1 dL_heardBy_3 rfl (lv_at hl 1 rfl) ?_
  refine gXCall_i (As := [.int x]) (rest := [.int 0, .ref o9]) C hO (c_X2_heardBy l E a S mk rk rv ((o9, .inl (eL E, 1, .inr (.inl f9))) :: F) x hst hI) (cwV 1 C.2.2.2.2.1 gL_heardBy_X2_heardBy rfl rfl rfl (by decide +kernel) ⟨(Nat.le_of_ble_eq_true rfl), (Nat.le_of_ble_eq_true rfl)⟩) (va_recv C.2.2.2.2.2.2.2.1.1 hO.1 (ci := 2) (q0 := 0) rfl rfl) rfl hl.1 rfl (Nat.le_of_ble_eq_true rfl) dL_heardBy_4 ⟨(Nat.le_of_ble_eq_true rfl), (Nat.le_of_ble_eq_true rfl)⟩ (fun E0 ce q9 H locs hO hcell hcv hcl hbad => ?_) (fun H locs hO hok9 => ?_)
  · obtain ⟨rfl, _⟩ := hbad
    refine gCatch1 C ht (by decide) (by decide) (by decide +kernel) (by decide +kernel) hcell hcv hcl ?_
    refine lv_astore_n (lv' := [(3, .ref q9), (0, .ref (a 0)), (1, .int x), (2, .ref o9)]) C.1 C.2.1 dL_heardBy_12 rfl hl (by decide) rfl (fun ls hl => ?_)
    refine lv_iconst (v := 1) C.1 C.2.1 dL_heardBy_13 (by decide) ?_
    exact gRi C hO rfl rfl dL_heardBy_14 (Nat.le_of_ble_eq_true rfl) (Nat.le_of_ble_eq_true rfl)
  · have hok := hok9
    first | exact absurd hok hno | exact absurd hno hok | exact absurd hok.1 hno | exact absurd (And.intro hok.1 hok.2.1) hno | exact absurd hok.2 hno.2 | exact absurd hok.2.2 hno.2.2
set_option maxHeartbeats 4000000 in
set_option maxRecDepth 100000 in
theorem c_L_missedBy_ok (l : Launch) (E : gE) (a : Nat → Nat) (S : St) (mk rk rv : Nat → Int32) (F : va_W) (o9 : Nat) (f9 : Nat → Int64) (x : Int32) (hst : l.stackTraces = false) (hI : s_inv S) (hok : (okShip S x)) : gMi l E yL_missedBy wsL_missedBy ({ frames := 8, cells := 1, slots := 6, locals := 124 }) (xW E a S mk rk rv ++ ((o9, .inl (eL E, 1, .inr (.inl f9))) :: F)) [.ref (a 0), .int x, .ref o9] 0 (xW E a S mk rk rv ++ ((o9, .inl (eL E, 1, .inr (.inl (vp_updL f9 0 (s_ms S x.toNatClampNeg).toInt64)))) :: F)) 1 6 := by
  refine gMi.ofW (cc := cL_missedBy) (maxL := 4) (ty := .int) (by decide) rfl (Nat.le_of_ble_eq_true rfl) ?_
  intro p e s m args below meth c A C ht ls hl hO
  have hl : lv_has ls 4 [(0, .ref (a 0)), (1, .int x), (2, .ref o9)] := hl
  refine lv_aload_n C.1 C.2.1 dL_missedBy_0 rfl (lv_at hl 2 rfl) ?_
  refine lv_iconst (v := 0) C.1 C.2.1 dL_missedBy_1 (by decide) ?_
  refine lv_aload_n C.1 C.2.1 dL_missedBy_2 rfl (lv_at hl 0 rfl) ?_
  refine lv_iload_n C.1 C.2.1 dL_missedBy_3 rfl (lv_at hl 1 rfl) ?_
  refine gXCall_i (As := [.int x]) (rest := [.int 0, .ref o9]) C hO (c_X2_missedBy l E a S mk rk rv ((o9, .inl (eL E, 1, .inr (.inl f9))) :: F) x hst hI) (cwV 1 C.2.2.2.2.1 gL_missedBy_X2_missedBy rfl rfl rfl (by decide +kernel) ⟨(Nat.le_of_ble_eq_true rfl), (Nat.le_of_ble_eq_true rfl)⟩) (va_recv C.2.2.2.2.2.2.2.1.1 hO.1 (ci := 2) (q0 := 0) rfl rfl) rfl hl.1 rfl (Nat.le_of_ble_eq_true rfl) dL_missedBy_4 ⟨(Nat.le_of_ble_eq_true rfl), (Nat.le_of_ble_eq_true rfl)⟩ (fun E0 ce q9 H locs hO hcell hcv hcl hbad => ?_) (fun H locs hO hok9 => ?_)
  · obtain ⟨_, hno⟩ := hbad
    first | exact absurd hok hno | exact absurd hno hok | exact absurd hok.1 hno | exact absurd (And.intro hok.1 hok.2.1) hno | exact absurd hok.2 hno.2 | exact absurd hok.2.2 hno.2.2
  · refine lv_i2l C.1 C.2.1 dL_missedBy_7 rfl ?_
    refine gLast C hO dL_missedBy_8 (fun H locs hO => ?_)
    refine lv_goto (tgt := 15) C.1 C.2.1 dL_missedBy_9 (by decide) ?_
    refine lv_iconst (v := 0) C.1 C.2.1 dL_missedBy_15 (by decide) ?_
    exact gRi C hO rfl rfl dL_missedBy_16 (Nat.le_of_ble_eq_true rfl) (Nat.le_of_ble_eq_true rfl)
set_option maxHeartbeats 4000000 in
set_option maxRecDepth 100000 in
theorem c_L_missedBy_no (l : Launch) (E : gE) (a : Nat → Nat) (S : St) (mk rk rv : Nat → Int32) (F : va_W) (o9 : Nat) (f9 : Nat → Int64) (x : Int32) (hst : l.stackTraces = false) (hI : s_inv S) (hno : ¬ okShip S x) : gMi l E yL_missedBy wsL_missedBy ({ frames := 8, cells := 1, slots := 6, locals := 124 }) (xW E a S mk rk rv ++ ((o9, .inl (eL E, 1, .inr (.inl f9))) :: F)) [.ref (a 0), .int x, .ref o9] 1 (xW E a S mk rk rv ++ ((o9, .inl (eL E, 1, .inr (.inl f9))) :: F)) 1 6 := by
  refine gMi.ofW (cc := cL_missedBy) (maxL := 4) (ty := .int) (by decide) rfl (Nat.le_of_ble_eq_true rfl) ?_
  intro p e s m args below meth c A C ht ls hl hO
  have hl : lv_has ls 4 [(0, .ref (a 0)), (1, .int x), (2, .ref o9)] := hl
  refine lv_aload_n C.1 C.2.1 dL_missedBy_0 rfl (lv_at hl 2 rfl) ?_
  refine lv_iconst (v := 0) C.1 C.2.1 dL_missedBy_1 (by decide) ?_
  refine lv_aload_n C.1 C.2.1 dL_missedBy_2 rfl (lv_at hl 0 rfl) ?_
  refine lv_iload_n C.1 C.2.1 dL_missedBy_3 rfl (lv_at hl 1 rfl) ?_
  refine gXCall_i (As := [.int x]) (rest := [.int 0, .ref o9]) C hO (c_X2_missedBy l E a S mk rk rv ((o9, .inl (eL E, 1, .inr (.inl f9))) :: F) x hst hI) (cwV 1 C.2.2.2.2.1 gL_missedBy_X2_missedBy rfl rfl rfl (by decide +kernel) ⟨(Nat.le_of_ble_eq_true rfl), (Nat.le_of_ble_eq_true rfl)⟩) (va_recv C.2.2.2.2.2.2.2.1.1 hO.1 (ci := 2) (q0 := 0) rfl rfl) rfl hl.1 rfl (Nat.le_of_ble_eq_true rfl) dL_missedBy_4 ⟨(Nat.le_of_ble_eq_true rfl), (Nat.le_of_ble_eq_true rfl)⟩ (fun E0 ce q9 H locs hO hcell hcv hcl hbad => ?_) (fun H locs hO hok9 => ?_)
  · obtain ⟨rfl, _⟩ := hbad
    refine gCatch1 C ht (by decide) (by decide) (by decide +kernel) (by decide +kernel) hcell hcv hcl ?_
    refine lv_astore_n (lv' := [(3, .ref q9), (0, .ref (a 0)), (1, .int x), (2, .ref o9)]) C.1 C.2.1 dL_missedBy_12 rfl hl (by decide) rfl (fun ls hl => ?_)
    refine lv_iconst (v := 1) C.1 C.2.1 dL_missedBy_13 (by decide) ?_
    exact gRi C hO rfl rfl dL_missedBy_14 (Nat.le_of_ble_eq_true rfl) (Nat.le_of_ble_eq_true rfl)
  · have hok := hok9
    first | exact absurd hok hno | exact absurd hno hok | exact absurd hok.1 hno | exact absurd (And.intro hok.1 hok.2.1) hno | exact absurd hok.2 hno.2 | exact absurd hok.2.2 hno.2.2
set_option maxHeartbeats 4000000 in
set_option maxRecDepth 100000 in
theorem c_L_knownBy_ok (l : Launch) (E : gE) (a : Nat → Nat) (S : St) (mk rk rv : Nat → Int32) (F : va_W) (o9 : Nat) (f9 : Nat → Int64) (x k : Int32) (hst : l.stackTraces = false) (hI : s_inv S) (hok : (okShip S x ∧ okKey k)) : gMi l E yL_knownBy wsL_knownBy ({ frames := 8, cells := 2, slots := 12, locals := 126 }) (xW E a S mk rk rv ++ ((o9, .inl (eL E, 1, .inr (.inl f9))) :: F)) [.ref (a 0), .int x, .int k, .ref o9] 0 (xW E a S mk rk rv ++ ((o9, .inl (eL E, 1, .inr (.inl (vp_updL f9 0 (s_kn S x.toNatClampNeg k.toNatClampNeg).toInt64)))) :: F)) 2 12 := by
  refine gMi.ofW (cc := cL_knownBy) (maxL := 5) (ty := .int) (by decide) rfl (Nat.le_of_ble_eq_true rfl) ?_
  intro p e s m args below meth c A C ht ls hl hO
  have hl : lv_has ls 5 [(0, .ref (a 0)), (1, .int x), (2, .int k), (3, .ref o9)] := hl
  refine lv_aload_n C.1 C.2.1 dL_knownBy_0 rfl (lv_at hl 3 rfl) ?_
  refine lv_iconst (v := 0) C.1 C.2.1 dL_knownBy_1 (by decide) ?_
  refine lv_aload_n C.1 C.2.1 dL_knownBy_2 rfl (lv_at hl 0 rfl) ?_
  refine lv_iload_n C.1 C.2.1 dL_knownBy_3 rfl (lv_at hl 1 rfl) ?_
  refine lv_iload_n C.1 C.2.1 dL_knownBy_4 rfl (lv_at hl 2 rfl) ?_
  refine gXCall_i (As := [.int x, .int k]) (rest := [.int 0, .ref o9]) C hO (c_X2_knownBy l E a S mk rk rv ((o9, .inl (eL E, 1, .inr (.inl f9))) :: F) x k hst hI) (cwV 2 C.2.2.2.2.1 gL_knownBy_X2_knownBy rfl rfl rfl (by decide +kernel) ⟨(Nat.le_of_ble_eq_true rfl), (Nat.le_of_ble_eq_true rfl)⟩) (va_recv C.2.2.2.2.2.2.2.1.1 hO.1 (ci := 2) (q0 := 0) rfl rfl) rfl hl.1 rfl (Nat.le_of_ble_eq_true rfl) dL_knownBy_5 ⟨(Nat.le_of_ble_eq_true rfl), (Nat.le_of_ble_eq_true rfl)⟩ (fun E0 ce q9 H locs hO hcell hcv hcl hbad => ?_) (fun H locs hO hok9 => ?_)
  · obtain ⟨_, hno⟩ := hbad
    first | exact absurd hok hno | exact absurd hno hok | exact absurd hok.1 hno | exact absurd (And.intro hok.1 hok.2.1) hno | exact absurd hok.2 hno.2 | exact absurd hok.2.2 hno.2.2
  · refine lv_i2l C.1 C.2.1 dL_knownBy_8 rfl ?_
    refine gLast C hO dL_knownBy_9 (fun H locs hO => ?_)
    refine lv_goto (tgt := 17) C.1 C.2.1 dL_knownBy_10 (by decide) ?_
    refine lv_iconst (v := 0) C.1 C.2.1 dL_knownBy_17 (by decide) ?_
    exact gRi C hO rfl rfl dL_knownBy_18 (Nat.le_of_ble_eq_true rfl) (Nat.le_of_ble_eq_true rfl)
set_option maxHeartbeats 4000000 in
set_option maxRecDepth 100000 in
theorem c_L_knownBy_no (l : Launch) (E : gE) (a : Nat → Nat) (S : St) (mk rk rv : Nat → Int32) (F : va_W) (o9 : Nat) (f9 : Nat → Int64) (x k : Int32) (hst : l.stackTraces = false) (hI : s_inv S) (hno : ¬ (okShip S x ∧ okKey k)) : gMi l E yL_knownBy wsL_knownBy ({ frames := 8, cells := 2, slots := 12, locals := 126 }) (xW E a S mk rk rv ++ ((o9, .inl (eL E, 1, .inr (.inl f9))) :: F)) [.ref (a 0), .int x, .int k, .ref o9] 1 (xW E a S mk rk rv ++ ((o9, .inl (eL E, 1, .inr (.inl f9))) :: F)) 2 12 := by
  refine gMi.ofW (cc := cL_knownBy) (maxL := 5) (ty := .int) (by decide) rfl (Nat.le_of_ble_eq_true rfl) ?_
  intro p e s m args below meth c A C ht ls hl hO
  have hl : lv_has ls 5 [(0, .ref (a 0)), (1, .int x), (2, .int k), (3, .ref o9)] := hl
  refine lv_aload_n C.1 C.2.1 dL_knownBy_0 rfl (lv_at hl 3 rfl) ?_
  refine lv_iconst (v := 0) C.1 C.2.1 dL_knownBy_1 (by decide) ?_
  refine lv_aload_n C.1 C.2.1 dL_knownBy_2 rfl (lv_at hl 0 rfl) ?_
  refine lv_iload_n C.1 C.2.1 dL_knownBy_3 rfl (lv_at hl 1 rfl) ?_
  refine lv_iload_n C.1 C.2.1 dL_knownBy_4 rfl (lv_at hl 2 rfl) ?_
  refine gXCall_i (As := [.int x, .int k]) (rest := [.int 0, .ref o9]) C hO (c_X2_knownBy l E a S mk rk rv ((o9, .inl (eL E, 1, .inr (.inl f9))) :: F) x k hst hI) (cwV 2 C.2.2.2.2.1 gL_knownBy_X2_knownBy rfl rfl rfl (by decide +kernel) ⟨(Nat.le_of_ble_eq_true rfl), (Nat.le_of_ble_eq_true rfl)⟩) (va_recv C.2.2.2.2.2.2.2.1.1 hO.1 (ci := 2) (q0 := 0) rfl rfl) rfl hl.1 rfl (Nat.le_of_ble_eq_true rfl) dL_knownBy_5 ⟨(Nat.le_of_ble_eq_true rfl), (Nat.le_of_ble_eq_true rfl)⟩ (fun E0 ce q9 H locs hO hcell hcv hcl hbad => ?_) (fun H locs hO hok9 => ?_)
  · obtain ⟨rfl, _⟩ := hbad
    refine gCatch1 C ht (by decide) (by decide) (by decide +kernel) (by decide +kernel) hcell hcv hcl ?_
    refine lv_astore (lv' := [(4, .ref q9), (0, .ref (a 0)), (1, .int x), (2, .int k), (3, .ref o9)]) C.1 C.2.1 dL_knownBy_13 hl (by decide) rfl (fun ls hl => ?_)
    refine lv_iconst (v := 1) C.1 C.2.1 dL_knownBy_15 (by decide) ?_
    exact gRi C hO rfl rfl dL_knownBy_16 (Nat.le_of_ble_eq_true rfl) (Nat.le_of_ble_eq_true rfl)
  · have hok := hok9
    first | exact absurd hok hno | exact absurd hno hok | exact absurd hok.1 hno | exact absurd (And.intro hok.1 hok.2.1) hno | exact absurd hok.2 hno.2 | exact absurd hok.2.2 hno.2.2
set_option maxHeartbeats 4000000 in
set_option maxRecDepth 100000 in
theorem c_L_errorsOf_ok (l : Launch) (E : gE) (a : Nat → Nat) (S : St) (mk rk rv : Nat → Int32) (F : va_W) (o9 : Nat) (f9 : Nat → Int64) (x : Int32) (hst : l.stackTraces = false) (hI : s_inv S) (hok : (okShip S x)) : gMi l E yL_errorsOf wsL_errorsOf ({ frames := 8, cells := 1, slots := 6, locals := 124 }) (xW E a S mk rk rv ++ ((o9, .inl (eL E, 1, .inr (.inl f9))) :: F)) [.ref (a 0), .int x, .ref o9] 0 (xW E a S mk rk rv ++ ((o9, .inl (eL E, 1, .inr (.inl (vp_updL f9 0 (nI (s_ea S x.toNatClampNeg 0)).toInt64)))) :: F)) 1 6 := by
  refine gMi.ofW (cc := cL_errorsOf) (maxL := 4) (ty := .int) (by decide) rfl (Nat.le_of_ble_eq_true rfl) ?_
  intro p e s m args below meth c A C ht ls hl hO
  have hl : lv_has ls 4 [(0, .ref (a 0)), (1, .int x), (2, .ref o9)] := hl
  refine lv_aload_n C.1 C.2.1 dL_errorsOf_0 rfl (lv_at hl 2 rfl) ?_
  refine lv_iconst (v := 0) C.1 C.2.1 dL_errorsOf_1 (by decide) ?_
  refine lv_aload_n C.1 C.2.1 dL_errorsOf_2 rfl (lv_at hl 0 rfl) ?_
  refine lv_iload_n C.1 C.2.1 dL_errorsOf_3 rfl (lv_at hl 1 rfl) ?_
  refine gXCall_i (As := [.int x]) (rest := [.int 0, .ref o9]) C hO (c_X2_errorsOf l E a S mk rk rv ((o9, .inl (eL E, 1, .inr (.inl f9))) :: F) x hst hI) (cwV 1 C.2.2.2.2.1 gL_errorsOf_X2_errorsOf rfl rfl rfl (by decide +kernel) ⟨(Nat.le_of_ble_eq_true rfl), (Nat.le_of_ble_eq_true rfl)⟩) (va_recv C.2.2.2.2.2.2.2.1.1 hO.1 (ci := 2) (q0 := 0) rfl rfl) rfl hl.1 rfl (Nat.le_of_ble_eq_true rfl) dL_errorsOf_4 ⟨(Nat.le_of_ble_eq_true rfl), (Nat.le_of_ble_eq_true rfl)⟩ (fun E0 ce q9 H locs hO hcell hcv hcl hbad => ?_) (fun H locs hO hok9 => ?_)
  · obtain ⟨_, hno⟩ := hbad
    first | exact absurd hok hno | exact absurd hno hok | exact absurd hok.1 hno | exact absurd (And.intro hok.1 hok.2.1) hno | exact absurd hok.2 hno.2 | exact absurd hok.2.2 hno.2.2
  · refine lv_i2l C.1 C.2.1 dL_errorsOf_7 rfl ?_
    refine gLast C hO dL_errorsOf_8 (fun H locs hO => ?_)
    refine lv_goto (tgt := 15) C.1 C.2.1 dL_errorsOf_9 (by decide) ?_
    refine lv_iconst (v := 0) C.1 C.2.1 dL_errorsOf_15 (by decide) ?_
    exact gRi C hO rfl rfl dL_errorsOf_16 (Nat.le_of_ble_eq_true rfl) (Nat.le_of_ble_eq_true rfl)
set_option maxHeartbeats 4000000 in
set_option maxRecDepth 100000 in
theorem c_L_errorsOf_no (l : Launch) (E : gE) (a : Nat → Nat) (S : St) (mk rk rv : Nat → Int32) (F : va_W) (o9 : Nat) (f9 : Nat → Int64) (x : Int32) (hst : l.stackTraces = false) (hI : s_inv S) (hno : ¬ okShip S x) : gMi l E yL_errorsOf wsL_errorsOf ({ frames := 8, cells := 1, slots := 6, locals := 124 }) (xW E a S mk rk rv ++ ((o9, .inl (eL E, 1, .inr (.inl f9))) :: F)) [.ref (a 0), .int x, .ref o9] 1 (xW E a S mk rk rv ++ ((o9, .inl (eL E, 1, .inr (.inl f9))) :: F)) 1 6 := by
  refine gMi.ofW (cc := cL_errorsOf) (maxL := 4) (ty := .int) (by decide) rfl (Nat.le_of_ble_eq_true rfl) ?_
  intro p e s m args below meth c A C ht ls hl hO
  have hl : lv_has ls 4 [(0, .ref (a 0)), (1, .int x), (2, .ref o9)] := hl
  refine lv_aload_n C.1 C.2.1 dL_errorsOf_0 rfl (lv_at hl 2 rfl) ?_
  refine lv_iconst (v := 0) C.1 C.2.1 dL_errorsOf_1 (by decide) ?_
  refine lv_aload_n C.1 C.2.1 dL_errorsOf_2 rfl (lv_at hl 0 rfl) ?_
  refine lv_iload_n C.1 C.2.1 dL_errorsOf_3 rfl (lv_at hl 1 rfl) ?_
  refine gXCall_i (As := [.int x]) (rest := [.int 0, .ref o9]) C hO (c_X2_errorsOf l E a S mk rk rv ((o9, .inl (eL E, 1, .inr (.inl f9))) :: F) x hst hI) (cwV 1 C.2.2.2.2.1 gL_errorsOf_X2_errorsOf rfl rfl rfl (by decide +kernel) ⟨(Nat.le_of_ble_eq_true rfl), (Nat.le_of_ble_eq_true rfl)⟩) (va_recv C.2.2.2.2.2.2.2.1.1 hO.1 (ci := 2) (q0 := 0) rfl rfl) rfl hl.1 rfl (Nat.le_of_ble_eq_true rfl) dL_errorsOf_4 ⟨(Nat.le_of_ble_eq_true rfl), (Nat.le_of_ble_eq_true rfl)⟩ (fun E0 ce q9 H locs hO hcell hcv hcl hbad => ?_) (fun H locs hO hok9 => ?_)
  · obtain ⟨rfl, _⟩ := hbad
    refine gCatch1 C ht (by decide) (by decide) (by decide +kernel) (by decide +kernel) hcell hcv hcl ?_
    refine lv_astore_n (lv' := [(3, .ref q9), (0, .ref (a 0)), (1, .int x), (2, .ref o9)]) C.1 C.2.1 dL_errorsOf_12 rfl hl (by decide) rfl (fun ls hl => ?_)
    refine lv_iconst (v := 1) C.1 C.2.1 dL_errorsOf_13 (by decide) ?_
    exact gRi C hO rfl rfl dL_errorsOf_14 (Nat.le_of_ble_eq_true rfl) (Nat.le_of_ble_eq_true rfl)
  · have hok := hok9
    first | exact absurd hok hno | exact absurd hno hok | exact absurd hok.1 hno | exact absurd (And.intro hok.1 hok.2.1) hno | exact absurd hok.2 hno.2 | exact absurd hok.2.2 hno.2.2
set_option maxHeartbeats 4000000 in
set_option maxRecDepth 100000 in
theorem c_L_hoursUntilCaughtUp_ok (l : Launch) (E : gE) (a : Nat → Nat) (S : St) (mk rk rv : Nat → Int32) (F : va_W) (o9 : Nat) (f9 : Nat → Int64) (x : Int32) (hst : l.stackTraces = false) (hI : s_inv S) (hok : (okShip S x)) : gMi l E yL_hoursUntilCaughtUp wsL_hoursUntilCaughtUp ({ frames := 8, cells := 1, slots := 6, locals := 124 }) (xW E a S mk rk rv ++ ((o9, .inl (eL E, 1, .inr (.inl f9))) :: F)) [.ref (a 0), .int x, .ref o9] 0 (xW E a S mk rk rv ++ ((o9, .inl (eL E, 1, .inr (.inl (vp_updL f9 0 (s_un S x.toNatClampNeg).toInt64)))) :: F)) 1 6 := by
  refine gMi.ofW (cc := cL_hoursUntilCaughtUp) (maxL := 4) (ty := .int) (by decide) rfl (Nat.le_of_ble_eq_true rfl) ?_
  intro p e s m args below meth c A C ht ls hl hO
  have hl : lv_has ls 4 [(0, .ref (a 0)), (1, .int x), (2, .ref o9)] := hl
  refine lv_aload_n C.1 C.2.1 dL_hoursUntilCaughtUp_0 rfl (lv_at hl 2 rfl) ?_
  refine lv_iconst (v := 0) C.1 C.2.1 dL_hoursUntilCaughtUp_1 (by decide) ?_
  refine lv_aload_n C.1 C.2.1 dL_hoursUntilCaughtUp_2 rfl (lv_at hl 0 rfl) ?_
  refine lv_iload_n C.1 C.2.1 dL_hoursUntilCaughtUp_3 rfl (lv_at hl 1 rfl) ?_
  refine gXCall_i (As := [.int x]) (rest := [.int 0, .ref o9]) C hO (c_X2_hoursUntilCaughtUp l E a S mk rk rv ((o9, .inl (eL E, 1, .inr (.inl f9))) :: F) x hst hI) (cwV 1 C.2.2.2.2.1 gL_hoursUntilCaughtUp_X2_hoursUntilCaughtUp rfl rfl rfl (by decide +kernel) ⟨(Nat.le_of_ble_eq_true rfl), (Nat.le_of_ble_eq_true rfl)⟩) (va_recv C.2.2.2.2.2.2.2.1.1 hO.1 (ci := 2) (q0 := 0) rfl rfl) rfl hl.1 rfl (Nat.le_of_ble_eq_true rfl) dL_hoursUntilCaughtUp_4 ⟨(Nat.le_of_ble_eq_true rfl), (Nat.le_of_ble_eq_true rfl)⟩ (fun E0 ce q9 H locs hO hcell hcv hcl hbad => ?_) (fun H locs hO hok9 => ?_)
  · obtain ⟨_, hno⟩ := hbad
    first | exact absurd hok hno | exact absurd hno hok | exact absurd hok.1 hno | exact absurd (And.intro hok.1 hok.2.1) hno | exact absurd hok.2 hno.2 | exact absurd hok.2.2 hno.2.2
  · refine lv_i2l C.1 C.2.1 dL_hoursUntilCaughtUp_7 rfl ?_
    refine gLast C hO dL_hoursUntilCaughtUp_8 (fun H locs hO => ?_)
    refine lv_goto (tgt := 15) C.1 C.2.1 dL_hoursUntilCaughtUp_9 (by decide) ?_
    refine lv_iconst (v := 0) C.1 C.2.1 dL_hoursUntilCaughtUp_15 (by decide) ?_
    exact gRi C hO rfl rfl dL_hoursUntilCaughtUp_16 (Nat.le_of_ble_eq_true rfl) (Nat.le_of_ble_eq_true rfl)
set_option maxHeartbeats 4000000 in
set_option maxRecDepth 100000 in
theorem c_L_hoursUntilCaughtUp_no (l : Launch) (E : gE) (a : Nat → Nat) (S : St) (mk rk rv : Nat → Int32) (F : va_W) (o9 : Nat) (f9 : Nat → Int64) (x : Int32) (hst : l.stackTraces = false) (hI : s_inv S) (hno : ¬ okShip S x) : gMi l E yL_hoursUntilCaughtUp wsL_hoursUntilCaughtUp ({ frames := 8, cells := 1, slots := 6, locals := 124 }) (xW E a S mk rk rv ++ ((o9, .inl (eL E, 1, .inr (.inl f9))) :: F)) [.ref (a 0), .int x, .ref o9] 1 (xW E a S mk rk rv ++ ((o9, .inl (eL E, 1, .inr (.inl f9))) :: F)) 1 6 := by
  refine gMi.ofW (cc := cL_hoursUntilCaughtUp) (maxL := 4) (ty := .int) (by decide) rfl (Nat.le_of_ble_eq_true rfl) ?_
  intro p e s m args below meth c A C ht ls hl hO
  have hl : lv_has ls 4 [(0, .ref (a 0)), (1, .int x), (2, .ref o9)] := hl
  refine lv_aload_n C.1 C.2.1 dL_hoursUntilCaughtUp_0 rfl (lv_at hl 2 rfl) ?_
  refine lv_iconst (v := 0) C.1 C.2.1 dL_hoursUntilCaughtUp_1 (by decide) ?_
  refine lv_aload_n C.1 C.2.1 dL_hoursUntilCaughtUp_2 rfl (lv_at hl 0 rfl) ?_
  refine lv_iload_n C.1 C.2.1 dL_hoursUntilCaughtUp_3 rfl (lv_at hl 1 rfl) ?_
  refine gXCall_i (As := [.int x]) (rest := [.int 0, .ref o9]) C hO (c_X2_hoursUntilCaughtUp l E a S mk rk rv ((o9, .inl (eL E, 1, .inr (.inl f9))) :: F) x hst hI) (cwV 1 C.2.2.2.2.1 gL_hoursUntilCaughtUp_X2_hoursUntilCaughtUp rfl rfl rfl (by decide +kernel) ⟨(Nat.le_of_ble_eq_true rfl), (Nat.le_of_ble_eq_true rfl)⟩) (va_recv C.2.2.2.2.2.2.2.1.1 hO.1 (ci := 2) (q0 := 0) rfl rfl) rfl hl.1 rfl (Nat.le_of_ble_eq_true rfl) dL_hoursUntilCaughtUp_4 ⟨(Nat.le_of_ble_eq_true rfl), (Nat.le_of_ble_eq_true rfl)⟩ (fun E0 ce q9 H locs hO hcell hcv hcl hbad => ?_) (fun H locs hO hok9 => ?_)
  · obtain ⟨rfl, _⟩ := hbad
    refine gCatch1 C ht (by decide) (by decide) (by decide +kernel) (by decide +kernel) hcell hcv hcl ?_
    refine lv_astore_n (lv' := [(3, .ref q9), (0, .ref (a 0)), (1, .int x), (2, .ref o9)]) C.1 C.2.1 dL_hoursUntilCaughtUp_12 rfl hl (by decide) rfl (fun ls hl => ?_)
    refine lv_iconst (v := 1) C.1 C.2.1 dL_hoursUntilCaughtUp_13 (by decide) ?_
    exact gRi C hO rfl rfl dL_hoursUntilCaughtUp_14 (Nat.le_of_ble_eq_true rfl) (Nat.le_of_ble_eq_true rfl)
  · have hok := hok9
    first | exact absurd hok hno | exact absurd hno hok | exact absurd hok.1 hno | exact absurd (And.intro hok.1 hok.2.1) hno | exact absurd hok.2 hno.2 | exact absurd hok.2.2 hno.2.2
set_option maxHeartbeats 4000000 in
set_option maxRecDepth 100000 in
theorem c_L_errorsIn_ok (l : Launch) (E : gE) (a : Nat → Nat) (S : St) (mk rk rv : Nat → Int32) (F : va_W) (o9 : Nat) (f9 : Nat → Int64) (x h : Int32) (hst : l.stackTraces = false) (hI : s_inv S) (hok : (okShip S x ∧ okHours h)) : gMi l E yL_errorsIn wsL_errorsIn ({ frames := 8, cells := 2, slots := 12, locals := 126 }) (xW E a S mk rk rv ++ ((o9, .inl (eL E, 1, .inr (.inl f9))) :: F)) [.ref (a 0), .int x, .int h, .ref o9] 0 (xW E a S mk rk rv ++ ((o9, .inl (eL E, 1, .inr (.inl (vp_updL f9 0 (nI (s_ea S x.toNatClampNeg (mhN S h.toNatClampNeg (pN S x.toNatClampNeg)))).toInt64)))) :: F)) 2 12 := by
  refine gMi.ofW (cc := cL_errorsIn) (maxL := 5) (ty := .int) (by decide) rfl (Nat.le_of_ble_eq_true rfl) ?_
  intro p e s m args below meth c A C ht ls hl hO
  have hl : lv_has ls 5 [(0, .ref (a 0)), (1, .int x), (2, .int h), (3, .ref o9)] := hl
  refine lv_aload_n C.1 C.2.1 dL_errorsIn_0 rfl (lv_at hl 3 rfl) ?_
  refine lv_iconst (v := 0) C.1 C.2.1 dL_errorsIn_1 (by decide) ?_
  refine lv_aload_n C.1 C.2.1 dL_errorsIn_2 rfl (lv_at hl 0 rfl) ?_
  refine lv_iload_n C.1 C.2.1 dL_errorsIn_3 rfl (lv_at hl 1 rfl) ?_
  refine lv_iload_n C.1 C.2.1 dL_errorsIn_4 rfl (lv_at hl 2 rfl) ?_
  refine gXCall_i (As := [.int x, .int h]) (rest := [.int 0, .ref o9]) C hO (c_X2_errorsIn l E a S mk rk rv ((o9, .inl (eL E, 1, .inr (.inl f9))) :: F) x h hst hI) (cwV 2 C.2.2.2.2.1 gL_errorsIn_X2_errorsIn rfl rfl rfl (by decide +kernel) ⟨(Nat.le_of_ble_eq_true rfl), (Nat.le_of_ble_eq_true rfl)⟩) (va_recv C.2.2.2.2.2.2.2.1.1 hO.1 (ci := 2) (q0 := 0) rfl rfl) rfl hl.1 rfl (Nat.le_of_ble_eq_true rfl) dL_errorsIn_5 ⟨(Nat.le_of_ble_eq_true rfl), (Nat.le_of_ble_eq_true rfl)⟩ (fun E0 ce q9 H locs hO hcell hcv hcl hbad => ?_) (fun H locs hO hok9 => ?_)
  · rcases hbad with ⟨_, hno⟩ | ⟨_, hno⟩
    · first | exact absurd hok hno | exact absurd hno hok | exact absurd hok.1 hno | exact absurd (And.intro hok.1 hok.2.1) hno | exact absurd hok.2 hno.2 | exact absurd hok.2.2 hno.2.2
    · first | exact absurd hok hno | exact absurd hno hok | exact absurd hok.1 hno | exact absurd (And.intro hok.1 hok.2.1) hno | exact absurd hok.2 hno.2 | exact absurd hok.2.2 hno.2.2
  · refine lv_i2l C.1 C.2.1 dL_errorsIn_8 rfl ?_
    refine gLast C hO dL_errorsIn_9 (fun H locs hO => ?_)
    refine lv_goto (tgt := 21) C.1 C.2.1 dL_errorsIn_10 (by decide) ?_
    refine lv_iconst (v := 0) C.1 C.2.1 dL_errorsIn_21 (by decide) ?_
    exact gRi C hO rfl rfl dL_errorsIn_22 (Nat.le_of_ble_eq_true rfl) (Nat.le_of_ble_eq_true rfl)
set_option maxHeartbeats 4000000 in
set_option maxRecDepth 100000 in
theorem c_L_errorsIn_no1 (l : Launch) (E : gE) (a : Nat → Nat) (S : St) (mk rk rv : Nat → Int32) (F : va_W) (o9 : Nat) (f9 : Nat → Int64) (x h : Int32) (hst : l.stackTraces = false) (hI : s_inv S) (hno : ¬ okShip S x) : gMi l E yL_errorsIn wsL_errorsIn ({ frames := 8, cells := 2, slots := 12, locals := 126 }) (xW E a S mk rk rv ++ ((o9, .inl (eL E, 1, .inr (.inl f9))) :: F)) [.ref (a 0), .int x, .int h, .ref o9] 1 (xW E a S mk rk rv ++ ((o9, .inl (eL E, 1, .inr (.inl f9))) :: F)) 2 12 := by
  refine gMi.ofW (cc := cL_errorsIn) (maxL := 5) (ty := .int) (by decide) rfl (Nat.le_of_ble_eq_true rfl) ?_
  intro p e s m args below meth c A C ht ls hl hO
  have hl : lv_has ls 5 [(0, .ref (a 0)), (1, .int x), (2, .int h), (3, .ref o9)] := hl
  refine lv_aload_n C.1 C.2.1 dL_errorsIn_0 rfl (lv_at hl 3 rfl) ?_
  refine lv_iconst (v := 0) C.1 C.2.1 dL_errorsIn_1 (by decide) ?_
  refine lv_aload_n C.1 C.2.1 dL_errorsIn_2 rfl (lv_at hl 0 rfl) ?_
  refine lv_iload_n C.1 C.2.1 dL_errorsIn_3 rfl (lv_at hl 1 rfl) ?_
  refine lv_iload_n C.1 C.2.1 dL_errorsIn_4 rfl (lv_at hl 2 rfl) ?_
  refine gXCall_i (As := [.int x, .int h]) (rest := [.int 0, .ref o9]) C hO (c_X2_errorsIn l E a S mk rk rv ((o9, .inl (eL E, 1, .inr (.inl f9))) :: F) x h hst hI) (cwV 2 C.2.2.2.2.1 gL_errorsIn_X2_errorsIn rfl rfl rfl (by decide +kernel) ⟨(Nat.le_of_ble_eq_true rfl), (Nat.le_of_ble_eq_true rfl)⟩) (va_recv C.2.2.2.2.2.2.2.1.1 hO.1 (ci := 2) (q0 := 0) rfl rfl) rfl hl.1 rfl (Nat.le_of_ble_eq_true rfl) dL_errorsIn_5 ⟨(Nat.le_of_ble_eq_true rfl), (Nat.le_of_ble_eq_true rfl)⟩ (fun E0 ce q9 H locs hO hcell hcv hcl hbad => ?_) (fun H locs hO hok9 => ?_)
  · rcases hbad with ⟨rfl, _⟩ | ⟨_, hb9⟩
    · refine gCatch1 C ht (by decide) (by decide) (by decide +kernel) (by decide +kernel) hcell hcv hcl ?_
      refine lv_astore (lv' := [(4, .ref q9), (0, .ref (a 0)), (1, .int x), (2, .int h), (3, .ref o9)]) C.1 C.2.1 dL_errorsIn_13 hl (by decide) rfl (fun ls hl => ?_)
      refine lv_iconst (v := 1) C.1 C.2.1 dL_errorsIn_15 (by decide) ?_
      exact gRi C hO rfl rfl dL_errorsIn_16 (Nat.le_of_ble_eq_true rfl) (Nat.le_of_ble_eq_true rfl)
    · first | exact absurd hb9.1 hno | exact absurd (And.intro hb9.1 hb9.2.1) hno
  · have hok := hok9
    first | exact absurd hok hno | exact absurd hno hok | exact absurd hok.1 hno | exact absurd (And.intro hok.1 hok.2.1) hno | exact absurd hok.2 hno.2 | exact absurd hok.2.2 hno.2.2
set_option maxHeartbeats 4000000 in
set_option maxRecDepth 100000 in
theorem c_L_errorsIn_no2 (l : Launch) (E : gE) (a : Nat → Nat) (S : St) (mk rk rv : Nat → Int32) (F : va_W) (o9 : Nat) (f9 : Nat → Int64) (x h : Int32) (hst : l.stackTraces = false) (hI : s_inv S) (hno : okShip S x ∧ ¬ okHours h) : gMi l E yL_errorsIn wsL_errorsIn ({ frames := 8, cells := 2, slots := 12, locals := 126 }) (xW E a S mk rk rv ++ ((o9, .inl (eL E, 1, .inr (.inl f9))) :: F)) [.ref (a 0), .int x, .int h, .ref o9] 2 (xW E a S mk rk rv ++ ((o9, .inl (eL E, 1, .inr (.inl f9))) :: F)) 2 12 := by
  refine gMi.ofW (cc := cL_errorsIn) (maxL := 5) (ty := .int) (by decide) rfl (Nat.le_of_ble_eq_true rfl) ?_
  intro p e s m args below meth c A C ht ls hl hO
  have hl : lv_has ls 5 [(0, .ref (a 0)), (1, .int x), (2, .int h), (3, .ref o9)] := hl
  refine lv_aload_n C.1 C.2.1 dL_errorsIn_0 rfl (lv_at hl 3 rfl) ?_
  refine lv_iconst (v := 0) C.1 C.2.1 dL_errorsIn_1 (by decide) ?_
  refine lv_aload_n C.1 C.2.1 dL_errorsIn_2 rfl (lv_at hl 0 rfl) ?_
  refine lv_iload_n C.1 C.2.1 dL_errorsIn_3 rfl (lv_at hl 1 rfl) ?_
  refine lv_iload_n C.1 C.2.1 dL_errorsIn_4 rfl (lv_at hl 2 rfl) ?_
  refine gXCall_i (As := [.int x, .int h]) (rest := [.int 0, .ref o9]) C hO (c_X2_errorsIn l E a S mk rk rv ((o9, .inl (eL E, 1, .inr (.inl f9))) :: F) x h hst hI) (cwV 2 C.2.2.2.2.1 gL_errorsIn_X2_errorsIn rfl rfl rfl (by decide +kernel) ⟨(Nat.le_of_ble_eq_true rfl), (Nat.le_of_ble_eq_true rfl)⟩) (va_recv C.2.2.2.2.2.2.2.1.1 hO.1 (ci := 2) (q0 := 0) rfl rfl) rfl hl.1 rfl (Nat.le_of_ble_eq_true rfl) dL_errorsIn_5 ⟨(Nat.le_of_ble_eq_true rfl), (Nat.le_of_ble_eq_true rfl)⟩ (fun E0 ce q9 H locs hO hcell hcv hcl hbad => ?_) (fun H locs hO hok9 => ?_)
  · rcases hbad with ⟨_, hb9⟩ | ⟨rfl, _⟩
    · first | exact absurd hno.1 hb9 | exact absurd (And.intro hno.1 hno.2.1) hb9
    · refine gCatch2 (E1 := xIOE) C ht (by decide) (by decide +kernel) (by decide +kernel) (by decide) (by decide) (by decide +kernel) (by decide +kernel) hcell hcv hcl ?_
      refine lv_astore (lv' := [(4, .ref q9), (0, .ref (a 0)), (1, .int x), (2, .int h), (3, .ref o9)]) C.1 C.2.1 dL_errorsIn_17 hl (by decide) rfl (fun ls hl => ?_)
      refine lv_iconst (v := 2) C.1 C.2.1 dL_errorsIn_19 (by decide) ?_
      exact gRi C hO rfl rfl dL_errorsIn_20 (Nat.le_of_ble_eq_true rfl) (Nat.le_of_ble_eq_true rfl)
  · have hok := hok9
    first | exact absurd hok hno | exact absurd hno hok | exact absurd hok.1 hno | exact absurd (And.intro hok.1 hok.2.1) hno | exact absurd hok.2 hno.2 | exact absurd hok.2.2 hno.2.2
set_option maxHeartbeats 4000000 in
set_option maxRecDepth 100000 in
theorem c_L_paceWanted_ok (l : Launch) (E : gE) (a : Nat → Nat) (S : St) (mk rk rv : Nat → Int32) (F : va_W) (o9 : Nat) (f9 : Nat → Int64) (x h : Int32) (hst : l.stackTraces = false) (hI : s_inv S) (hok : (okShip S x ∧ okHours h)) : gMi l E yL_paceWanted wsL_paceWanted ({ frames := 8, cells := 2, slots := 12, locals := 127 }) (xW E a S mk rk rv ++ ((o9, .inl (eL E, 1, .inr (.inl f9))) :: F)) [.ref (a 0), .int x, .int h, .ref o9] 0 (xW E a S mk rk rv ++ ((o9, .inl (eL E, 1, .inr (.inl (vp_updL f9 0 (s_pw S x.toNatClampNeg h.toNatClampNeg).toInt64)))) :: F)) 2 12 := by
  refine gMi.ofW (cc := cL_paceWanted) (maxL := 5) (ty := .int) (by decide) rfl (Nat.le_of_ble_eq_true rfl) ?_
  intro p e s m args below meth c A C ht ls hl hO
  have hl : lv_has ls 5 [(0, .ref (a 0)), (1, .int x), (2, .int h), (3, .ref o9)] := hl
  refine lv_aload_n C.1 C.2.1 dL_paceWanted_0 rfl (lv_at hl 3 rfl) ?_
  refine lv_iconst (v := 0) C.1 C.2.1 dL_paceWanted_1 (by decide) ?_
  refine lv_aload_n C.1 C.2.1 dL_paceWanted_2 rfl (lv_at hl 0 rfl) ?_
  refine lv_iload_n C.1 C.2.1 dL_paceWanted_3 rfl (lv_at hl 1 rfl) ?_
  refine lv_iload_n C.1 C.2.1 dL_paceWanted_4 rfl (lv_at hl 2 rfl) ?_
  refine gXCall_i (As := [.int x, .int h]) (rest := [.int 0, .ref o9]) C hO (c_X2_paceWanted l E a S mk rk rv ((o9, .inl (eL E, 1, .inr (.inl f9))) :: F) x h hst hI) (cwV 2 C.2.2.2.2.1 gL_paceWanted_X2_paceWanted rfl rfl rfl (by decide +kernel) ⟨(Nat.le_of_ble_eq_true rfl), (Nat.le_of_ble_eq_true rfl)⟩) (va_recv C.2.2.2.2.2.2.2.1.1 hO.1 (ci := 2) (q0 := 0) rfl rfl) rfl hl.1 rfl (Nat.le_of_ble_eq_true rfl) dL_paceWanted_5 ⟨(Nat.le_of_ble_eq_true rfl), (Nat.le_of_ble_eq_true rfl)⟩ (fun E0 ce q9 H locs hO hcell hcv hcl hbad => ?_) (fun H locs hO hok9 => ?_)
  · rcases hbad with ⟨_, hno⟩ | ⟨_, hno⟩
    · first | exact absurd hok hno | exact absurd hno hok | exact absurd hok.1 hno | exact absurd (And.intro hok.1 hok.2.1) hno | exact absurd hok.2 hno.2 | exact absurd hok.2.2 hno.2.2
    · first | exact absurd hok hno | exact absurd hno hok | exact absurd hok.1 hno | exact absurd (And.intro hok.1 hok.2.1) hno | exact absurd hok.2 hno.2 | exact absurd hok.2.2 hno.2.2
  · refine lv_i2l C.1 C.2.1 dL_paceWanted_8 rfl ?_
    refine gLast C hO dL_paceWanted_9 (fun H locs hO => ?_)
    refine lv_goto (tgt := 21) C.1 C.2.1 dL_paceWanted_10 (by decide) ?_
    refine lv_iconst (v := 0) C.1 C.2.1 dL_paceWanted_21 (by decide) ?_
    exact gRi C hO rfl rfl dL_paceWanted_22 (Nat.le_of_ble_eq_true rfl) (Nat.le_of_ble_eq_true rfl)
set_option maxHeartbeats 4000000 in
set_option maxRecDepth 100000 in
theorem c_L_paceWanted_no1 (l : Launch) (E : gE) (a : Nat → Nat) (S : St) (mk rk rv : Nat → Int32) (F : va_W) (o9 : Nat) (f9 : Nat → Int64) (x h : Int32) (hst : l.stackTraces = false) (hI : s_inv S) (hno : ¬ okShip S x) : gMi l E yL_paceWanted wsL_paceWanted ({ frames := 8, cells := 2, slots := 12, locals := 127 }) (xW E a S mk rk rv ++ ((o9, .inl (eL E, 1, .inr (.inl f9))) :: F)) [.ref (a 0), .int x, .int h, .ref o9] 1 (xW E a S mk rk rv ++ ((o9, .inl (eL E, 1, .inr (.inl f9))) :: F)) 2 12 := by
  refine gMi.ofW (cc := cL_paceWanted) (maxL := 5) (ty := .int) (by decide) rfl (Nat.le_of_ble_eq_true rfl) ?_
  intro p e s m args below meth c A C ht ls hl hO
  have hl : lv_has ls 5 [(0, .ref (a 0)), (1, .int x), (2, .int h), (3, .ref o9)] := hl
  refine lv_aload_n C.1 C.2.1 dL_paceWanted_0 rfl (lv_at hl 3 rfl) ?_
  refine lv_iconst (v := 0) C.1 C.2.1 dL_paceWanted_1 (by decide) ?_
  refine lv_aload_n C.1 C.2.1 dL_paceWanted_2 rfl (lv_at hl 0 rfl) ?_
  refine lv_iload_n C.1 C.2.1 dL_paceWanted_3 rfl (lv_at hl 1 rfl) ?_
  refine lv_iload_n C.1 C.2.1 dL_paceWanted_4 rfl (lv_at hl 2 rfl) ?_
  refine gXCall_i (As := [.int x, .int h]) (rest := [.int 0, .ref o9]) C hO (c_X2_paceWanted l E a S mk rk rv ((o9, .inl (eL E, 1, .inr (.inl f9))) :: F) x h hst hI) (cwV 2 C.2.2.2.2.1 gL_paceWanted_X2_paceWanted rfl rfl rfl (by decide +kernel) ⟨(Nat.le_of_ble_eq_true rfl), (Nat.le_of_ble_eq_true rfl)⟩) (va_recv C.2.2.2.2.2.2.2.1.1 hO.1 (ci := 2) (q0 := 0) rfl rfl) rfl hl.1 rfl (Nat.le_of_ble_eq_true rfl) dL_paceWanted_5 ⟨(Nat.le_of_ble_eq_true rfl), (Nat.le_of_ble_eq_true rfl)⟩ (fun E0 ce q9 H locs hO hcell hcv hcl hbad => ?_) (fun H locs hO hok9 => ?_)
  · rcases hbad with ⟨rfl, _⟩ | ⟨_, hb9⟩
    · refine gCatch1 C ht (by decide) (by decide) (by decide +kernel) (by decide +kernel) hcell hcv hcl ?_
      refine lv_astore (lv' := [(4, .ref q9), (0, .ref (a 0)), (1, .int x), (2, .int h), (3, .ref o9)]) C.1 C.2.1 dL_paceWanted_13 hl (by decide) rfl (fun ls hl => ?_)
      refine lv_iconst (v := 1) C.1 C.2.1 dL_paceWanted_15 (by decide) ?_
      exact gRi C hO rfl rfl dL_paceWanted_16 (Nat.le_of_ble_eq_true rfl) (Nat.le_of_ble_eq_true rfl)
    · first | exact absurd hb9.1 hno | exact absurd (And.intro hb9.1 hb9.2.1) hno
  · have hok := hok9
    first | exact absurd hok hno | exact absurd hno hok | exact absurd hok.1 hno | exact absurd (And.intro hok.1 hok.2.1) hno | exact absurd hok.2 hno.2 | exact absurd hok.2.2 hno.2.2
set_option maxHeartbeats 4000000 in
set_option maxRecDepth 100000 in
theorem c_L_paceWanted_no2 (l : Launch) (E : gE) (a : Nat → Nat) (S : St) (mk rk rv : Nat → Int32) (F : va_W) (o9 : Nat) (f9 : Nat → Int64) (x h : Int32) (hst : l.stackTraces = false) (hI : s_inv S) (hno : okShip S x ∧ ¬ okHours h) : gMi l E yL_paceWanted wsL_paceWanted ({ frames := 8, cells := 2, slots := 12, locals := 127 }) (xW E a S mk rk rv ++ ((o9, .inl (eL E, 1, .inr (.inl f9))) :: F)) [.ref (a 0), .int x, .int h, .ref o9] 2 (xW E a S mk rk rv ++ ((o9, .inl (eL E, 1, .inr (.inl f9))) :: F)) 2 12 := by
  refine gMi.ofW (cc := cL_paceWanted) (maxL := 5) (ty := .int) (by decide) rfl (Nat.le_of_ble_eq_true rfl) ?_
  intro p e s m args below meth c A C ht ls hl hO
  have hl : lv_has ls 5 [(0, .ref (a 0)), (1, .int x), (2, .int h), (3, .ref o9)] := hl
  refine lv_aload_n C.1 C.2.1 dL_paceWanted_0 rfl (lv_at hl 3 rfl) ?_
  refine lv_iconst (v := 0) C.1 C.2.1 dL_paceWanted_1 (by decide) ?_
  refine lv_aload_n C.1 C.2.1 dL_paceWanted_2 rfl (lv_at hl 0 rfl) ?_
  refine lv_iload_n C.1 C.2.1 dL_paceWanted_3 rfl (lv_at hl 1 rfl) ?_
  refine lv_iload_n C.1 C.2.1 dL_paceWanted_4 rfl (lv_at hl 2 rfl) ?_
  refine gXCall_i (As := [.int x, .int h]) (rest := [.int 0, .ref o9]) C hO (c_X2_paceWanted l E a S mk rk rv ((o9, .inl (eL E, 1, .inr (.inl f9))) :: F) x h hst hI) (cwV 2 C.2.2.2.2.1 gL_paceWanted_X2_paceWanted rfl rfl rfl (by decide +kernel) ⟨(Nat.le_of_ble_eq_true rfl), (Nat.le_of_ble_eq_true rfl)⟩) (va_recv C.2.2.2.2.2.2.2.1.1 hO.1 (ci := 2) (q0 := 0) rfl rfl) rfl hl.1 rfl (Nat.le_of_ble_eq_true rfl) dL_paceWanted_5 ⟨(Nat.le_of_ble_eq_true rfl), (Nat.le_of_ble_eq_true rfl)⟩ (fun E0 ce q9 H locs hO hcell hcv hcl hbad => ?_) (fun H locs hO hok9 => ?_)
  · rcases hbad with ⟨_, hb9⟩ | ⟨rfl, _⟩
    · first | exact absurd hno.1 hb9 | exact absurd (And.intro hno.1 hno.2.1) hb9
    · refine gCatch2 (E1 := xIOE) C ht (by decide) (by decide +kernel) (by decide +kernel) (by decide) (by decide) (by decide +kernel) (by decide +kernel) hcell hcv hcl ?_
      refine lv_astore (lv' := [(4, .ref q9), (0, .ref (a 0)), (1, .int x), (2, .int h), (3, .ref o9)]) C.1 C.2.1 dL_paceWanted_17 hl (by decide) rfl (fun ls hl => ?_)
      refine lv_iconst (v := 2) C.1 C.2.1 dL_paceWanted_19 (by decide) ?_
      exact gRi C hO rfl rfl dL_paceWanted_20 (Nat.le_of_ble_eq_true rfl) (Nat.le_of_ble_eq_true rfl)
  · have hok := hok9
    first | exact absurd hok hno | exact absurd hno hok | exact absurd hok.1 hno | exact absurd (And.intro hok.1 hok.2.1) hno | exact absurd hok.2 hno.2 | exact absurd hok.2.2 hno.2.2
set_option maxHeartbeats 4000000 in
set_option maxRecDepth 100000 in
theorem c_L_wouldMiss_ok (l : Launch) (E : gE) (a : Nat → Nat) (S : St) (mk rk rv : Nat → Int32) (F : va_W) (o9 : Nat) (f9 : Nat → Int64) (x : Int32) (hst : l.stackTraces = false) (hI : s_inv S) (hok : (okShip S x)) : gMi l E yL_wouldMiss wsL_wouldMiss ({ frames := 8, cells := 1, slots := 6, locals := 125 }) (xW E a S mk rk rv ++ ((o9, .inl (eL E, 1, .inr (.inl f9))) :: F)) [.ref (a 0), .int x, .ref o9] 0 (xW E a S (mkU (s_cm S) mk (s_n S)) rk rv ++ ((o9, .inl (eL E, 1, .inr (.inl (vp_updL f9 0 (nI (s_wm S x.toNatClampNeg)).toInt64)))) :: F)) 1 6 := by
  refine gMi.ofW (cc := cL_wouldMiss) (maxL := 4) (ty := .int) (by decide) rfl (Nat.le_of_ble_eq_true rfl) ?_
  intro p e s m args below meth c A C ht ls hl hO
  have hl : lv_has ls 4 [(0, .ref (a 0)), (1, .int x), (2, .ref o9)] := hl
  refine lv_aload_n C.1 C.2.1 dL_wouldMiss_0 rfl (lv_at hl 2 rfl) ?_
  refine lv_iconst (v := 0) C.1 C.2.1 dL_wouldMiss_1 (by decide) ?_
  refine lv_aload_n C.1 C.2.1 dL_wouldMiss_2 rfl (lv_at hl 0 rfl) ?_
  refine lv_iload_n C.1 C.2.1 dL_wouldMiss_3 rfl (lv_at hl 1 rfl) ?_
  refine gXCall_i (As := [.int x]) (rest := [.int 0, .ref o9]) C hO (c_X2_wouldMiss l E a S mk rk rv ((o9, .inl (eL E, 1, .inr (.inl f9))) :: F) x hst hI) (cwV 1 C.2.2.2.2.1 gL_wouldMiss_X2_wouldMiss rfl rfl rfl (by decide +kernel) ⟨(Nat.le_of_ble_eq_true rfl), (Nat.le_of_ble_eq_true rfl)⟩) (va_recv C.2.2.2.2.2.2.2.1.1 hO.1 (ci := 2) (q0 := 0) rfl rfl) rfl hl.1 rfl (Nat.le_of_ble_eq_true rfl) dL_wouldMiss_4 ⟨(Nat.le_of_ble_eq_true rfl), (Nat.le_of_ble_eq_true rfl)⟩ (fun E0 ce q9 H locs hO hcell hcv hcl hbad => ?_) (fun H locs hO hok9 => ?_)
  · obtain ⟨_, hno⟩ := hbad
    first | exact absurd hok hno | exact absurd hno hok | exact absurd hok.1 hno | exact absurd (And.intro hok.1 hok.2.1) hno | exact absurd hok.2 hno.2 | exact absurd hok.2.2 hno.2.2
  · refine lv_i2l C.1 C.2.1 dL_wouldMiss_7 rfl ?_
    refine gLast C hO dL_wouldMiss_8 (fun H locs hO => ?_)
    refine lv_goto (tgt := 15) C.1 C.2.1 dL_wouldMiss_9 (by decide) ?_
    refine lv_iconst (v := 0) C.1 C.2.1 dL_wouldMiss_15 (by decide) ?_
    exact gRi C hO rfl rfl dL_wouldMiss_16 (Nat.le_of_ble_eq_true rfl) (Nat.le_of_ble_eq_true rfl)
set_option maxHeartbeats 4000000 in
set_option maxRecDepth 100000 in
theorem c_L_wouldMiss_no (l : Launch) (E : gE) (a : Nat → Nat) (S : St) (mk rk rv : Nat → Int32) (F : va_W) (o9 : Nat) (f9 : Nat → Int64) (x : Int32) (hst : l.stackTraces = false) (hI : s_inv S) (hno : ¬ okShip S x) : gMi l E yL_wouldMiss wsL_wouldMiss ({ frames := 8, cells := 1, slots := 6, locals := 125 }) (xW E a S mk rk rv ++ ((o9, .inl (eL E, 1, .inr (.inl f9))) :: F)) [.ref (a 0), .int x, .ref o9] 1 (xW E a S mk rk rv ++ ((o9, .inl (eL E, 1, .inr (.inl f9))) :: F)) 1 6 := by
  refine gMi.ofW (cc := cL_wouldMiss) (maxL := 4) (ty := .int) (by decide) rfl (Nat.le_of_ble_eq_true rfl) ?_
  intro p e s m args below meth c A C ht ls hl hO
  have hl : lv_has ls 4 [(0, .ref (a 0)), (1, .int x), (2, .ref o9)] := hl
  refine lv_aload_n C.1 C.2.1 dL_wouldMiss_0 rfl (lv_at hl 2 rfl) ?_
  refine lv_iconst (v := 0) C.1 C.2.1 dL_wouldMiss_1 (by decide) ?_
  refine lv_aload_n C.1 C.2.1 dL_wouldMiss_2 rfl (lv_at hl 0 rfl) ?_
  refine lv_iload_n C.1 C.2.1 dL_wouldMiss_3 rfl (lv_at hl 1 rfl) ?_
  refine gXCall_i (As := [.int x]) (rest := [.int 0, .ref o9]) C hO (c_X2_wouldMiss l E a S mk rk rv ((o9, .inl (eL E, 1, .inr (.inl f9))) :: F) x hst hI) (cwV 1 C.2.2.2.2.1 gL_wouldMiss_X2_wouldMiss rfl rfl rfl (by decide +kernel) ⟨(Nat.le_of_ble_eq_true rfl), (Nat.le_of_ble_eq_true rfl)⟩) (va_recv C.2.2.2.2.2.2.2.1.1 hO.1 (ci := 2) (q0 := 0) rfl rfl) rfl hl.1 rfl (Nat.le_of_ble_eq_true rfl) dL_wouldMiss_4 ⟨(Nat.le_of_ble_eq_true rfl), (Nat.le_of_ble_eq_true rfl)⟩ (fun E0 ce q9 H locs hO hcell hcv hcl hbad => ?_) (fun H locs hO hok9 => ?_)
  · obtain ⟨rfl, _⟩ := hbad
    refine gCatch1 C ht (by decide) (by decide) (by decide +kernel) (by decide +kernel) hcell hcv hcl ?_
    refine lv_astore_n (lv' := [(3, .ref q9), (0, .ref (a 0)), (1, .int x), (2, .ref o9)]) C.1 C.2.1 dL_wouldMiss_12 rfl hl (by decide) rfl (fun ls hl => ?_)
    refine lv_iconst (v := 1) C.1 C.2.1 dL_wouldMiss_13 (by decide) ?_
    exact gRi C hO rfl rfl dL_wouldMiss_14 (Nat.le_of_ble_eq_true rfl) (Nat.le_of_ble_eq_true rfl)
  · have hok := hok9
    first | exact absurd hok hno | exact absurd hno hok | exact absurd hok.1 hno | exact absurd (And.intro hok.1 hok.2.1) hno | exact absurd hok.2 hno.2 | exact absurd hok.2.2 hno.2.2
