set_option maxHeartbeats 4000000 in
set_option maxRecDepth 100000 in
theorem c_X3_with (l : Launch) (E : gE) (ws : va_W) (b v n M q0 qk : Nat) (lf : Nat → Option Nat) (g0 : Nat → Int32) (ha : ws[q0]? = some (b, .inl (eL E, n, .inr (.inr (.inr (.inr lf)))))) (hv : ws[qk]? = some (v, .inl (eI E, M, .inl g0))) (hn : n ≤ 48) (hel : ∀ i, i < n → ∃ (q : Nat) (f : Nat → Int32) (N : Nat), lf i = some q ∧ ((q, .inl (eI E, N, .inl f)) : Nat × va_E) ∈ ws) : gMg l E yX3_with wsX3_with ({ frames := 0, cells := 1, slots := 49, locals := 0 }) ws [.ref b, .ref v] (fun (g : Nat → Option Nat) => (∀ i, i < n → g i = lf i) ∧ g n = some v) (fun (g : Nat → Option Nat) (r : Nat) => (r, .inl (eL E, n + 1, .inr (.inr (.inr (.inr g))))) :: ws) 1 49 := by
  refine gMg.of (cc := cX3_with) (maxL := 4) (ty := (.array (.array .int))) (by decide) rfl (Nat.le_of_ble_eq_true rfl) ?_
  intro p e s m args below meth c A C ls hl hO
  have hl : lv_has ls 4 [(0, .ref b), (1, .ref v)] := hl
  refine lv_aload_n C.1 C.2.1 dX3_with_0 rfl (lv_at hl 0 rfl) ?_
  refine va_alen (v := nI n) C.1 C.2.1 C.2.2.2.2.2.2.2.1.1 hO.1 (q0 + 0) 3 ha rfl rfl dX3_with_1 ?_
  refine lv_iconst (v := 1) C.1 C.2.1 dX3_with_2 (by decide) ?_
  refine gAddN (x := n) (y := 1) C.1 C.2.1 dX3_with_3 ?_
  have hO : gO E A s (([] : va_W) ++ ws) _ _ := hO
  refine gNewA (N9 := (n + 1)) C (by decide +kernel) hO (by first | decide | omega) (Nat.le_of_ble_eq_true rfl) (by show _ ≤ 49; omega) dX3_with_4 (fun q_w H hO => ?_)
  have hO : gO E A s ((q_w, .inl (eL E, n + 1, .inr (.inr (.inr (.inr (fun _ => none)))))) :: ws) _ _ := hO
  refine lv_astore_n (lv' := [(2, .ref q_w), (0, .ref b), (1, .ref v)]) C.1 C.2.1 dX3_with_7 rfl hl (by decide) rfl (fun ls hl => ?_)
  refine lv_iconst (v := 0) C.1 C.2.1 dX3_with_8 (by decide) ?_
  refine lv_istore_n (lv' := [(3, .int 0), (2, .ref q_w), (0, .ref b), (1, .ref v)]) C.1 C.2.1 dX3_with_9 rfl hl (by decide) rfl (fun ls hl => ?_)
  have lp24 : ∀ (f : Nat) (k24 : Nat) (g24 : Nat → Option Nat), (n + 1 ≤ k24 + f) → (k24 ≤ n) → (∀ i, i < k24 → g24 i = lf i) → ∀ (H : Heap) (locs : List Loc), gO E A s ((q_w, .inl (eL E, (n + 1), .inr (.inr (.inr (.inr g24))))) :: ws) H locs → ∀ ls : Array Slot, lv_has ls 4 [(0, .ref b), (1, .ref v), (2, .ref q_w), (3, .int (nI k24))] → W p l e ({ frames := 0, cells := 1, slots := 49, locals := 0 } : Room) s m args below meth c H locs 1 (n + 1) (MQ below (gQg E A (fun (g : Nat → Option Nat) => (∀ i, i < n → g i = lf i) ∧ g n = some v) (fun (g : Nat → Option Nat) (r : Nat) => (r, .inl (eL E, n + 1, .inr (.inr (.inr (.inr g))))) :: ws)) args s 1 49 A) (F0 m 10 ls []) := by
    intro f
    induction f with
    | zero =>
      intro k24 g24 hf hk24 hg24
      exact absurd hf (by omega)
    | succ f ih_lp24 =>
      intro k24 g24 hf hk24 hg24 H locs hO ls hl
      refine lv_iload_n C.1 C.2.1 dX3_with_10 rfl (lv_at hl 3 rfl) ?_
      refine lv_aload_n C.1 C.2.1 dX3_with_11 rfl (lv_at hl 0 rfl) ?_
      refine va_alen (v := nI n) C.1 C.2.1 C.2.2.2.2.2.2.2.1.1 hO.1 (q0 + 1) 3 ha rfl rfl dX3_with_12 ?_
      refine gGeN (x := k24) (y := n) (tgt := 28) C.1 C.2.1 (by omega) (by omega) dX3_with_13 (by decide) (fun c_1 => ?_) (fun c_1 => ?_)
      · refine lv_aload_n C.1 C.2.1 dX3_with_28 rfl (lv_at hl 2 rfl) ?_
        refine lv_aload_n C.1 C.2.1 dX3_with_29 rfl (lv_at hl 0 rfl) ?_
        refine va_alen (v := nI n) C.1 C.2.1 C.2.2.2.2.2.2.2.1.1 hO.1 (q0 + 1) 3 ha rfl rfl dX3_with_30 ?_
        refine lv_aload_n C.1 C.2.1 dX3_with_31 rfl (lv_at hl 1 rfl) ?_
        refine gAastA (j := n) (ws' := ((q_w, .inl (eL E, (n + 1), .inr (.inr (.inr (.inr (va_up g24 n (some v))))))) :: ws)) C hO 0 (qk + 1) rfl hv (by first | decide | omega) (by first | decide | omega) rfl dX3_with_32 (fun H locs hO => ?_)
        refine lv_aload_n C.1 C.2.1 dX3_with_33 rfl (lv_at hl 2 rfl) ?_
        exact gRg (va_up g24 n (some v)) C hO (.inr ⟨_, rfl⟩) (⟨fun i hi => by simp only [va_up, if_neg (show ¬ i = n by omega)]; exact hg24 i (by omega), by simp only [va_up, if_pos]⟩) dX3_with_34 (Nat.le_of_ble_eq_true rfl) (by omega)
      · refine lv_aload_n C.1 C.2.1 dX3_with_16 rfl (lv_at hl 2 rfl) ?_
        refine lv_iload_n C.1 C.2.1 dX3_with_17 rfl (lv_at hl 3 rfl) ?_
        refine lv_aload_n C.1 C.2.1 dX3_with_18 rfl (lv_at hl 0 rfl) ?_
        refine lv_iload_n C.1 C.2.1 dX3_with_19 rfl (lv_at hl 3 rfl) ?_
        obtain ⟨q9, f9, n9, hq9, hm9⟩ := hel k24 (by omega)
        refine gAaldA (v := q9) (j := k24) C hO (q0 + 1) ha (by omega) (by omega) hq9 dX3_with_20 ?_
        have ha_3m : (q9, (.inl (eI E, n9, .inl f9) : va_E)) ∈ ((q_w, .inl (eL E, (n + 1), .inr (.inr (.inr (.inr g24))))) :: ws) := (.tail _ hm9)
        obtain ⟨p_2, ha_3⟩ := List.getElem?_of_mem ha_3m
        refine gAastA (j := k24) (ws' := ((q_w, .inl (eL E, (n + 1), .inr (.inr (.inr (.inr (va_up g24 k24 (some q9))))))) :: ws)) C hO 0 p_2 rfl ha_3 (by first | decide | omega) (by first | decide | omega) rfl dX3_with_21 (fun H locs hO => ?_)
        refine gInc (j := k24) (k := 3) (lv' := [(3, .int (nI (k24 + 1))), (0, .ref b), (1, .ref v), (2, .ref q_w)]) C.1 C.2.1 dX3_with_22 hl rfl (by decide) rfl (fun ls hl => ?_)
        refine lv_goto (tgt := 10) C.1 C.2.1 dX3_with_25 (by decide) ?_
        exact ih_lp24 (k24 + 1) (va_up g24 k24 (some q9)) (by omega) (by omega) (vup_ext hg24 hq9) _ _ hO _ (lv_sub hl [1, 2, 3, 0] rfl)
  refine W.widen (k := 1) (n := n + 1) (by omega) (by omega) ?_
  exact lp24 (n + 1) 0 (fun _ => none) (by omega) (Nat.zero_le _) (fun i hi => absurd hi (Nat.not_lt_zero _)) _ _ hO _ (lv_sub hl [2, 3, 1, 0] rfl)

set_option maxHeartbeats 4000000 in
set_option maxRecDepth 100000 in
theorem c_X3_lag (l : Launch) (E : gE) (o : Nat) (d : Dt) (S : St) (F : va_W) (i0 : Nat) (hi0 : i0 < s_sh S) (hR : Rep E d S) (hI : s_inv S) (hsr : s_srt S) : gMi l E yX3_lag wsX3_lag ({ frames := 0, cells := 0, slots := 0, locals := 0 }) (sW E o d S F) [.ref o, .ref ((d_a d) i0)] (nI (s_lag S i0)) (sW E o d S F) 0 0 := by
  refine gMi.of (cc := cX3_lag) (maxL := 7) (ty := .int) (by decide) rfl (Nat.le_of_ble_eq_true rfl) ?_
  intro p e s m args below meth c A C ls hl hO
  have hl : lv_has ls 7 [(0, .ref o), (1, .ref ((d_a d) i0))] := hl
  have iX3 : ∀ w ∈ u_ws RX3 TX3 7, w ∈ wsX3_lag := by decide +kernel
  have w9 : Cond.fieldLink RX3 9 "ParrotLogLaw$Sim" "log" "[[I" ∈ wsX3_lag := by decide +kernel
  obtain ⟨hn, hsh, hsc, hOn, hOb, hok9, hpc9, hp0⟩ := hI
  refine lv_iconst (v := 0) C.1 C.2.1 dX3_lag_0 (by decide) ?_
  refine lv_istore_n (lv' := [(2, .int 0), (0, .ref o), (1, .ref ((d_a d) i0))]) C.1 C.2.1 dX3_lag_1 rfl hl (by decide) rfl (fun ls hl => ?_)
  refine lv_aload_n C.1 C.2.1 dX3_lag_2 rfl (lv_at hl 1 rfl) ?_
  refine gGet (v := .ref (d_1 d)) (ref := RX3) (Cn := RX3) (T := TX3) (N := 7) C iX3 hO 0 rfl rfl 4 (by decide) w9 (fun _ h9 => h9) rfl dX3_lag_3 ?_
  refine lv_astore_n (lv' := [(3, .ref (d_1 d)), (2, .int 0), (0, .ref o), (1, .ref ((d_a d) i0))]) C.1 C.2.1 dX3_lag_6 rfl hl (by decide) rfl (fun ls hl => ?_)
  refine lv_aload_n C.1 C.2.1 dX3_lag_7 rfl (lv_at hl 0 rfl) ?_
  refine va_alen (v := nI (s_n S)) C.1 C.2.1 C.2.2.2.2.2.2.2.1.1 hO.1 1 3 rfl rfl rfl dX3_lag_8 ?_
  refine lv_istore (lv' := [(4, .int (nI (s_n S))), (3, .ref (d_1 d)), (2, .int 0), (0, .ref o), (1, .ref ((d_a d) i0))]) C.1 C.2.1 dX3_lag_9 hl (by decide) rfl (fun ls hl => ?_)
  have hl : lv_has ls 7 [(4, .int (nI (s_n S))), (3, .ref (d_1 d)), (2, .int (nI (0 - pf (s_off S) (s_at S i0) (s_n S)))), (0, .ref o), (1, .ref ((d_a d) i0))] := by rw [Nat.zero_sub]; exact hl
  refine lv_iconst (v := 0) C.1 C.2.1 dX3_lag_11 (by decide) ?_
  refine lv_istore (lv' := [(5, .int 0), (4, .int (nI (s_n S))), (3, .ref (d_1 d)), (2, .int (nI (0 - pf (s_off S) (s_at S i0) (s_n S)))), (0, .ref o), (1, .ref ((d_a d) i0))]) C.1 C.2.1 dX3_lag_12 hl (by decide) rfl (fun ls hl => ?_)
  have lp24 : ∀ (f : Nat) (k24 : Nat), (s_n S + 1 ≤ k24 + f) → (k24 ≤ s_n S) → ∀ (H : Heap) (locs : List Loc), gO E A s (sW E o d S F) H locs → ∀ ls : Array Slot, lv_has ls 7 [(0, .ref o), (1, .ref ((d_a d) i0)), (2, .int (nI (k24 - pf (s_off S) (s_at S i0) (s_n S)))), (3, .ref (d_1 d)), (4, .int (nI (s_n S))), (5, .int (nI k24))] → W p l e ({ frames := 0, cells := 0, slots := 0, locals := 0 } : Room) s m args below meth c H locs 0 0 (MQ below (gQi E A (nI (s_lag S i0)) (sW E o d S F)) args s 0 0 A) (F0 m 14 ls []) := by
    intro f
    induction f with
    | zero =>
      intro k24 hf hk24
      exact absurd hf (by omega)
    | succ f ih_lp24 =>
      intro k24 hf hk24 H locs hO ls hl
      refine lv_iload C.1 C.2.1 dX3_lag_14 (lv_at hl 5 rfl) ?_
      refine lv_iload C.1 C.2.1 dX3_lag_16 (lv_at hl 4 rfl) ?_
      refine gGeN (x := k24) (y := (s_n S)) (tgt := 46) C.1 C.2.1 (by omega) (by omega) dX3_lag_18 (by decide) (fun c_1 => ?_) (fun c_1 => ?_)
      · refine lv_iload_n C.1 C.2.1 dX3_lag_46 rfl (lv_at hl 2 rfl) ?_
        exact gRi C hO rfl (by rw [show k24 = s_n S by omega]; rfl) dX3_lag_47 (Nat.le_of_ble_eq_true rfl) (Nat.le_of_ble_eq_true rfl)
      · refine lv_aload_n C.1 C.2.1 dX3_lag_21 rfl (lv_at hl 3 rfl) ?_
        refine lv_iload C.1 C.2.1 dX3_lag_22 (lv_at hl 5 rfl) ?_
        obtain ⟨q_2, f_2, hq_2, hm_2, e0_2, e1_2, e2_2, e3_2⟩ := (hR).1 k24 (by omega)
        refine gAaldA (v := q_2) (j := k24) C hO 1 rfl (by omega) (by omega) hq_2 dX3_lag_24 ?_
        refine lv_astore (lv' := [(6, .ref q_2), (0, .ref o), (1, .ref ((d_a d) i0)), (2, .int (nI (k24 - pf (s_off S) (s_at S i0) (s_n S)))), (3, .ref (d_1 d)), (4, .int (nI (s_n S))), (5, .int (nI k24))]) C.1 C.2.1 dX3_lag_25 hl (by decide) rfl (fun ls hl => ?_)
        refine lv_aload C.1 C.2.1 dX3_lag_27 (lv_at hl 0 rfl) ?_
        refine lv_iconst (v := 0) C.1 C.2.1 dX3_lag_29 (by decide) ?_
        have ha_4m : (q_2, (.inl (eI E, 4, .inl f_2) : va_E)) ∈ (sW E o d S F) := sR_mem (pl_mem hm_2)
        obtain ⟨p_3, ha_4⟩ := List.getElem?_of_mem ha_4m
        refine gIald (v := s_off S k24) (j := 0) C hO p_3 ha_4 (by decide) (by first | decide | omega) e0_2 dX3_lag_30 ?_
        refine lv_aload_n C.1 C.2.1 dX3_lag_31 rfl (lv_at hl 2 rfl) ?_
        refine lv_iconst (v := 1) C.1 C.2.1 dX3_lag_32 (by decide) ?_
        refine gIald (v := s_at S i0) (j := 1) C hO (i0 + 4) (shC_at hi0) (by decide) (by first | decide | omega) (((hR).2.2 i0 hi0).2.2.1) dX3_lag_33 ?_
        refine lv_icmp_lt (tgt := 40) C.1 C.2.1 dX3_lag_34 (by decide) (fun c_5 => ?_) (fun c_5 => ?_)
        · have hz9 : k24 + 1 - pf (s_off S) (s_at S i0) (s_n S) = k24 - pf (s_off S) (s_at S i0) (s_n S) := by have := mt (pf_iff hsr (o := s_at S i0) (i := k24) (by omega)).mp (fun h => h c_5); omega
          have hl : lv_has ls 7 [(0, .ref o), (1, .ref ((d_a d) i0)), (2, .int (nI (k24 - pf (s_off S) (s_at S i0) (s_n S)))), (3, .ref (d_1 d)), (4, .int (nI (s_n S))), (5, .int (nI k24))] := lv_sub hl [1, 2, 3, 4, 5, 6] rfl
          have hl : lv_has ls 7 [(0, .ref o), (1, .ref ((d_a d) i0)), (2, .int (nI (k24 + 1 - pf (s_off S) (s_at S i0) (s_n S)))), (3, .ref (d_1 d)), (4, .int (nI (s_n S))), (5, .int (nI k24))] := by rw [hz9]; exact hl
          refine gInc (j := k24) (k := 5) (lv' := [(5, .int (nI (k24 + 1))), (0, .ref o), (1, .ref ((d_a d) i0)), (2, .int (nI (k24 + 1 - pf (s_off S) (s_at S i0) (s_n S)))), (3, .ref (d_1 d)), (4, .int (nI (s_n S)))]) C.1 C.2.1 dX3_lag_40 hl rfl (by decide) rfl (fun ls hl => ?_)
          refine lv_goto (tgt := 14) C.1 C.2.1 dX3_lag_43 (by decide) ?_
          exact ih_lp24 (k24 + 1) (by omega) (by omega) _ _ hO _ (lv_sub hl [1, 2, 3, 4, 5, 0] rfl)
        · have hz9 : k24 + 1 - pf (s_off S) (s_at S i0) (s_n S) = k24 - pf (s_off S) (s_at S i0) (s_n S) + 1 := by have := (pf_iff hsr (o := s_at S i0) (i := k24) (by omega)).mpr c_5; omega
          refine gInc (j := (k24 - pf (s_off S) (s_at S i0) (s_n S))) (k := 3) (lv' := [(2, .int (nI ((k24 - pf (s_off S) (s_at S i0) (s_n S)) + 1))), (6, .ref q_2), (0, .ref o), (1, .ref ((d_a d) i0)), (3, .ref (d_1 d)), (4, .int (nI (s_n S))), (5, .int (nI k24))]) C.1 C.2.1 dX3_lag_37 hl rfl (by decide) rfl (fun ls hl => ?_)
          have hl : lv_has ls 7 [(2, .int (nI ((k24 - pf (s_off S) (s_at S i0) (s_n S)) + 1))), (0, .ref o), (1, .ref ((d_a d) i0)), (3, .ref (d_1 d)), (4, .int (nI (s_n S))), (5, .int (nI k24))] := lv_sub hl [0, 2, 3, 4, 5, 6] rfl
          have hl : lv_has ls 7 [(2, .int (nI (k24 + 1 - pf (s_off S) (s_at S i0) (s_n S)))), (0, .ref o), (1, .ref ((d_a d) i0)), (3, .ref (d_1 d)), (4, .int (nI (s_n S))), (5, .int (nI k24))] := by rw [hz9]; exact hl
          refine gInc (j := k24) (k := 5) (lv' := [(5, .int (nI (k24 + 1))), (2, .int (nI (k24 + 1 - pf (s_off S) (s_at S i0) (s_n S)))), (0, .ref o), (1, .ref ((d_a d) i0)), (3, .ref (d_1 d)), (4, .int (nI (s_n S)))]) C.1 C.2.1 dX3_lag_40 hl rfl (by decide) rfl (fun ls hl => ?_)
          refine lv_goto (tgt := 14) C.1 C.2.1 dX3_lag_43 (by decide) ?_
          exact ih_lp24 (k24 + 1) (by omega) (by omega) _ _ hO _ (lv_sub hl [2, 3, 1, 4, 5, 0] rfl)
  exact lp24 (s_n S + 1) 0 (by omega) (Nat.zero_le _) _ _ hO _ (lv_sub hl [4, 5, 3, 2, 1, 0] rfl)

set_option maxHeartbeats 4000000 in
set_option maxRecDepth 100000 in
theorem c_X3_value (l : Launch) (E : gE) (o : Nat) (d : Dt) (S : St) (F : va_W) (kk : Int32) (hR : Rep E d S) (hn : s_n S ≤ 48) : gMi l E yX3_value wsX3_value ({ frames := 0, cells := 0, slots := 0, locals := 0 }) (sW E o d S F) [.ref o, .int kk] (s_wv S kk) (sW E o d S F) 0 0 := by
  refine gMi.of (cc := cX3_value) (maxL := 7) (ty := .int) (by decide) rfl (Nat.le_of_ble_eq_true rfl) ?_
  intro p e s m args below meth c A C ls hl hO
  have hl : lv_has ls 7 [(0, .ref o), (1, .int kk)] := hl
  have iX3 : ∀ w ∈ u_ws RX3 TX3 7, w ∈ wsX3_value := by decide +kernel
  have w9 : Cond.fieldLink RX3 9 "ParrotLogLaw$Sim" "log" "[[I" ∈ wsX3_value := by decide +kernel
  refine lv_iconst (v := 0) C.1 C.2.1 dX3_value_0 (by decide) ?_
  refine lv_istore_n (lv' := [(2, .int 0), (0, .ref o), (1, .int kk)]) C.1 C.2.1 dX3_value_1 rfl hl (by decide) rfl (fun ls hl => ?_)
  refine lv_aload_n C.1 C.2.1 dX3_value_2 rfl (lv_at hl 1 rfl) ?_
  refine gGet (v := .ref (d_1 d)) (ref := RX3) (Cn := RX3) (T := TX3) (N := 7) C iX3 hO 0 rfl rfl 4 (by decide) w9 (fun _ h9 => h9) rfl dX3_value_3 ?_
  refine lv_astore_n (lv' := [(3, .ref (d_1 d)), (2, .int 0), (0, .ref o), (1, .int kk)]) C.1 C.2.1 dX3_value_6 rfl hl (by decide) rfl (fun ls hl => ?_)
  refine lv_aload_n C.1 C.2.1 dX3_value_7 rfl (lv_at hl 0 rfl) ?_
  refine va_alen (v := nI (s_n S)) C.1 C.2.1 C.2.2.2.2.2.2.2.1.1 hO.1 1 3 rfl rfl rfl dX3_value_8 ?_
  refine lv_istore (lv' := [(4, .int (nI (s_n S))), (3, .ref (d_1 d)), (2, .int 0), (0, .ref o), (1, .int kk)]) C.1 C.2.1 dX3_value_9 hl (by decide) rfl (fun ls hl => ?_)
  refine lv_iconst (v := 0) C.1 C.2.1 dX3_value_11 (by decide) ?_
  refine lv_istore (lv' := [(5, .int 0), (4, .int (nI (s_n S))), (3, .ref (d_1 d)), (2, .int 0), (0, .ref o), (1, .int kk)]) C.1 C.2.1 dX3_value_12 hl (by decide) rfl (fun ls hl => ?_)
  have lp24 : ∀ (f : Nat) (k24 : Nat), (s_n S + 1 ≤ k24 + f) → (k24 ≤ s_n S) → ∀ (H : Heap) (locs : List Loc), gO E A s (sW E o d S F) H locs → ∀ ls : Array Slot, lv_has ls 7 [(0, .ref o), (1, .int kk), (2, .int (wvT S kk k24)), (3, .ref (d_1 d)), (4, .int (nI (s_n S))), (5, .int (nI k24))] → W p l e ({ frames := 0, cells := 0, slots := 0, locals := 0 } : Room) s m args below meth c H locs 0 0 (MQ below (gQi E A (s_wv S kk) (sW E o d S F)) args s 0 0 A) (F0 m 14 ls []) := by
    intro f
    induction f with
    | zero =>
      intro k24 hf hk24
      exact absurd hf (by omega)
    | succ f ih_lp24 =>
      intro k24 hf hk24 H locs hO ls hl
      refine lv_iload C.1 C.2.1 dX3_value_14 (lv_at hl 5 rfl) ?_
      refine lv_iload C.1 C.2.1 dX3_value_16 (lv_at hl 4 rfl) ?_
      refine gGeN (x := k24) (y := (s_n S)) (tgt := 46) C.1 C.2.1 (by omega) (by omega) dX3_value_18 (by decide) (fun c_1 => ?_) (fun c_1 => ?_)
      · refine lv_iload_n C.1 C.2.1 dX3_value_46 rfl (lv_at hl 2 rfl) ?_
        exact gRi C hO rfl (by rw [show k24 = s_n S by omega]; rfl) dX3_value_47 (Nat.le_of_ble_eq_true rfl) (Nat.le_of_ble_eq_true rfl)
      · refine lv_aload_n C.1 C.2.1 dX3_value_21 rfl (lv_at hl 3 rfl) ?_
        refine lv_iload C.1 C.2.1 dX3_value_22 (lv_at hl 5 rfl) ?_
        obtain ⟨q_2, f_2, hq_2, hm_2, e0_2, e1_2, e2_2, e3_2⟩ := (hR).1 k24 (by omega)
        refine gAaldA (v := q_2) (j := k24) C hO 1 rfl (by omega) (by omega) hq_2 dX3_value_24 ?_
        refine lv_astore (lv' := [(6, .ref q_2), (0, .ref o), (1, .int kk), (2, .int (wvT S kk k24)), (3, .ref (d_1 d)), (4, .int (nI (s_n S))), (5, .int (nI k24))]) C.1 C.2.1 dX3_value_25 hl (by decide) rfl (fun ls hl => ?_)
        refine lv_aload C.1 C.2.1 dX3_value_27 (lv_at hl 0 rfl) ?_
        refine lv_iconst (v := 1) C.1 C.2.1 dX3_value_29 (by decide) ?_
        have ha_4m : (q_2, (.inl (eI E, 4, .inl f_2) : va_E)) ∈ (sW E o d S F) := sR_mem (pl_mem hm_2)
        obtain ⟨p_3, ha_4⟩ := List.getElem?_of_mem ha_4m
        refine gIald (v := s_key S k24) (j := 1) C hO p_3 ha_4 (by decide) (by first | decide | omega) e1_2 dX3_value_30 ?_
        refine lv_iload_n C.1 C.2.1 dX3_value_31 rfl (lv_at hl 2 rfl) ?_
        refine lv_icmp_ne (tgt := 40) C.1 C.2.1 dX3_value_32 (by decide) (fun c_5 => ?_) (fun c_5 => ?_)
        · have hz9 : wvT S kk (k24 + 1) = wvT S kk k24 := wvT_0 c_5
          have hl : lv_has ls 7 [(0, .ref o), (1, .int kk), (2, .int (wvT S kk k24)), (3, .ref (d_1 d)), (4, .int (nI (s_n S))), (5, .int (nI k24))] := lv_sub hl [1, 2, 3, 4, 5, 6] rfl
          have hl : lv_has ls 7 [(0, .ref o), (1, .int kk), (2, .int (wvT S kk (k24 + 1))), (3, .ref (d_1 d)), (4, .int (nI (s_n S))), (5, .int (nI k24))] := by rw [hz9]; exact hl
          refine gInc (j := k24) (k := 5) (lv' := [(5, .int (nI (k24 + 1))), (0, .ref o), (1, .int kk), (2, .int (wvT S kk (k24 + 1))), (3, .ref (d_1 d)), (4, .int (nI (s_n S)))]) C.1 C.2.1 dX3_value_40 hl rfl (by decide) rfl (fun ls hl => ?_)
          refine lv_goto (tgt := 14) C.1 C.2.1 dX3_value_43 (by decide) ?_
          exact ih_lp24 (k24 + 1) (by omega) (by omega) _ _ hO _ (lv_sub hl [1, 2, 3, 4, 5, 0] rfl)
        · have hz9 : wvT S kk (k24 + 1) = s_val S k24 := wvT_1 c_5
          refine lv_aload C.1 C.2.1 dX3_value_35 (lv_at hl 0 rfl) ?_
          refine lv_iconst (v := nI 2) C.1 C.2.1 dX3_value_37 (by decide) ?_
          have ha_7m : (q_2, (.inl (eI E, 4, .inl f_2) : va_E)) ∈ (sW E o d S F) := sR_mem (pl_mem hm_2)
          obtain ⟨p_6, ha_7⟩ := List.getElem?_of_mem ha_7m
          refine gIald (v := s_val S k24) (j := 2) C hO p_6 ha_7 (by decide) (by first | decide | omega) e2_2 dX3_value_38 ?_
          refine lv_istore_n (lv' := [(2, .int (s_val S k24)), (6, .ref q_2), (0, .ref o), (1, .int kk), (3, .ref (d_1 d)), (4, .int (nI (s_n S))), (5, .int (nI k24))]) C.1 C.2.1 dX3_value_39 rfl hl (by decide) rfl (fun ls hl => ?_)
          have hl : lv_has ls 7 [(2, .int (s_val S k24)), (0, .ref o), (1, .int kk), (3, .ref (d_1 d)), (4, .int (nI (s_n S))), (5, .int (nI k24))] := lv_sub hl [0, 2, 3, 4, 5, 6] rfl
          have hl : lv_has ls 7 [(2, .int (wvT S kk (k24 + 1))), (0, .ref o), (1, .int kk), (3, .ref (d_1 d)), (4, .int (nI (s_n S))), (5, .int (nI k24))] := by rw [hz9]; exact hl
          refine gInc (j := k24) (k := 5) (lv' := [(5, .int (nI (k24 + 1))), (2, .int (wvT S kk (k24 + 1))), (0, .ref o), (1, .int kk), (3, .ref (d_1 d)), (4, .int (nI (s_n S)))]) C.1 C.2.1 dX3_value_40 hl rfl (by decide) rfl (fun ls hl => ?_)
          refine lv_goto (tgt := 14) C.1 C.2.1 dX3_value_43 (by decide) ?_
          exact ih_lp24 (k24 + 1) (by omega) (by omega) _ _ hO _ (lv_sub hl [2, 3, 1, 4, 5, 0] rfl)
  exact lp24 (s_n S + 1) 0 (by omega) (Nat.zero_le _) _ _ hO _ (lv_sub hl [4, 5, 3, 2, 1, 0] rfl)

set_option maxHeartbeats 4000000 in
set_option maxRecDepth 100000 in
theorem c_X3_errors (l : Launch) (E : gE) (o : Nat) (d : Dt) (S : St) (F : va_W) (i0 : Nat) (hi0 : i0 < s_sh S) (hR : Rep E d S) (hI : s_inv S) (hsr : s_srt S) : gMi l E yX3_errors wsX3_errors ({ frames := 1, cells := 0, slots := 0, locals := 26 }) (sW E o d S F) [.ref o, .ref ((d_a d) i0)] (nI (s_ea S i0 0)) (sW E o d S F) 0 0 := by
  refine gMi.of (cc := cX3_errors) (maxL := 4) (ty := .int) (by decide) rfl (Nat.le_of_ble_eq_true rfl) ?_
  intro p e s m args below meth c A C ls hl hO
  have hl : lv_has ls 4 [(0, .ref o), (1, .ref ((d_a d) i0))] := hl
  obtain ⟨hn, hsh, hsc, hOn, hOb, hok9, hpc9, hp0⟩ := hI
  refine lv_iconst (v := 0) C.1 C.2.1 dX3_errors_0 (by decide) ?_
  refine lv_istore_n (lv' := [(2, .int 0), (0, .ref o), (1, .ref ((d_a d) i0))]) C.1 C.2.1 dX3_errors_1 rfl hl (by decide) rfl (fun ls hl => ?_)
  refine lv_iconst (v := 0) C.1 C.2.1 dX3_errors_2 (by decide) ?_
  refine lv_istore_n (lv' := [(3, .int 0), (2, .int 0), (0, .ref o), (1, .ref ((d_a d) i0))]) C.1 C.2.1 dX3_errors_3 rfl hl (by decide) rfl (fun ls hl => ?_)
  have lp24 : ∀ (f : Nat) (k24 : Nat), (11 ≤ k24 + f) → (k24 ≤ 10) → ∀ (H : Heap) (locs : List Loc), gO E A s (sW E o d S F) H locs → ∀ ls : Array Slot, lv_has ls 4 [(0, .ref o), (1, .ref ((d_a d) i0)), (2, .int (nI (s_er S i0 (pf (s_off S) (s_at S i0) (s_n S)) (s_to S i0 0) k24))), (3, .int (nI k24))] → W p l e ({ frames := 1, cells := 0, slots := 0, locals := 26 } : Room) s m args below meth c H locs 0 0 (MQ below (gQi E A (nI (s_ea S i0 0)) (sW E o d S F)) args s 0 0 A) (F0 m 4 ls []) := by
    intro f
    induction f with
    | zero =>
      intro k24 hf hk24
      exact absurd hf (by omega)
    | succ f ih_lp24 =>
      intro k24 hf hk24 H locs hO ls hl
      refine lv_iload_n C.1 C.2.1 dX3_errors_4 rfl (lv_at hl 3 rfl) ?_
      refine lv_bipush (v := nI 10) C.1 C.2.1 dX3_errors_5 (by decide) ?_
      refine gGeN (x := k24) (y := 10) (tgt := 32) C.1 C.2.1 (by omega) (by omega) dX3_errors_7 (by decide) (fun c_1 => ?_) (fun c_1 => ?_)
      · refine lv_iload_n C.1 C.2.1 dX3_errors_32 rfl (lv_at hl 2 rfl) ?_
        exact gRi C hO rfl (by rw [show k24 = 10 by omega]) dX3_errors_33 (Nat.le_of_ble_eq_true rfl) (Nat.le_of_ble_eq_true rfl)
      · refine lv_aload_n C.1 C.2.1 dX3_errors_10 rfl (lv_at hl 1 rfl) ?_
        refine lv_iconst (v := nI 4) C.1 C.2.1 dX3_errors_11 (by decide) ?_
        refine lv_iload_n C.1 C.2.1 dX3_errors_12 rfl (lv_at hl 3 rfl) ?_
        refine gAddN (x := 4) (y := k24) C.1 C.2.1 dX3_errors_13 ?_
        refine gIald (v := s_kn S i0 k24) (j := (4 + k24)) C hO (i0 + 4) (shC_at hi0) (by omega) (by first | decide | omega) ((hR.2.2 i0 hi0).2.2.2.2.2 k24 (by omega)) dX3_errors_14 ?_
        refine lv_aload_n C.1 C.2.1 dX3_errors_15 rfl (lv_at hl 0 rfl) ?_
        refine lv_iload_n C.1 C.2.1 dX3_errors_16 rfl (lv_at hl 3 rfl) ?_
        refine gCall_i (As := [.int (nI k24)]) (rest := [.int (s_kn S i0 k24)]) C hO (c_X3_value l E o d S F (nI k24) hR hn) (cwV 1 C.2.2.2.2.1 gX3_errors_X3_value rfl rfl rfl (by decide +kernel) ⟨(Nat.le_of_ble_eq_true rfl), (Nat.le_of_ble_eq_true rfl)⟩) (va_recv C.2.2.2.2.2.2.2.1.1 hO.1 (ci := 3) (q0 := 0) rfl rfl) rfl hl.1 rfl (Nat.le_of_ble_eq_true rfl) dX3_errors_17 ⟨(Nat.le_of_ble_eq_true rfl), (Nat.le_of_ble_eq_true rfl)⟩ (fun H locs hO => ?_)
        refine lv_icmp_eq (tgt := 26) C.1 C.2.1 dX3_errors_20 (by decide) (fun c_2 => ?_) (fun c_2 => ?_)
        · have hz9 := s_er_0 (S := S) (i := i0) (fr := pf (s_off S) (s_at S i0) (s_n S)) (to := s_to S i0 0) (c := k24) ((s_kv0 S i0 k24).trans c_2)
          have hl : lv_has ls 4 [(0, .ref o), (1, .ref ((d_a d) i0)), (2, .int (nI (s_er S i0 (pf (s_off S) (s_at S i0) (s_n S)) (s_to S i0 0) (k24 + 1)))), (3, .int (nI k24))] := by rw [hz9]; exact hl
          refine gInc (j := k24) (k := 3) (lv' := [(3, .int (nI (k24 + 1))), (0, .ref o), (1, .ref ((d_a d) i0)), (2, .int (nI (s_er S i0 (pf (s_off S) (s_at S i0) (s_n S)) (s_to S i0 0) (k24 + 1))))]) C.1 C.2.1 dX3_errors_26 hl rfl (by decide) rfl (fun ls hl => ?_)
          refine lv_goto (tgt := 4) C.1 C.2.1 dX3_errors_29 (by decide) ?_
          refine W.widen (k := 0) (n := 0) (by omega) (by omega) ?_
          exact ih_lp24 (k24 + 1) (by omega) (by omega) _ _ hO _ (lv_sub hl [1, 2, 3, 0] rfl)
        · have hz9 := s_er_1 (S := S) (i := i0) (fr := pf (s_off S) (s_at S i0) (s_n S)) (to := s_to S i0 0) (c := k24) (fun h9 => c_2 ((s_kv0 S i0 k24).symm.trans h9))
          refine gInc (j := (s_er S i0 (pf (s_off S) (s_at S i0) (s_n S)) (s_to S i0 0) k24)) (k := 2) (lv' := [(2, .int (nI ((s_er S i0 (pf (s_off S) (s_at S i0) (s_n S)) (s_to S i0 0) k24) + 1))), (0, .ref o), (1, .ref ((d_a d) i0)), (3, .int (nI k24))]) C.1 C.2.1 dX3_errors_23 hl rfl (by decide) rfl (fun ls hl => ?_)
          have hl : lv_has ls 4 [(2, .int (nI (s_er S i0 (pf (s_off S) (s_at S i0) (s_n S)) (s_to S i0 0) (k24 + 1)))), (0, .ref o), (1, .ref ((d_a d) i0)), (3, .int (nI k24))] := by rw [hz9]; exact hl
          refine gInc (j := k24) (k := 3) (lv' := [(3, .int (nI (k24 + 1))), (2, .int (nI (s_er S i0 (pf (s_off S) (s_at S i0) (s_n S)) (s_to S i0 0) (k24 + 1)))), (0, .ref o), (1, .ref ((d_a d) i0))]) C.1 C.2.1 dX3_errors_26 hl rfl (by decide) rfl (fun ls hl => ?_)
          refine lv_goto (tgt := 4) C.1 C.2.1 dX3_errors_29 (by decide) ?_
          refine W.widen (k := 0) (n := 0) (by omega) (by omega) ?_
          exact ih_lp24 (k24 + 1) (by omega) (by omega) _ _ hO _ (lv_sub hl [2, 3, 1, 0] rfl)
  exact lp24 11 0 (by omega) (Nat.zero_le _) _ _ hO _ (lv_sub hl [2, 3, 1, 0] rfl)
