set_option maxHeartbeats 4000000 in
set_option maxRecDepth 100000 in
theorem c_X3_dropAt (l : Launch) (E : gE) (o : Nat) (d : Dt) (S : St) (F : va_W) (z0 : Nat) (hz : z0 < s_n S) (hn : s_n S ≤ 48) (hsh : s_sh S ≤ 6) (hsr : s_srt S) (hR : Rep E d S) : gMf l E yX3_dropAt wsX3_dropAt ({ frames := 0, cells := 1, slots := 47, locals := 0 }) (sW E o d S F) [.ref o, .int (nI z0)] (fun (d9 : Dt) => Rep E d9 (S_drop S (g1 z0)) ∧ (∀ x ∈ d_p d, x ∈ d_p d9) ∧ (d_1 d, (.inl (eL E, s_n S, .inr (.inr (.inr (.inr (d_l d))))) : va_E)) ∈ d_p d9) (fun (d9 : Dt) => sW E o d9 (S_drop S (g1 z0)) F) 1 47 := by
  refine gMf.of (cc := cX3_dropAt) (maxL := 7) (by decide) rfl (Nat.le_of_ble_eq_true rfl) ?_
  intro p e s m args below meth c A C ls hl hO
  have hl : lv_has ls 7 [(0, .ref o), (1, .int (nI z0))] := hl
  have iX3 : ∀ w ∈ u_ws RX3 TX3 7, w ∈ wsX3_dropAt := by decide +kernel
  have w9 : Cond.fieldLink RX3 9 "ParrotLogLaw$Sim" "log" "[[I" ∈ wsX3_dropAt := by decide +kernel
  have w18 : Cond.fieldLink RX3 18 "ParrotLogLaw$Sim" "ships" "[[I" ∈ wsX3_dropAt := by decide +kernel
  have w21 : Cond.fieldLink RX3 21 "ParrotLogLaw$Sim" "dropped" "I" ∈ wsX3_dropAt := by decide +kernel
  refine lv_aload_n C.1 C.2.1 dX3_dropAt_0 rfl (lv_at hl 0 rfl) ?_
  refine gGet (v := .ref (d_1 d)) (ref := RX3) (Cn := RX3) (T := TX3) (N := 7) C iX3 hO 0 rfl rfl 4 (by decide) w9 (fun _ h9 => h9) rfl dX3_dropAt_1 ?_
  refine va_alen (v := nI (s_n S)) C.1 C.2.1 C.2.2.2.2.2.2.2.1.1 hO.1 1 3 rfl rfl rfl dX3_dropAt_4 ?_
  refine lv_iconst (v := 1) C.1 C.2.1 dX3_dropAt_5 (by decide) ?_
  refine gSubN (x := (s_n S)) (y := 1) C.1 C.2.1 (by omega) dX3_dropAt_6 ?_
  have hO : gO E A s ((sR E o (d_1 d) (d_2 d) (d_3 d) (s_hr S) (s_nx S) (s_dr S) (s_on S) (s_n S) (d_l d) (s_sc S) (d_s d) (s_sh S) (d_f d) []) ++ (shC E (d_a d) (d_r d) (s_sh S) ++ ((d_p d) ++ F))) _ _ := hO
  refine gNewA (N9 := ((s_n S) - 1)) C (by decide +kernel) hO (by first | decide | omega) (Nat.le_of_ble_eq_true rfl) (by show _ ≤ 47; omega) dX3_dropAt_7 (fun q_w H hO => ?_)
  have hO : gO E A s (sR E o (d_1 d) (d_2 d) (d_3 d) (s_hr S) (s_nx S) (s_dr S) (s_on S) (s_n S) (d_l d) (s_sc S) (d_s d) (s_sh S) (d_f d) ((q_w, .inl (eL E, (s_n S) - 1, .inr (.inr (.inr (.inr (fun _ => none)))))) :: (shC E (d_a d) (d_r d) (s_sh S) ++ ((d_p d) ++ F)))) _ _ := hO
  refine lv_astore_n (lv' := [(2, .ref q_w), (0, .ref o), (1, .int (nI z0))]) C.1 C.2.1 dX3_dropAt_10 rfl hl (by decide) rfl (fun ls hl => ?_)
  refine lv_iconst (v := 0) C.1 C.2.1 dX3_dropAt_11 (by decide) ?_
  refine lv_istore_n (lv' := [(3, .int 0), (2, .ref q_w), (0, .ref o), (1, .int (nI z0))]) C.1 C.2.1 dX3_dropAt_12 rfl hl (by decide) rfl (fun ls hl => ?_)
  have lp24 : ∀ (f : Nat) (k24 : Nat) (g24 : Nat → Option Nat), (s_n S - 1 + 1 ≤ k24 + f) → (k24 ≤ s_n S - 1) → (∀ i, i < k24 → g24 i = d_l d (if i < z0 then i else i + 1)) → ∀ (H : Heap) (locs : List Loc), gO E A s (sR E o (d_1 d) (d_2 d) (d_3 d) (s_hr S) (s_nx S) (s_dr S) (s_on S) (s_n S) (d_l d) (s_sc S) (d_s d) (s_sh S) (d_f d) ((q_w, .inl (eL E, (s_n S - 1), .inr (.inr (.inr (.inr g24))))) :: (shC E (d_a d) (d_r d) (s_sh S) ++ ((d_p d) ++ F)))) H locs → ∀ ls : Array Slot, lv_has ls 7 [(0, .ref o), (1, .int (nI z0)), (2, .ref q_w), (3, .int (nI k24))] → W p l e ({ frames := 0, cells := 1, slots := 47, locals := 0 } : Room) s m args below meth c H locs 1 (s_n S - 1) (MQ below (gQf E A (fun (d9 : Dt) => Rep E d9 (S_drop S (g1 z0)) ∧ (∀ x ∈ d_p d, x ∈ d_p d9) ∧ (d_1 d, (.inl (eL E, s_n S, .inr (.inr (.inr (.inr (d_l d))))) : va_E)) ∈ d_p d9) (fun (d9 : Dt) => sW E o d9 (S_drop S (g1 z0)) F)) args s 1 47 A) (F0 m 13 ls []) := by
    intro f
    induction f with
    | zero =>
      intro k24 g24 hf hk24 hg24
      exact absurd hf (by omega)
    | succ f ih_lp24 =>
      intro k24 g24 hf hk24 hg24 H locs hO ls hl
      refine lv_iload_n C.1 C.2.1 dX3_dropAt_13 rfl (lv_at hl 3 rfl) ?_
      refine lv_aload_n C.1 C.2.1 dX3_dropAt_14 rfl (lv_at hl 2 rfl) ?_
      refine va_alen (v := nI (s_n S - 1)) C.1 C.2.1 C.2.2.2.2.2.2.2.1.1 hO.1 4 3 rfl rfl rfl dX3_dropAt_15 ?_
      refine gGeN (x := k24) (y := (s_n S - 1)) (tgt := 45) C.1 C.2.1 (by omega) (by omega) dX3_dropAt_16 (by decide) (fun c_1 => ?_) (fun c_1 => ?_)
      · refine lv_aload_n C.1 C.2.1 dX3_dropAt_45 rfl (lv_at hl 0 rfl) ?_
        refine gGet (v := .ref (d_3 d)) (ref := RX3) (Cn := RX3) (T := TX3) (N := 7) C iX3 hO 0 rfl rfl 6 (by decide) w18 (fun _ h9 => h9) rfl dX3_dropAt_46 ?_
        refine lv_astore_n (lv' := [(3, .ref (d_3 d)), (0, .ref o), (1, .int (nI z0)), (2, .ref q_w)]) C.1 C.2.1 dX3_dropAt_49 rfl hl (by decide) rfl (fun ls hl => ?_)
        refine lv_aload_n C.1 C.2.1 dX3_dropAt_50 rfl (lv_at hl 0 rfl) ?_
        refine va_alen (v := nI (s_sh S)) C.1 C.2.1 C.2.2.2.2.2.2.2.1.1 hO.1 3 3 rfl rfl rfl dX3_dropAt_51 ?_
        refine lv_istore (lv' := [(4, .int (nI (s_sh S))), (3, .ref (d_3 d)), (0, .ref o), (1, .int (nI z0)), (2, .ref q_w)]) C.1 C.2.1 dX3_dropAt_52 hl (by decide) rfl (fun ls hl => ?_)
        refine lv_iconst (v := 0) C.1 C.2.1 dX3_dropAt_54 (by decide) ?_
        refine lv_istore (lv' := [(5, .int 0), (4, .int (nI (s_sh S))), (3, .ref (d_3 d)), (0, .ref o), (1, .int (nI z0)), (2, .ref q_w)]) C.1 C.2.1 dX3_dropAt_55 hl (by decide) rfl (fun ls hl => ?_)
        have lp25 : ∀ (f : Nat) (j24 : Nat) (sr24 : Nat → Nat → Int32), (s_sh S + 1 ≤ j24 + f) → (j24 ≤ s_sh S) → (∀ i, i < s_sh S → (∀ c, c ≠ 3 → sr24 i c = d_r d i c) ∧ sr24 i 3 = (if i < j24 then s_md S (g1 z0) i else s_ms S i)) → ∀ (H : Heap) (locs : List Loc), gO E A s (sR E o (d_1 d) (d_2 d) (d_3 d) (s_hr S) (s_nx S) (s_dr S) (s_on S) (s_n S) (d_l d) (s_sc S) (d_s d) (s_sh S) (d_f d) ((q_w, .inl (eL E, (s_n S - 1), .inr (.inr (.inr (.inr g24))))) :: (shC E (d_a d) sr24 (s_sh S) ++ ((d_p d) ++ F)))) H locs → ∀ ls : Array Slot, lv_has ls 7 [(0, .ref o), (1, .int (nI z0)), (2, .ref q_w), (3, .ref (d_3 d)), (4, .int (nI (s_sh S))), (5, .int (nI j24))] → W p l e ({ frames := 0, cells := 1, slots := 47, locals := 0 } : Room) s m args below meth c H locs 1 (s_n S - 1) (MQ below (gQf E A (fun (d9 : Dt) => Rep E d9 (S_drop S (g1 z0)) ∧ (∀ x ∈ d_p d, x ∈ d_p d9) ∧ (d_1 d, (.inl (eL E, s_n S, .inr (.inr (.inr (.inr (d_l d))))) : va_E)) ∈ d_p d9) (fun (d9 : Dt) => sW E o d9 (S_drop S (g1 z0)) F)) args s 1 47 A) (F0 m 57 ls []) := by
          intro f
          induction f with
          | zero =>
            intro j24 sr24 hf hj24 hs24
            exact absurd hf (by omega)
          | succ f ih_lp25 =>
            intro j24 sr24 hf hj24 hs24 H locs hO ls hl
            refine lv_iload C.1 C.2.1 dX3_dropAt_57 (lv_at hl 5 rfl) ?_
            refine lv_iload C.1 C.2.1 dX3_dropAt_59 (lv_at hl 4 rfl) ?_
            refine gGeN (x := j24) (y := (s_sh S)) (tgt := 99) C.1 C.2.1 (by omega) (by omega) dX3_dropAt_61 (by decide) (fun c_2 => ?_) (fun c_2 => ?_)
            · refine lv_aload_n C.1 C.2.1 dX3_dropAt_99 rfl (lv_at hl 0 rfl) ?_
              refine lv_aload_n C.1 C.2.1 dX3_dropAt_100 rfl (lv_at hl 2 rfl) ?_
              refine gPut (ws' := (sQ E o q_w (d_2 d) (d_3 d) (d_1 d) (d_2 d) (d_3 d) (s_hr S) (s_nx S) (s_dr S) (s_on S) (s_n S) (d_l d) (s_sc S) (d_s d) (s_sh S) (d_f d) ((q_w, .inl (eL E, (s_n S - 1), .inr (.inr (.inr (.inr g24))))) :: (shC E (d_a d) sr24 (s_sh S) ++ ((d_p d) ++ F))))) (ref := RX3) (Cn := RX3) (T := TX3) (N := 7) C iX3 tyX3 tyX3_ok nmX3 hO 0 rfl rfl 4 (by decide) w9 (fun _ h9 => h9) rfl (by decide +kernel) rfl rfl (Nat.le_of_ble_eq_true rfl) rfl dX3_dropAt_101 (fun H locs hO => ?_)
              have hO : gO E A s (sR E o q_w (d_2 d) (d_3 d) (s_hr S) (s_nx S) (s_dr S) (s_on S) (s_n S - 1) g24 (s_sc S) (d_s d) (s_sh S) (d_f d) (shC E (d_a d) sr24 (s_sh S) ++ ((((d_1 d), .inl (eL E, (s_n S), .inr (.inr (.inr (.inr (d_l d)))))) :: (d_p d)) ++ F))) _ _ := gO.log1 hO
              refine lv_aload_n C.1 C.2.1 dX3_dropAt_104 rfl (lv_at hl 0 rfl) ?_
              refine lv_dup C.1 C.2.1 dX3_dropAt_105 rfl ?_
              refine gGet (v := .int (s_dr S)) (ref := RX3) (Cn := RX3) (T := TX3) (N := 7) C iX3 hO 0 rfl rfl 2 (by decide) w21 (fun _ h9 => h9) rfl dX3_dropAt_106 ?_
              refine lv_iconst (v := 1) C.1 C.2.1 dX3_dropAt_109 (by decide) ?_
              refine lv_iadd C.1 C.2.1 dX3_dropAt_110 ?_
              refine gPut (ws' := (sR E o q_w (d_2 d) (d_3 d) (s_hr S) (s_nx S) ((s_dr S) + 1) (s_on S) (s_n S - 1) g24 (s_sc S) (d_s d) (s_sh S) (d_f d) (shC E (d_a d) sr24 (s_sh S) ++ ((((d_1 d), .inl (eL E, (s_n S), .inr (.inr (.inr (.inr (d_l d)))))) :: (d_p d)) ++ F)))) (ref := RX3) (Cn := RX3) (T := TX3) (N := 7) C iX3 tyX3 tyX3_ok nmX3 hO 0 rfl rfl 2 (by decide) w21 (fun _ h9 => h9) rfl (by decide +kernel) rfl rfl (Nat.le_of_ble_eq_true rfl) rfl dX3_dropAt_111 (fun H locs hO => ?_)
              have e19 := cpN_g1z hz
              have e29 : s_dr S + 1 = s_dr S + nI (s_n S - cpN (g1 z0) (s_n S)) := by rw [e19, show s_n S - (s_n S - 1) = 1 by omega]; rfl
              have hO : gO E A s (sW E o (mkD9 q_w (d_2 d) (d_3 d) g24 (d_s d) (d_f d) (d_a d) sr24 ((d_1 d, (.inl (eL E, s_n S, .inr (.inr (.inr (.inr (d_l d))))) : va_E)) :: d_p d)) (S_drop S (g1 z0)) F) H locs := by rw [e29, ← e19] at hO; exact hO
              exact gRf (mkD9 q_w (d_2 d) (d_3 d) g24 (d_s d) (d_f d) (d_a d) sr24 ((d_1 d, (.inl (eL E, s_n S, .inr (.inr (.inr (.inr (d_l d))))) : va_E)) :: d_p d)) C hO (⟨rep_drop hR hz (fun i hi => hg24 i (by omega)) (fun i hi => ⟨(hs24 i hi).1, (hs24 i hi).2.trans (if_pos (by omega))⟩), fun x hx => .tail _ hx, .head _⟩) dX3_dropAt_114 (Nat.le_of_ble_eq_true rfl) (by omega)
            · refine lv_aload_n C.1 C.2.1 dX3_dropAt_64 rfl (lv_at hl 3 rfl) ?_
              refine lv_iload C.1 C.2.1 dX3_dropAt_65 (lv_at hl 5 rfl) ?_
              refine gAaldA (v := (d_a d) j24) (j := j24) C hO 3 rfl (by omega) (by omega) (((hR).2.2 j24 (by omega)).1) dX3_dropAt_67 ?_
              refine lv_astore (lv' := [(6, .ref ((d_a d) j24)), (0, .ref o), (1, .int (nI z0)), (2, .ref q_w), (3, .ref (d_3 d)), (4, .int (nI (s_sh S))), (5, .int (nI j24))]) C.1 C.2.1 dX3_dropAt_68 hl (by decide) rfl (fun ls hl => ?_)
              refine lv_aload C.1 C.2.1 dX3_dropAt_70 (lv_at hl 0 rfl) ?_
              refine lv_iconst (v := 1) C.1 C.2.1 dX3_dropAt_72 (by decide) ?_
              refine gIald (v := s_at S j24) (j := 1) C hO (j24 + 5) (shC_at (by omega)) (by omega) (by first | decide | omega) (((hs24 j24 (by omega)).1 1 (by decide)).trans (hR.2.2 j24 (by omega)).2.2.1) dX3_dropAt_73 ?_
              refine lv_aload_n C.1 C.2.1 dX3_dropAt_74 rfl (lv_at hl 1 rfl) ?_
              refine gGet (v := .ref (d_1 d)) (ref := RX3) (Cn := RX3) (T := TX3) (N := 7) C iX3 hO 0 rfl rfl 4 (by decide) w9 (fun _ h9 => h9) rfl dX3_dropAt_75 ?_
              refine lv_iload_n C.1 C.2.1 dX3_dropAt_78 rfl (lv_at hl 2 rfl) ?_
              obtain ⟨q_3, f_3, hq_3, hm_3, e0_3, e1_3, e2_3, e3_3⟩ := (hR).1 z0 (by omega)
              refine gAaldA (v := q_3) (j := z0) C hO 1 rfl (by omega) (by omega) hq_3 dX3_dropAt_79 ?_
              refine lv_iconst (v := 0) C.1 C.2.1 dX3_dropAt_80 (by decide) ?_
              have ha_5m : (q_3, (.inl (eI E, 4, .inl f_3) : va_E)) ∈ (sR E o (d_1 d) (d_2 d) (d_3 d) (s_hr S) (s_nx S) (s_dr S) (s_on S) (s_n S) (d_l d) (s_sc S) (d_s d) (s_sh S) (d_f d) ((q_w, .inl (eL E, (s_n S - 1), .inr (.inr (.inr (.inr g24))))) :: (shC E (d_a d) sr24 (s_sh S) ++ ((d_p d) ++ F)))) := sR_mem (.tail _ (pl_mem hm_3))
              obtain ⟨p_4, ha_5⟩ := List.getElem?_of_mem ha_5m
              refine gIald (v := s_off S z0) (j := 0) C hO p_4 ha_5 (by decide) (by first | decide | omega) e0_3 dX3_dropAt_81 ?_
              refine lv_icmp_gt (tgt := 93) C.1 C.2.1 dX3_dropAt_82 (by decide) (fun c_6 => ?_) (fun c_6 => ?_)
              · have hmd9 := md_0 hsr hz (show j24 < s_sh S by omega) c_6
                refine gInc (j := j24) (k := 6) (lv' := [(5, .int (nI (j24 + 1))), (6, .ref ((d_a d) j24)), (0, .ref o), (1, .int (nI z0)), (2, .ref q_w), (3, .ref (d_3 d)), (4, .int (nI (s_sh S)))]) C.1 C.2.1 dX3_dropAt_93 hl rfl (by decide) rfl (fun ls hl => ?_)
                refine lv_goto (tgt := 57) C.1 C.2.1 dX3_dropAt_96 (by decide) ?_
                exact ih_lp25 (j24 + 1) sr24 (by omega) (by omega) (md_sk hs24 hmd9) _ _ hO _ (lv_sub hl [2, 3, 4, 5, 6, 0] rfl)
              · have hmd9 := md_1 hsr hz (show j24 < s_sh S by omega) c_6
                refine lv_aload C.1 C.2.1 dX3_dropAt_85 (lv_at hl 0 rfl) ?_
                refine lv_iconst (v := nI 3) C.1 C.2.1 dX3_dropAt_87 (by decide) ?_
                refine lv_dup2_11 C.1 C.2.1 dX3_dropAt_88 rfl rfl ?_
                refine gIald (v := s_ms S j24) (j := 3) C hO (j24 + 5) (shC_at (by omega)) (by omega) (by first | decide | omega) ((hs24 j24 (by omega)).2.trans (if_neg (by omega))) dX3_dropAt_89 ?_
                refine lv_iconst (v := 1) C.1 C.2.1 dX3_dropAt_90 (by decide) ?_
                refine lv_iadd C.1 C.2.1 dX3_dropAt_91 ?_
                refine gIast (j := 3) (ws' := (sR E o (d_1 d) (d_2 d) (d_3 d) (s_hr S) (s_nx S) (s_dr S) (s_on S) (s_n S) (d_l d) (s_sc S) (d_s d) (s_sh S) (d_f d) ((q_w, .inl (eL E, (s_n S - 1), .inr (.inr (.inr (.inr g24))))) :: (shC E (d_a d) (va_up sr24 j24 (upd (sr24 j24) 3 ((s_ms S j24) + 1))) (s_sh S) ++ ((d_p d) ++ F))))) C hO (j24 + 5) (shC_at (by omega)) (by first | decide | omega) (by first | decide | omega) (congrArg (fun z9 => (sR E o (d_1 d) (d_2 d) (d_3 d) (s_hr S) (s_nx S) (s_dr S) (s_on S) (s_n S) (d_l d) (s_sc S) (d_s d) (s_sh S) (d_f d) ((q_w, .inl (eL E, (s_n S - 1), .inr (.inr (.inr (.inr g24))))) :: z9))) (shC_set (by omega) _)) dX3_dropAt_92 (fun H locs hO => ?_)
                refine gInc (j := j24) (k := 6) (lv' := [(5, .int (nI (j24 + 1))), (6, .ref ((d_a d) j24)), (0, .ref o), (1, .int (nI z0)), (2, .ref q_w), (3, .ref (d_3 d)), (4, .int (nI (s_sh S)))]) C.1 C.2.1 dX3_dropAt_93 hl rfl (by decide) rfl (fun ls hl => ?_)
                refine lv_goto (tgt := 57) C.1 C.2.1 dX3_dropAt_96 (by decide) ?_
                exact ih_lp25 (j24 + 1) (va_up sr24 j24 (upd (sr24 j24) 3 ((s_ms S j24) + 1))) (by omega) (by omega) (md_st hs24 hmd9) _ _ hO _ (lv_sub hl [2, 3, 4, 5, 6, 0] rfl)
        exact lp25 (s_sh S + 1) 0 (d_r d) (by omega) (Nat.zero_le _) (fun i hi => ⟨fun c hc => rfl, by rw [if_neg (Nat.not_lt_zero _)]; exact (hR.2.2 i hi).2.2.2.2.1⟩) _ _ hO _ (lv_sub hl [3, 4, 5, 2, 1, 0] rfl)
      · refine lv_aload_n C.1 C.2.1 dX3_dropAt_19 rfl (lv_at hl 2 rfl) ?_
        refine lv_iload_n C.1 C.2.1 dX3_dropAt_20 rfl (lv_at hl 3 rfl) ?_
        refine lv_aload_n C.1 C.2.1 dX3_dropAt_21 rfl (lv_at hl 0 rfl) ?_
        refine gGet (v := .ref (d_1 d)) (ref := RX3) (Cn := RX3) (T := TX3) (N := 7) C iX3 hO 0 rfl rfl 4 (by decide) w9 (fun _ h9 => h9) rfl dX3_dropAt_22 ?_
        refine lv_iload_n C.1 C.2.1 dX3_dropAt_25 rfl (lv_at hl 3 rfl) ?_
        refine lv_iload_n C.1 C.2.1 dX3_dropAt_26 rfl (lv_at hl 1 rfl) ?_
        refine gGeN (x := k24) (y := z0) (tgt := 34) C.1 C.2.1 (by omega) (by omega) dX3_dropAt_27 (by decide) (fun c_7 => ?_) (fun c_7 => ?_)
        · refine lv_iload_n C.1 C.2.1 dX3_dropAt_34 rfl (lv_at hl 3 rfl) ?_
          refine lv_iconst (v := 1) C.1 C.2.1 dX3_dropAt_35 (by decide) ?_
          refine gAddN (x := k24) (y := 1) C.1 C.2.1 dX3_dropAt_36 ?_
          obtain ⟨q_8, f_8, hq_8, hm_8, e0_8, e1_8, e2_8, e3_8⟩ := (hR).1 (k24 + 1) (by omega)
          refine gAaldA (v := q_8) (j := (k24 + 1)) C hO 1 rfl (by omega) (by omega) hq_8 dX3_dropAt_37 ?_
          have ha_10m : (q_8, (.inl (eI E, 4, .inl f_8) : va_E)) ∈ (sR E o (d_1 d) (d_2 d) (d_3 d) (s_hr S) (s_nx S) (s_dr S) (s_on S) (s_n S) (d_l d) (s_sc S) (d_s d) (s_sh S) (d_f d) ((q_w, .inl (eL E, (s_n S - 1), .inr (.inr (.inr (.inr g24))))) :: (shC E (d_a d) (d_r d) (s_sh S) ++ ((d_p d) ++ F)))) := sR_mem (.tail _ (pl_mem hm_8))
          obtain ⟨p_9, ha_10⟩ := List.getElem?_of_mem ha_10m
          refine gAastA (j := k24) (ws' := (sR E o (d_1 d) (d_2 d) (d_3 d) (s_hr S) (s_nx S) (s_dr S) (s_on S) (s_n S) (d_l d) (s_sc S) (d_s d) (s_sh S) (d_f d) ((q_w, .inl (eL E, (s_n S - 1), .inr (.inr (.inr (.inr (va_up g24 k24 (some q_8))))))) :: (shC E (d_a d) (d_r d) (s_sh S) ++ ((d_p d) ++ F))))) C hO 4 p_9 rfl ha_10 (by first | decide | omega) (by first | decide | omega) rfl dX3_dropAt_38 (fun H locs hO => ?_)
          refine gInc (j := k24) (k := 3) (lv' := [(3, .int (nI (k24 + 1))), (0, .ref o), (1, .int (nI z0)), (2, .ref q_w)]) C.1 C.2.1 dX3_dropAt_39 hl rfl (by decide) rfl (fun ls hl => ?_)
          refine lv_goto (tgt := 13) C.1 C.2.1 dX3_dropAt_42 (by decide) ?_
          exact ih_lp24 (k24 + 1) (va_up g24 k24 (some q_8)) (by omega) (by omega) (vup_ext (lf := fun i => d_l d (if i < z0 then i else i + 1)) hg24 (by show d_l d (if k24 < z0 then k24 else k24 + 1) = _; first | (rw [if_pos (by omega)]; exact hq_8) | (rw [if_neg (by omega)]; exact hq_8))) _ _ hO _ (lv_sub hl [1, 2, 3, 0] rfl)
        · refine lv_iload_n C.1 C.2.1 dX3_dropAt_30 rfl (lv_at hl 3 rfl) ?_
          refine lv_goto (tgt := 37) C.1 C.2.1 dX3_dropAt_31 (by decide) ?_
          obtain ⟨q_11, f_11, hq_11, hm_11, e0_11, e1_11, e2_11, e3_11⟩ := (hR).1 k24 (by omega)
          refine gAaldA (v := q_11) (j := k24) C hO 1 rfl (by omega) (by omega) hq_11 dX3_dropAt_37 ?_
          have ha_13m : (q_11, (.inl (eI E, 4, .inl f_11) : va_E)) ∈ (sR E o (d_1 d) (d_2 d) (d_3 d) (s_hr S) (s_nx S) (s_dr S) (s_on S) (s_n S) (d_l d) (s_sc S) (d_s d) (s_sh S) (d_f d) ((q_w, .inl (eL E, (s_n S - 1), .inr (.inr (.inr (.inr g24))))) :: (shC E (d_a d) (d_r d) (s_sh S) ++ ((d_p d) ++ F)))) := sR_mem (.tail _ (pl_mem hm_11))
          obtain ⟨p_12, ha_13⟩ := List.getElem?_of_mem ha_13m
          refine gAastA (j := k24) (ws' := (sR E o (d_1 d) (d_2 d) (d_3 d) (s_hr S) (s_nx S) (s_dr S) (s_on S) (s_n S) (d_l d) (s_sc S) (d_s d) (s_sh S) (d_f d) ((q_w, .inl (eL E, (s_n S - 1), .inr (.inr (.inr (.inr (va_up g24 k24 (some q_11))))))) :: (shC E (d_a d) (d_r d) (s_sh S) ++ ((d_p d) ++ F))))) C hO 4 p_12 rfl ha_13 (by first | decide | omega) (by first | decide | omega) rfl dX3_dropAt_38 (fun H locs hO => ?_)
          refine gInc (j := k24) (k := 3) (lv' := [(3, .int (nI (k24 + 1))), (0, .ref o), (1, .int (nI z0)), (2, .ref q_w)]) C.1 C.2.1 dX3_dropAt_39 hl rfl (by decide) rfl (fun ls hl => ?_)
          refine lv_goto (tgt := 13) C.1 C.2.1 dX3_dropAt_42 (by decide) ?_
          exact ih_lp24 (k24 + 1) (va_up g24 k24 (some q_11)) (by omega) (by omega) (vup_ext (lf := fun i => d_l d (if i < z0 then i else i + 1)) hg24 (by show d_l d (if k24 < z0 then k24 else k24 + 1) = _; first | (rw [if_pos (by omega)]; exact hq_11) | (rw [if_neg (by omega)]; exact hq_11))) _ _ hO _ (lv_sub hl [1, 2, 3, 0] rfl)
  refine W.widen (k := 1) (n := s_n S - 1) (by omega) (by omega) ?_
  exact lp24 (s_n S - 1 + 1) 0 (fun _ => none) (by omega) (Nat.zero_le _) (fun i hi => absurd hi (Nat.not_lt_zero _)) _ _ hO _ (lv_sub hl [2, 3, 1, 0] rfl)

set_option maxHeartbeats 4000000 in
set_option maxRecDepth 100000 in
theorem c_X3_say (l : Launch) (E : gE) (o : Nat) (d : Dt) (S : St) (F : va_W) (k v : Int32) (hR : Rep E d S) (hI : s_inv S) (hsr : s_srt S) : gMe l E yX3_say wsX3_say ({ frames := 1, cells := 3, slots := 100, locals := 26 }) (sW E o d S F) [.ref o, .int k, .int v] (fun (r : Int32) (d9 : Dt) => r = s_nx S ∧ Rep E d9 (S_spk S k v) ∧ (∀ x ∈ d_p d, x ∈ d_p d9) ∧ (d_1 d, (.inl (eL E, s_n S, .inr (.inr (.inr (.inr (d_l d))))) : va_E)) ∈ d_p d9) (fun (d9 : Dt) => sW E o d9 (S_spk S k v) F) 3 100 := by
  refine gMe.of (cc := cX3_say) (maxL := 3) (ty := .int) (by decide) rfl (Nat.le_of_ble_eq_true rfl) ?_
  intro p e s m args below meth c A C ls hl hO
  have hl : lv_has ls 3 [(0, .ref o), (1, .int k), (2, .int v)] := hl
  have iX3 : ∀ w ∈ u_ws RX3 TX3 7, w ∈ wsX3_say := by decide +kernel
  have w9 : Cond.fieldLink RX3 9 "ParrotLogLaw$Sim" "log" "[[I" ∈ wsX3_say := by decide +kernel
  have w29 : Cond.fieldLink RX3 29 "ParrotLogLaw$Sim" "next" "I" ∈ wsX3_say := by decide +kernel
  have w32 : Cond.fieldLink RX3 32 "ParrotLogLaw$Sim" "isOn" "Z" ∈ wsX3_say := by decide +kernel
  have w15 : Cond.fieldLink RX3 15 "ParrotLogLaw$Sim" "said" "[I" ∈ wsX3_say := by decide +kernel
  obtain ⟨hn, hsh, hsc, hOn, hOb, hok9, hpc9, hp0⟩ := hI
  refine lv_aload_n C.1 C.2.1 dX3_say_0 rfl (lv_at hl 0 rfl) ?_
  refine gGet (v := .ref (d_1 d)) (ref := RX3) (Cn := RX3) (T := TX3) (N := 7) C iX3 hO 0 rfl rfl 4 (by decide) w9 (fun _ h9 => h9) rfl dX3_say_1 ?_
  refine va_alen (v := nI (s_n S)) C.1 C.2.1 C.2.2.2.2.2.2.2.1.1 hO.1 1 3 rfl rfl rfl dX3_say_4 ?_
  refine lv_bipush (v := nI 48) C.1 C.2.1 dX3_say_5 (by decide) ?_
  have lb24 : ∀ (d24 : Dt) (S24 : St), (Rep E d24 S24) → (S24 = S_room S) → (s_n S24 < 48) → (∀ x ∈ d_p d, x ∈ d_p d24) → ((d_1 d, (.inl (eL E, s_n S, .inr (.inr (.inr (.inr (d_l d))))) : va_E)) = (d_1 d24, (.inl (eL E, s_n S24, .inr (.inr (.inr (.inr (d_l d24))))) : va_E)) ∨ (d_1 d, (.inl (eL E, s_n S, .inr (.inr (.inr (.inr (d_l d))))) : va_E)) ∈ d_p d24) → ∀ (H : Heap) (locs : List Loc), gO E A s (sW E o d24 S24 F) H locs → ∀ ls : Array Slot, lv_has ls 3 [(0, .ref o), (1, .int k), (2, .int v)] → W p l e ({ frames := 1, cells := 3, slots := 100, locals := 26 } : Room) s m args below meth c H locs 1 47 (MQ below (gQe E A (fun (r : Int32) (d9 : Dt) => r = s_nx S ∧ Rep E d9 (S_spk S k v) ∧ (∀ x ∈ d_p d, x ∈ d_p d9) ∧ (d_1 d, (.inl (eL E, s_n S, .inr (.inr (.inr (.inr (d_l d))))) : va_E)) ∈ d_p d9) (fun (d9 : Dt) => sW E o d9 (S_spk S k v) F)) args s 3 100 A) (F0 m 15 ls []) := by
    intro d24 S24 hR24 hS24 hn24 hp24 ho24 H locs hO ls hl
    refine lv_aload_n C.1 C.2.1 dX3_say_15 rfl (lv_at hl 0 rfl) ?_
    refine lv_aload_n C.1 C.2.1 dX3_say_16 rfl (lv_at hl 0 rfl) ?_
    refine gGet (v := .ref (d_1 d24)) (ref := RX3) (Cn := RX3) (T := TX3) (N := 7) C iX3 hO 0 rfl rfl 4 (by decide) w9 (fun _ h9 => h9) rfl dX3_say_17 ?_
    refine lv_iconst (v := nI 4) C.1 C.2.1 dX3_say_20 (by decide) ?_
    have hO : gO E A s ((sR E o (d_1 d24) (d_2 d24) (d_3 d24) (s_hr S24) (s_nx S24) (s_dr S24) (s_on S24) (s_n S24) (d_l d24) (s_sc S24) (d_s d24) (s_sh S24) (d_f d24) []) ++ (shC E (d_a d24) (d_r d24) (s_sh S24) ++ ((d_p d24) ++ F))) _ _ := hO
    refine gNewI (N9 := 4) C (C.2.2.2.2.1 (.arrayClass .int) (by decide +kernel)) hO (by first | decide | omega) (Nat.le_of_ble_eq_true rfl) (Nat.le_of_ble_eq_true rfl) dX3_say_21 (fun q_r H hO => ?_)
    have hO : gO E A s (sR E o (d_1 d24) (d_2 d24) (d_3 d24) (s_hr S24) (s_nx S24) (s_dr S24) (s_on S24) (s_n S24) (d_l d24) (s_sc S24) (d_s d24) (s_sh S24) (d_f d24) ((q_r, .inl (eI E, 4, .inl (fun _ => 0))) :: (shC E (d_a d24) (d_r d24) (s_sh S24) ++ ((d_p d24) ++ F)))) _ _ := hO
    refine lv_dup C.1 C.2.1 dX3_say_23 rfl ?_
    refine lv_iconst (v := 0) C.1 C.2.1 dX3_say_24 (by decide) ?_
    refine lv_aload_n C.1 C.2.1 dX3_say_25 rfl (lv_at hl 0 rfl) ?_
    refine gGet (v := .int (s_nx S24)) (ref := RX3) (Cn := RX3) (T := TX3) (N := 7) C iX3 hO 0 rfl rfl 1 (by decide) w29 (fun _ h9 => h9) rfl dX3_say_26 ?_
    refine gIast (j := 0) (ws' := (sR E o (d_1 d24) (d_2 d24) (d_3 d24) (s_hr S24) (s_nx S24) (s_dr S24) (s_on S24) (s_n S24) (d_l d24) (s_sc S24) (d_s d24) (s_sh S24) (d_f d24) ((q_r, .inl (eI E, 4, .inl (upd (fun _ => 0) 0 (s_nx S24)))) :: (shC E (d_a d24) (d_r d24) (s_sh S24) ++ ((d_p d24) ++ F))))) C hO 4 rfl (by first | decide | omega) (by first | decide | omega) rfl dX3_say_29 (fun H locs hO => ?_)
    refine lv_dup C.1 C.2.1 dX3_say_30 rfl ?_
    refine lv_iconst (v := 1) C.1 C.2.1 dX3_say_31 (by decide) ?_
    refine lv_iload_n C.1 C.2.1 dX3_say_32 rfl (lv_at hl 1 rfl) ?_
    refine gIast (j := 1) (ws' := (sR E o (d_1 d24) (d_2 d24) (d_3 d24) (s_hr S24) (s_nx S24) (s_dr S24) (s_on S24) (s_n S24) (d_l d24) (s_sc S24) (d_s d24) (s_sh S24) (d_f d24) ((q_r, .inl (eI E, 4, .inl (upd (upd (fun _ => 0) 0 (s_nx S24)) 1 k))) :: (shC E (d_a d24) (d_r d24) (s_sh S24) ++ ((d_p d24) ++ F))))) C hO 4 rfl (by first | decide | omega) (by first | decide | omega) rfl dX3_say_33 (fun H locs hO => ?_)
    refine lv_dup C.1 C.2.1 dX3_say_34 rfl ?_
    refine lv_iconst (v := nI 2) C.1 C.2.1 dX3_say_35 (by decide) ?_
    refine lv_iload_n C.1 C.2.1 dX3_say_36 rfl (lv_at hl 2 rfl) ?_
    refine gIast (j := 2) (ws' := (sR E o (d_1 d24) (d_2 d24) (d_3 d24) (s_hr S24) (s_nx S24) (s_dr S24) (s_on S24) (s_n S24) (d_l d24) (s_sc S24) (d_s d24) (s_sh S24) (d_f d24) ((q_r, .inl (eI E, 4, .inl (upd (upd (upd (fun _ => 0) 0 (s_nx S24)) 1 k) 2 v))) :: (shC E (d_a d24) (d_r d24) (s_sh S24) ++ ((d_p d24) ++ F))))) C hO 4 rfl (by first | decide | omega) (by first | decide | omega) rfl dX3_say_37 (fun H locs hO => ?_)
    refine lv_dup C.1 C.2.1 dX3_say_38 rfl ?_
    refine lv_iconst (v := nI 3) C.1 C.2.1 dX3_say_39 (by decide) ?_
    refine lv_aload_n C.1 C.2.1 dX3_say_40 rfl (lv_at hl 0 rfl) ?_
    refine gGet (v := .int (s_on S24)) (ref := RX3) (Cn := RX3) (T := TX3) (N := 7) C iX3 hO 0 rfl rfl 3 (by decide) w32 (fun _ h9 => h9) rfl dX3_say_41 ?_
    refine lv_if_eq (tgt := 57) C.1 C.2.1 dX3_say_44 (by decide) (fun c_1 => ?_) (fun c_1 => ?_)
    · have hon9 : s_on S24 = 0 := c_1
      refine lv_iconst (v := (-1)) C.1 C.2.1 dX3_say_57 (by decide) ?_
      refine gIast (j := 3) (ws' := (sR E o (d_1 d24) (d_2 d24) (d_3 d24) (s_hr S24) (s_nx S24) (s_dr S24) (s_on S24) (s_n S24) (d_l d24) (s_sc S24) (d_s d24) (s_sh S24) (d_f d24) ((q_r, .inl (eI E, 4, .inl (upd (upd (upd (upd (fun _ => 0) 0 (s_nx S24)) 1 k) 2 v) 3 (-1)))) :: (shC E (d_a d24) (d_r d24) (s_sh S24) ++ ((d_p d24) ++ F))))) C hO 4 rfl (by first | decide | omega) (by first | decide | omega) rfl dX3_say_58 (fun H locs hO => ?_)
      refine gCallS_g (As := [.ref (d_1 d24), .ref q_r]) (rest := [.ref o]) C hO (c_X3_with l E (sR E o (d_1 d24) (d_2 d24) (d_3 d24) (s_hr S24) (s_nx S24) (s_dr S24) (s_on S24) (s_n S24) (d_l d24) (s_sc S24) (d_s d24) (s_sh S24) (d_f d24) ((q_r, .inl (eI E, 4, .inl (upd (upd (upd (upd (fun _ => 0) 0 (s_nx S24)) 1 k) 2 v) 3 (-1)))) :: (shC E (d_a d24) (d_r d24) (s_sh S24) ++ ((d_p d24) ++ F)))) (d_1 d24) q_r (s_n S24) 4 1 4 (d_l d24) (upd (upd (upd (upd (fun _ => 0) 0 (s_nx S24)) 1 k) 2 v) 3 (-1)) rfl rfl (by omega) (fun i hi => by obtain ⟨q9, f9, h1, h2, _⟩ := hR24.1 i hi; exact ⟨q9, f9, 4, h1, sR_mem (.tail _ (pl_mem h2))⟩)) (cwS 2 C.2.2.2.2.1 gX3_say_X3_with rfl rfl rfl (by decide +kernel) ⟨(Nat.le_of_ble_eq_true rfl), (Nat.le_of_ble_eq_true rfl)⟩) rfl hl.1 rfl (Nat.le_of_ble_eq_true rfl) dX3_say_59 ⟨(Nat.le_of_ble_eq_true rfl), (Nat.le_of_ble_eq_true rfl)⟩ (fun g26 q_w H locs ⟨hg26, hg27⟩ hO => ?_)
      have hO : gO E A s (sR E o (d_1 d24) (d_2 d24) (d_3 d24) (s_hr S24) (s_nx S24) (s_dr S24) (s_on S24) (s_n S24) (d_l d24) (s_sc S24) (d_s d24) (s_sh S24) (d_f d24) ((q_w, .inl (eL E, (s_n S24 + 1), .inr (.inr (.inr (.inr g26))))) :: ((q_r, .inl (eI E, 4, .inl (upd (upd (upd (upd (fun _ => 0) 0 (s_nx S24)) 1 k) 2 v) 3 (-1)))) :: (shC E (d_a d24) (d_r d24) (s_sh S24) ++ ((d_p d24) ++ F))))) H locs := gO.frn (W0 := (sR E o (d_1 d24) (d_2 d24) (d_3 d24) (s_hr S24) (s_nx S24) (s_dr S24) (s_on S24) (s_n S24) (d_l d24) (s_sc S24) (d_s d24) (s_sh S24) (d_f d24) [])) hO
      refine gPut (ws' := (sQ E o q_w (d_2 d24) (d_3 d24) (d_1 d24) (d_2 d24) (d_3 d24) (s_hr S24) (s_nx S24) (s_dr S24) (s_on S24) (s_n S24) (d_l d24) (s_sc S24) (d_s d24) (s_sh S24) (d_f d24) ((q_w, .inl (eL E, (s_n S24 + 1), .inr (.inr (.inr (.inr g26))))) :: ((q_r, .inl (eI E, 4, .inl (upd (upd (upd (upd (fun _ => 0) 0 (s_nx S24)) 1 k) 2 v) 3 (-1)))) :: (shC E (d_a d24) (d_r d24) (s_sh S24) ++ ((d_p d24) ++ F)))))) (ref := RX3) (Cn := RX3) (T := TX3) (N := 7) C iX3 tyX3 tyX3_ok nmX3 hO 0 rfl rfl 4 (by decide) w9 (fun _ h9 => h9) rfl (by decide +kernel) rfl rfl (Nat.le_of_ble_eq_true rfl) rfl dX3_say_62 (fun H locs hO => ?_)
      have hO : gO E A s (sR E o q_w (d_2 d24) (d_3 d24) (s_hr S24) (s_nx S24) (s_dr S24) (s_on S24) (s_n S24 + 1) g26 (s_sc S24) (d_s d24) (s_sh S24) (d_f d24) (shC E (d_a d24) (d_r d24) (s_sh S24) ++ (((q_r, .inl (eI E, 4, .inl (upd (upd (upd (upd (fun _ => 0) 0 (s_nx S24)) 1 k) 2 v) 3 (-1)))) :: ((d_1 d24), .inl (eL E, (s_n S24), .inr (.inr (.inr (.inr (d_l d24)))))) :: (d_p d24)) ++ F))) _ _ := gO.log2 hO
      refine lv_aload_n C.1 C.2.1 dX3_say_65 rfl (lv_at hl 0 rfl) ?_
      refine gGet (v := .int (s_on S24)) (ref := RX3) (Cn := RX3) (T := TX3) (N := 7) C iX3 hO 0 rfl rfl 3 (by decide) w32 (fun _ h9 => h9) rfl dX3_say_66 ?_
      refine lv_if_eq (tgt := 88) C.1 C.2.1 dX3_say_69 (by decide) (fun c_2 => ?_) (fun c_2 => ?_)
      · refine lv_aload_n C.1 C.2.1 dX3_say_88 rfl (lv_at hl 0 rfl) ?_
        refine lv_dup C.1 C.2.1 dX3_say_89 rfl ?_
        refine gGet (v := .int (s_nx S24)) (ref := RX3) (Cn := RX3) (T := TX3) (N := 7) C iX3 hO 0 rfl rfl 1 (by decide) w29 (fun _ h9 => h9) rfl dX3_say_90 ?_
        refine lv_iconst (v := 1) C.1 C.2.1 dX3_say_93 (by decide) ?_
        refine lv_iadd C.1 C.2.1 dX3_say_94 ?_
        refine gPut (ws' := (sR E o q_w (d_2 d24) (d_3 d24) (s_hr S24) ((s_nx S24) + 1) (s_dr S24) (s_on S24) (s_n S24 + 1) g26 (s_sc S24) (d_s d24) (s_sh S24) (d_f d24) (shC E (d_a d24) (d_r d24) (s_sh S24) ++ (((q_r, .inl (eI E, 4, .inl (upd (upd (upd (upd (fun _ => 0) 0 (s_nx S24)) 1 k) 2 v) 3 (-1)))) :: ((d_1 d24), .inl (eL E, (s_n S24), .inr (.inr (.inr (.inr (d_l d24)))))) :: (d_p d24)) ++ F)))) (ref := RX3) (Cn := RX3) (T := TX3) (N := 7) C iX3 tyX3 tyX3_ok nmX3 hO 0 rfl rfl 1 (by decide) w29 (fun _ h9 => h9) rfl (by decide +kernel) rfl rfl (Nat.le_of_ble_eq_true rfl) rfl dX3_say_95 (fun H locs hO => ?_)
        refine lv_aload_n C.1 C.2.1 dX3_say_98 rfl (lv_at hl 0 rfl) ?_
        refine gGet (v := .int ((s_nx S24) + 1)) (ref := RX3) (Cn := RX3) (T := TX3) (N := 7) C iX3 hO 0 rfl rfl 1 (by decide) w29 (fun _ h9 => h9) rfl dX3_say_99 ?_
        refine lv_iconst (v := 1) C.1 C.2.1 dX3_say_102 (by decide) ?_
        refine lv_isub C.1 C.2.1 dX3_say_103 ?_
        have eS9 : S_spk S k v = S_app (S_said S24 (s_said S24)) k v (-1) := spk_off hS24 hon9 k v
        have hO : gO E A s (sW E o (mkD9 q_w (d_2 d24) (d_3 d24) g26 (d_s d24) (d_f d24) (d_a d24) (d_r d24) ((q_r, (.inl (eI E, 4, .inl (upd (upd (upd (upd (fun _ => 0) 0 (s_nx S24)) 1 k) 2 v) 3 (-1))) : va_E)) :: (d_1 d24, (.inl (eL E, s_n S24, .inr (.inr (.inr (.inr (d_l d24))))) : va_E)) :: d_p d24)) (S_spk S k v) F) H locs := by rw [eS9]; exact hO
        exact gRe (mkD9 q_w (d_2 d24) (d_3 d24) g26 (d_s d24) (d_f d24) (d_a d24) (d_r d24) ((q_r, (.inl (eI E, 4, .inl (upd (upd (upd (upd (fun _ => 0) 0 (s_nx S24)) 1 k) 2 v) 3 (-1))) : va_E)) :: (d_1 d24, (.inl (eL E, s_n S24, .inr (.inr (.inr (.inr (d_l d24))))) : va_E)) :: d_p d24)) C hO rfl (⟨by rw [Int32.add_sub_cancel, hS24, (s_tag_room S).2.2.2], by rw [eS9]; exact rep_app hR24 hg26 hg27 (hR24.2.1) rfl rfl rfl rfl, fun x hx => .tail _ (.tail _ (hp24 x hx)), ho24.elim (fun h => .tail _ (h ▸ .head _)) (fun h => .tail _ (.tail _ h))⟩) dX3_say_104 (Nat.le_of_ble_eq_true rfl) (Nat.le_of_ble_eq_true rfl)
      · exact absurd hon9 c_2
    · have hon9 : ¬ s_on S24 = 0 := c_1
      have hsc24 : s_sc S24 ≤ 8 := by rw [hS24, (s_tag_room S).2.2.1]; exact hsc
      have h1s : 1 ≤ s_sc S24 := by rw [hS24, (s_tag_room S).2.2.1]; exact hOn (by rw [← (s_tag_room S).2.1, ← hS24]; exact c_1)
      refine lv_aload_n C.1 C.2.1 dX3_say_47 rfl (lv_at hl 0 rfl) ?_
      refine gGet (v := .ref (d_2 d24)) (ref := RX3) (Cn := RX3) (T := TX3) (N := 7) C iX3 hO 0 rfl rfl 5 (by decide) w15 (fun _ h9 => h9) rfl dX3_say_48 ?_
      refine va_alen (v := nI (s_sc S24)) C.1 C.2.1 C.2.2.2.2.2.2.2.1.1 hO.1 2 0 rfl rfl rfl dX3_say_51 ?_
      refine lv_iconst (v := 1) C.1 C.2.1 dX3_say_52 (by decide) ?_
      refine gSubN (x := (s_sc S24)) (y := 1) C.1 C.2.1 h1s dX3_say_53 ?_
      refine lv_goto (tgt := 58) C.1 C.2.1 dX3_say_54 (by decide) ?_
      refine gIast (j := 3) (ws' := (sR E o (d_1 d24) (d_2 d24) (d_3 d24) (s_hr S24) (s_nx S24) (s_dr S24) (s_on S24) (s_n S24) (d_l d24) (s_sc S24) (d_s d24) (s_sh S24) (d_f d24) ((q_r, .inl (eI E, 4, .inl (upd (upd (upd (upd (fun _ => 0) 0 (s_nx S24)) 1 k) 2 v) 3 (nI ((s_sc S24) - 1))))) :: (shC E (d_a d24) (d_r d24) (s_sh S24) ++ ((d_p d24) ++ F))))) C hO 4 rfl (by first | decide | omega) (by first | decide | omega) rfl dX3_say_58 (fun H locs hO => ?_)
      refine gCallS_g (As := [.ref (d_1 d24), .ref q_r]) (rest := [.ref o]) C hO (c_X3_with l E (sR E o (d_1 d24) (d_2 d24) (d_3 d24) (s_hr S24) (s_nx S24) (s_dr S24) (s_on S24) (s_n S24) (d_l d24) (s_sc S24) (d_s d24) (s_sh S24) (d_f d24) ((q_r, .inl (eI E, 4, .inl (upd (upd (upd (upd (fun _ => 0) 0 (s_nx S24)) 1 k) 2 v) 3 (nI ((s_sc S24) - 1))))) :: (shC E (d_a d24) (d_r d24) (s_sh S24) ++ ((d_p d24) ++ F)))) (d_1 d24) q_r (s_n S24) 4 1 4 (d_l d24) (upd (upd (upd (upd (fun _ => 0) 0 (s_nx S24)) 1 k) 2 v) 3 (nI ((s_sc S24) - 1))) rfl rfl (by omega) (fun i hi => by obtain ⟨q9, f9, h1, h2, _⟩ := hR24.1 i hi; exact ⟨q9, f9, 4, h1, sR_mem (.tail _ (pl_mem h2))⟩)) (cwS 2 C.2.2.2.2.1 gX3_say_X3_with rfl rfl rfl (by decide +kernel) ⟨(Nat.le_of_ble_eq_true rfl), (Nat.le_of_ble_eq_true rfl)⟩) rfl hl.1 rfl (Nat.le_of_ble_eq_true rfl) dX3_say_59 ⟨(Nat.le_of_ble_eq_true rfl), (Nat.le_of_ble_eq_true rfl)⟩ (fun g26 q_w H locs ⟨hg26, hg27⟩ hO => ?_)
      have hO : gO E A s (sR E o (d_1 d24) (d_2 d24) (d_3 d24) (s_hr S24) (s_nx S24) (s_dr S24) (s_on S24) (s_n S24) (d_l d24) (s_sc S24) (d_s d24) (s_sh S24) (d_f d24) ((q_w, .inl (eL E, (s_n S24 + 1), .inr (.inr (.inr (.inr g26))))) :: ((q_r, .inl (eI E, 4, .inl (upd (upd (upd (upd (fun _ => 0) 0 (s_nx S24)) 1 k) 2 v) 3 (nI ((s_sc S24) - 1))))) :: (shC E (d_a d24) (d_r d24) (s_sh S24) ++ ((d_p d24) ++ F))))) H locs := gO.frn (W0 := (sR E o (d_1 d24) (d_2 d24) (d_3 d24) (s_hr S24) (s_nx S24) (s_dr S24) (s_on S24) (s_n S24) (d_l d24) (s_sc S24) (d_s d24) (s_sh S24) (d_f d24) [])) hO
      refine gPut (ws' := (sQ E o q_w (d_2 d24) (d_3 d24) (d_1 d24) (d_2 d24) (d_3 d24) (s_hr S24) (s_nx S24) (s_dr S24) (s_on S24) (s_n S24) (d_l d24) (s_sc S24) (d_s d24) (s_sh S24) (d_f d24) ((q_w, .inl (eL E, (s_n S24 + 1), .inr (.inr (.inr (.inr g26))))) :: ((q_r, .inl (eI E, 4, .inl (upd (upd (upd (upd (fun _ => 0) 0 (s_nx S24)) 1 k) 2 v) 3 (nI ((s_sc S24) - 1))))) :: (shC E (d_a d24) (d_r d24) (s_sh S24) ++ ((d_p d24) ++ F)))))) (ref := RX3) (Cn := RX3) (T := TX3) (N := 7) C iX3 tyX3 tyX3_ok nmX3 hO 0 rfl rfl 4 (by decide) w9 (fun _ h9 => h9) rfl (by decide +kernel) rfl rfl (Nat.le_of_ble_eq_true rfl) rfl dX3_say_62 (fun H locs hO => ?_)
      have hO : gO E A s (sR E o q_w (d_2 d24) (d_3 d24) (s_hr S24) (s_nx S24) (s_dr S24) (s_on S24) (s_n S24 + 1) g26 (s_sc S24) (d_s d24) (s_sh S24) (d_f d24) (shC E (d_a d24) (d_r d24) (s_sh S24) ++ (((q_r, .inl (eI E, 4, .inl (upd (upd (upd (upd (fun _ => 0) 0 (s_nx S24)) 1 k) 2 v) 3 (nI ((s_sc S24) - 1))))) :: ((d_1 d24), .inl (eL E, (s_n S24), .inr (.inr (.inr (.inr (d_l d24)))))) :: (d_p d24)) ++ F))) _ _ := gO.log2 hO
      refine lv_aload_n C.1 C.2.1 dX3_say_65 rfl (lv_at hl 0 rfl) ?_
      refine gGet (v := .int (s_on S24)) (ref := RX3) (Cn := RX3) (T := TX3) (N := 7) C iX3 hO 0 rfl rfl 3 (by decide) w32 (fun _ h9 => h9) rfl dX3_say_66 ?_
      refine lv_if_eq (tgt := 88) C.1 C.2.1 dX3_say_69 (by decide) (fun c_3 => ?_) (fun c_3 => ?_)
      · exact absurd c_3 hon9
      · refine lv_aload_n C.1 C.2.1 dX3_say_72 rfl (lv_at hl 0 rfl) ?_
        refine gGet (v := .ref (d_2 d24)) (ref := RX3) (Cn := RX3) (T := TX3) (N := 7) C iX3 hO 0 rfl rfl 5 (by decide) w15 (fun _ h9 => h9) rfl dX3_say_73 ?_
        refine lv_aload_n C.1 C.2.1 dX3_say_76 rfl (lv_at hl 0 rfl) ?_
        refine gGet (v := .ref (d_2 d24)) (ref := RX3) (Cn := RX3) (T := TX3) (N := 7) C iX3 hO 0 rfl rfl 5 (by decide) w15 (fun _ h9 => h9) rfl dX3_say_77 ?_
        refine va_alen (v := nI (s_sc S24)) C.1 C.2.1 C.2.2.2.2.2.2.2.1.1 hO.1 2 0 rfl rfl rfl dX3_say_80 ?_
        refine lv_iconst (v := 1) C.1 C.2.1 dX3_say_81 (by decide) ?_
        refine gSubN (x := (s_sc S24)) (y := 1) C.1 C.2.1 h1s dX3_say_82 ?_
        refine lv_dup2_11 C.1 C.2.1 dX3_say_83 rfl rfl ?_
        refine gIald (v := s_said S24 ((s_sc S24) - 1)) (j := ((s_sc S24) - 1)) C hO 2 rfl (by omega) (by first | decide | omega) ((hR24).2.1 ((s_sc S24) - 1) (by omega)) dX3_say_84 ?_
        refine lv_iconst (v := 1) C.1 C.2.1 dX3_say_85 (by decide) ?_
        refine lv_iadd C.1 C.2.1 dX3_say_86 ?_
        refine gIast (j := ((s_sc S24) - 1)) (ws' := (sR E o q_w (d_2 d24) (d_3 d24) (s_hr S24) (s_nx S24) (s_dr S24) (s_on S24) (s_n S24 + 1) g26 (s_sc S24) (upd (d_s d24) ((s_sc S24) - 1) ((s_said S24 ((s_sc S24) - 1)) + 1)) (s_sh S24) (d_f d24) (shC E (d_a d24) (d_r d24) (s_sh S24) ++ (((q_r, .inl (eI E, 4, .inl (upd (upd (upd (upd (fun _ => 0) 0 (s_nx S24)) 1 k) 2 v) 3 (nI ((s_sc S24) - 1))))) :: ((d_1 d24), .inl (eL E, (s_n S24), .inr (.inr (.inr (.inr (d_l d24)))))) :: (d_p d24)) ++ F)))) C hO 2 rfl (by first | decide | omega) (by first | decide | omega) rfl dX3_say_87 (fun H locs hO => ?_)
        refine lv_aload_n C.1 C.2.1 dX3_say_88 rfl (lv_at hl 0 rfl) ?_
        refine lv_dup C.1 C.2.1 dX3_say_89 rfl ?_
        refine gGet (v := .int (s_nx S24)) (ref := RX3) (Cn := RX3) (T := TX3) (N := 7) C iX3 hO 0 rfl rfl 1 (by decide) w29 (fun _ h9 => h9) rfl dX3_say_90 ?_
        refine lv_iconst (v := 1) C.1 C.2.1 dX3_say_93 (by decide) ?_
        refine lv_iadd C.1 C.2.1 dX3_say_94 ?_
        refine gPut (ws' := (sR E o q_w (d_2 d24) (d_3 d24) (s_hr S24) ((s_nx S24) + 1) (s_dr S24) (s_on S24) (s_n S24 + 1) g26 (s_sc S24) (upd (d_s d24) ((s_sc S24) - 1) ((s_said S24 ((s_sc S24) - 1)) + 1)) (s_sh S24) (d_f d24) (shC E (d_a d24) (d_r d24) (s_sh S24) ++ (((q_r, .inl (eI E, 4, .inl (upd (upd (upd (upd (fun _ => 0) 0 (s_nx S24)) 1 k) 2 v) 3 (nI ((s_sc S24) - 1))))) :: ((d_1 d24), .inl (eL E, (s_n S24), .inr (.inr (.inr (.inr (d_l d24)))))) :: (d_p d24)) ++ F)))) (ref := RX3) (Cn := RX3) (T := TX3) (N := 7) C iX3 tyX3 tyX3_ok nmX3 hO 0 rfl rfl 1 (by decide) w29 (fun _ h9 => h9) rfl (by decide +kernel) rfl rfl (Nat.le_of_ble_eq_true rfl) rfl dX3_say_95 (fun H locs hO => ?_)
        refine lv_aload_n C.1 C.2.1 dX3_say_98 rfl (lv_at hl 0 rfl) ?_
        refine gGet (v := .int ((s_nx S24) + 1)) (ref := RX3) (Cn := RX3) (T := TX3) (N := 7) C iX3 hO 0 rfl rfl 1 (by decide) w29 (fun _ h9 => h9) rfl dX3_say_99 ?_
        refine lv_iconst (v := 1) C.1 C.2.1 dX3_say_102 (by decide) ?_
        refine lv_isub C.1 C.2.1 dX3_say_103 ?_
        have eS9 : S_spk S k v = S_app (S_said S24 (upd (s_said S24) (s_sc S24 - 1) (s_said S24 (s_sc S24 - 1) + 1))) k v (nI (s_sc S24 - 1)) := spk_on hS24 hon9 k v
        have hO : gO E A s (sW E o (mkD9 q_w (d_2 d24) (d_3 d24) g26 (upd (d_s d24) ((s_sc S24) - 1) ((s_said S24 ((s_sc S24) - 1)) + 1)) (d_f d24) (d_a d24) (d_r d24) ((q_r, (.inl (eI E, 4, .inl (upd (upd (upd (upd (fun _ => 0) 0 (s_nx S24)) 1 k) 2 v) 3 (nI ((s_sc S24) - 1)))) : va_E)) :: (d_1 d24, (.inl (eL E, s_n S24, .inr (.inr (.inr (.inr (d_l d24))))) : va_E)) :: d_p d24)) (S_spk S k v) F) H locs := by rw [eS9]; exact hO
        exact gRe (mkD9 q_w (d_2 d24) (d_3 d24) g26 (upd (d_s d24) ((s_sc S24) - 1) ((s_said S24 ((s_sc S24) - 1)) + 1)) (d_f d24) (d_a d24) (d_r d24) ((q_r, (.inl (eI E, 4, .inl (upd (upd (upd (upd (fun _ => 0) 0 (s_nx S24)) 1 k) 2 v) 3 (nI ((s_sc S24) - 1)))) : va_E)) :: (d_1 d24, (.inl (eL E, s_n S24, .inr (.inr (.inr (.inr (d_l d24))))) : va_E)) :: d_p d24)) C hO rfl (⟨by rw [Int32.add_sub_cancel, hS24, (s_tag_room S).2.2.2], by rw [eS9]; exact rep_app hR24 hg26 hg27 (fun i hi => by unfold upd; split; rfl; exact hR24.2.1 i hi) rfl rfl rfl rfl, fun x hx => .tail _ (.tail _ (hp24 x hx)), ho24.elim (fun h => .tail _ (h ▸ .head _)) (fun h => .tail _ (.tail _ h))⟩) dX3_say_104 (Nat.le_of_ble_eq_true rfl) (Nat.le_of_ble_eq_true rfl)
  refine gNeN (x := (s_n S)) (y := 48) (tgt := 15) C.1 C.2.1 (by omega) (by omega) dX3_say_7 (by decide) (fun c_4 => ?_) (fun c_4 => ?_)
  · have hz9 : s_n S < 48 := by omega
    refine W.widen (k := 1) (n := 47) (by omega) (by omega) ?_
    exact lb24 d S hR (by unfold S_room; rw [if_pos hz9]) hz9 (fun x hx => hx) (Or.inl rfl) _ _ hO _ (lv_sub hl [0, 1, 2] rfl)
  · have hz9 : s_n S = 48 := by omega
    refine lv_aload_n C.1 C.2.1 dX3_say_10 rfl (lv_at hl 0 rfl) ?_
    refine lv_iconst (v := 0) C.1 C.2.1 dX3_say_11 (by decide) ?_
    refine gCall_f (As := [.int 0]) (rest := []) C hO (c_X3_dropAt l E o d S F 0 (by omega) hn hsh hsr hR) (cwV 1 C.2.2.2.2.1 gX3_say_X3_dropAt rfl rfl rfl (by decide +kernel) ⟨(Nat.le_of_ble_eq_true rfl), (Nat.le_of_ble_eq_true rfl)⟩) (va_recv C.2.2.2.2.2.2.2.1.1 hO.1 (ci := 3) (q0 := 0) rfl rfl) rfl hl.1 rfl (Nat.le_of_ble_eq_true rfl) dX3_say_12 ⟨(Nat.le_of_ble_eq_true rfl), (Nat.le_of_ble_eq_true rfl)⟩ (fun d25 H locs ⟨hR25, hp25, ho25⟩ hO => ?_)
    refine W.widen (k := 1) (n := 47) (by omega) (by omega) ?_
    exact lb24 d25 (S_drop S (g1 0)) hR25 (by rw [S_room_g1 (by omega)]) (by show cpN (g1 0) (s_n S) < 48; rw [cpN_g1z (by omega)]; omega) hp25 (Or.inr ho25) _ _ hO _ (lv_sub hl [0, 1, 2] rfl)
