set_option maxHeartbeats 4000000 in
set_option maxRecDepth 100000 in
theorem c_X3_compact (l : Launch) (E : gE) (o : Nat) (d : Dt) (S : St) (F : va_W) (hR : Rep E d S) (hI : s_inv S) (hsr : s_srt S) (hnx : ∀ i, i < s_n S → s_off S i < s_nx S) : gMe l E yX3_compact wsX3_compact ({ frames := 1, cells := 96, slots := 4512, locals := 26 }) (sW E o d S F) [.ref o] (fun (r : Int32) (d9 : Dt) => r = nI (s_n S - cpN (s_cm S) (s_n S)) ∧ Rep E d9 (S_drop S (s_cm S))) (fun (d9 : Dt) => sW E o d9 (S_drop S (s_cm S)) F) 96 4512 := by
  refine gMe.of (cc := cX3_compact) (maxL := 8) (ty := .int) (by decide) rfl (Nat.le_of_ble_eq_true rfl) ?_
  intro p e s m args below meth c A C ls hl hO
  have hl : lv_has ls 8 [(0, .ref o)] := hl
  have iX3 : ∀ w ∈ u_ws RX3 TX3 7, w ∈ wsX3_compact := by decide +kernel
  have w9 : Cond.fieldLink RX3 9 "ParrotLogLaw$Sim" "log" "[[I" ∈ wsX3_compact := by decide +kernel
  have w18 : Cond.fieldLink RX3 18 "ParrotLogLaw$Sim" "ships" "[[I" ∈ wsX3_compact := by decide +kernel
  obtain ⟨hn, hsh, hsc, hOn, hOb, hok9, hpc9, hp0⟩ := hI
  refine lv_aload_n C.1 C.2.1 dX3_compact_0 rfl (lv_at hl 0 rfl) ?_
  refine gGet (v := .ref (d_1 d)) (ref := RX3) (Cn := RX3) (T := TX3) (N := 7) C iX3 hO 0 rfl rfl 4 (by decide) w9 (fun _ h9 => h9) rfl dX3_compact_1 ?_
  refine va_alen (v := nI (s_n S)) C.1 C.2.1 C.2.2.2.2.2.2.2.1.1 hO.1 1 3 rfl rfl rfl dX3_compact_4 ?_
  refine lv_istore_n (lv' := [(1, .int (nI (s_n S))), (0, .ref o)]) C.1 C.2.1 dX3_compact_5 rfl hl (by decide) rfl (fun ls hl => ?_)
  refine lv_aload_n C.1 C.2.1 dX3_compact_6 rfl (lv_at hl 1 rfl) ?_
  refine gGet (v := .ref (d_1 d)) (ref := RX3) (Cn := RX3) (T := TX3) (N := 7) C iX3 hO 0 rfl rfl 4 (by decide) w9 (fun _ h9 => h9) rfl dX3_compact_7 ?_
  refine va_alen (v := nI (s_n S)) C.1 C.2.1 C.2.2.2.2.2.2.2.1.1 hO.1 1 3 rfl rfl rfl dX3_compact_10 ?_
  refine lv_iconst (v := 1) C.1 C.2.1 dX3_compact_11 (by decide) ?_
  refine lv_isub C.1 C.2.1 dX3_compact_12 ?_
  refine lv_istore_n (lv' := [(2, .int ((nI (s_n S)) - (nI 1))), (1, .int (nI (s_n S))), (0, .ref o)]) C.1 C.2.1 dX3_compact_13 rfl hl (by decide) rfl (fun ls hl => ?_)
  have lp14 : ∀ (f : Nat) (t24 : Nat) (d24 : Dt) (T24 : St) (g24 : Nat → Int32) (s24 : Nat → Nat), (t24 + 1 ≤ f) → (t24 ≤ s_n S) → (Rep E d24 T24) → (dR S g24 T24 s24) → (cI1 S g24 t24) → ∀ (H : Heap) (locs : List Loc), gO E A s (sW E o d24 T24 F) H locs → ∀ ls : Array Slot, lv_has ls 8 [(0, .ref o), (1, .int (nI (s_n S))), (2, .int (nI t24 - 1))] → W p l e ({ frames := 1, cells := 96, slots := 4512, locals := 26 } : Room) s m args below meth c H locs (s_n S - t24) (47 * (s_n S - t24)) (MQ below (gQe E A (fun (r : Int32) (d9 : Dt) => r = nI (s_n S - cpN (s_cm S) (s_n S)) ∧ Rep E d9 (S_drop S (s_cm S))) (fun (d9 : Dt) => sW E o d9 (S_drop S (s_cm S)) F)) args s 96 4512 A) (F0 m 14 ls []) := by
    intro f
    induction f with
    | zero =>
      intro t24 d24 T24 g24 s24 hf ht24 hR24 hD24 hI24
      exact absurd hf (by omega)
    | succ f ih_lp14 =>
      intro t24 d24 T24 g24 s24 hf ht24 hR24 hD24 hI24 H locs hO ls hl
      refine lv_iload_n C.1 C.2.1 dX3_compact_14 rfl (lv_at hl 2 rfl) ?_
      refine lv_if_lt (tgt := 86) C.1 C.2.1 dX3_compact_15 (by decide) (fun c_1 => ?_) (fun c_1 => ?_)
      · have hge : t24 = 0 := (nI_m1neg (by omega)).mp c_1
        have hn9 : s_n T24 ≤ s_n S := hD24.1
        refine lv_aload_n C.1 C.2.1 dX3_compact_86 rfl (lv_at hl 0 rfl) ?_
        refine gGet (v := .ref (d_1 d24)) (ref := RX3) (Cn := RX3) (T := TX3) (N := 7) C iX3 hO 0 rfl rfl 4 (by decide) w9 (fun _ h9 => h9) rfl dX3_compact_87 ?_
        refine va_alen (v := nI (s_n T24)) C.1 C.2.1 C.2.2.2.2.2.2.2.1.1 hO.1 1 3 rfl rfl rfl dX3_compact_90 ?_
        refine lv_iconst (v := 1) C.1 C.2.1 dX3_compact_91 (by decide) ?_
        refine lv_isub C.1 C.2.1 dX3_compact_92 ?_
        refine lv_istore_n (lv' := [(2, .int ((nI (s_n T24)) - (nI 1))), (0, .ref o), (1, .int (nI (s_n S)))]) C.1 C.2.1 dX3_compact_93 rfl hl (by decide) rfl (fun ls hl => ?_)
        have lp94 : ∀ (f : Nat) (u24 : Nat) (d26 : Dt) (T26 : St) (g26 : Nat → Int32) (s26 : Nat → Nat) (b26 : Nat), (u24 + 1 ≤ f) → (u24 ≤ s_n T26) → (Rep E d26 T26) → (dR S g26 T26 s26) → (cI2 S g26 T26 s26 u24 b26) → ∀ (H : Heap) (locs : List Loc), gO E A s (sW E o d26 T26 F) H locs → ∀ ls : Array Slot, lv_has ls 8 [(0, .ref o), (1, .int (nI (s_n S))), (2, .int (nI u24 - 1))] → W p l e ({ frames := 1, cells := 96, slots := 4512, locals := 26 } : Room) s m args below meth c H locs (2 * s_n S - u24) (47 * (2 * s_n S - u24)) (MQ below (gQe E A (fun (r : Int32) (d9 : Dt) => r = nI (s_n S - cpN (s_cm S) (s_n S)) ∧ Rep E d9 (S_drop S (s_cm S))) (fun (d9 : Dt) => sW E o d9 (S_drop S (s_cm S)) F)) args s 96 4512 A) (F0 m 94 ls []) := by
          intro f
          induction f with
          | zero =>
            intro u24 d26 T26 g26 s26 b26 hf hu24 hR26 hD26 hI26
            exact absurd hf (by omega)
          | succ f ih_lp94 =>
            intro u24 d26 T26 g26 s26 b26 hf hu24 hR26 hD26 hI26 H locs hO ls hl
            have hn9 : s_n T26 ≤ s_n S := hD26.1
            refine lv_iload_n C.1 C.2.1 dX3_compact_94 rfl (lv_at hl 2 rfl) ?_
            refine lv_if_lt (tgt := 189) C.1 C.2.1 dX3_compact_95 (by decide) (fun c_2 => ?_) (fun c_2 => ?_)
            · have hge9 : u24 = 0 := (nI_m1neg (by omega)).mp c_2
              refine lv_iload_n C.1 C.2.1 dX3_compact_189 rfl (lv_at hl 1 rfl) ?_
              refine lv_aload_n C.1 C.2.1 dX3_compact_190 rfl (lv_at hl 0 rfl) ?_
              refine gGet (v := .ref (d_1 d26)) (ref := RX3) (Cn := RX3) (T := TX3) (N := 7) C iX3 hO 0 rfl rfl 4 (by decide) w9 (fun _ h9 => h9) rfl dX3_compact_191 ?_
              refine va_alen (v := nI (s_n T26)) C.1 C.2.1 C.2.2.2.2.2.2.2.1.1 hO.1 1 3 rfl rfl rfl dX3_compact_194 ?_
              refine gSubN (x := (s_n S)) (y := (s_n T26)) C.1 C.2.1 hD26.1 dX3_compact_195 ?_
              obtain ⟨sgC, hC9⟩ := dR_drop hsr (s_cm S)
              have hg9 : ∀ i, i < s_n S → (g26 i = 0 ↔ s_cm S i = 0) := cI2_e hD26 (by rw [hge9] at hI26; exact hI26)
              obtain ⟨hRC, hWC⟩ := hD26.same hC9 hg9 hR26
              have hnC : s_n T26 = cpN (s_cm S) (s_n S) := (hD26.uniq hC9 hg9).1
              have hO : gO E A s (sW E o d26 (S_drop S (s_cm S)) F) H locs := by rw [← hWC]; exact hO
              exact gRe d26 C hO rfl (⟨by rw [hnC], hRC⟩) dX3_compact_196 (by omega) (by omega)
            · have hlt : 0 < u24 := by rw [nI_m1neg (by omega)] at c_2; omega
              have hu1 : u24 - 1 < s_n T26 := by omega
              have hsh9 : s_sh T26 ≤ 6 := by rw [hD26.sh]; exact hsh
              have hl : lv_has ls 8 [(0, .ref o), (1, .int (nI (s_n S))), (2, .int (nI (u24 - 1)))] := by rw [nI_p hlt] at hl; exact hl
              refine lv_aload_n C.1 C.2.1 dX3_compact_98 rfl (lv_at hl 0 rfl) ?_
              refine gGet (v := .ref (d_1 d26)) (ref := RX3) (Cn := RX3) (T := TX3) (N := 7) C iX3 hO 0 rfl rfl 4 (by decide) w9 (fun _ h9 => h9) rfl dX3_compact_99 ?_
              refine lv_iload_n C.1 C.2.1 dX3_compact_102 rfl (lv_at hl 2 rfl) ?_
              obtain ⟨q_3, f_3, hq_3, hm_3, e0_3, e1_3, e2_3, e3_3⟩ := (hR26).1 (u24 - 1) (by omega)
              refine gAaldA (v := q_3) (j := (u24 - 1)) C hO 1 rfl (by omega) (by omega) hq_3 dX3_compact_103 ?_
              refine lv_iconst (v := nI 2) C.1 C.2.1 dX3_compact_104 (by decide) ?_
              have ha_5m : (q_3, (.inl (eI E, 4, .inl f_3) : va_E)) ∈ (sW E o d26 T26 F) := sR_mem (pl_mem hm_3)
              obtain ⟨p_4, ha_5⟩ := List.getElem?_of_mem ha_5m
              refine gIald (v := s_val T26 (u24 - 1)) (j := 2) C hO p_4 ha_5 (by decide) (by first | decide | omega) e2_3 dX3_compact_105 ?_
              refine lv_if_ne (tgt := 113) C.1 C.2.1 dX3_compact_106 (by decide) (fun c_6 => ?_) (fun c_6 => ?_)
              · have hz9 : fl2 T26 (u24 - 1) 0 = 0 := fl2_i0 c_6
                refine lv_iconst (v := 0) C.1 C.2.1 dX3_compact_113 (by decide) ?_
                refine lv_istore_n (lv' := [(3, .int 0), (0, .ref o), (1, .int (nI (s_n S))), (2, .int (nI (u24 - 1)))]) C.1 C.2.1 dX3_compact_114 rfl hl (by decide) rfl (fun ls hl => ?_)
                refine lv_aload_n C.1 C.2.1 dX3_compact_115 rfl (lv_at hl 1 rfl) ?_
                refine gGet (v := .ref (d_3 d26)) (ref := RX3) (Cn := RX3) (T := TX3) (N := 7) C iX3 hO 0 rfl rfl 6 (by decide) w18 (fun _ h9 => h9) rfl dX3_compact_116 ?_
                refine lv_astore (lv' := [(4, .ref (d_3 d26)), (3, .int 0), (0, .ref o), (1, .int (nI (s_n S))), (2, .int (nI (u24 - 1)))]) C.1 C.2.1 dX3_compact_119 hl (by decide) rfl (fun ls hl => ?_)
                refine lv_aload C.1 C.2.1 dX3_compact_121 (lv_at hl 0 rfl) ?_
                refine va_alen (v := nI (s_sh T26)) C.1 C.2.1 C.2.2.2.2.2.2.2.1.1 hO.1 3 3 rfl rfl rfl dX3_compact_123 ?_
                refine lv_istore (lv' := [(5, .int (nI (s_sh T26))), (4, .ref (d_3 d26)), (3, .int 0), (0, .ref o), (1, .int (nI (s_n S))), (2, .int (nI (u24 - 1)))]) C.1 C.2.1 dX3_compact_124 hl (by decide) rfl (fun ls hl => ?_)
                have hl : lv_has ls 8 [(5, .int (nI (s_sh T26))), (4, .ref (d_3 d26)), (3, .int (fl2 T26 (u24 - 1) 0)), (0, .ref o), (1, .int (nI (s_n S))), (2, .int (nI (u24 - 1)))] := by rw [hz9]; exact hl
                refine lv_iconst (v := 0) C.1 C.2.1 dX3_compact_126 (by decide) ?_
                refine lv_istore (lv' := [(6, .int 0), (5, .int (nI (s_sh T26))), (4, .ref (d_3 d26)), (3, .int (fl2 T26 (u24 - 1) 0)), (0, .ref o), (1, .int (nI (s_n S))), (2, .int (nI (u24 - 1)))]) C.1 C.2.1 dX3_compact_127 hl (by decide) rfl (fun ls hl => ?_)
                have lp29 : ∀ (f : Nat) (j24 : Nat), (s_sh T26 + 1 ≤ j24 + f) → (j24 ≤ s_sh T26) → ∀ (H : Heap) (locs : List Loc), gO E A s (sW E o d26 T26 F) H locs → ∀ ls : Array Slot, lv_has ls 8 [(0, .ref o), (1, .int (nI (s_n S))), (2, .int (nI (u24 - 1))), (3, .int (fl2 T26 (u24 - 1) j24)), (4, .ref (d_3 d26)), (5, .int (nI (s_sh T26))), (6, .int (nI j24))] → W p l e ({ frames := 1, cells := 96, slots := 4512, locals := 26 } : Room) s m args below meth c H locs (2 * s_n S - u24) (47 * (2 * s_n S - u24)) (MQ below (gQe E A (fun (r : Int32) (d9 : Dt) => r = nI (s_n S - cpN (s_cm S) (s_n S)) ∧ Rep E d9 (S_drop S (s_cm S))) (fun (d9 : Dt) => sW E o d9 (S_drop S (s_cm S)) F)) args s 96 4512 A) (F0 m 129 ls []) := by
                  intro f
                  induction f with
                  | zero =>
                    intro j24 hf hj24
                    exact absurd hf (by omega)
                  | succ f ih_lp29 =>
                    intro j24 hf hj24 H locs hO ls hl
                    refine lv_iload C.1 C.2.1 dX3_compact_129 (lv_at hl 6 rfl) ?_
                    refine lv_iload C.1 C.2.1 dX3_compact_131 (lv_at hl 5 rfl) ?_
                    refine gGeN (x := j24) (y := (s_sh T26)) (tgt := 174) C.1 C.2.1 (by omega) (by omega) dX3_compact_133 (by decide) (fun c_7 => ?_) (fun c_7 => ?_)
                    · refine lv_iload_n C.1 C.2.1 dX3_compact_174 rfl (lv_at hl 3 rfl) ?_
                      refine lv_if_eq (tgt := 183) C.1 C.2.1 dX3_compact_175 (by decide) (fun c_8 => ?_) (fun c_8 => ?_)
                      · have hz8 : ¬ pst9 S (s26 (u24 - 1)) := (fl2_iff hD26 hu1).mp (by rw [show s_sh T26 = j24 by omega]; exact c_8)
                        have hl : lv_has ls 8 [(0, .ref o), (1, .int (nI (s_n S))), (2, .int (nI (u24 - 1)))] := lv_sub hl [0, 1, 2] rfl
                        refine lv_iinc (v := nI (u24 - 1) - 1) (lv' := [(2, .int (nI (u24 - 1) - 1)), (0, .ref o), (1, .int (nI (s_n S)))]) C.1 C.2.1 dX3_compact_183 hl (k := 2) rfl (iDec _) (by decide) rfl (fun ls hl => ?_)
                        refine lv_goto (tgt := 94) C.1 C.2.1 dX3_compact_186 (by decide) ?_
                        refine W.widen (k := 2 * s_n S - (u24 - 1)) (n := 47 * (2 * s_n S - (u24 - 1))) (by omega) (by omega) ?_
                        exact ih_lp94 (u24 - 1) d26 T26 g26 s26 (s26 (u24 - 1)) (by omega) (by omega) hR26 hD26 (cI2_0 hD26 hu24 hlt hI26 hz8) _ _ hO _ (lv_sub hl [1, 2, 0] rfl)
                      · have hz8 : pst9 S (s26 (u24 - 1)) := Classical.byContradiction (fun q => c_8 (by rw [show j24 = s_sh T26 by omega]; exact (fl2_iff hD26 hu1).mpr q))
                        refine lv_aload_n C.1 C.2.1 dX3_compact_178 rfl (lv_at hl 0 rfl) ?_
                        refine lv_iload_n C.1 C.2.1 dX3_compact_179 rfl (lv_at hl 2 rfl) ?_
                        refine gCall_f (As := [.int (nI (u24 - 1))]) (rest := []) C hO (c_X3_dropAt l E o d26 T26 F (u24 - 1) hu1 (by omega) hsh9 (hD26.srt hsr) hR26) (cwV 1 C.2.2.2.2.1 gX3_compact_X3_dropAt rfl rfl rfl (by decide +kernel) ⟨(Nat.le_of_ble_eq_true rfl), (Nat.le_of_ble_eq_true rfl)⟩) (va_recv C.2.2.2.2.2.2.2.1.1 hO.1 (ci := 3) (q0 := 0) rfl rfl) rfl hl.1 rfl (Nat.le_of_ble_eq_true rfl) dX3_compact_180 ⟨(by show _ ≤ 96; omega), (by show _ ≤ 4512; omega)⟩ (fun d27 H locs ⟨hR27, _, _⟩ hO => ?_)
                        have hl : lv_has ls 8 [(0, .ref o), (1, .int (nI (s_n S))), (2, .int (nI (u24 - 1)))] := lv_sub hl [0, 1, 2] rfl
                        refine lv_iinc (v := nI (u24 - 1) - 1) (lv' := [(2, .int (nI (u24 - 1) - 1)), (0, .ref o), (1, .int (nI (s_n S)))]) C.1 C.2.1 dX3_compact_183 hl (k := 2) rfl (iDec _) (by decide) rfl (fun ls hl => ?_)
                        refine lv_goto (tgt := 94) C.1 C.2.1 dX3_compact_186 (by decide) ?_
                        refine W.widen (k := 2 * s_n S - (u24 - 1)) (n := 47 * (2 * s_n S - (u24 - 1))) (by omega) (by omega) ?_
                        exact ih_lp94 (u24 - 1) d27 (S_drop T26 (g1 (u24 - 1))) (upd g26 (s26 (u24 - 1)) 1) (fun j => s26 (if j < u24 - 1 then j else j + 1)) (s26 (u24 - 1)) (by omega) (by show u24 - 1 ≤ cpN (g1 (u24 - 1)) (s_n T26); rw [cpN_g1z hu1]; omega) hR27 (hD26.step hsr hu1) (cI2_1 hD26 hu24 hlt hI26 hz8) _ _ hO _ (lv_sub hl [1, 2, 0] rfl)
                    · refine lv_aload C.1 C.2.1 dX3_compact_136 (lv_at hl 4 rfl) ?_
                      refine lv_iload C.1 C.2.1 dX3_compact_138 (lv_at hl 6 rfl) ?_
                      refine gAaldA (v := (d_a d26) j24) (j := j24) C hO 3 rfl (by omega) (by omega) (((hR26).2.2 j24 (by omega)).1) dX3_compact_140 ?_
                      refine lv_astore (lv' := [(7, .ref ((d_a d26) j24)), (0, .ref o), (1, .int (nI (s_n S))), (2, .int (nI (u24 - 1))), (3, .int (fl2 T26 (u24 - 1) j24)), (4, .ref (d_3 d26)), (5, .int (nI (s_sh T26))), (6, .int (nI j24))]) C.1 C.2.1 dX3_compact_141 hl (by decide) rfl (fun ls hl => ?_)
                      refine lv_iload_n C.1 C.2.1 dX3_compact_143 rfl (lv_at hl 4 rfl) ?_
                      refine lv_if_eq (tgt := 166) C.1 C.2.1 dX3_compact_144 (by decide) (fun c_9 => ?_) (fun c_9 => ?_)
                      · have hz9 : fl2 T26 (u24 - 1) (j24 + 1) = 0 := fl2_z c_9
                        refine lv_iconst (v := 0) C.1 C.2.1 dX3_compact_166 (by decide) ?_
                        refine lv_istore_n (lv' := [(3, .int 0), (7, .ref ((d_a d26) j24)), (0, .ref o), (1, .int (nI (s_n S))), (2, .int (nI (u24 - 1))), (4, .ref (d_3 d26)), (5, .int (nI (s_sh T26))), (6, .int (nI j24))]) C.1 C.2.1 dX3_compact_167 rfl hl (by decide) rfl (fun ls hl => ?_)
                        have hl : lv_has ls 8 [(3, .int 0), (0, .ref o), (1, .int (nI (s_n S))), (2, .int (nI (u24 - 1))), (4, .ref (d_3 d26)), (5, .int (nI (s_sh T26))), (6, .int (nI j24))] := lv_sub hl [0, 2, 3, 4, 5, 6, 7] rfl
                        have hl : lv_has ls 8 [(3, .int (fl2 T26 (u24 - 1) (j24 + 1))), (0, .ref o), (1, .int (nI (s_n S))), (2, .int (nI (u24 - 1))), (4, .ref (d_3 d26)), (5, .int (nI (s_sh T26))), (6, .int (nI j24))] := by rw [hz9]; exact hl
                        refine gInc (j := j24) (k := 6) (lv' := [(6, .int (nI (j24 + 1))), (3, .int (fl2 T26 (u24 - 1) (j24 + 1))), (0, .ref o), (1, .int (nI (s_n S))), (2, .int (nI (u24 - 1))), (4, .ref (d_3 d26)), (5, .int (nI (s_sh T26)))]) C.1 C.2.1 dX3_compact_168 hl rfl (by decide) rfl (fun ls hl => ?_)
                        refine lv_goto (tgt := 129) C.1 C.2.1 dX3_compact_171 (by decide) ?_
                        exact ih_lp29 (j24 + 1) (by omega) (by omega) _ _ hO _ (lv_sub hl [2, 3, 4, 1, 5, 6, 0] rfl)
                      · have hf9 : ¬ fl2 T26 (u24 - 1) j24 = 0 := c_9
                        refine lv_aload_n C.1 C.2.1 dX3_compact_147 rfl (lv_at hl 1 rfl) ?_
                        refine gGet (v := .ref (d_1 d26)) (ref := RX3) (Cn := RX3) (T := TX3) (N := 7) C iX3 hO 0 rfl rfl 4 (by decide) w9 (fun _ h9 => h9) rfl dX3_compact_148 ?_
                        refine lv_iload_n C.1 C.2.1 dX3_compact_151 rfl (lv_at hl 3 rfl) ?_
                        obtain ⟨q_10, f_10, hq_10, hm_10, e0_10, e1_10, e2_10, e3_10⟩ := (hR26).1 (u24 - 1) (by omega)
                        refine gAaldA (v := q_10) (j := (u24 - 1)) C hO 1 rfl (by omega) (by omega) hq_10 dX3_compact_152 ?_
                        refine lv_iconst (v := 0) C.1 C.2.1 dX3_compact_153 (by decide) ?_
                        have ha_12m : (q_10, (.inl (eI E, 4, .inl f_10) : va_E)) ∈ (sW E o d26 T26 F) := sR_mem (pl_mem hm_10)
                        obtain ⟨p_11, ha_12⟩ := List.getElem?_of_mem ha_12m
                        refine gIald (v := s_off T26 (u24 - 1)) (j := 0) C hO p_11 ha_12 (by decide) (by first | decide | omega) e0_10 dX3_compact_154 ?_
                        refine lv_aload C.1 C.2.1 dX3_compact_155 (lv_at hl 0 rfl) ?_
                        refine lv_iconst (v := 1) C.1 C.2.1 dX3_compact_157 (by decide) ?_
                        refine gIald (v := s_at T26 j24) (j := 1) C hO (j24 + 4) (shC_at (by omega)) (by decide) (by first | decide | omega) (((hR26).2.2 j24 (by omega)).2.2.1) dX3_compact_158 ?_
                        refine gGeI (tgt := 166) C.1 C.2.1 dX3_compact_159 (by decide) (fun c_13 => ?_) (fun c_13 => ?_)
                        · have hz9 : fl2 T26 (u24 - 1) (j24 + 1) = 0 := fl2_n c_13
                          refine lv_iconst (v := 0) C.1 C.2.1 dX3_compact_166 (by decide) ?_
                          refine lv_istore_n (lv' := [(3, .int 0), (7, .ref ((d_a d26) j24)), (0, .ref o), (1, .int (nI (s_n S))), (2, .int (nI (u24 - 1))), (4, .ref (d_3 d26)), (5, .int (nI (s_sh T26))), (6, .int (nI j24))]) C.1 C.2.1 dX3_compact_167 rfl hl (by decide) rfl (fun ls hl => ?_)
                          have hl : lv_has ls 8 [(3, .int 0), (0, .ref o), (1, .int (nI (s_n S))), (2, .int (nI (u24 - 1))), (4, .ref (d_3 d26)), (5, .int (nI (s_sh T26))), (6, .int (nI j24))] := lv_sub hl [0, 2, 3, 4, 5, 6, 7] rfl
                          have hl : lv_has ls 8 [(3, .int (fl2 T26 (u24 - 1) (j24 + 1))), (0, .ref o), (1, .int (nI (s_n S))), (2, .int (nI (u24 - 1))), (4, .ref (d_3 d26)), (5, .int (nI (s_sh T26))), (6, .int (nI j24))] := by rw [hz9]; exact hl
                          refine gInc (j := j24) (k := 6) (lv' := [(6, .int (nI (j24 + 1))), (3, .int (fl2 T26 (u24 - 1) (j24 + 1))), (0, .ref o), (1, .int (nI (s_n S))), (2, .int (nI (u24 - 1))), (4, .ref (d_3 d26)), (5, .int (nI (s_sh T26)))]) C.1 C.2.1 dX3_compact_168 hl rfl (by decide) rfl (fun ls hl => ?_)
                          refine lv_goto (tgt := 129) C.1 C.2.1 dX3_compact_171 (by decide) ?_
                          exact ih_lp29 (j24 + 1) (by omega) (by omega) _ _ hO _ (lv_sub hl [2, 3, 4, 1, 5, 6, 0] rfl)
                        · have hz9 : fl2 T26 (u24 - 1) (j24 + 1) = 1 := fl2_y hf9 c_13
                          refine lv_iconst (v := 1) C.1 C.2.1 dX3_compact_162 (by decide) ?_
                          refine lv_goto (tgt := 167) C.1 C.2.1 dX3_compact_163 (by decide) ?_
                          refine lv_istore_n (lv' := [(3, .int 1), (7, .ref ((d_a d26) j24)), (0, .ref o), (1, .int (nI (s_n S))), (2, .int (nI (u24 - 1))), (4, .ref (d_3 d26)), (5, .int (nI (s_sh T26))), (6, .int (nI j24))]) C.1 C.2.1 dX3_compact_167 rfl hl (by decide) rfl (fun ls hl => ?_)
                          have hl : lv_has ls 8 [(3, .int 1), (0, .ref o), (1, .int (nI (s_n S))), (2, .int (nI (u24 - 1))), (4, .ref (d_3 d26)), (5, .int (nI (s_sh T26))), (6, .int (nI j24))] := lv_sub hl [0, 2, 3, 4, 5, 6, 7] rfl
                          have hl : lv_has ls 8 [(3, .int (fl2 T26 (u24 - 1) (j24 + 1))), (0, .ref o), (1, .int (nI (s_n S))), (2, .int (nI (u24 - 1))), (4, .ref (d_3 d26)), (5, .int (nI (s_sh T26))), (6, .int (nI j24))] := by rw [hz9]; exact hl
                          refine gInc (j := j24) (k := 6) (lv' := [(6, .int (nI (j24 + 1))), (3, .int (fl2 T26 (u24 - 1) (j24 + 1))), (0, .ref o), (1, .int (nI (s_n S))), (2, .int (nI (u24 - 1))), (4, .ref (d_3 d26)), (5, .int (nI (s_sh T26)))]) C.1 C.2.1 dX3_compact_168 hl rfl (by decide) rfl (fun ls hl => ?_)
                          refine lv_goto (tgt := 129) C.1 C.2.1 dX3_compact_171 (by decide) ?_
                          exact ih_lp29 (j24 + 1) (by omega) (by omega) _ _ hO _ (lv_sub hl [2, 3, 4, 1, 5, 6, 0] rfl)
                exact lp29 (s_sh T26 + 1) 0 (by omega) (Nat.zero_le _) _ _ hO _ (lv_sub hl [4, 5, 6, 3, 2, 1, 0] rfl)
              · have hz9 : fl2 T26 (u24 - 1) 0 = 1 := fl2_i1 c_6 (by rw [(hD26.2.2.2.2.1 _ hu1).1, hD26.at_.2]; exact hnx _ (hD26.2.1 _ hu1).1)
                refine lv_iconst (v := 1) C.1 C.2.1 dX3_compact_109 (by decide) ?_
                refine lv_goto (tgt := 114) C.1 C.2.1 dX3_compact_110 (by decide) ?_
                refine lv_istore_n (lv' := [(3, .int 1), (0, .ref o), (1, .int (nI (s_n S))), (2, .int (nI (u24 - 1)))]) C.1 C.2.1 dX3_compact_114 rfl hl (by decide) rfl (fun ls hl => ?_)
                refine lv_aload_n C.1 C.2.1 dX3_compact_115 rfl (lv_at hl 1 rfl) ?_
                refine gGet (v := .ref (d_3 d26)) (ref := RX3) (Cn := RX3) (T := TX3) (N := 7) C iX3 hO 0 rfl rfl 6 (by decide) w18 (fun _ h9 => h9) rfl dX3_compact_116 ?_
                refine lv_astore (lv' := [(4, .ref (d_3 d26)), (3, .int 1), (0, .ref o), (1, .int (nI (s_n S))), (2, .int (nI (u24 - 1)))]) C.1 C.2.1 dX3_compact_119 hl (by decide) rfl (fun ls hl => ?_)
                refine lv_aload C.1 C.2.1 dX3_compact_121 (lv_at hl 0 rfl) ?_
                refine va_alen (v := nI (s_sh T26)) C.1 C.2.1 C.2.2.2.2.2.2.2.1.1 hO.1 3 3 rfl rfl rfl dX3_compact_123 ?_
                refine lv_istore (lv' := [(5, .int (nI (s_sh T26))), (4, .ref (d_3 d26)), (3, .int 1), (0, .ref o), (1, .int (nI (s_n S))), (2, .int (nI (u24 - 1)))]) C.1 C.2.1 dX3_compact_124 hl (by decide) rfl (fun ls hl => ?_)
                have hl : lv_has ls 8 [(5, .int (nI (s_sh T26))), (4, .ref (d_3 d26)), (3, .int (fl2 T26 (u24 - 1) 0)), (0, .ref o), (1, .int (nI (s_n S))), (2, .int (nI (u24 - 1)))] := by rw [hz9]; exact hl
                refine lv_iconst (v := 0) C.1 C.2.1 dX3_compact_126 (by decide) ?_
                refine lv_istore (lv' := [(6, .int 0), (5, .int (nI (s_sh T26))), (4, .ref (d_3 d26)), (3, .int (fl2 T26 (u24 - 1) 0)), (0, .ref o), (1, .int (nI (s_n S))), (2, .int (nI (u24 - 1)))]) C.1 C.2.1 dX3_compact_127 hl (by decide) rfl (fun ls hl => ?_)
                have lp29 : ∀ (f : Nat) (j24 : Nat), (s_sh T26 + 1 ≤ j24 + f) → (j24 ≤ s_sh T26) → ∀ (H : Heap) (locs : List Loc), gO E A s (sW E o d26 T26 F) H locs → ∀ ls : Array Slot, lv_has ls 8 [(0, .ref o), (1, .int (nI (s_n S))), (2, .int (nI (u24 - 1))), (3, .int (fl2 T26 (u24 - 1) j24)), (4, .ref (d_3 d26)), (5, .int (nI (s_sh T26))), (6, .int (nI j24))] → W p l e ({ frames := 1, cells := 96, slots := 4512, locals := 26 } : Room) s m args below meth c H locs (2 * s_n S - u24) (47 * (2 * s_n S - u24)) (MQ below (gQe E A (fun (r : Int32) (d9 : Dt) => r = nI (s_n S - cpN (s_cm S) (s_n S)) ∧ Rep E d9 (S_drop S (s_cm S))) (fun (d9 : Dt) => sW E o d9 (S_drop S (s_cm S)) F)) args s 96 4512 A) (F0 m 129 ls []) := by
                  intro f
                  induction f with
                  | zero =>
                    intro j24 hf hj24
                    exact absurd hf (by omega)
                  | succ f ih_lp29 =>
                    intro j24 hf hj24 H locs hO ls hl
                    refine lv_iload C.1 C.2.1 dX3_compact_129 (lv_at hl 6 rfl) ?_
                    refine lv_iload C.1 C.2.1 dX3_compact_131 (lv_at hl 5 rfl) ?_
                    refine gGeN (x := j24) (y := (s_sh T26)) (tgt := 174) C.1 C.2.1 (by omega) (by omega) dX3_compact_133 (by decide) (fun c_14 => ?_) (fun c_14 => ?_)
                    · refine lv_iload_n C.1 C.2.1 dX3_compact_174 rfl (lv_at hl 3 rfl) ?_
                      refine lv_if_eq (tgt := 183) C.1 C.2.1 dX3_compact_175 (by decide) (fun c_15 => ?_) (fun c_15 => ?_)
                      · have hz8 : ¬ pst9 S (s26 (u24 - 1)) := (fl2_iff hD26 hu1).mp (by rw [show s_sh T26 = j24 by omega]; exact c_15)
                        have hl : lv_has ls 8 [(0, .ref o), (1, .int (nI (s_n S))), (2, .int (nI (u24 - 1)))] := lv_sub hl [0, 1, 2] rfl
                        refine lv_iinc (v := nI (u24 - 1) - 1) (lv' := [(2, .int (nI (u24 - 1) - 1)), (0, .ref o), (1, .int (nI (s_n S)))]) C.1 C.2.1 dX3_compact_183 hl (k := 2) rfl (iDec _) (by decide) rfl (fun ls hl => ?_)
                        refine lv_goto (tgt := 94) C.1 C.2.1 dX3_compact_186 (by decide) ?_
                        refine W.widen (k := 2 * s_n S - (u24 - 1)) (n := 47 * (2 * s_n S - (u24 - 1))) (by omega) (by omega) ?_
                        exact ih_lp94 (u24 - 1) d26 T26 g26 s26 (s26 (u24 - 1)) (by omega) (by omega) hR26 hD26 (cI2_0 hD26 hu24 hlt hI26 hz8) _ _ hO _ (lv_sub hl [1, 2, 0] rfl)
                      · have hz8 : pst9 S (s26 (u24 - 1)) := Classical.byContradiction (fun q => c_15 (by rw [show j24 = s_sh T26 by omega]; exact (fl2_iff hD26 hu1).mpr q))
                        refine lv_aload_n C.1 C.2.1 dX3_compact_178 rfl (lv_at hl 0 rfl) ?_
                        refine lv_iload_n C.1 C.2.1 dX3_compact_179 rfl (lv_at hl 2 rfl) ?_
                        refine gCall_f (As := [.int (nI (u24 - 1))]) (rest := []) C hO (c_X3_dropAt l E o d26 T26 F (u24 - 1) hu1 (by omega) hsh9 (hD26.srt hsr) hR26) (cwV 1 C.2.2.2.2.1 gX3_compact_X3_dropAt rfl rfl rfl (by decide +kernel) ⟨(Nat.le_of_ble_eq_true rfl), (Nat.le_of_ble_eq_true rfl)⟩) (va_recv C.2.2.2.2.2.2.2.1.1 hO.1 (ci := 3) (q0 := 0) rfl rfl) rfl hl.1 rfl (Nat.le_of_ble_eq_true rfl) dX3_compact_180 ⟨(by show _ ≤ 96; omega), (by show _ ≤ 4512; omega)⟩ (fun d27 H locs ⟨hR27, _, _⟩ hO => ?_)
                        have hl : lv_has ls 8 [(0, .ref o), (1, .int (nI (s_n S))), (2, .int (nI (u24 - 1)))] := lv_sub hl [0, 1, 2] rfl
                        refine lv_iinc (v := nI (u24 - 1) - 1) (lv' := [(2, .int (nI (u24 - 1) - 1)), (0, .ref o), (1, .int (nI (s_n S)))]) C.1 C.2.1 dX3_compact_183 hl (k := 2) rfl (iDec _) (by decide) rfl (fun ls hl => ?_)
                        refine lv_goto (tgt := 94) C.1 C.2.1 dX3_compact_186 (by decide) ?_
                        refine W.widen (k := 2 * s_n S - (u24 - 1)) (n := 47 * (2 * s_n S - (u24 - 1))) (by omega) (by omega) ?_
                        exact ih_lp94 (u24 - 1) d27 (S_drop T26 (g1 (u24 - 1))) (upd g26 (s26 (u24 - 1)) 1) (fun j => s26 (if j < u24 - 1 then j else j + 1)) (s26 (u24 - 1)) (by omega) (by show u24 - 1 ≤ cpN (g1 (u24 - 1)) (s_n T26); rw [cpN_g1z hu1]; omega) hR27 (hD26.step hsr hu1) (cI2_1 hD26 hu24 hlt hI26 hz8) _ _ hO _ (lv_sub hl [1, 2, 0] rfl)
                    · refine lv_aload C.1 C.2.1 dX3_compact_136 (lv_at hl 4 rfl) ?_
                      refine lv_iload C.1 C.2.1 dX3_compact_138 (lv_at hl 6 rfl) ?_
                      refine gAaldA (v := (d_a d26) j24) (j := j24) C hO 3 rfl (by omega) (by omega) (((hR26).2.2 j24 (by omega)).1) dX3_compact_140 ?_
                      refine lv_astore (lv' := [(7, .ref ((d_a d26) j24)), (0, .ref o), (1, .int (nI (s_n S))), (2, .int (nI (u24 - 1))), (3, .int (fl2 T26 (u24 - 1) j24)), (4, .ref (d_3 d26)), (5, .int (nI (s_sh T26))), (6, .int (nI j24))]) C.1 C.2.1 dX3_compact_141 hl (by decide) rfl (fun ls hl => ?_)
                      refine lv_iload_n C.1 C.2.1 dX3_compact_143 rfl (lv_at hl 4 rfl) ?_
                      refine lv_if_eq (tgt := 166) C.1 C.2.1 dX3_compact_144 (by decide) (fun c_16 => ?_) (fun c_16 => ?_)
                      · have hz9 : fl2 T26 (u24 - 1) (j24 + 1) = 0 := fl2_z c_16
                        refine lv_iconst (v := 0) C.1 C.2.1 dX3_compact_166 (by decide) ?_
                        refine lv_istore_n (lv' := [(3, .int 0), (7, .ref ((d_a d26) j24)), (0, .ref o), (1, .int (nI (s_n S))), (2, .int (nI (u24 - 1))), (4, .ref (d_3 d26)), (5, .int (nI (s_sh T26))), (6, .int (nI j24))]) C.1 C.2.1 dX3_compact_167 rfl hl (by decide) rfl (fun ls hl => ?_)
                        have hl : lv_has ls 8 [(3, .int 0), (0, .ref o), (1, .int (nI (s_n S))), (2, .int (nI (u24 - 1))), (4, .ref (d_3 d26)), (5, .int (nI (s_sh T26))), (6, .int (nI j24))] := lv_sub hl [0, 2, 3, 4, 5, 6, 7] rfl
                        have hl : lv_has ls 8 [(3, .int (fl2 T26 (u24 - 1) (j24 + 1))), (0, .ref o), (1, .int (nI (s_n S))), (2, .int (nI (u24 - 1))), (4, .ref (d_3 d26)), (5, .int (nI (s_sh T26))), (6, .int (nI j24))] := by rw [hz9]; exact hl
                        refine gInc (j := j24) (k := 6) (lv' := [(6, .int (nI (j24 + 1))), (3, .int (fl2 T26 (u24 - 1) (j24 + 1))), (0, .ref o), (1, .int (nI (s_n S))), (2, .int (nI (u24 - 1))), (4, .ref (d_3 d26)), (5, .int (nI (s_sh T26)))]) C.1 C.2.1 dX3_compact_168 hl rfl (by decide) rfl (fun ls hl => ?_)
                        refine lv_goto (tgt := 129) C.1 C.2.1 dX3_compact_171 (by decide) ?_
                        exact ih_lp29 (j24 + 1) (by omega) (by omega) _ _ hO _ (lv_sub hl [2, 3, 4, 1, 5, 6, 0] rfl)
                      · have hf9 : ¬ fl2 T26 (u24 - 1) j24 = 0 := c_16
                        refine lv_aload_n C.1 C.2.1 dX3_compact_147 rfl (lv_at hl 1 rfl) ?_
                        refine gGet (v := .ref (d_1 d26)) (ref := RX3) (Cn := RX3) (T := TX3) (N := 7) C iX3 hO 0 rfl rfl 4 (by decide) w9 (fun _ h9 => h9) rfl dX3_compact_148 ?_
                        refine lv_iload_n C.1 C.2.1 dX3_compact_151 rfl (lv_at hl 3 rfl) ?_
                        obtain ⟨q_17, f_17, hq_17, hm_17, e0_17, e1_17, e2_17, e3_17⟩ := (hR26).1 (u24 - 1) (by omega)
                        refine gAaldA (v := q_17) (j := (u24 - 1)) C hO 1 rfl (by omega) (by omega) hq_17 dX3_compact_152 ?_
                        refine lv_iconst (v := 0) C.1 C.2.1 dX3_compact_153 (by decide) ?_
                        have ha_19m : (q_17, (.inl (eI E, 4, .inl f_17) : va_E)) ∈ (sW E o d26 T26 F) := sR_mem (pl_mem hm_17)
                        obtain ⟨p_18, ha_19⟩ := List.getElem?_of_mem ha_19m
                        refine gIald (v := s_off T26 (u24 - 1)) (j := 0) C hO p_18 ha_19 (by decide) (by first | decide | omega) e0_17 dX3_compact_154 ?_
                        refine lv_aload C.1 C.2.1 dX3_compact_155 (lv_at hl 0 rfl) ?_
                        refine lv_iconst (v := 1) C.1 C.2.1 dX3_compact_157 (by decide) ?_
                        refine gIald (v := s_at T26 j24) (j := 1) C hO (j24 + 4) (shC_at (by omega)) (by decide) (by first | decide | omega) (((hR26).2.2 j24 (by omega)).2.2.1) dX3_compact_158 ?_
                        refine gGeI (tgt := 166) C.1 C.2.1 dX3_compact_159 (by decide) (fun c_20 => ?_) (fun c_20 => ?_)
                        · have hz9 : fl2 T26 (u24 - 1) (j24 + 1) = 0 := fl2_n c_20
                          refine lv_iconst (v := 0) C.1 C.2.1 dX3_compact_166 (by decide) ?_
                          refine lv_istore_n (lv' := [(3, .int 0), (7, .ref ((d_a d26) j24)), (0, .ref o), (1, .int (nI (s_n S))), (2, .int (nI (u24 - 1))), (4, .ref (d_3 d26)), (5, .int (nI (s_sh T26))), (6, .int (nI j24))]) C.1 C.2.1 dX3_compact_167 rfl hl (by decide) rfl (fun ls hl => ?_)
                          have hl : lv_has ls 8 [(3, .int 0), (0, .ref o), (1, .int (nI (s_n S))), (2, .int (nI (u24 - 1))), (4, .ref (d_3 d26)), (5, .int (nI (s_sh T26))), (6, .int (nI j24))] := lv_sub hl [0, 2, 3, 4, 5, 6, 7] rfl
                          have hl : lv_has ls 8 [(3, .int (fl2 T26 (u24 - 1) (j24 + 1))), (0, .ref o), (1, .int (nI (s_n S))), (2, .int (nI (u24 - 1))), (4, .ref (d_3 d26)), (5, .int (nI (s_sh T26))), (6, .int (nI j24))] := by rw [hz9]; exact hl
                          refine gInc (j := j24) (k := 6) (lv' := [(6, .int (nI (j24 + 1))), (3, .int (fl2 T26 (u24 - 1) (j24 + 1))), (0, .ref o), (1, .int (nI (s_n S))), (2, .int (nI (u24 - 1))), (4, .ref (d_3 d26)), (5, .int (nI (s_sh T26)))]) C.1 C.2.1 dX3_compact_168 hl rfl (by decide) rfl (fun ls hl => ?_)
                          refine lv_goto (tgt := 129) C.1 C.2.1 dX3_compact_171 (by decide) ?_
                          exact ih_lp29 (j24 + 1) (by omega) (by omega) _ _ hO _ (lv_sub hl [2, 3, 4, 1, 5, 6, 0] rfl)
                        · have hz9 : fl2 T26 (u24 - 1) (j24 + 1) = 1 := fl2_y hf9 c_20
                          refine lv_iconst (v := 1) C.1 C.2.1 dX3_compact_162 (by decide) ?_
                          refine lv_goto (tgt := 167) C.1 C.2.1 dX3_compact_163 (by decide) ?_
                          refine lv_istore_n (lv' := [(3, .int 1), (7, .ref ((d_a d26) j24)), (0, .ref o), (1, .int (nI (s_n S))), (2, .int (nI (u24 - 1))), (4, .ref (d_3 d26)), (5, .int (nI (s_sh T26))), (6, .int (nI j24))]) C.1 C.2.1 dX3_compact_167 rfl hl (by decide) rfl (fun ls hl => ?_)
                          have hl : lv_has ls 8 [(3, .int 1), (0, .ref o), (1, .int (nI (s_n S))), (2, .int (nI (u24 - 1))), (4, .ref (d_3 d26)), (5, .int (nI (s_sh T26))), (6, .int (nI j24))] := lv_sub hl [0, 2, 3, 4, 5, 6, 7] rfl
                          have hl : lv_has ls 8 [(3, .int (fl2 T26 (u24 - 1) (j24 + 1))), (0, .ref o), (1, .int (nI (s_n S))), (2, .int (nI (u24 - 1))), (4, .ref (d_3 d26)), (5, .int (nI (s_sh T26))), (6, .int (nI j24))] := by rw [hz9]; exact hl
                          refine gInc (j := j24) (k := 6) (lv' := [(6, .int (nI (j24 + 1))), (3, .int (fl2 T26 (u24 - 1) (j24 + 1))), (0, .ref o), (1, .int (nI (s_n S))), (2, .int (nI (u24 - 1))), (4, .ref (d_3 d26)), (5, .int (nI (s_sh T26)))]) C.1 C.2.1 dX3_compact_168 hl rfl (by decide) rfl (fun ls hl => ?_)
                          refine lv_goto (tgt := 129) C.1 C.2.1 dX3_compact_171 (by decide) ?_
                          exact ih_lp29 (j24 + 1) (by omega) (by omega) _ _ hO _ (lv_sub hl [2, 3, 4, 1, 5, 6, 0] rfl)
                exact lp29 (s_sh T26 + 1) 0 (by omega) (Nat.zero_le _) _ _ hO _ (lv_sub hl [4, 5, 6, 3, 2, 1, 0] rfl)
        refine W.widen (k := 2 * s_n S - (s_n T24)) (n := 47 * (2 * s_n S - (s_n T24))) (by omega) (by omega) ?_
        exact lp94 (s_n T24 + 1) (s_n T24) d24 T24 g24 s24 (s_n S) (by omega) (Nat.le_refl _) hR24 hD24 (cI2_i hD24 (by rw [hge] at hI24; exact hI24)) _ _ hO _ (lv_sub hl [1, 2, 0] rfl)
      · have hlt : 0 < t24 := by rw [nI_m1neg (by omega)] at c_1; omega
        have hlow9 := hD24.low ht24 hI24.1
        have hn9 : s_n T24 ≤ s_n S := hD24.1
        have hl : lv_has ls 8 [(0, .ref o), (1, .int (nI (s_n S))), (2, .int (nI (t24 - 1)))] := by rw [nI_p hlt] at hl; exact hl
        refine lv_iconst (v := 0) C.1 C.2.1 dX3_compact_18 (by decide) ?_
        refine lv_istore_n (lv' := [(3, .int 0), (0, .ref o), (1, .int (nI (s_n S))), (2, .int (nI (t24 - 1)))]) C.1 C.2.1 dX3_compact_19 rfl hl (by decide) rfl (fun ls hl => ?_)
        refine lv_iload_n C.1 C.2.1 dX3_compact_20 rfl (lv_at hl 3 rfl) ?_
        refine lv_iconst (v := 1) C.1 C.2.1 dX3_compact_21 (by decide) ?_
        refine gAddN (x := (t24 - 1)) (y := 1) C.1 C.2.1 dX3_compact_22 ?_
        have hl : lv_has ls 8 [(3, .int (fl1 T24 t24 t24)), (0, .ref o), (1, .int (nI (s_n S))), (2, .int (nI (t24 - 1)))] := by rw [fl1_0]; exact hl
        refine lv_eqi (y := nI t24) (by rw [show t24 - 1 + 1 = t24 by omega]) ?_
        refine lv_istore (lv' := [(4, .int (nI t24)), (3, .int (fl1 T24 t24 t24)), (0, .ref o), (1, .int (nI (s_n S))), (2, .int (nI (t24 - 1)))]) C.1 C.2.1 dX3_compact_23 hl (by decide) rfl (fun ls hl => ?_)
        have lp25 : ∀ (f : Nat) (i24 : Nat), (s_n T24 + 1 ≤ i24 + f) → (t24 ≤ i24 ∧ i24 ≤ s_n T24) → ∀ (H : Heap) (locs : List Loc), gO E A s (sW E o d24 T24 F) H locs → ∀ ls : Array Slot, lv_has ls 8 [(0, .ref o), (1, .int (nI (s_n S))), (2, .int (nI (t24 - 1))), (3, .int (fl1 T24 t24 i24)), (4, .int (nI i24))] → W p l e ({ frames := 1, cells := 96, slots := 4512, locals := 26 } : Room) s m args below meth c H locs (s_n S - t24) (47 * (s_n S - t24)) (MQ below (gQe E A (fun (r : Int32) (d9 : Dt) => r = nI (s_n S - cpN (s_cm S) (s_n S)) ∧ Rep E d9 (S_drop S (s_cm S))) (fun (d9 : Dt) => sW E o d9 (S_drop S (s_cm S)) F)) args s 96 4512 A) (F0 m 25 ls []) := by
          intro f
          induction f with
          | zero =>
            intro i24 hf hi24
            exact absurd hf (by omega)
          | succ f ih_lp25 =>
            intro i24 hf hi24 H locs hO ls hl
            refine lv_iload C.1 C.2.1 dX3_compact_25 (lv_at hl 4 rfl) ?_
            refine lv_aload_n C.1 C.2.1 dX3_compact_27 rfl (lv_at hl 0 rfl) ?_
            refine gGet (v := .ref (d_1 d24)) (ref := RX3) (Cn := RX3) (T := TX3) (N := 7) C iX3 hO 0 rfl rfl 4 (by decide) w9 (fun _ h9 => h9) rfl dX3_compact_28 ?_
            refine va_alen (v := nI (s_n T24)) C.1 C.2.1 C.2.2.2.2.2.2.2.1.1 hO.1 1 3 rfl rfl rfl dX3_compact_31 ?_
            refine gGeN (x := i24) (y := (s_n T24)) (tgt := 71) C.1 C.2.1 (by omega) (by omega) dX3_compact_32 (by decide) (fun c_21 => ?_) (fun c_21 => ?_)
            · refine lv_iload_n C.1 C.2.1 dX3_compact_71 rfl (lv_at hl 3 rfl) ?_
              refine lv_if_eq (tgt := 80) C.1 C.2.1 dX3_compact_72 (by decide) (fun c_22 => ?_) (fun c_22 => ?_)
              · have hz8 : lat9 S (t24 - 1) := (old_iff hD24 ht24 hlt hI24).mp (by rw [show s_n T24 = i24 by omega]; exact c_22)
                have hl : lv_has ls 8 [(0, .ref o), (1, .int (nI (s_n S))), (2, .int (nI (t24 - 1)))] := lv_sub hl [0, 1, 2] rfl
                refine lv_iinc (v := nI (t24 - 1) - 1) (lv' := [(2, .int (nI (t24 - 1) - 1)), (0, .ref o), (1, .int (nI (s_n S)))]) C.1 C.2.1 dX3_compact_80 hl (k := 2) rfl (iDec _) (by decide) rfl (fun ls hl => ?_)
                refine lv_goto (tgt := 14) C.1 C.2.1 dX3_compact_83 (by decide) ?_
                refine W.widen (k := s_n S - (t24 - 1)) (n := 47 * (s_n S - (t24 - 1))) (by omega) (by omega) ?_
                exact ih_lp14 (t24 - 1) d24 T24 g24 s24 (by omega) (by omega) hR24 hD24 (cI1_0 hI24 hlt hz8) _ _ hO _ (lv_sub hl [1, 2, 0] rfl)
              · have hz8 : ¬ lat9 S (t24 - 1) := fun q => c_22 (by rw [show i24 = s_n T24 by omega]; exact (old_iff hD24 ht24 hlt hI24).mpr q)
                refine lv_aload_n C.1 C.2.1 dX3_compact_75 rfl (lv_at hl 0 rfl) ?_
                refine lv_iload_n C.1 C.2.1 dX3_compact_76 rfl (lv_at hl 2 rfl) ?_
                refine gCall_f (As := [.int (nI (t24 - 1))]) (rest := []) C hO (c_X3_dropAt l E o d24 T24 F (t24 - 1) (by omega) (by omega) (by rw [hD24.sh]; exact hsh) (hD24.srt hsr) hR24) (cwV 1 C.2.2.2.2.1 gX3_compact_X3_dropAt rfl rfl rfl (by decide +kernel) ⟨(Nat.le_of_ble_eq_true rfl), (Nat.le_of_ble_eq_true rfl)⟩) (va_recv C.2.2.2.2.2.2.2.1.1 hO.1 (ci := 3) (q0 := 0) rfl rfl) rfl hl.1 rfl (Nat.le_of_ble_eq_true rfl) dX3_compact_77 ⟨(by show _ ≤ 96; omega), (by show _ ≤ 4512; omega)⟩ (fun d25 H locs ⟨hR25, _, _⟩ hO => ?_)
                have hl : lv_has ls 8 [(0, .ref o), (1, .int (nI (s_n S))), (2, .int (nI (t24 - 1)))] := lv_sub hl [0, 1, 2] rfl
                refine lv_iinc (v := nI (t24 - 1) - 1) (lv' := [(2, .int (nI (t24 - 1) - 1)), (0, .ref o), (1, .int (nI (s_n S)))]) C.1 C.2.1 dX3_compact_80 hl (k := 2) rfl (iDec _) (by decide) rfl (fun ls hl => ?_)
                refine lv_goto (tgt := 14) C.1 C.2.1 dX3_compact_83 (by decide) ?_
                refine W.widen (k := s_n S - (t24 - 1)) (n := 47 * (s_n S - (t24 - 1))) (by omega) (by omega) ?_
                exact ih_lp14 (t24 - 1) d25 (S_drop T24 (g1 (t24 - 1))) (upd g24 (t24 - 1) 1) (fun j => s24 (if j < t24 - 1 then j else j + 1)) (by omega) (by omega) hR25 (by have h9 := hD24.step hsr (z := t24 - 1) (by omega); rw [hlow9.2 (t24 - 1) (by omega)] at h9; exact h9) (cI1_1 hI24 hlt hz8) _ _ hO _ (lv_sub hl [1, 2, 0] rfl)
            · refine lv_iload_n C.1 C.2.1 dX3_compact_35 rfl (lv_at hl 3 rfl) ?_
              refine lv_if_ne (tgt := 59) C.1 C.2.1 dX3_compact_36 (by decide) (fun c_23 => ?_) (fun c_23 => ?_)
              · have hz9 : fl1 T24 t24 (i24 + 1) = 1 := fl1_k c_23 hi24.1
                refine lv_iconst (v := 1) C.1 C.2.1 dX3_compact_59 (by decide) ?_
                refine lv_goto (tgt := 64) C.1 C.2.1 dX3_compact_60 (by decide) ?_
                refine lv_istore_n (lv' := [(3, .int 1), (0, .ref o), (1, .int (nI (s_n S))), (2, .int (nI (t24 - 1))), (4, .int (nI i24))]) C.1 C.2.1 dX3_compact_64 rfl hl (by decide) rfl (fun ls hl => ?_)
                have hl : lv_has ls 8 [(3, .int (fl1 T24 t24 (i24 + 1))), (0, .ref o), (1, .int (nI (s_n S))), (2, .int (nI (t24 - 1))), (4, .int (nI i24))] := by rw [hz9]; exact hl
                refine gInc (j := i24) (k := 4) (lv' := [(4, .int (nI (i24 + 1))), (3, .int (fl1 T24 t24 (i24 + 1))), (0, .ref o), (1, .int (nI (s_n S))), (2, .int (nI (t24 - 1)))]) C.1 C.2.1 dX3_compact_65 hl rfl (by decide) rfl (fun ls hl => ?_)
                refine lv_goto (tgt := 25) C.1 C.2.1 dX3_compact_68 (by decide) ?_
                exact ih_lp25 (i24 + 1) (by omega) (⟨by omega, by omega⟩) _ _ hO _ (lv_sub hl [2, 3, 4, 1, 0] rfl)
              · have hf9 : fl1 T24 t24 i24 = 0 := c_23
                refine lv_aload_n C.1 C.2.1 dX3_compact_39 rfl (lv_at hl 0 rfl) ?_
                refine gGet (v := .ref (d_1 d24)) (ref := RX3) (Cn := RX3) (T := TX3) (N := 7) C iX3 hO 0 rfl rfl 4 (by decide) w9 (fun _ h9 => h9) rfl dX3_compact_40 ?_
                refine lv_iload C.1 C.2.1 dX3_compact_43 (lv_at hl 4 rfl) ?_
                obtain ⟨q_24, f_24, hq_24, hm_24, e0_24, e1_24, e2_24, e3_24⟩ := (hR24).1 i24 (by omega)
                refine gAaldA (v := q_24) (j := i24) C hO 1 rfl (by omega) (by omega) hq_24 dX3_compact_45 ?_
                refine lv_iconst (v := 1) C.1 C.2.1 dX3_compact_46 (by decide) ?_
                have ha_26m : (q_24, (.inl (eI E, 4, .inl f_24) : va_E)) ∈ (sW E o d24 T24 F) := sR_mem (pl_mem hm_24)
                obtain ⟨p_25, ha_26⟩ := List.getElem?_of_mem ha_26m
                refine gIald (v := s_key T24 i24) (j := 1) C hO p_25 ha_26 (by decide) (by first | decide | omega) e1_24 dX3_compact_47 ?_
                refine lv_aload_n C.1 C.2.1 dX3_compact_48 rfl (lv_at hl 0 rfl) ?_
                refine gGet (v := .ref (d_1 d24)) (ref := RX3) (Cn := RX3) (T := TX3) (N := 7) C iX3 hO 0 rfl rfl 4 (by decide) w9 (fun _ h9 => h9) rfl dX3_compact_49 ?_
                refine lv_iload_n C.1 C.2.1 dX3_compact_52 rfl (lv_at hl 2 rfl) ?_
                obtain ⟨q_27, f_27, hq_27, hm_27, e0_27, e1_27, e2_27, e3_27⟩ := (hR24).1 (t24 - 1) (by omega)
                refine gAaldA (v := q_27) (j := (t24 - 1)) C hO 1 rfl (by omega) (by omega) hq_27 dX3_compact_53 ?_
                refine lv_iconst (v := 1) C.1 C.2.1 dX3_compact_54 (by decide) ?_
                have ha_29m : (q_27, (.inl (eI E, 4, .inl f_27) : va_E)) ∈ (sW E o d24 T24 F) := sR_mem (pl_mem hm_27)
                obtain ⟨p_28, ha_29⟩ := List.getElem?_of_mem ha_29m
                refine gIald (v := s_key T24 (t24 - 1)) (j := 1) C hO p_28 ha_29 (by decide) (by first | decide | omega) e1_27 dX3_compact_55 ?_
                refine lv_icmp_ne (tgt := 63) C.1 C.2.1 dX3_compact_56 (by decide) (fun c_30 => ?_) (fun c_30 => ?_)
                · have hz9 : fl1 T24 t24 (i24 + 1) = 0 := (fl1_s0 c_30 hi24.1).trans hf9
                  refine lv_iconst (v := 0) C.1 C.2.1 dX3_compact_63 (by decide) ?_
                  refine lv_istore_n (lv' := [(3, .int 0), (0, .ref o), (1, .int (nI (s_n S))), (2, .int (nI (t24 - 1))), (4, .int (nI i24))]) C.1 C.2.1 dX3_compact_64 rfl hl (by decide) rfl (fun ls hl => ?_)
                  have hl : lv_has ls 8 [(3, .int (fl1 T24 t24 (i24 + 1))), (0, .ref o), (1, .int (nI (s_n S))), (2, .int (nI (t24 - 1))), (4, .int (nI i24))] := by rw [hz9]; exact hl
                  refine gInc (j := i24) (k := 4) (lv' := [(4, .int (nI (i24 + 1))), (3, .int (fl1 T24 t24 (i24 + 1))), (0, .ref o), (1, .int (nI (s_n S))), (2, .int (nI (t24 - 1)))]) C.1 C.2.1 dX3_compact_65 hl rfl (by decide) rfl (fun ls hl => ?_)
                  refine lv_goto (tgt := 25) C.1 C.2.1 dX3_compact_68 (by decide) ?_
                  exact ih_lp25 (i24 + 1) (by omega) (⟨by omega, by omega⟩) _ _ hO _ (lv_sub hl [2, 3, 4, 1, 0] rfl)
                · have hz9 : fl1 T24 t24 (i24 + 1) = 1 := fl1_s1 c_30 hi24.1
                  refine lv_iconst (v := 1) C.1 C.2.1 dX3_compact_59 (by decide) ?_
                  refine lv_goto (tgt := 64) C.1 C.2.1 dX3_compact_60 (by decide) ?_
                  refine lv_istore_n (lv' := [(3, .int 1), (0, .ref o), (1, .int (nI (s_n S))), (2, .int (nI (t24 - 1))), (4, .int (nI i24))]) C.1 C.2.1 dX3_compact_64 rfl hl (by decide) rfl (fun ls hl => ?_)
                  have hl : lv_has ls 8 [(3, .int (fl1 T24 t24 (i24 + 1))), (0, .ref o), (1, .int (nI (s_n S))), (2, .int (nI (t24 - 1))), (4, .int (nI i24))] := by rw [hz9]; exact hl
                  refine gInc (j := i24) (k := 4) (lv' := [(4, .int (nI (i24 + 1))), (3, .int (fl1 T24 t24 (i24 + 1))), (0, .ref o), (1, .int (nI (s_n S))), (2, .int (nI (t24 - 1)))]) C.1 C.2.1 dX3_compact_65 hl rfl (by decide) rfl (fun ls hl => ?_)
                  refine lv_goto (tgt := 25) C.1 C.2.1 dX3_compact_68 (by decide) ?_
                  exact ih_lp25 (i24 + 1) (by omega) (⟨by omega, by omega⟩) _ _ hO _ (lv_sub hl [2, 3, 4, 1, 0] rfl)
        exact lp25 (s_n T24 + 1) t24 (by omega) (⟨Nat.le_refl _, hlow9.1⟩) _ _ hO _ (lv_sub hl [2, 3, 4, 1, 0] rfl)
  refine W.widen (k := s_n S - (s_n S)) (n := 47 * (s_n S - (s_n S))) (by omega) (by omega) ?_
  exact lp14 (s_n S + 1) (s_n S) d S (fun _ => 0) (fun j => j) (by omega) (Nat.le_refl _) hR (dR_0 S) (cI1_i S) _ _ hO _ (lv_sub hl [2, 1, 0] rfl)
