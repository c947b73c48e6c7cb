section LC
variable {p : Program} {l : Launch} {e : Env} {s : State} {m : MethodId} {args : Array Value} {below : List Frame} {meth : Method} {c : Code} {H : Heap} {locs : List Loc} {Q : State → Prop} {E : gE} {A : Nat → Prop} {ret9 : Option FieldType}
variable {a : Nat → Nat} {o : Nat} {d : Dt} {S : St} {mk rk rv : Nat → Int32} {F : va_W} {B : Int} {bs L t z0 nc ns : Nat} {xs : Nat → Int32} {x : Int32} {ls : Array Slot}
set_option maxHeartbeats 4000000 in
set_option maxRecDepth 100000 in
theorem law_G (hst : l.stackTraces = false) (hJ : J9 S B) (hB : B + 100 < 2147480000) (hR : Rep E d S) (ez0 : s_nx S = nI z0) (hz0 : z0 < 2147480000) (hnc : nc ≤ 100000) (hns : ns ≤ 2000000) (C : gCx p s m args meth c cL_law 21 wsL_law RL ret9 E A)  (hO : gO E A s ((xW E a S mk rk rv) ++ (sW E o d S F)) H locs) (hl : lv_has ls 21 [(0, .ref bs), (1, .ref (a 0)), (2, .ref o), (3, .int (nI t)), (4, .int x), (5, .int (nI (s_n S))), (6, .int (nI z0)), (16, .int (s_on S))]) (kk : ∀ (S2 : St) (d2 : Dt) (mk2 : Nat → Int32), (J9 S2 (B + 1)) → (Rep E d2 S2) → ∀ (H : Heap) (locs : List Loc), gO E A s ((xW E a S2 mk2 rk rv) ++ (sW E o d2 S2 F)) H locs → ∀ ls : Array Slot, lv_has ls 21 [(0, .ref bs), (1, .ref (a 0)), (2, .ref o), (3, .int (nI (t + 1)))] → W p l e room_1 s m args below meth c H locs (nc + 7) (ns + 124) Q (F0 m 22 ls [])) : W p l e room_1 s m args below meth c H locs nc ns Q (F0 m 871 ls []) := by
  have hI : s_inv S := hJ.1.inv
  obtain ⟨hn, hsh, hsc, hOn, hOb, hok9, hpc9, hp0⟩ := id hI
  have hsr : s_srt S := hJ.1.1.srt
  have hlg := hJ.1.1
  have hxI := hJ.2
  obtain ⟨hnz1, hnz2, hnz3⟩ := nx_sum hxI hn ez0 hz0
  refine lv_iload C.1 C.2.1 dL_law_871 (lv_at hl 4 rfl) ?_
  refine lv_iconst (v := nI 2) C.1 C.2.1 dL_law_873 (by decide) ?_
  refine lv_ishr C.1 C.2.1 dL_law_874 ?_
  refine lv_bipush (v := nI 10) C.1 C.2.1 dL_law_875 (by decide) ?_
  refine gCallS_i (mc := 0) (ms := 0) (As := [.int (x >>> ((nI 2) &&& 31)), .int (nI 10)]) (rest := []) C hO (c_L_below l E ((xW E a S mk rk rv) ++ (sW E o d S F)) (x >>> ((nI 2) &&& 31)) (nI 10) (by decide)) (cwS 2 C.2.2.2.2.1 gL_law_L_below rfl rfl rfl (by decide +kernel) ⟨(Nat.le_of_ble_eq_true rfl), (Nat.le_of_ble_eq_true rfl)⟩) rfl hl.1 rfl (Nat.le_of_ble_eq_true rfl) dL_law_877 ⟨(by show nc + 0 ≤ 600172; omega), (by show ns + 0 ≤ 7300668; omega)⟩ (fun H locs hO => ?_)
  obtain ⟨j1, hj1, ej1⟩ := bw_lt (x >>> ((nI 2) &&& 31)) (z := 10) (by decide) (by decide)
  refine lv_eqi (y := nI j1) ej1 ?_
  refine lv_istore (lv' := [(19, .int (nI j1)), (0, .ref bs), (1, .ref (a 0)), (2, .ref o), (3, .int (nI t)), (4, .int x), (5, .int (nI (s_n S))), (6, .int (nI z0)), (16, .int (s_on S))]) C.1 C.2.1 dL_law_880 hl (by decide) rfl (fun ls hl => ?_)
  refine lv_iload C.1 C.2.1 dL_law_882 (lv_at hl 5 rfl) ?_
  refine lv_iconst (v := nI 4) C.1 C.2.1 dL_law_884 (by decide) ?_
  refine lv_ishr C.1 C.2.1 dL_law_885 ?_
  refine lv_sipush (v := nI 1999) C.1 C.2.1 dL_law_886 (by decide) ?_
  refine gCallS_i (mc := 0) (ms := 0) (As := [.int (x >>> ((nI 4) &&& 31)), .int (nI 1999)]) (rest := []) C hO (c_L_below l E ((xW E a S mk rk rv) ++ (sW E o d S F)) (x >>> ((nI 4) &&& 31)) (nI 1999) (by decide)) (cwS 2 C.2.2.2.2.1 gL_law_L_below rfl rfl rfl (by decide +kernel) ⟨(Nat.le_of_ble_eq_true rfl), (Nat.le_of_ble_eq_true rfl)⟩) rfl hl.1 rfl (Nat.le_of_ble_eq_true rfl) dL_law_889 ⟨(by show nc + 0 + 0 ≤ 600172; omega), (by show ns + 0 + 0 ≤ 7300668; omega)⟩ (fun H locs hO => ?_)
  obtain ⟨j2, hj2, ej2⟩ := bw_lt (x >>> ((nI 4) &&& 31)) (z := 1999) (by decide) (by decide)
  refine lv_eqi (y := nI j2) ej2 ?_
  refine lv_sipush (v := nI 999) C.1 C.2.1 dL_law_892 (by decide) ?_
  refine lv_isub C.1 C.2.1 dL_law_895 ?_
  refine lv_istore (lv' := [(20, .int ((nI j2) - (nI 999))), (19, .int (nI j1)), (0, .ref bs), (1, .ref (a 0)), (2, .ref o), (3, .int (nI t)), (4, .int x), (5, .int (nI (s_n S))), (6, .int (nI z0)), (16, .int (s_on S))]) C.1 C.2.1 dL_law_896 hl (by decide) rfl (fun ls hl => ?_)
  refine lv_aload_n C.1 C.2.1 dL_law_898 rfl (lv_at hl 3 rfl) ?_
  refine lv_iload C.1 C.2.1 dL_law_899 (lv_at hl 1 rfl) ?_
  refine lv_iload C.1 C.2.1 dL_law_901 (lv_at hl 0 rfl) ?_
  refine gXCall_i (mc := 1) (ms := 6) (As := [.int (nI j1), .int ((nI j2) - (nI 999))]) (rest := []) C hO (c_X2_say l E a S mk rk rv (sW E o d S F) (nI j1) (nI j2 - nI 999) hst hI) (cwV 2 C.2.2.2.2.1 gL_law_X2_say rfl rfl rfl (by decide +kernel) ⟨(Nat.le_of_ble_eq_true rfl), (Nat.le_of_ble_eq_true rfl)⟩) (va_recv C.2.2.2.2.2.2.2.1.1 hO.1 (ci := 2) (q0 := 0) rfl rfl) rfl hl.1 rfl (Nat.le_of_ble_eq_true rfl) dL_law_903 ⟨(by show nc + 0 + 0 + 1 ≤ 600172; omega), (by show ns + 0 + 0 + 6 ≤ 7300668; omega)⟩ (fun E0 ce q9 H locs hO hcell hcv hcl hbad => ?_) (fun H locs hO _ => ?_)
  · exact absurd ⟨okKey_nI (by omega), okVal_b hj2⟩ hbad.2
  refine lv_eqi (y := nI z0) ez0 ?_
  refine lv_iload C.1 C.2.1 dL_law_906 (lv_at hl 8 rfl) ?_
  refine lv_icmp_ne (tgt := 986) C.1 C.2.1 dL_law_908 (by decide) (fun c_2 => ?_) (fun c_2 => ?_)
  · exact absurd rfl c_2
  · refine lv_aload_n C.1 C.2.1 dL_law_911 rfl (lv_at hl 4 rfl) ?_
    refine lv_iload C.1 C.2.1 dL_law_912 (lv_at hl 1 rfl) ?_
    refine lv_iload C.1 C.2.1 dL_law_914 (lv_at hl 0 rfl) ?_
    have hO := gO.xs hO
    refine gCall_e (mc := 3) (ms := 100) (As := [.int (nI j1), .int ((nI j2) - (nI 999))]) (rest := []) C hO (c_X3_say l E o d S ((xW E a (S_spk S (nI j1) (nI j2 - nI 999)) (mk_spk S mk) rk rv) ++ F) (nI j1) (nI j2 - nI 999) hR hI hsr) (cwV 2 C.2.2.2.2.1 gL_law_X3_say rfl rfl rfl (by decide +kernel) ⟨(Nat.le_of_ble_eq_true rfl), (Nat.le_of_ble_eq_true rfl)⟩) (va_recv C.2.2.2.2.2.2.2.1.1 hO.1 (ci := 3) (q0 := 0) rfl rfl) rfl hl.1 rfl (Nat.le_of_ble_eq_true rfl) dL_law_916 ⟨(by show nc + 0 + 0 + 1 + 3 ≤ 600172; omega), (by show ns + 0 + 0 + 6 + 100 ≤ 7300668; omega)⟩ (fun r25 d25 H locs ⟨hr25, hR25, _, _⟩ hO => ?_)
    have hO := gO.sx hO
    have hO : gO E A s ((xW E a (S_spk S (nI j1) (nI j2 - nI 999)) (mk_spk S mk) rk rv) ++ (sW E o d25 (S_spk S (nI j1) (nI j2 - nI 999)) F)) H locs := hO
    have hJ2 : J9 (S_spk S (nI j1) (nI j2 - nI 999)) (B + 1) := hJ.spk (by omega) (ky9_nI (by omega)) _
    have hI2 : s_inv (S_spk S (nI j1) (nI j2 - nI 999)) := hJ2.1.inv
    have hpo9 := spk_po hn hJ2.1.1.srt
    obtain ⟨m9, hm1, hm2, hm3, -⟩ := spk_n hn (nI j1) (nI j2 - nI 999)
    refine lv_eqi (y := nI z0) (hr25.trans ez0) ?_
    refine lv_iload C.1 C.2.1 dL_law_919 (lv_at hl 8 rfl) ?_
    refine lv_icmp_ne (tgt := 986) C.1 C.2.1 dL_law_921 (by decide) (fun c_3 => ?_) (fun c_3 => ?_)
    · exact absurd rfl c_3
    · refine lv_aload_n C.1 C.2.1 dL_law_924 rfl (lv_at hl 3 rfl) ?_
      refine lv_iload C.1 C.2.1 dL_law_925 (lv_at hl 1 rfl) ?_
      refine gXCall_i (mc := 1) (ms := 6) (As := [.int (nI j1)]) (rest := []) C hO (c_X2_latestOf l E a (S_spk S (nI j1) (nI j2 - nI 999)) (mk_spk S mk) rk rv (sW E o d25 (S_spk S (nI j1) (nI j2 - nI 999)) F) (nI j1) hst hI2) (cwV 1 C.2.2.2.2.1 gL_law_X2_latestOf rfl rfl rfl (by decide +kernel) ⟨(Nat.le_of_ble_eq_true rfl), (Nat.le_of_ble_eq_true rfl)⟩) (va_recv C.2.2.2.2.2.2.2.1.1 hO.1 (ci := 2) (q0 := 0) rfl rfl) rfl hl.1 rfl (Nat.le_of_ble_eq_true rfl) dL_law_927 ⟨(by show nc + 0 + 0 + 1 + 3 + 1 ≤ 600172; omega), (by show ns + 0 + 0 + 6 + 100 + 6 ≤ 7300668; omega)⟩ (fun E0 ce q9 H locs hO hcell hcv hcl hbad => ?_) (fun H locs hO _ => ?_)
      · exact absurd (okKey_nI (by omega)) hbad.2
      refine lv_eqi (y := nI z0) ((spk_lo hn _ _).1.trans ez0) ?_
      refine lv_iload C.1 C.2.1 dL_law_930 (lv_at hl 8 rfl) ?_
      refine lv_icmp_ne (tgt := 986) C.1 C.2.1 dL_law_932 (by decide) (fun c_5 => ?_) (fun c_5 => ?_)
      · exact absurd rfl c_5
      · refine lv_aload_n C.1 C.2.1 dL_law_935 rfl (lv_at hl 3 rfl) ?_
        refine lv_iload C.1 C.2.1 dL_law_936 (lv_at hl 1 rfl) ?_
        refine gXCall_i (mc := 1) (ms := 6) (As := [.int (nI j1)]) (rest := []) C hO (c_X2_valueOf l E a (S_spk S (nI j1) (nI j2 - nI 999)) (mk_spk S mk) rk rv (sW E o d25 (S_spk S (nI j1) (nI j2 - nI 999)) F) (nI j1) hst hI2) (cwV 1 C.2.2.2.2.1 gL_law_X2_valueOf rfl rfl rfl (by decide +kernel) ⟨(Nat.le_of_ble_eq_true rfl), (Nat.le_of_ble_eq_true rfl)⟩) (va_recv C.2.2.2.2.2.2.2.1.1 hO.1 (ci := 2) (q0 := 0) rfl rfl) rfl hl.1 rfl (Nat.le_of_ble_eq_true rfl) dL_law_938 ⟨(by show nc + 0 + 0 + 1 + 3 + 1 + 1 ≤ 600172; omega), (by show ns + 0 + 0 + 6 + 100 + 6 + 6 ≤ 7300668; omega)⟩ (fun E0 ce q9 H locs hO hcell hcv hcl hbad => ?_) (fun H locs hO _ => ?_)
        · exact absurd (okKey_nI (by omega)) hbad.2
        refine lv_eqi (y := nI j2 - nI 999) ((spk_lo hn _ _).2) ?_
        refine lv_iload C.1 C.2.1 dL_law_941 (lv_at hl 0 rfl) ?_
        refine lv_icmp_ne (tgt := 986) C.1 C.2.1 dL_law_943 (by decide) (fun c_7 => ?_) (fun c_7 => ?_)
        · exact absurd rfl c_7
        · refine lv_aload_n C.1 C.2.1 dL_law_946 rfl (lv_at hl 3 rfl) ?_
          refine gCall_i (mc := 0) (ms := 0) (As := []) (rest := []) C hO (c_X2_phrases l E a (S_spk S (nI j1) (nI j2 - nI 999)) (mk_spk S mk) rk rv (sW E o d25 (S_spk S (nI j1) (nI j2 - nI 999)) F)  hI2) (cwV 0 C.2.2.2.2.1 gL_law_X2_phrases rfl rfl rfl (by decide +kernel) ⟨(Nat.le_of_ble_eq_true rfl), (Nat.le_of_ble_eq_true rfl)⟩) (va_recv C.2.2.2.2.2.2.2.1.1 hO.1 (ci := 2) (q0 := 0) rfl rfl) rfl hl.1 rfl (Nat.le_of_ble_eq_true rfl) dL_law_947 ⟨(by show nc + 0 + 0 + 1 + 3 + 1 + 1 + 0 ≤ 600172; omega), (by show ns + 0 + 0 + 6 + 100 + 6 + 6 + 0 ≤ 7300668; omega)⟩ (fun H locs hO => ?_)
          refine lv_bipush (v := nI 48) C.1 C.2.1 dL_law_950 (by decide) ?_
          refine lv_iload C.1 C.2.1 dL_law_952 (lv_at hl 7 rfl) ?_
          refine lv_iconst (v := 1) C.1 C.2.1 dL_law_954 (by decide) ?_
          refine gAddN (x := (s_n S)) (y := 1) C.1 C.2.1 dL_law_955 ?_
          refine va_mmin C.1 C.2.1 (by rw [C.2.2.1]; exact hl.1.symm) C.2.2.2.1 (C.2.2.2.2.1 (.methodLink RL 174 Lib.Math.min.name) (by decide +kernel)) (C.2.2.2.2.1 (.static Lib.Math.min.name) (by decide +kernel)) (C.2.2.2.2.1 (.initialized "java/lang/Math") (by decide +kernel)) (C.2.2.2.2.1 (.code Lib.Math.min.name Lib.Math.min.code 2 (some .int)) (by decide +kernel)) (Nat.le_of_ble_eq_true rfl) (Nat.le_of_ble_eq_true rfl) (by show _ ≤ 600172; omega) (by show _ ≤ 7300668; omega) dL_law_956 ?_
          refine lv_eqi (y := nI (s_n (S_spk S (nI j1) (nI j2 - nI 999)))) (by rw [nI_min (by omega) (by omega), ← hm3, hm2]) ?_
          refine lv_icmp_ne (tgt := 986) C.1 C.2.1 dL_law_959 (by decide) (fun c_8 => ?_) (fun c_8 => ?_)
          · exact absurd rfl c_8
          · refine lv_aload_n C.1 C.2.1 dL_law_962 rfl (lv_at hl 3 rfl) ?_
            refine lv_iload C.1 C.2.1 dL_law_963 (lv_at hl 8 rfl) ?_
            refine gXCall_i (mc := 1) (ms := 6) (As := [.int (nI z0)]) (rest := []) C hO (c_X2_stormAt l E a (S_spk S (nI j1) (nI j2 - nI 999)) (mk_spk S mk) rk rv (sW E o d25 (S_spk S (nI j1) (nI j2 - nI 999)) F) (nI z0) hst hI2) (cwV 1 C.2.2.2.2.1 gL_law_X2_stormAt rfl rfl rfl (by decide +kernel) ⟨(Nat.le_of_ble_eq_true rfl), (Nat.le_of_ble_eq_true rfl)⟩) (va_recv C.2.2.2.2.2.2.2.1.1 hO.1 (ci := 2) (q0 := 0) rfl rfl) rfl hl.1 rfl (Nat.le_of_ble_eq_true rfl) dL_law_965 ⟨(by show nc + 0 + 0 + 1 + 3 + 1 + 1 + 0 + 1 ≤ 600172; omega), (by show ns + 0 + 0 + 6 + 100 + 6 + 6 + 0 + 6 ≤ 7300668; omega)⟩ (fun E0 ce q9 H locs hO hcell hcv hcl hbad => ?_) (fun H locs hO _ => ?_)
            · exact absurd hbad.2 (show s_po (S_spk S (nI j1) (nI j2 - nI 999)) (nI z0) ≠ none by rw [← ez0]; exact hpo9.1)
            refine lv_eqi (y := s_tag S) (by rw [← ez0]; exact hpo9.2) ?_
            refine lv_iload C.1 C.2.1 dL_law_968 (lv_at hl 9 rfl) ?_
            refine lv_if_eq (tgt := 982) C.1 C.2.1 dL_law_970 (by decide) (fun c_10 => ?_) (fun c_10 => ?_)
            · have hon9 : s_on S = 0 := c_10
              refine lv_iconst (v := (-1)) C.1 C.2.1 dL_law_982 (by decide) ?_
              refine lv_eqi (y := s_tag S) (by unfold s_tag; rw [if_pos hon9]) ?_
              refine lv_icmp_eq (tgt := 988) C.1 C.2.1 dL_law_983 (by decide) (fun c_11 => ?_) (fun c_11 => ?_)
              · have hl : lv_has ls 21 [(0, .ref bs), (1, .ref (a 0)), (2, .ref o), (3, .int (nI t))] := lv_sub hl [2, 3, 4, 5] rfl
                refine gInc (j := t) (k := 3) (lv' := [(3, .int (nI (t + 1))), (0, .ref bs), (1, .ref (a 0)), (2, .ref o)]) C.1 C.2.1 dL_law_988 hl rfl (by decide) rfl (fun ls hl => ?_)
                refine lv_goto (tgt := 22) C.1 C.2.1 dL_law_991 (by decide) ?_
                refine W.widen (k := nc + 7) (n := ns + 124) (by omega) (by omega) ?_
                exact kk (S_spk S (nI j1) (nI j2 - nI 999)) d25 (mk_spk S mk) (hJ.spk (by omega) (ky9_nI (by omega)) _) hR25 _ _ hO _ (lv_sub hl [1, 2, 3, 0] rfl)
              · exact absurd rfl c_11
            · have hon9 : ¬ s_on S = 0 := c_10
              have hsc9 := hOn hon9
              refine lv_aload_n C.1 C.2.1 dL_law_973 rfl (lv_at hl 3 rfl) ?_
              refine gCall_i (mc := 0) (ms := 0) (As := []) (rest := [.int (s_tag S)]) C hO (c_X2_storms l E a (S_spk S (nI j1) (nI j2 - nI 999)) (mk_spk S mk) rk rv (sW E o d25 (S_spk S (nI j1) (nI j2 - nI 999)) F)  hI2) (cwV 0 C.2.2.2.2.1 gL_law_X2_storms rfl rfl rfl (by decide +kernel) ⟨(Nat.le_of_ble_eq_true rfl), (Nat.le_of_ble_eq_true rfl)⟩) (va_recv C.2.2.2.2.2.2.2.1.1 hO.1 (ci := 2) (q0 := 0) rfl rfl) rfl hl.1 rfl (Nat.le_of_ble_eq_true rfl) dL_law_974 ⟨(by show nc + 0 + 0 + 1 + 3 + 1 + 1 + 0 + 1 + 0 ≤ 600172; omega), (by show ns + 0 + 0 + 6 + 100 + 6 + 6 + 0 + 6 + 0 ≤ 7300668; omega)⟩ (fun H locs hO => ?_)
              refine lv_eqi (y := nI (s_sc S)) (by rw [(S_spk_keep S (nI j1) (nI j2 - nI 999)).1]) ?_
              refine lv_iconst (v := 1) C.1 C.2.1 dL_law_977 (by decide) ?_
              refine gSubN (x := (s_sc S)) (y := 1) C.1 C.2.1 (by omega) dL_law_978 ?_
              refine lv_goto (tgt := 983) C.1 C.2.1 dL_law_979 (by decide) ?_
              refine lv_eqi (y := s_tag S) (by unfold s_tag; rw [if_neg hon9]) ?_
              refine lv_icmp_eq (tgt := 988) C.1 C.2.1 dL_law_983 (by decide) (fun c_12 => ?_) (fun c_12 => ?_)
              · have hl : lv_has ls 21 [(0, .ref bs), (1, .ref (a 0)), (2, .ref o), (3, .int (nI t))] := lv_sub hl [2, 3, 4, 5] rfl
                refine gInc (j := t) (k := 3) (lv' := [(3, .int (nI (t + 1))), (0, .ref bs), (1, .ref (a 0)), (2, .ref o)]) C.1 C.2.1 dL_law_988 hl rfl (by decide) rfl (fun ls hl => ?_)
                refine lv_goto (tgt := 22) C.1 C.2.1 dL_law_991 (by decide) ?_
                refine W.widen (k := nc + 7) (n := ns + 124) (by omega) (by omega) ?_
                exact kk (S_spk S (nI j1) (nI j2 - nI 999)) d25 (mk_spk S mk) (hJ.spk (by omega) (ky9_nI (by omega)) _) hR25 _ _ hO _ (lv_sub hl [1, 2, 3, 0] rfl)
              · exact absurd rfl c_12
end LC
