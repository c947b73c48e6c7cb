theorem eNw_i0 : ∀ w ∈ ([.fieldLinkNest RX2 118 RX0 "size" "I" RX2, .fieldLinkNest RX2 121 RX0 "next" "I" RX2, .fieldLinkNest RX2 124 RX0 "offsets" "[I" RX2, .fieldLinkNest RX2 127 RX0 "droppedInAll" "I" RX2, .fieldLinkNest RX2 134 RX0 "keys" "[I" RX2, .fieldLinkNest RX2 140 RX0 "values" "[I" RX2] : List Cond), w ∈ lw_tbl := by
  intro w hw
  simp only [List.mem_cons, List.not_mem_nil, or_false] at hw
  rcases hw with rfl | rfl | rfl | rfl | rfl | rfl <;> decide +kernel
theorem eNw_i1 : ∀ w ∈ ([.fieldLinkNest RX2 143 RX0 "stormNumbers" "[I" RX2, .fieldLinkNest RX2 165 RX1 "heard" "I" RX2, .fieldLinkNest RX2 168 RX1 "missed" "I" RX2, .fieldLinkNest RX2 171 RX1 "known" "[I" RX2, .fieldLinkNest RX2 95 RX1 "pace" "I" RX2, .fieldLinkNest RX2 98 RX1 "offset" "I" RX2] : List Cond), w ∈ lw_tbl := by
  intro w hw
  simp only [List.mem_cons, List.not_mem_nil, or_false] at hw
  rcases hw with rfl | rfl | rfl | rfl | rfl | rfl <;> decide +kernel
theorem eNw_i2 : ∀ w ∈ ([.methodLinkNest RX2 9 yX0_init RX2, .methodLinkNest RX2 26 yX1_init RX2, .methodLinkNest RX2 71 yX0_copyStorm RX2, .methodLinkNest RX2 85 yX0_markAhead RX2, .methodLinkNest RX2 130 yX0_positionOf RX2, .methodLinkNest RX2 149 yX0_latestOffset RX2] : List Cond), w ∈ lw_tbl := by
  intro w hw
  simp only [List.mem_cons, List.not_mem_nil, or_false] at hw
  rcases hw with rfl | rfl | rfl | rfl | rfl | rfl <;> decide +kernel
theorem eNw_i3 : ∀ w ∈ ([.methodLinkNest RX2 152 yX0_latestValue RX2, .methodLinkNest RX2 155 yX0_countKey RX2, .methodLinkNest RX2 158 yX0_countStorm RX2, .methodLinkNest RX2 180 yX0_countMarked RX2, .methodLinkNest RX2 183 yX0_countMarkedFrom RX2, .methodLinkNest RX2 213 yX0_markFirst RX2] : List Cond), w ∈ lw_tbl := by
  intro w hw
  simp only [List.mem_cons, List.not_mem_nil, or_false] at hw
  rcases hw with rfl | rfl | rfl | rfl | rfl | rfl <;> decide +kernel
theorem eNw_i4 : ∀ w ∈ ([.methodLinkNest RX2 216 yX0_append RX2, .methodLinkNest RX2 223 yX0_markCompacted RX2, .methodLinkNest RX2 230 yX0_removeMarked RX2, .methodLinkNest RX2 233 yX0_positionFrom RX2, .methodLinkNest RX2 236 yX1_hear RX2, .methodLinkNest RX2 240 yX0_latestPosition RX2] : List Cond), w ∈ lw_tbl := by
  intro w hw
  simp only [List.mem_cons, List.not_mem_nil, or_false] at hw
  rcases hw with rfl | rfl | rfl | rfl | rfl | rfl <;> decide +kernel
theorem eNw_i5 : ∀ w ∈ ([.castable "java/lang/IllegalArgumentException" "java/lang/IllegalArgumentException", .castable "java/lang/IllegalStateException" "java/lang/IllegalStateException", .castable "java/lang/IndexOutOfBoundsException" "java/lang/IndexOutOfBoundsException", .declares (Bundle.initS "java/lang/RuntimeException"), .declares (Bundle.initS "java/lang/Exception"), .declares (Bundle.initS Bundle.tN)] : List Cond), w ∈ lw_tbl := by
  intro w hw
  simp only [List.mem_cons, List.not_mem_nil, or_false] at hw
  rcases hw with rfl | rfl | rfl | rfl | rfl | rfl <;> decide +kernel
theorem eNw_in9 : ∀ w ∈ eNw, w ∈ lw_tbl := by
  show ∀ w ∈ ([.fieldLinkNest RX2 118 RX0 "size" "I" RX2, .fieldLinkNest RX2 121 RX0 "next" "I" RX2, .fieldLinkNest RX2 124 RX0 "offsets" "[I" RX2, .fieldLinkNest RX2 127 RX0 "droppedInAll" "I" RX2, .fieldLinkNest RX2 134 RX0 "keys" "[I" RX2, .fieldLinkNest RX2 140 RX0 "values" "[I" RX2] : List Cond) ++ (([.fieldLinkNest RX2 143 RX0 "stormNumbers" "[I" RX2, .fieldLinkNest RX2 165 RX1 "heard" "I" RX2, .fieldLinkNest RX2 168 RX1 "missed" "I" RX2, .fieldLinkNest RX2 171 RX1 "known" "[I" RX2, .fieldLinkNest RX2 95 RX1 "pace" "I" RX2, .fieldLinkNest RX2 98 RX1 "offset" "I" RX2] : List Cond) ++ (([.methodLinkNest RX2 9 yX0_init RX2, .methodLinkNest RX2 26 yX1_init RX2, .methodLinkNest RX2 71 yX0_copyStorm RX2, .methodLinkNest RX2 85 yX0_markAhead RX2, .methodLinkNest RX2 130 yX0_positionOf RX2, .methodLinkNest RX2 149 yX0_latestOffset RX2] : List Cond) ++ (([.methodLinkNest RX2 152 yX0_latestValue RX2, .methodLinkNest RX2 155 yX0_countKey RX2, .methodLinkNest RX2 158 yX0_countStorm RX2, .methodLinkNest RX2 180 yX0_countMarked RX2, .methodLinkNest RX2 183 yX0_countMarkedFrom RX2, .methodLinkNest RX2 213 yX0_markFirst RX2] : List Cond) ++ (([.methodLinkNest RX2 216 yX0_append RX2, .methodLinkNest RX2 223 yX0_markCompacted RX2, .methodLinkNest RX2 230 yX0_removeMarked RX2, .methodLinkNest RX2 233 yX0_positionFrom RX2, .methodLinkNest RX2 236 yX1_hear RX2, .methodLinkNest RX2 240 yX0_latestPosition RX2] : List Cond) ++ (([.castable "java/lang/IllegalArgumentException" "java/lang/IllegalArgumentException", .castable "java/lang/IllegalStateException" "java/lang/IllegalStateException", .castable "java/lang/IndexOutOfBoundsException" "java/lang/IndexOutOfBoundsException", .declares (Bundle.initS "java/lang/RuntimeException"), .declares (Bundle.initS "java/lang/Exception"), .declares (Bundle.initS Bundle.tN)] : List Cond)))))), w ∈ lw_tbl
  exact List.forall_mem_append.mpr ⟨eNw_i0, List.forall_mem_append.mpr ⟨eNw_i1, List.forall_mem_append.mpr ⟨eNw_i2, List.forall_mem_append.mpr ⟨eNw_i3, List.forall_mem_append.mpr ⟨eNw_i4, eNw_i5⟩⟩⟩⟩⟩
theorem eStr_in9 : ∀ q ∈ eStr, Cond.stringRef RX2 q.1 q.2 ∈ lw_tbl := by
  intro q hq
  simp only [eStr, List.mem_cons, List.not_mem_nil, or_false] at hq
  rcases hq with rfl | rfl | rfl | rfl | rfl | rfl | rfl | rfl | rfl | rfl | rfl | rfl <;> decide +kernel
theorem cls_arr9 {s : State} {args : Array Value} {ty : FieldType} (h9 : (Cond.arrayClass ty).before args s = true) (hty : ∀ C9, ty ≠ .object C9) : ∃ cA : ClassId, ArrOfT s cA ty ∧ va_RA s cA ty := by
  obtain ⟨cA, kA, comp, f1, f2, f3⟩ := Cond.arrayClass_spec h9
  refine ⟨cA, fun N z => ⟨(fun k h => by cases h), kA, f2, comp, f3⟩, ?_⟩
  cases ty <;> first | exact absurd rfl (hty _) | exact f1
theorem cls_arrO9 {s : State} {C9 : String} (h9 : va_AO C9 s) : ∃ cA : ClassId, ArrOfT s cA (.object C9) ∧ va_RA s cA (.object C9) := by
  obtain ⟨comp, cA, kA, f1, -, f2, f3, f4⟩ := Cond.arrayOver_spec h9
  exact ⟨cA, fun N z => ⟨(fun k h => by cases h), kA, f2, comp, f3⟩, kA, comp, f2, f3, f1, f4⟩
theorem cls_arrA9 {s : State} (h9 : va_A2 s) : ∃ cA : ClassId, ArrOfT s cA (.array .int) ∧ va_RA s cA (.array .int) := by
  obtain ⟨comp, cA, kA, h1, h2, h3, h4, h5⟩ := arrayOverA_spec h9
  exact ⟨cA, fun N z => ⟨(fun k h => by cases h), kA, h3, comp, h4⟩, h5⟩
theorem ty_all9 {s : State} {x0 x1 x2 x3 : ClassId × FieldType} (h0 : ArrOfT s x0.1 x0.2 ∧ va_RA s x0.1 x0.2) (h1 : ArrOfT s x1.1 x1.2 ∧ va_RA s x1.1 x1.2) (h2 : ArrOfT s x2.1 x2.2 ∧ va_RA s x2.1 x2.2) (h3 : ArrOfT s x3.1 x3.2 ∧ va_RA s x3.1 x3.2) : ∀ (k : Nat) (q : ClassId × FieldType), [x0, x1, x2, x3][k]? = some q → ArrOfT s q.1 q.2 ∧ va_RA s q.1 q.2 := by
  intro k q hq
  match k, hq with
  | 0, hq => cases hq; exact h0
  | 1, hq => cases hq; exact h1
  | 2, hq => cases hq; exact h2
  | 3, hq => cases hq; exact h3
theorem kn_all9 {s : State} {D9 : va_G} (h0 : u_Kn s RX0 TX0 8 (D9.1 0) (D9.2 0)) (h1 : u_Kn s RX1 TX1 5 (D9.1 1) (D9.2 1)) (h2 : u_Kn s RX2 TX2 9 (D9.1 2) (D9.2 2)) (h3 : u_Kn s RX3 TX3 7 (D9.1 3) (D9.2 3)) : ∀ (c : Nat) (q : vw_C), vwCl[c]? = some q → u_Kn s q.1 q.2.1 q.2.2 (D9.1 c) (D9.2 c) := by
  intro k q hq
  match k, hq with
  | 0, hq => cases hq; exact h0
  | 1, hq => cases hq; exact h1
  | 2, hq => cases hq; exact h2
  | 3, hq => cases hq; exact h3
/-- what the tables say at the law's entry -/
theorem ent9 {s : State} {bs : Nat} (hts : ∀ w ∈ lw_tbl, w.before #[Value.ref bs] s = true) (hgv : (Jvm.Cond.and given_1 narrow_1).before #[Value.ref bs] s = true) : ∃ E : gE, eOk E s ∧ va_AO RX1 s ∧ gZ (fun q => s.heap.size ≤ q) s s.heap := by
  have hao : va_AO RX1 s := va_AO.of (hts (.arrayOver (.object RX1)) (by decide +kernel))
  obtain ⟨c0, i0, k0⟩ := u_known (ws := lw_tbl) hts (fun w h9 => inX0 w h9) (hts (.instantiable RX0 8) (by decide +kernel))
  obtain ⟨c1, i1, k1⟩ := u_known (ws := lw_tbl) hts (fun w h9 => inX1 w h9) (hts (.instantiable RX1 5) (by decide +kernel))
  obtain ⟨c2, i2, k2⟩ := u_known (ws := lw_tbl) hts (fun w h9 => inX2 w h9) (hts (.instantiable RX2 9) (by decide +kernel))
  obtain ⟨c3, i3, k3⟩ := u_known (ws := lw_tbl) hts (fun w h9 => inX3 w h9) (hts (.instantiable RX3 7) (by decide +kernel))
  obtain ⟨aI, tI⟩ := cls_arr9 (hts (.arrayClass .int) (by decide +kernel)) (fun C9 h9 => by cases h9)
  obtain ⟨aZ, tZ⟩ := cls_arr9 (hts (.arrayClass .boolean) (by decide +kernel)) (fun C9 h9 => by cases h9)
  have ha2 : va_A2 s := hts (.arrayOver (.array .int)) (by decide +kernel)
  obtain ⟨aL, tL⟩ := cls_arrA9 ha2
  obtain ⟨aO, tO⟩ := cls_arrO9 hao
  have hstr : ∀ q : Nat × String, ∃ adr : Nat, q ∈ eStr → vk_R RX2 q.1 q.2 adr s := by
    intro q
    by_cases hq : q ∈ eStr
    · have h9 := hts _ (eStr_in9 q hq)
      obtain ⟨k, cf, i, adr, -, -, -, -, -, hev⟩ := Cond.stringRef_spec (s := s) k2.2.1 h9
      exact ⟨adr, fun _ => vk_R.of h9 hev⟩
    · exact ⟨0, fun h9 => absurd h9 hq⟩
  have hstr2 : ∀ n : Nat, ∃ adr : Nat, ∀ tx : String, (n, tx) ∈ eStr → vk_R RX2 n tx adr s := by
    intro n
    by_cases hn9 : ∃ tx, (n, tx) ∈ eStr
    · obtain ⟨tx, hq⟩ := hn9
      obtain ⟨adr, ha9⟩ := hstr (n, tx)
      refine ⟨adr, fun tx2 hq2 => ?_⟩
      have e9 : tx2 = tx := by
        have h9 : ∀ x ∈ eStr, ∀ y ∈ eStr, x.1 = y.1 → x.2 = y.2 := by decide +kernel
        exact h9 _ hq2 _ hq rfl
      subst e9
      exact ha9 hq
    · exact ⟨0, fun tx hq => absurd ⟨tx, hq⟩ hn9⟩
  refine ⟨((fun c => if c = 0 then c0 else if c = 1 then c1 else if c = 2 then c2 else c3, fun c => if c = 0 then i0 else if c = 1 then i1 else if c = 2 then i2 else i3), aI, aZ, aO, aL, fun n => (hstr2 n).choose), ⟨⟨kn_all9 k0 k1 k2 k3, ty_all9 tI tZ tO tL⟩, fun w hw => va_Nw.of (eNw_ot w hw) (hts w (eNw_in9 w hw)), fun q hq => (hstr2 q.1).choose_spec q.2 hq, ha2⟩, hao, ?_, ?_⟩
  · exact vx_Zqof (hts (.laysStatic Bundle.tN "UNASSIGNED_STACK" Bundle.steD) (by decide +kernel)) (hts (.initialized Bundle.tN) (by decide +kernel)) (flat_of_before _ hgv _ (by decide +kernel)) (fun a9 h9 h8 => by omega)
  · exact vx_Zqof (hts (.laysStatic Bundle.tN "SUPPRESSED_SENTINEL" Bundle.listD) (by decide +kernel)) (hts (.initialized Bundle.tN) (by decide +kernel)) (flat_of_before _ hgv _ (by decide +kernel)) (fun a9 h9 h8 => by omega)
