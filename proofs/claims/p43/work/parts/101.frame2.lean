theorem iNlt {x y : Int32} (h : y ≤ x) : ¬ x < y := by rw [Int32.le_iff_toInt_le] at h; rw [Int32.lt_iff_toInt_lt]; omega
theorem iLt {x y : Int32} (h : ¬ y ≤ x) : x < y := by rw [Int32.le_iff_toInt_le] at h; rw [Int32.lt_iff_toInt_lt]; omega
theorem bT {P : Prop} [Decidable P] (h : ¬ (if P then (1 : Int32) else 0) = 0) : P := by
  by_cases q : P
  · exact q
  · rw [if_neg q] at h; exact absurd rfl h
theorem bF {P : Prop} [Decidable P] (h : (if P then (1 : Int32) else 0) = 0) : ¬ P := by
  intro q
  rw [if_pos q] at h
  exact absurd h (by decide)
theorem eNw_ot : ∀ w ∈ eNw, w.onTables = true := by decide +kernel
section GD
variable {p : Program} {l : Launch} {e : Env} {R : Room} {s : State} {m : MethodId} {args : Array Value} {below : List Frame} {meth : Method} {c : Code} {H : Heap} {locs : List Loc} {cells slots : Nat} {Q : State → Prop}
variable {E : gE} {A : Nat → Prop} {ws ws' : va_W} {y : MethodName} {wl wl' : List Cond} {rm : Room} {av : List Value} {mc ms : Nat} {cc bytes : ByteArray} {maxL nL : Nat} {ret : Option FieldType} {Ts : List Cond} {own : String}
variable {pc : Nat} {ls : Array Slot} {rest : List Value} {index n : Nat} {Cn : String} {b : Nat} {As st0 : List Value} {host : String}
theorem gNb (C : gCx p s m args meth c cc nL Ts own ret E A) : ∀ w ∈ eNw, w.before args s = true := fun w hw => va_Nw.use (eNw_ot w hw) (C.2.2.2.2.2.2.2.1.2.1 w hw)
theorem lv_eqi {x y : Int32} (h : x = y) (k : W p l e R s m args below meth c H locs cells slots Q (F0 m pc ls (.int y :: rest))) : W p l e R s m args below meth c H locs cells slots Q (F0 m pc ls (.int x :: rest)) := h ▸ k
theorem gGeI {x y : Int32} {tgt : Nat} {off : Int} (hexec : p.tables.exec = Jvm.exec) (hb : c.code = cc) (hdg : decode cc pc = .ok (.if_icmp .ge off, 3)) (ht : (pc : Int) + off = (tgt : Int)) (kt : ¬ x < y → W p l e R s m args below meth c H locs cells slots Q (F0 m tgt ls rest)) (kf : x < y → W p l e R s m args below meth c H locs cells slots Q (F0 m (pc + 3) ls rest)) : W p l e R s m args below meth c H locs cells slots Q (F0 m pc ls (.int y :: .int x :: rest)) :=
  lv_icmp_ge hexec hb hdg ht (fun h => kt (iNlt h)) (fun h => kf (iLt h))
theorem gLeI {x y : Int32} {tgt : Nat} {off : Int} (hexec : p.tables.exec = Jvm.exec) (hb : c.code = cc) (hdg : decode cc pc = .ok (.if_icmp .le off, 3)) (ht : (pc : Int) + off = (tgt : Int)) (kt : ¬ y < x → W p l e R s m args below meth c H locs cells slots Q (F0 m tgt ls rest)) (kf : y < x → W p l e R s m args below meth c H locs cells slots Q (F0 m (pc + 3) ls rest)) : W p l e R s m args below meth c H locs cells slots Q (F0 m pc ls (.int y :: .int x :: rest)) :=
  lv_icmp_le hexec hb hdg ht (fun h => kt (iNlt h)) (fun h => kf (iLt h))
theorem gGe0 {x : Int32} {tgt : Nat} {off : Int} (hexec : p.tables.exec = Jvm.exec) (hb : c.code = cc) (hdg : decode cc pc = .ok (.ifCond .ge off, 3)) (ht : (pc : Int) + off = (tgt : Int)) (kt : ¬ x < 0 → W p l e R s m args below meth c H locs cells slots Q (F0 m tgt ls rest)) (kf : x < 0 → W p l e R s m args below meth c H locs cells slots Q (F0 m (pc + 3) ls rest)) : W p l e R s m args below meth c H locs cells slots Q (F0 m pc ls (.int x :: rest)) :=
  lv_if_ge hexec hb hdg ht (fun h => kt (iNlt h)) (fun h => kf (iLt h))
theorem gLe0 {x : Int32} {tgt : Nat} {off : Int} (hexec : p.tables.exec = Jvm.exec) (hb : c.code = cc) (hdg : decode cc pc = .ok (.ifCond .le off, 3)) (ht : (pc : Int) + off = (tgt : Int)) (kt : ¬ 0 < x → W p l e R s m args below meth c H locs cells slots Q (F0 m tgt ls rest)) (kf : 0 < x → W p l e R s m args below meth c H locs cells slots Q (F0 m (pc + 3) ls rest)) : W p l e R s m args below meth c H locs cells slots Q (F0 m pc ls (.int x :: rest)) :=
  lv_if_le hexec hb hdg ht (fun h => kt (iNlt h)) (fun h => kf (iLt h))
/-- throw new E0(text), over the world as it was at the start -/
theorem gThrow {E0 text : String} {ik is ic sa : Nat} {bad : String → Prop} {Qc : Array Value → State → Outcome → State → Prop} (C : gCx p s m args meth c cc nL Ts own ret E A) (hst : l.stackTraces = false) (hO : gO E A s ws H locs) (hnt : ∀ x ∈ c.exceptionTable.toList, False) (hsize : ls.size = nL)
    (hcls : Bundle.fit E0 = true) (hk : (Cond.classLink own ik E0).before args s = true) (hini : (Cond.initialized E0).before args s = true) (hstr : vk_R own is text sa s) (hat : ∀ w ∈ vx_atS own ic E0 ["java/lang/RuntimeException", "java/lang/Exception"], w.before args s = true)
    (hgood : ∀ w ∈ Cond.classLink own ik E0 :: Cond.initialized E0 :: vx_atS own ic E0 ["java/lang/RuntimeException", "java/lang/Exception"], vx_ot w = true) (hb : bad E0)
    (d0 : decode cc pc = .ok (.new ik, 3)) (d3 : decode cc (pc + 3) = .ok (.dup, 1)) (d4 : decode cc (pc + 4) = .ok (.ldc is, 2)) (d6 : decode cc (pc + 6) = .ok (.invokespecial ic, 3)) (d9 : decode cc (pc + 9) = .ok (.athrow, 1))
    (hRframes : 5 < R.frames) (hRlocals : (rest.map fun v => v.category).sum + 82 ≤ R.locals) (hRcells : cells + 1 ≤ R.cells) (hRslots : slots + 6 ≤ R.slots) (h1 : cells + 1 ≤ mc) (h2 : slots + 6 ≤ ms) :
    W p l e R s m args below meth c H locs cells slots (vx_MQ below Qc (gXC E A bad ws) args s mc ms A) (F0 m pc ls rest) :=
  vx_throwS (names := ["java/lang/RuntimeException", "java/lang/Exception"]) (A := A) C.1 C.2.1 hst C.2.2.2.1 hcls (by decide +kernel) hk hini hstr hat hgood C.2.2.2.2.2.2.2.2.2.1 C.2.2.2.2.2.2.2.2.2.2 hO.2.2 (hsize.trans C.2.2.1.symm) d0 d3 d4 d6 d9 (fun x hx => (hnt x hx).elim) hRframes hRlocals hRcells hRslots C.2.2.2.2.2.2.1
    (fun t _ hz hk => ⟨(), trivial, ⟨hb, hO.1.kept (fun k q hq => hk q.1 ((hO.1 k q hq).lt)), hO.2.1⟩, ⟨Nat.le_trans hO.2.2.1 hz, fun q h1 h2 => (hk q (Nat.lt_of_lt_of_le h1 hO.2.2.1)).trans (hO.2.2.2.1 q h1 h2)⟩⟩) hO.2.2.2.2 h1 h2
theorem gXCall_i {r : Int32} {ok : Prop} {bad : String → Prop} (C : gCx p s m args meth c cc nL Ts own ret E A) (hO : gO E A s ws H locs) (hM : gXi l E y wl rm ws (.ref b :: As) ok r ws' bad mc ms) {ret1 : Option FieldType} (cw : CallW R s args own Cn index y bytes maxL ret1 wl rm mc ms n) (hrc : ∃ cell : Cell, H[b]? = some cell ∧ cell.vm.isStatics = false ∧ s.vm.findClass Cn = some cell.cls) (hn : As.length = n) (hsize : ls.size = nL) (hst : st0 = As.reverse ++ .ref b :: rest) (hW : (rest.map fun v => v.category).sum ≤ 8) (hdg : decode cc pc = .ok (.invokevirtual index, 3)) (hf : cells + mc ≤ R.cells ∧ slots + ms ≤ R.slots)
    (kx : ∀ (E0 : String) (ce : Cell) (q9 : Addr) (H1 : Heap) (locs1 : List Loc), gO E A s ws H1 locs1 → H1[q9]? = some ce → ce.vm = .none → s.vm.findClass E0 = some ce.cls → bad E0 → vx_W p l e R s m args below meth c H1 locs1 (cells + mc) (slots + ms) Q (F0 m pc ls rest) q9)
    (kk : ∀ (H1 : Heap) (locs1 : List Loc), gO E A s ws' H1 locs1 → ok → W p l e R s m args below meth c H1 locs1 (cells + mc) (slots + ms) Q (F0 m (pc + 3) ls (.int r :: rest))) : W p l e R s m args below meth c H locs cells slots Q (F0 m pc ls st0) := by
  refine vx_calli (vx_runV (As := As) (rest := rest) C.fix (hM H.size) cw ⟨gP_blind, hrc, fun U hU hW => gPre C hO hU hW _⟩ rfl hn hsize hst (lv_room hW) hdg hf) hO.2.2 (fun q _ h => gO.free C.2.2.2.2.2.2.2.2.1 hO q h) (gO.free C.2.2.2.2.2.2.2.2.1 hO) (fun q _ h => gO.free C.2.2.2.2.2.2.2.2.1 hO q h) (fun E0 ce q9 u t H1 locs1 ht hvm hpx hBX hz1 hk1 hS hce hcv hcl => ?_) (fun r1 u t H1 locs1 ht hvm hw hB hz1 hk1 hS => ?_)
  · exact kx E0 ce q9 H1 locs1 (gBack C hO ht hBX.2 hS) hce hcv hcl hBX.1
  · obtain ⟨hok, hw⟩ := hw
    subst hw
    exact kk H1 locs1 (gBack C hO ht hB hS) hok
theorem gXCall_v {ok : Prop} {bad : String → Prop} (C : gCx p s m args meth c cc nL Ts own ret E A) (hO : gO E A s ws H locs) (hM : gXv l E y wl rm ws (.ref b :: As) ok ws' bad mc ms) {ret1 : Option FieldType} (cw : CallW R s args own Cn index y bytes maxL ret1 wl rm mc ms n) (hrc : ∃ cell : Cell, H[b]? = some cell ∧ cell.vm.isStatics = false ∧ s.vm.findClass Cn = some cell.cls) (hn : As.length = n) (hsize : ls.size = nL) (hst : st0 = As.reverse ++ .ref b :: rest) (hW : (rest.map fun v => v.category).sum ≤ 8) (hdg : decode cc pc = .ok (.invokevirtual index, 3)) (hf : cells + mc ≤ R.cells ∧ slots + ms ≤ R.slots)
    (kx : ∀ (E0 : String) (ce : Cell) (q9 : Addr) (H1 : Heap) (locs1 : List Loc), gO E A s ws H1 locs1 → H1[q9]? = some ce → ce.vm = .none → s.vm.findClass E0 = some ce.cls → bad E0 → vx_W p l e R s m args below meth c H1 locs1 (cells + mc) (slots + ms) Q (F0 m pc ls rest) q9)
    (kk : ∀ (H1 : Heap) (locs1 : List Loc), gO E A s ws' H1 locs1 → ok → W p l e R s m args below meth c H1 locs1 (cells + mc) (slots + ms) Q (F0 m (pc + 3) ls rest)) : W p l e R s m args below meth c H locs cells slots Q (F0 m pc ls st0) := by
  refine vx_callv (vx_runV (As := As) (rest := rest) C.fix (hM H.size) cw ⟨gP_blind, hrc, fun U hU hW => gPre C hO hU hW _⟩ rfl hn hsize hst (lv_room hW) hdg hf) hO.2.2 (fun q _ h => gO.free C.2.2.2.2.2.2.2.2.1 hO q h) (gO.free C.2.2.2.2.2.2.2.2.1 hO) (fun q _ h => gO.free C.2.2.2.2.2.2.2.2.1 hO q h) (fun E0 ce q9 u t H1 locs1 ht hvm hpx hBX hz1 hk1 hS hce hcv hcl => ?_) (fun u t H1 locs1 ht hvm hw hB hz1 hk1 hS => ?_)
  · exact kx E0 ce q9 H1 locs1 (gBack C hO ht hBX.2 hS) hce hcv hcl hBX.1
  · exact kk H1 locs1 (gBack C hO ht hB hS) hw
theorem gXCallS_v {ok : Prop} {bad : String → Prop} (C : gCx p s m args meth c cc nL Ts own ret E A) (hO : gO E A s ws H locs) (hM : gXv l E y wl rm ws As ok ws' bad mc ms) {ret1 : Option FieldType} (cw : CallB R s args own index y bytes maxL ret1 wl rm mc ms n ∧ (Cond.static y).before args s = true) (hn : As.length = n) (hsize : ls.size = nL) (hst : st0 = As.reverse ++ rest) (hW : (rest.map fun v => v.category).sum ≤ 8) (hdg : decode cc pc = .ok (.invokestatic index, 3)) (hf : cells + mc ≤ R.cells ∧ slots + ms ≤ R.slots)
    (kx : ∀ (E0 : String) (ce : Cell) (q9 : Addr) (H1 : Heap) (locs1 : List Loc), gO E A s ws H1 locs1 → H1[q9]? = some ce → ce.vm = .none → s.vm.findClass E0 = some ce.cls → bad E0 → vx_W p l e R s m args below meth c H1 locs1 (cells + mc) (slots + ms) Q (F0 m pc ls rest) q9)
    (kk : ∀ (H1 : Heap) (locs1 : List Loc), gO E A s ws' H1 locs1 → ok → W p l e R s m args below meth c H1 locs1 (cells + mc) (slots + ms) Q (F0 m (pc + 3) ls rest)) : W p l e R s m args below meth c H locs cells slots Q (F0 m pc ls st0) := by
  refine vx_callv (vx_runS (As := As) (rest := rest) C.fix (hM H.size) cw ⟨gP_blind, fun U hU hW => gPre C hO hU hW _⟩ rfl hn hsize hst (lv_room hW) hdg hf) hO.2.2 (fun q _ h => gO.free C.2.2.2.2.2.2.2.2.1 hO q h) (gO.free C.2.2.2.2.2.2.2.2.1 hO) (fun q _ h => gO.free C.2.2.2.2.2.2.2.2.1 hO q h) (fun E0 ce q9 u t H1 locs1 ht hvm hpx hBX hz1 hk1 hS hce hcv hcl => ?_) (fun u t H1 locs1 ht hvm hw hB hz1 hk1 hS => ?_)
  · exact kx E0 ce q9 H1 locs1 (gBack C hO ht hBX.2 hS) hce hcv hcl hBX.1
  · exact kk H1 locs1 (gBack C hO ht hB hS) hw
-- WORLDS THAT GROW
theorem gO.new {W0 F : va_W} {x : Nat × va_E} (hO : gO E A s ((W0 ++ F) ++ [x]) H locs) : gO E A s (W0 ++ (x :: F)) H locs := by
  have h1 := hO.1.swap
  have h2 := hO.2.1.swap
  rw [List.append_assoc] at h1 h2
  exact ⟨h1, h2, hO.2.2⟩
theorem gO.drop {W0 F : va_W} {x : Nat × va_E} (hO : gO E A s (W0 ++ (x :: F)) H locs) : gO E A s (W0 ++ F) H locs := by
  have e : W0 ++ (x :: F) = (W0 ++ [x]) ++ F := by simp
  have h1 := hO.1
  have h2 := hO.2.1
  rw [e] at h1 h2
  have h3 := h1.swap
  have h4 := h2.swap
  refine ⟨h3.by id (fun k q hk => ?_), h4.by id (fun k q hk => ?_) (fun i j _ _ h => h), hO.2.2⟩
  · rw [id, List.getElem?_append_left (List.getElem?_eq_some_iff.mp hk).1]; exact hk
  · rw [id, List.getElem?_append_left (List.getElem?_eq_some_iff.mp hk).1]; exact hk
theorem gCls {ty : FieldType} {cA : ClassId} {tys : List (ClassId × FieldType)} (hK : va_K E.1 vwCl (tys ++ [(cA, ty)]) s) {k : Nat} {cB : ClassId} (hk : tys[k]? = some (cB, ty)) (hty : ∀ C, ty ≠ .object C) : cA = cB := by
  have hlt := (List.getElem?_eq_some_iff.mp hk).1
  have h1 := (hK.2 k (cB, ty) (by rw [List.getElem?_append_left hlt]; exact hk)).2
  have h2 := (hK.2 tys.length (cA, ty) (by simp)).2
  cases ty <;> first | exact absurd rfl (hty _) | (have q1 : s.vm.findClass _ = some cB := h1; have q2 : s.vm.findClass _ = some cA := h2; exact Option.some.inj (q2.symm.trans q1))
theorem gNewI {W0 F : va_W} {N9 : Nat} (C : gCx p s m args meth c cc nL Ts own ret E A) (harr : (Cond.arrayClass .int).before args s = true) (hO : gO E A s (W0 ++ F) H locs) (hN : N9 < 1000) (hcells : cells + 1 ≤ R.cells) (hslots : slots + N9 ≤ R.slots) (hdg : decode cc pc = .ok (.newarray .int, 2))
    (kk : ∀ (q : Nat) (H1 : Heap), gO E A s (W0 ++ ((q, .inl (eI E, N9, .inl (fun _ => 0))) :: F)) H1 locs → W p l e R s m args below meth c H1 locs (cells + 1) (slots + N9) Q (F0 m (pc + 2) ls (.ref q :: rest))) : W p l e R s m args below meth c H locs cells slots Q (F0 m pc ls (.int (nI N9) :: rest)) := by
  refine va_newa (a0 := (N9, .inl (fun _ => 0))) (N' := N9) (atype := .int) (ty := .int) C.1 C.2.1 harr rfl C.2.2.2.2.2.2.2.1.1 hO.1 hO.2.1 hO.2.2 C.2.2.2.2.2.2.2.2.1 (fun cA => rfl) (nI_pos (by omega)) (nI_clamp (by omega)) (by rw [show componentBytes FieldType.int = 4 from rfl]; omega) hcells hslots hdg (fun q cA H1 hK hP hD hS => ?_)
  have e := gCls (E := E) hK (k := 0) (cB := eI E) rfl (by intro C h; cases h)
  subst e
  exact kk q H1 (gO.new ⟨hP, hD, hS⟩)
theorem gNewZ {W0 F : va_W} {N9 : Nat} (C : gCx p s m args meth c cc nL Ts own ret E A) (harr : (Cond.arrayClass .boolean).before args s = true) (hO : gO E A s (W0 ++ F) H locs) (hN : N9 < 1000) (hcells : cells + 1 ≤ R.cells) (hslots : slots + N9 ≤ R.slots) (hdg : decode cc pc = .ok (.newarray .boolean, 2))
    (kk : ∀ (q : Nat) (H1 : Heap), gO E A s (W0 ++ ((q, .inl (eZ E, N9, .inl (fun _ => 0))) :: F)) H1 locs → W p l e R s m args below meth c H1 locs (cells + 1) (slots + N9) Q (F0 m (pc + 2) ls (.ref q :: rest))) : W p l e R s m args below meth c H locs cells slots Q (F0 m pc ls (.int (nI N9) :: rest)) := by
  refine va_newa (a0 := (N9, .inl (fun _ => 0))) (N' := N9) (atype := .boolean) (ty := .boolean) C.1 C.2.1 harr rfl C.2.2.2.2.2.2.2.1.1 hO.1 hO.2.1 hO.2.2 C.2.2.2.2.2.2.2.2.1 (fun cA => rfl) (nI_pos (by omega)) (nI_clamp (by omega)) (by rw [show componentBytes FieldType.boolean = 1 from rfl]; omega) hcells hslots hdg (fun q cA H1 hK hP hD hS => ?_)
  have e := gCls (E := E) hK (k := 1) (cB := eZ E) rfl (by intro C h; cases h)
  subst e
  exact kk q H1 (gO.new ⟨hP, hD, hS⟩)
end GD
