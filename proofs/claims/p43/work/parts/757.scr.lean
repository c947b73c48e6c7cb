-- THE LAW'S OWN LOG, NEW
set_option maxHeartbeats 4000000 in
set_option maxRecDepth 100000 in
theorem c_X3_init (l : Launch) (E : gE) (o : Nat) (F : va_W) : gMf l E yX3_init wsX3_init ({ frames := 1, cells := 3, slots := 0, locals := 12 }) ((o, .inr (3, [.int 0, .int 0, .int 0, .int 0, .null, .null, .null])) :: F) [.ref o] (fun (d9 : Dt) => Rep E d9 S0) (fun (d9 : Dt) => sW E o d9 S0 F) 3 0 := by
  refine gMf.of (cc := cX3_init) (maxL := 1) (by decide) rfl (Nat.le_of_ble_eq_true rfl) ?_
  intro p e s m args below meth c A C ls hl hO
  have hl : lv_has ls 1 [(0, .ref o)] := hl
  have iX3 : ∀ w ∈ u_ws RX3 TX3 7, w ∈ wsX3_init := by decide +kernel
  refine lv_aload_n C.1 C.2.1 dX3_init_0 rfl (lv_at hl 0 rfl) ?_
  refine gObj C (by decide +kernel) (by decide +kernel) (by decide +kernel) hl.1 dX3_init_1 (Nat.le_of_ble_eq_true rfl) (Nat.le_of_ble_eq_true rfl) ?_
  have hO : gO E A s ([(o, .inr (3, [.int 0, .int 0, .int 0, .int 0, .null, .null, .null]))] ++ F) s.heap [] := hO
  refine lv_aload_n C.1 C.2.1 dX3_init_4 rfl (lv_at hl 0 rfl) ?_
  refine lv_iconst (v := nI 0) C.1 C.2.1 dX3_init_5 (by decide) ?_
  refine gNewA (N9 := 0) C (by decide +kernel) hO (by decide) (Nat.le_of_ble_eq_true rfl) (Nat.le_of_ble_eq_true rfl) dX3_init_6 (fun q1 H hO => ?_)
  refine gPut (ws' := [(o, .inr (3, [.int 0, .int 0, .int 0, .int 0, .ref q1, .null, .null])), (q1, .inl (eL E, 0, .inr (.inr (.inr (.inr (fun _ => none))))))] ++ F) (ref := RX3) (Cn := RX3) (T := TX3) (N := 7) C iX3 tyX3 tyX3_ok nmX3 hO 0 rfl rfl 4 (by decide) (by decide +kernel) (fun _ h9 => h9) rfl (by decide +kernel) rfl rfl (Nat.le_of_ble_eq_true rfl) rfl dX3_init_9 (fun H locs hO => ?_)
  refine lv_aload_n C.1 C.2.1 dX3_init_12 rfl (lv_at hl 0 rfl) ?_
  refine lv_iconst (v := nI 0) C.1 C.2.1 dX3_init_13 (by decide) ?_
  refine gNewI (W0 := [(o, .inr (3, [.int 0, .int 0, .int 0, .int 0, .ref q1, .null, .null])), (q1, .inl (eL E, 0, .inr (.inr (.inr (.inr (fun _ => none))))))]) (F := F) (N9 := 0) C (C.2.2.2.2.1 (.arrayClass .int) (by decide +kernel)) hO (by decide) (Nat.le_of_ble_eq_true rfl) (Nat.le_of_ble_eq_true rfl) dX3_init_14 (fun q2 H hO => ?_)
  refine gPut (ws' := [(o, .inr (3, [.int 0, .int 0, .int 0, .int 0, .ref q1, .ref q2, .null])), (q1, .inl (eL E, 0, .inr (.inr (.inr (.inr (fun _ => none)))))), (q2, .inl (eI E, 0, .inl (fun _ => 0)))] ++ F) (ref := RX3) (Cn := RX3) (T := TX3) (N := 7) C iX3 tyX3 tyX3_ok nmX3 hO 0 rfl rfl 5 (by decide) (by decide +kernel) (fun _ h9 => h9) rfl (by decide +kernel) rfl rfl (Nat.le_of_ble_eq_true rfl) rfl dX3_init_16 (fun H locs hO => ?_)
  refine lv_aload_n C.1 C.2.1 dX3_init_19 rfl (lv_at hl 0 rfl) ?_
  refine lv_iconst (v := nI 0) C.1 C.2.1 dX3_init_20 (by decide) ?_
  refine gNewA (W0 := [(o, .inr (3, [.int 0, .int 0, .int 0, .int 0, .ref q1, .ref q2, .null])), (q1, .inl (eL E, 0, .inr (.inr (.inr (.inr (fun _ => none)))))), (q2, .inl (eI E, 0, .inl (fun _ => 0)))]) (F := F) (N9 := 0) C (by decide +kernel) hO (by decide) (Nat.le_of_ble_eq_true rfl) (Nat.le_of_ble_eq_true rfl) dX3_init_21 (fun q3 H hO => ?_)
  refine gPut (ws' := [(o, .inr (3, [.int 0, .int 0, .int 0, .int 0, .ref q1, .ref q2, .ref q3])), (q1, .inl (eL E, 0, .inr (.inr (.inr (.inr (fun _ => none)))))), (q2, .inl (eI E, 0, .inl (fun _ => 0))), (q3, .inl (eL E, 0, .inr (.inr (.inr (.inr (fun _ => none))))))] ++ F) (ref := RX3) (Cn := RX3) (T := TX3) (N := 7) C iX3 tyX3 tyX3_ok nmX3 hO 0 rfl rfl 6 (by decide) (by decide +kernel) (fun _ h9 => h9) rfl (by decide +kernel) rfl rfl (Nat.le_of_ble_eq_true rfl) rfl dX3_init_24 (fun H locs hO => ?_)
  exact gRf (mkD9 q1 q2 q3 (fun _ => none) (fun _ => 0) (fun _ => none) (fun _ => 0) (fun _ _ => 0) []) C hO ⟨fun i hi => absurd hi (Nat.not_lt_zero _), fun i hi => absurd hi (Nat.not_lt_zero _), fun i hi => absurd hi (Nat.not_lt_zero _)⟩ dX3_init_27 (Nat.le_of_ble_eq_true rfl) (Nat.le_of_ble_eq_true rfl)
-- METHODS THAT READ THE SCRIPT
abbrev nw9 : Cond := .methodLinkNest RL 80 yX3_init RL
/-- the script at the cell bs, in no cell of the world -/
abbrev gPs (E : gE) (ws : va_W) (sz : Nat) (av : List Value) (bs L : Nat) (xs : Nat → Int32) : Array Value → State → Prop := va_Pc av (fun U => (U.heap.size = sz ∧ va_P E.1 vwCl ws U.heap ∧ eOk E U ∧ va_D (fun _ => True) ws ∧ gZ (va_A ws sz) U U.heap) ∧ va_X bs L xs U U.heap ∧ bs < sz ∧ ¬ va_A ws sz bs ∧ va_Nw nw9 U)
theorem gPs_blind {E : gE} {ws : va_W} {sz : Nat} {av : List Value} {bs L : Nat} {xs : Nat → Int32} : FrameBlind (gPs E ws sz av bs L xs) := fun a U g mk h => ⟨h.1, (gP_blind (E := E) (ws := ws) (sz := sz) (av := av) a U g mk ⟨h.1, h.2.1⟩).2, va_X.moved (u := U) (U := U.calling g mk a) (Vm.Alike.refl U.vm) h.2.2.1, h.2.2.2.1, h.2.2.2.2.1, va_Nw.warmM (s := U) (U := U.calling g mk a) (State.WarmedH.refl U) h.2.2.2.2.2⟩
def gMs (l : Launch) (E : gE) (y : MethodName) (wl : List Cond) (rm : Room) (ws : va_W) (av : List Value) (bs L : Nat) (xs : Nat → Int32) (r : Int32) (mc ms : Nat) : Prop := ∀ sz : Nat, Met l y wl rm (gPs E ws sz av bs L xs) (gQi E (va_A ws sz) r ws) mc ms (va_A ws sz)
def gMt {T : Type} (l : Launch) (E : gE) (y : MethodName) (wl : List Cond) (rm : Room) (ws : va_W) (av : List Value) (bs L : Nat) (xs : Nat → Int32) (post : T → Prop) (wsu : T → Nat → va_W) (mc ms : Nat) : Prop := ∀ sz : Nat, Met l y wl rm (gPs E ws sz av bs L xs) (gQg E (va_A ws sz) post wsu) mc ms (va_A ws sz)
section GT
variable {p : Program} {l : Launch} {e : Env} {R : Room} {s : State} {m : MethodId} {args : Array Value} {below : List Frame} {meth : Method} {c : Code} {H : Heap} {locs : List Loc} {cells slots : Nat} {Q : State → Prop}
variable {E : gE} {A : Nat → Prop} {ws ws' : va_W} {y : MethodName} {wl wl' : List Cond} {rm : Room} {av : List Value} {mc ms : Nat} {cc bytes : ByteArray} {maxL nL : Nat} {ret : Option FieldType} {Ts : List Cond} {own : String}
variable {pc : Nat} {ls : Array Slot} {rest : List Value} {index n : Nat} {Cn : String} {b : Nat} {As st0 : List Value} {T : Type} {bs L : Nat} {xs : Nat → Int32} {host : String}
theorem gMs.of {ty : FieldType} {r : Int32} (hy : plainName y.cls = true) (hw : wl = Cond.code y cc maxL (some ty) :: wl') (hlen : (lg_sl av).length ≤ maxL)
    (body : ∀ p e s m args below meth c A, gCx p s m args meth c cc maxL wl y.cls (some ty) E A → va_X bs L xs s s.heap → bs < s.heap.size → ¬ A bs → va_Nw nw9 s → ∀ ls : Array Slot, lv_has ls maxL (lv_args 0 av) → gO E A s ws s.heap [] → W p l e rm s m args below meth c s.heap [] 0 0 (MQ below (gQi E A r ws) args s mc ms A) (F0 m 0 ls [])) : gMs l E y wl rm ws av bs L xs r mc ms := by
  intro sz
  refine Met.ofW (cc := cc) (maxL := maxL) (ret := some ty) hy hw ?_
  intro p e s m args below meth c s₁ B hml hv
  obtain ⟨rfl, ⟨hsz, hP, eo, hD0, hZ⟩, hX, hbl, hbA, hnw⟩ := hv
  have hts := atoms_spec (ws := wl) B.pre
  have hown : s.vm.findClass y.cls = some m.cls := findClass_of_methodNamed B.named
  subst hsz
  have hl := lv_entry av (n := maxL) hlen
  rw [lg_entry_eq]
  exact body p e s m av.toArray below meth c (va_A ws s.heap.size) ⟨B.exec, B.bytes, hml, hown, hts, B.returns, B.notSynchronized, eo, fun q h => Or.inr h, hZ⟩ hX hbl hbA hnw _ hl ⟨hP, hD0.self (sz := s.heap.size), va_S.rf⟩
theorem gMt.of {ty : FieldType} {post : T → Prop} {wsu : T → Nat → va_W} (hy : plainName y.cls = true) (hw : wl = Cond.code y cc maxL (some ty) :: wl') (hlen : (lg_sl av).length ≤ maxL)
    (body : ∀ p e s m args below meth c A, gCx p s m args meth c cc maxL wl y.cls (some ty) E A → va_X bs L xs s s.heap → bs < s.heap.size → ¬ A bs → va_Nw nw9 s → ∀ ls : Array Slot, lv_has ls maxL (lv_args 0 av) → gO E A s ws s.heap [] → W p l e rm s m args below meth c s.heap [] 0 0 (MQ below (gQg E A post wsu) args s mc ms A) (F0 m 0 ls [])) : gMt l E y wl rm ws av bs L xs post wsu mc ms := by
  intro sz
  refine Met.ofW (cc := cc) (maxL := maxL) (ret := some ty) hy hw ?_
  intro p e s m args below meth c s₁ B hml hv
  obtain ⟨rfl, ⟨hsz, hP, eo, hD0, hZ⟩, hX, hbl, hbA, hnw⟩ := hv
  have hts := atoms_spec (ws := wl) B.pre
  have hown : s.vm.findClass y.cls = some m.cls := findClass_of_methodNamed B.named
  subst hsz
  have hl := lv_entry av (n := maxL) hlen
  rw [lg_entry_eq]
  exact body p e s m av.toArray below meth c (va_A ws s.heap.size) ⟨B.exec, B.bytes, hml, hown, hts, B.returns, B.notSynchronized, eo, fun q h => Or.inr h, hZ⟩ hX hbl hbA hnw _ hl ⟨hP, hD0.self (sz := s.heap.size), va_S.rf⟩
theorem gPreS (C : gCx p s m args meth c cc nL Ts own ret E A) (hX : va_X bs L xs s s.heap) (hbl : bs < s.heap.size) (hbA : ¬ A bs) (hnw : va_Nw nw9 s) (hO : gO E A s ws H locs) {U : State} (hU : U.heap = H) (hW : s.WarmedH U.vm) (av : List Value) : gPs E ws H.size av bs L xs av.toArray U :=
  ⟨rfl, (gPre C hO hU hW av).2, by rw [hU]; exact (hX.kept (hO.2.2.2.1 bs hbl hbA)).moved hW.alike, Nat.lt_of_lt_of_le hbl hO.2.2.1, fun q => hbA (gO.free C.2.2.2.2.2.2.2.2.1 hO bs q), va_Nw.warmM hW hnw⟩
theorem gCallS_s {r : Int32} (C : gCx p s m args meth c cc nL Ts own ret E A) (hX : va_X bs L xs s s.heap) (hbl : bs < s.heap.size) (hbA : ¬ A bs) (hnw : va_Nw nw9 s) (hO : gO E A s ws H locs) (hM : gMs l E y wl rm ws As bs L xs r mc ms) {ret1 : Option FieldType} (cw : CallB R s args own index y bytes maxL ret1 wl rm mc ms n ∧ (Cond.static y).before args s = true) (hn : As.length = n) (hsize : ls.size = nL) (hst : st0 = As.reverse ++ rest) (hW : (rest.map fun v => v.category).sum ≤ 8) (hdg : decode cc pc = .ok (.invokestatic index, 3)) (hf : cells + mc ≤ R.cells ∧ slots + ms ≤ R.slots)
    (kk : ∀ (H1 : Heap) (locs1 : List Loc), gO E A s ws H1 locs1 → W p l e R s m args below meth c H1 locs1 (cells + mc) (slots + ms) Q (F0 m (pc + 3) ls (.int r :: rest))) : W p l e R s m args below meth c H locs cells slots Q (F0 m pc ls st0) := by
  refine va_calli (va_runS (As := As) (rest := rest) C.fix (hM H.size) cw ⟨gPs_blind, fun U hU hW => gPreS C hX hbl hbA hnw hO hU hW _⟩ rfl hn hsize hst (lv_room hW) hdg hf) hO.2.2 (fun q _ h => gO.free C.2.2.2.2.2.2.2.2.1 hO q h) (gO.free C.2.2.2.2.2.2.2.2.1 hO) (fun r1 u t H1 locs1 ht hvm hw hB hz1 hk1 hS => ?_)
  subst hw
  exact kk H1 locs1 (gBack C hO ht hB hS)
theorem gCallS_t {post : T → Prop} {wsu : T → Nat → va_W} (C : gCx p s m args meth c cc nL Ts own ret E A) (hX : va_X bs L xs s s.heap) (hbl : bs < s.heap.size) (hbA : ¬ A bs) (hnw : va_Nw nw9 s) (hO : gO E A s ws H locs) (hM : gMt l E y wl rm ws As bs L xs post wsu mc ms) {ret1 : Option FieldType} (cw : CallB R s args own index y bytes maxL ret1 wl rm mc ms n ∧ (Cond.static y).before args s = true) (hn : As.length = n) (hsize : ls.size = nL) (hst : st0 = As.reverse ++ rest) (hW : (rest.map fun v => v.category).sum ≤ 8) (hdg : decode cc pc = .ok (.invokestatic index, 3)) (hf : cells + mc ≤ R.cells ∧ slots + ms ≤ R.slots)
    (kk : ∀ (u : T) (r : Nat) (H1 : Heap) (locs1 : List Loc), post u → gO E A s (wsu u r) H1 locs1 → W p l e R s m args below meth c H1 locs1 (cells + mc) (slots + ms) Q (F0 m (pc + 3) ls (.ref r :: rest))) : W p l e R s m args below meth c H locs cells slots Q (F0 m pc ls st0) := by
  refine va_callr (va_runS (As := As) (rest := rest) C.fix (hM H.size) cw ⟨gPs_blind, fun U hU hW => gPreS C hX hbl hbA hnw hO hU hW _⟩ rfl hn hsize hst (lv_room hW) hdg hf) hO.2.2 (fun q _ h => gO.free C.2.2.2.2.2.2.2.2.1 hO q h) (gO.free C.2.2.2.2.2.2.2.2.1 hO) (fun u r1 t H1 locs1 ht hvm hw hB hz1 hk1 hS => ?_)
  exact kk u r1 H1 locs1 hw (gBack C hO ht hB hS)
theorem gCallIN_f {post : T → Prop} {wsu : T → va_W} (C : gCx p s m args meth c cc nL Ts own ret E A) (hO : gO E A s ws H locs) (hM : gMf l E y wl rm ws (.ref b :: As) post wsu mc ms) (cw : va_CN R s args own index y host bytes maxL none wl rm mc ms n ∧ y.name = "<init>" ∧ (Cond.instanceMethod y).before args s = true) (hn : As.length = n) (hsize : ls.size = nL) (hst : st0 = As.reverse ++ .ref b :: rest) (hW : (rest.map fun v => v.category).sum ≤ 8) (hdg : decode cc pc = .ok (.invokespecial index, 3)) (hf : cells + mc ≤ R.cells ∧ slots + ms ≤ R.slots)
    (kk : ∀ (u : T) (H1 : Heap) (locs1 : List Loc), post u → gO E A s (wsu u) H1 locs1 → W p l e R s m args below meth c H1 locs1 (cells + mc) (slots + ms) Q (F0 m (pc + 3) ls rest)) : W p l e R s m args below meth c H locs cells slots Q (F0 m pc ls st0) := by
  refine va_callv (va_runIN (As := As) (rest := rest) C.fix (hM H.size) cw ⟨gP_blind, fun U hU hW => gPre C hO hU hW _⟩ rfl hn hsize hst (lv_room hW) hdg hf) hO.2.2 (fun q _ h => gO.free C.2.2.2.2.2.2.2.2.1 hO q h) (gO.free C.2.2.2.2.2.2.2.2.1 hO) (fun u t H1 locs1 ht hvm hw hB hz1 hk1 hS => ?_)
  exact kk u H1 locs1 hw (gBack C hO ht hB hS)
end GT
