-- CONSTRUCTORS: their worlds come with new addresses
abbrev gQn (E : gE) (A : Nat → Prop) (post : (Nat → Nat) → Prop) (wsu : (Nat → Nat) → va_W) : Array Value → State → Outcome → State → Prop := va_Qv (S := Nat → Nat) post (fun u => gB E A (wsu u)) A
abbrev gPn (E : gE) (ws : va_W) (sz : Nat) (av : List Value) : Array Value → State → Prop := va_Pc av (fun U => (U.heap.size = sz ∧ va_P E.1 vwCl ws U.heap ∧ eOk E U ∧ va_D (fun _ => True) ws ∧ gZ (va_A ws sz) U U.heap) ∧ va_AO RX1 U)
theorem gPn_blind {E : gE} {ws : va_W} {sz : Nat} {av : List Value} : FrameBlind (gPn E ws sz av) := fun a U g mk h => ⟨h.1, (gP_blind (E := E) (ws := ws) (sz := sz) (av := av) a U g mk ⟨h.1, h.2.1⟩).2, va_AO.moved (u := U) (U := U.calling g mk a) (Vm.Alike.refl U.vm) h.2.2⟩
def gMn (l : Launch) (E : gE) (y : MethodName) (wl : List Cond) (rm : Room) (ws : va_W) (av : List Value) (post : (Nat → Nat) → Prop) (wsu : (Nat → Nat) → va_W) (mc ms : Nat) : Prop := ∀ sz : Nat, Met l y wl rm (gPn E ws sz av) (gQn E (va_A ws sz) post wsu) mc ms (va_A ws sz)
section GN
variable {p : Program} {l : Launch} {e : Env} {R : Room} {s : State} {m : MethodId} {args : Array Value} {below : List Frame} {meth : Method} {c : Code} {H : Heap} {locs : List Loc} {cells slots : Nat} {Q : State → Prop}
variable {E : gE} {A : Nat → Prop} {ws ws' : va_W} {y : MethodName} {wl wl' : List Cond} {rm : Room} {av : List Value} {mc ms : Nat} {cc bytes : ByteArray} {maxL nL : Nat} {ret : Option FieldType} {Ts : List Cond} {own : String}
variable {pc : Nat} {ls : Array Slot} {rest : List Value} {index n : Nat} {Cn : String} {b : Nat} {As st0 : List Value} {host : String} {post : (Nat → Nat) → Prop} {wsu : (Nat → Nat) → va_W}
theorem gMn.of (hy : plainName y.cls = true) (hw : wl = Cond.code y cc maxL none :: wl') (hlen : (lg_sl av).length ≤ maxL)
    (body : ∀ p e s m args below meth c A, gCx p s m args meth c cc maxL wl y.cls none E A → va_AO RX1 s → meth.name = y.name → ∀ ls : Array Slot, lv_has ls maxL (lv_args 0 av) → gO E A s ws s.heap [] → W p l e rm s m args below meth c s.heap [] 0 0 (MQ below (gQn E A post wsu) args s mc ms A) (F0 m 0 ls [])) : gMn l E y wl rm ws av post wsu mc ms := by
  intro sz
  refine Met.ofW (cc := cc) (maxL := maxL) (ret := none) hy hw ?_
  intro p e s m args below meth c s₁ B hml hv
  obtain ⟨rfl, ⟨hsz, hP, eo, hD0, hZ⟩, hao⟩ := hv
  have hts := atoms_spec (ws := wl) B.pre
  have hown : s.vm.findClass y.cls = some m.cls := findClass_of_methodNamed B.named
  have hnm : meth.name = y.name := (name_of_methodNamed B.named B.method).1
  subst hsz
  have hl := lv_entry av (n := maxL) hlen
  rw [lg_entry_eq]
  exact body p e s m av.toArray below meth c (va_A ws s.heap.size) ⟨B.exec, B.bytes, hml, hown, hts, B.returns, B.notSynchronized, eo, fun q h => Or.inr h, hZ⟩ hao hnm _ hl ⟨hP, hD0.self (sz := s.heap.size), va_S.rf⟩
theorem gRn (u : Nat → Nat) (C : gCx p s m args meth c cc nL Ts own none E A) (hO : gO E A s (wsu u) H locs) (hu : post u) (hdg : decode cc pc = .ok (.return_, 1)) (h1 : cells ≤ mc) (h2 : slots ≤ ms) : W p l e R s m args below meth c H locs cells slots (MQ below (gQn E A post wsu) args s mc ms A) (F0 m pc ls []) := by
  refine W.widen h1 h2 ?_
  exact W.vret C.1 C.2.1 C.2.2.2.2.2.1 (fun t ht hW => ⟨⟨u, rfl, hu, by rw [ht]; exact hO.1, hO.2.1⟩, hO.2.2.F ht⟩) hO.2.2.2.2 hdg C.2.2.2.2.2.2.1
theorem gObj {idx : Nat} {a : Nat} (C : gCx p s m args meth c cc nL Ts own ret E A) (h1 : Cond.methodLink own idx objectInit ∈ Ts) (h2 : Cond.instanceMethod objectInit ∈ Ts) (h3 : Cond.code objectInit ⟨#[0xb1]⟩ 1 none ∈ Ts) (hsize : ls.size = nL) (hdg : decode cc pc = .ok (.invokespecial idx, 3)) (hframes : 1 ≤ R.frames) (hlocals : (rest.map fun v => v.category).sum + 12 ≤ R.locals)
    (kk : W p l e R s m args below meth c H locs cells slots Q (F0 m (pc + 3) ls rest)) : W p l e R s m args below meth c H locs cells slots Q (F0 m pc ls (.ref a :: rest)) := by
  refine W.objInit C.1 C.2.1 C.2.2.2.1 (C.2.2.2.2.1 _ h1) (C.2.2.2.2.1 _ h2) (C.2.2.2.2.1 _ h3) rfl (by rw [C.2.2.1]; exact hsize) rfl hdg hframes ?_ ?_
  · show 2 * 0 + (rest.map fun v => v.category).sum + 12 ≤ R.locals
    omega
  · exact kk
theorem gPutF {ref : String} {T : u_T} {N ci : Nat} {a : Nat} (C : gCx p s m args meth c cc nL Ts own ret E A) (hnm9 : meth.name = "<init>") (hin : ∀ w ∈ u_ws Cn T N, w ∈ Ts) (ty0 : Nat → FieldType) (hty : ∀ k, k < N → parseFieldDescriptor (T k).2.2.1 = some (ty0 k)) (hnm : ∀ a, a < N → ∀ b, b < N → a ≠ b → (T a).2.1 ≠ (T b).2.1) (hO : gO E A s ws H locs) (q0 : Nat) {fs : List Value} (he : ws[q0]? = some (a, .inr (ci, fs))) (hc : vwCl[ci]? = some (Cn, T, N)) (k : Nat) (hk : k < N) (hlink : Cond.fieldLink own index ref (T k).2.1 (T k).2.2.1 ∈ Ts) (hsame : ∀ x, s.fieldFound? (T k).1 (T k).2.1 (T k).2.2.1 = some x → s.fieldFound? ref (T k).2.1 (T k).2.2.1 = some x) (hfin : (T k).2.2.2 = true) (hdecl : (T k).1 = own) {v : Value} (hd : parseFieldDescriptor (T k).2.2.1 = some (ty0 k)) (hn : narrow (ty0 k) v = v) (hfit : fits (ty0 k) v = true) (hl : k < fs.length) (hw : ws.set q0 (a, .inr (ci, fs.set k v)) = ws')
    (hdg : decode cc pc = .ok (.putfield index, 3)) (kk : ∀ (H1 : Heap) (locs1 : List Loc), gO E A s ws' H1 locs1 → W p l e R s m args below meth c H1 locs1 cells slots Q (F0 m (pc + 3) ls rest)) : W p l e R s m args below meth c H locs cells slots Q (F0 m pc ls (v :: .ref a :: rest)) :=
  va_putF C.1 C.2.1 C.2.2.2.2.1 hin ty0 hty hnm C.2.2.2.1 C.2.2.2.2.2.2.2.1.1 hO.1 hO.2.1 hO.2.2 q0 he hc k hk (C.2.2.2.2.1 _ hlink) hsame hfin hnm9 hdecl hd hn hfit hl hdg (fun H1 locs1 hP hD hS => kk H1 locs1 ⟨hw ▸ hP, hw ▸ hD, hS⟩)
theorem gNewO {W0 F : va_W} {C0 : String} {T : u_T} {N ci : Nat} {fs : List Value} (C : gCx p s m args meth c cc nL Ts own ret E A) (hin : ∀ w ∈ u_ws C0 T N, w ∈ Ts) (ty0 : Nat → FieldType) (hty : ∀ k, k < N → parseFieldDescriptor (T k).2.2.1 = some (ty0 k)) (h1 : Cond.classLink own index C0 ∈ Ts) (h2 : Cond.instantiable C0 N ∈ Ts) (h3 : Cond.initialized C0 ∈ Ts) (hO : gO E A s (W0 ++ F) H locs) (hc : vwCl[ci]? = some (C0, T, N)) (hfs : ∀ j, j < N → defaultValue (ty0 j) = vp_V fs j) (hcells : cells + 1 ≤ R.cells) (hslots : slots + N ≤ R.slots) (hdg : decode cc pc = .ok (.new index, 3))
    (kk : ∀ (q : Nat) (H1 : Heap), gO E A s (W0 ++ ((q, .inr (ci, fs)) :: F)) H1 locs → W p l e R s m args below meth c H1 locs (cells + 1) (slots + N) Q (F0 m (pc + 3) ls (.ref q :: rest))) : W p l e R s m args below meth c H locs cells slots Q (F0 m pc ls rest) :=
  va_new C.1 C.2.1 C.2.2.2.2.1 hin ty0 hty C.2.2.2.1 (C.2.2.2.2.1 _ h1) (C.2.2.2.2.1 _ h2) (C.2.2.2.2.1 _ h3) C.2.2.2.2.2.2.2.1.1 hO.1 hO.2.1 hO.2.2 C.2.2.2.2.2.2.2.2.1 hc hfs hcells hslots hdg (fun q H1 hP hD hS => kk q H1 (gO.new ⟨hP, hD, hS⟩))
theorem gClsO {C9 : String} {cA : ClassId} {tys : List (ClassId × FieldType)} (hK : va_K E.1 vwCl (tys ++ [(cA, .object C9)]) s) {k : Nat} {cB : ClassId} (hk : tys[k]? = some (cB, .object C9)) : cA = cB := by
  have hlt := (List.getElem?_eq_some_iff.mp hk).1
  obtain ⟨_, _, _, _, _, q1⟩ := (hK.2 k (cB, .object C9) (by rw [List.getElem?_append_left hlt]; exact hk)).2
  obtain ⟨_, _, _, _, _, q2⟩ := (hK.2 tys.length (cA, .object C9) (by simp)).2
  exact Option.some.inj (q2.symm.trans q1)
theorem gNewQ {W0 F : va_W} {N9 : Nat} (C : gCx p s m args meth c cc nL Ts own ret E A) (hao : va_AO RX1 s) (h1 : Cond.classLink own index RX1 ∈ Ts) (hO : gO E A s (W0 ++ F) H locs) (hN : N9 < 1000) (hcells : cells + 1 ≤ R.cells) (hslots : slots + N9 ≤ R.slots) (hdg : decode cc pc = .ok (.anewarray index, 3))
    (kk : ∀ (q : Nat) (H1 : Heap), gO E A s (W0 ++ ((q, .inl (eO E, N9, .inr (.inr (.inr (.inr (fun _ => none)))))) :: F)) H1 locs → W p l e R s m args below meth c H1 locs (cells + 1) (slots + N9) Q (F0 m (pc + 3) ls (.ref q :: rest))) : W p l e R s m args below meth c H locs cells slots Q (F0 m pc ls (.int (nI N9) :: rest)) := by
  refine va_newq (N' := N9) C.1 C.2.1 C.2.2.2.1 (C.2.2.2.2.1 _ h1) hao C.2.2.2.2.2.2.2.1.1 hO.1 hO.2.1 hO.2.2 C.2.2.2.2.2.2.2.2.1 (nI_pos (by omega)) (nI_clamp (by omega)) (by omega) hcells hslots hdg (fun q cA H1 hK hP hD hS => ?_)
  have e := gClsO (E := E) hK (k := 2) (cB := eO E) rfl
  subst e
  exact kk q H1 (gO.new ⟨hP, hD, hS⟩)
theorem gAast {a v j N : Nat} {f : Nat → Option Nat} {vs : List Value} (C : gCx p s m args meth c cc nL Ts own ret E A) (hO : gO E A s ws H locs) (q0 qk : Nat) (ha : ws[q0]? = some (a, .inl (eO E, N, .inr (.inr (.inr (.inr f)))))) (hv : ws[qk]? = some (v, .inr (1, vs))) (hj : j < N) (hN : N ≤ 100) (hw : ws.set q0 (a, .inl (eO E, N, .inr (.inr (.inr (.inr (va_up f j (some v))))))) = ws') (hdg : decode cc pc = .ok (.aastore, 1))
    (kk : ∀ (H1 : Heap) (locs1 : List Loc), gO E A s ws' H1 locs1 → W p l e R s m args below meth c H1 locs1 cells slots Q (F0 m (pc + 1) ls rest)) : W p l e R s m args below meth c H locs cells slots Q (F0 m pc ls (.ref v :: .int (nI j) :: .ref a :: rest)) := by
  refine va_astq C.1 C.2.1 C.2.2.2.2.2.2.2.1.1 hO.1 hO.2.1 hO.2.2 q0 2 qk 1 (r := (RX1, TX1, 5)) ha rfl hv rfl (vp_in_nI hj (by omega)) hdg (fun H1 locs1 hP hD hS => ?_)
  rw [nI_clamp (by omega)] at hP hD
  exact kk H1 locs1 ⟨hw ▸ hP, hw ▸ hD, hS⟩
theorem gCallI (C : gCx p s m args meth c cc nL Ts own ret E A) (hao : va_AO RX1 s) (hO : gO E A s ws H locs) (hM : gMn l E y wl rm ws (.ref b :: As) post wsu mc ms) (cw : CallB R s args own index y bytes maxL none wl rm mc ms n ∧ y.name = "<init>" ∧ (Cond.instanceMethod y).before args s = true) (hn : As.length = n) (hsize : ls.size = nL) (hst : st0 = As.reverse ++ .ref b :: rest) (hW : (rest.map fun v => v.category).sum ≤ 8) (hdg : decode cc pc = .ok (.invokespecial index, 3)) (hf : cells + mc ≤ R.cells ∧ slots + ms ≤ R.slots)
    (kk : ∀ (u : Nat → Nat) (H1 : Heap) (locs1 : List Loc), post u → gO E A s (wsu u) H1 locs1 → W p l e R s m args below meth c H1 locs1 (cells + mc) (slots + ms) Q (F0 m (pc + 3) ls rest)) : W p l e R s m args below meth c H locs cells slots Q (F0 m pc ls st0) := by
  refine va_callv (va_runI (As := As) (rest := rest) C.fix (hM H.size) cw ⟨gPn_blind, fun U hU hW => ⟨rfl, (gPre C hO hU hW (.ref b :: As)).2, va_AO.moved hW.alike hao⟩⟩ rfl hn hsize hst (lv_room hW) hdg hf) hO.2.2 (fun q _ h => gO.free C.2.2.2.2.2.2.2.2.1 hO q h) (gO.free C.2.2.2.2.2.2.2.2.1 hO) (fun u t H1 locs1 ht hvm hw hB hz1 hk1 hS => ?_)
  exact kk u H1 locs1 hw (gBack C hO ht hB hS)
theorem gCallIN (C : gCx p s m args meth c cc nL Ts own ret E A) (hao : va_AO RX1 s) (hO : gO E A s ws H locs) (hM : gMn l E y wl rm ws (.ref b :: As) post wsu mc ms) (cw : va_CN R s args own index y host bytes maxL none wl rm mc ms n ∧ y.name = "<init>" ∧ (Cond.instanceMethod y).before args s = true) (hn : As.length = n) (hsize : ls.size = nL) (hst : st0 = As.reverse ++ .ref b :: rest) (hW : (rest.map fun v => v.category).sum ≤ 8) (hdg : decode cc pc = .ok (.invokespecial index, 3)) (hf : cells + mc ≤ R.cells ∧ slots + ms ≤ R.slots)
    (kk : ∀ (u : Nat → Nat) (H1 : Heap) (locs1 : List Loc), post u → gO E A s (wsu u) H1 locs1 → W p l e R s m args below meth c H1 locs1 (cells + mc) (slots + ms) Q (F0 m (pc + 3) ls rest)) : W p l e R s m args below meth c H locs cells slots Q (F0 m pc ls st0) := by
  refine va_callv (va_runIN (As := As) (rest := rest) C.fix (hM H.size) cw ⟨gPn_blind, fun U hU hW => ⟨rfl, (gPre C hO hU hW (.ref b :: As)).2, va_AO.moved hW.alike hao⟩⟩ rfl hn hsize hst (lv_room hW) hdg hf) hO.2.2 (fun q _ h => gO.free C.2.2.2.2.2.2.2.2.1 hO q h) (gO.free C.2.2.2.2.2.2.2.2.1 hO) (fun u t H1 locs1 ht hvm hw hB hz1 hk1 hS => ?_)
  exact kk u H1 locs1 hw (gBack C hO ht hB hS)
theorem gO.part {X9 cx9 F : va_W} (hO : gO E A s (X9 ++ F) H locs) (is : List Nat) (hn : va_nd is = true) (hs : is.map (fun i => X9[i]?) = cx9.map some) : gO E A s (cx9 ++ F) H locs := ⟨hO.1.part is hs, hO.2.1.part is hn hs, hO.2.2⟩
end GN
theorem xFl_mk (u : Nat → Nat) : va_up (va_up (va_up (va_up (va_up (va_up (fun _ => none) 0 (some (u 11))) 1 (some (u 12))) 2 (some (u 13))) 3 (some (u 14))) 4 (some (u 15))) 5 (some (u 16)) = xFl u := by
  funext i
  by_cases h9 : i < 6
  · rcases (show i = 0 ∨ i = 1 ∨ i = 2 ∨ i = 3 ∨ i = 4 ∨ i = 5 by omega) with rfl | rfl | rfl | rfl | rfl | rfl <;> rfl
  · simp [va_up, xFl, h9, show i ≠ 0 by omega, show i ≠ 1 by omega, show i ≠ 2 by omega, show i ≠ 3 by omega, show i ≠ 4 by omega, show i ≠ 5 by omega]
/-- nothing was done yet -/
abbrev S0 : St := mkS (fun _ => 0) (fun _ => 0) (fun _ => 0) (fun _ => 0) 0 0 0 0 0 0 (fun _ => 0) 0 (fun _ => 0) (fun _ => 0) (fun _ => 0) (fun _ => 0) (fun _ _ => 0)
