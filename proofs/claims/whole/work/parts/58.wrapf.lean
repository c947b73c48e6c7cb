-- THE LAW'S OWN METHODS: they catch
section GW
variable {p : Program} {l : Launch} {e : Env} {R : Room} {s : State} {m : MethodId} {args : Array Value} {below : List Frame} {meth : Method} {c : Code} {H : Heap} {locs : List Loc} {cells slots : Nat} {Q : State → Prop}
variable {E : gE} {A : Nat → Prop} {ws ws' : va_W} {y : MethodName} {wl wl' : List Cond} {rm : Room} {av : List Value} {mc ms : Nat} {cc bytes : ByteArray} {maxL nL : Nat} {ret : Option FieldType} {Ts : List Cond} {own : String}
variable {pc : Nat} {ls : Array Slot} {rest : List Value} {index n : Nat} {Cn : String} {b : Nat} {As st0 : List Value}
theorem gMi.ofW {ty : FieldType} {r : Int32} {hh : List (Nat × Nat × Nat × Nat)} (hy : plainName y.cls = true) (hw : wl = Cond.codeWith y cc maxL (some ty) hh :: wl') (hlen : (lg_sl av).length ≤ maxL)
    (body : ∀ p e s m args below meth c A, gCx p s m args meth c cc maxL wl y.cls (some ty) E A → c.exceptionTable.toList = tableOf hh → ∀ ls : Array Slot, lv_has ls maxL (lv_args 0 av) → gO E A s ws s.heap [] → W p l e rm s m args below meth c s.heap [] 0 0 (MQ below (gQi E A r ws') args s mc ms A) (F0 m 0 ls [])) : gMi l E y wl rm ws av r ws' mc ms := by
  intro sz
  refine va_MetW (cc := cc) (maxL := maxL) (ret := some ty) (hh := hh) hy hw ?_
  intro p e s m args below meth c s₁ B hml hv
  obtain ⟨rfl, hsz, hP, eo, hD0, hZ⟩ := hv
  have hts := atoms_spec (ws := wl) B.pre
  have hown : s.vm.findClass y.cls = some m.cls := findClass_of_methodNamed B.named
  have htb : c.exceptionTable.toList = tableOf hh := vx_table (x := y) B (hts _ (by rw [hw]; exact List.mem_cons_self))
  subst hsz
  have hl := lv_entry av (n := maxL) hlen
  rw [lg_entry_eq]
  exact body p e s m av.toArray below meth c (va_A ws s.heap.size) ⟨B.exec, B.bytes, hml, hown, hts, B.returns, B.notSynchronized, eo, fun q h => Or.inr h, hZ⟩ htb _ hl ⟨hP, hD0.self (sz := s.heap.size), va_S.rf⟩
/-- caught by the first handler -/
theorem gCatch1 {E0 : String} {ce : Cell} {q : Addr} {s1 e1 h1 t1 : Nat} {suf : List (Nat × Nat × Nat × Nat)} (C : gCx p s m args meth c cc nL Ts own ret E A) (htb : c.exceptionTable.toList = tableOf ((s1, e1, h1, t1) :: suf)) (hx : covers ⟨s1, e1, h1, t1⟩ pc = true) (h0 : t1 ≠ 0) (hlink : Cond.classLink own t1 E0 ∈ Ts) (hcast : Cond.castable E0 E0 ∈ eNw) (hcell : H[q]? = some ce) (hv : ce.vm = .none) (hcl : s.vm.findClass E0 = some ce.cls)
    (kk : W p l e R s m args below meth c H locs cells slots Q (F0 m h1 ls [.ref q])) : vx_W p l e R s m args below meth c H locs cells slots Q (F0 m pc ls rest) q :=
  vx_catch C.2.2.2.1 [] ⟨s1, e1, h1, t1⟩ (tableOf suf) htb (fun z hz => absurd hz List.not_mem_nil) hx h0 (C.2.2.2.2.1 _ hlink) (gNb C _ hcast) hcell hv hcl kk
/-- .. or by the second -/
theorem gCatch2 {E0 E1 : String} {ce : Cell} {q : Addr} {s1 e1 h1 t1 s2 e2 h2 t2 : Nat} {suf : List (Nat × Nat × Nat × Nat)} (C : gCx p s m args meth c cc nL Ts own ret E A) (htb : c.exceptionTable.toList = tableOf ((s1, e1, h1, t1) :: (s2, e2, h2, t2) :: suf)) (h10 : t1 ≠ 0) (hlink1 : Cond.classLink own t1 E1 ∈ Ts) (hnc : (E0, E1) ∈ eNc) (hx : covers ⟨s2, e2, h2, t2⟩ pc = true) (h0 : t2 ≠ 0) (hlink : Cond.classLink own t2 E0 ∈ Ts) (hcast : Cond.castable E0 E0 ∈ eNw) (hcell : H[q]? = some ce) (hv : ce.vm = .none) (hcl : s.vm.findClass E0 = some ce.cls)
    (kk : W p l e R s m args below meth c H locs cells slots Q (F0 m h2 ls [.ref q])) : vx_W p l e R s m args below meth c H locs cells slots Q (F0 m pc ls rest) q := by
  refine vx_catch C.2.2.2.1 [⟨s1, e1, h1, t1⟩] ⟨s2, e2, h2, t2⟩ (tableOf suf) htb (fun z hz => ?_) hx h0 (C.2.2.2.2.1 _ hlink) (gNb C _ hcast) hcell hv hcl kk
  rw [List.mem_singleton] at hz
  subst hz
  exact Or.inr ⟨h10, E1, C.2.2.2.2.1 _ hlink1, C.2.2.2.2.2.2.2.1.2.2.2 (E0, E1) hnc⟩
theorem gLast {a : Nat → Nat} {S : St} {mk rk rv : Nat → Int32} {F : va_W} {o : Nat} {f : Nat → Int64} {x : Int64} (C : gCx p s m args meth c cc nL Ts own ret E A) (hO : gO E A s (xW E a S mk rk rv ++ ((o, .inl (eL E, 1, .inr (.inl f))) :: F)) H locs) (hdg : decode cc pc = .ok (.lastore, 1))
    (kk : ∀ (H1 : Heap) (locs1 : List Loc), gO E A s (xW E a S mk rk rv ++ ((o, .inl (eL E, 1, .inr (.inl (vp_updL f 0 x)))) :: F)) H1 locs1 → W p l e R s m args below meth c H1 locs1 cells slots Q (F0 m (pc + 1) ls rest)) : W p l e R s m args below meth c H locs cells slots Q (F0 m pc ls (.long x :: .int 0 :: .ref o :: rest)) :=
  va_last C.1 C.2.1 C.2.2.2.2.2.2.2.1.1 hO.1 hO.2.1 hO.2.2 23 3 rfl rfl (by unfold vp_in; decide) hdg (fun H1 locs1 hP hD hS => kk H1 locs1 ⟨hP, hD, hS⟩)
theorem gCallW_i {r : Int32} {hh : List (Nat × Nat × Nat × Nat)} (C : gCx p s m args meth c cc nL Ts own ret E A) (hO : gO E A s ws H locs) (hM : gMi l E y wl rm ws As r ws' mc ms) {ret1 : Option FieldType} (cw : vx_CSW R s args own index y bytes maxL ret1 hh wl rm mc ms n) (hn : As.length = n) (hsize : ls.size = nL) (hst : st0 = As.reverse ++ rest) (hW : (rest.map fun v => v.category).sum ≤ 8) (hdg : decode cc pc = .ok (.invokestatic index, 3)) (hf : cells + mc ≤ R.cells ∧ slots + ms ≤ R.slots)
    (kk : ∀ (H1 : Heap) (locs1 : List Loc), gO E A s ws' H1 locs1 → W p l e R s m args below meth c H1 locs1 (cells + mc) (slots + ms) Q (F0 m (pc + 3) ls (.int r :: rest))) : W p l e R s m args below meth c H locs cells slots Q (F0 m pc ls st0) := by
  refine va_calli (vx_runSW (As := As) (rest := rest) C.fix (hM H.size) cw ⟨gP_blind, fun U hU hW => gPre C hO hU hW _⟩ rfl hn hsize hst (lv_room hW) hdg hf) hO.2.2 (fun q _ h => gO.free C.2.2.2.2.2.2.2.2.1 hO q h) (gO.free C.2.2.2.2.2.2.2.2.1 hO) (fun r1 u t H1 locs1 ht hvm hw hB hz1 hk1 hS => ?_)
  subst hw
  exact kk H1 locs1 (gBack C hO ht hB hS)
end GW
