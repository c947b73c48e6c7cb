-- THE LAW'S OWN LOG: rows of rows
section SW
def shC (E : gE) (ra : Nat → Nat) (sr : Nat → Nat → Int32) (k : Nat) : va_W := (List.range k).map (fun i => (ra i, .inl (eI E, 14, .inl (sr i))))
theorem shC_at {E : gE} {ra : Nat → Nat} {sr : Nat → Nat → Int32} {k i : Nat} {G : va_W} (hi : i < k) : (shC E ra sr k ++ G)[i]? = some (ra i, .inl (eI E, 14, .inl (sr i))) := by
  unfold shC
  rw [List.getElem?_append_left (by simpa using hi)]
  simp [hi]
theorem shC_set {E : gE} {ra : Nat → Nat} {sr : Nat → Nat → Int32} {k i : Nat} {G : va_W} (hi : i < k) (g : Nat → Int32) : (shC E ra sr k ++ G).set i (ra i, .inl (eI E, 14, .inl g)) = shC E ra (va_up sr i g) k ++ G := by
  refine List.ext_getElem? (fun j => ?_)
  rw [List.getElem?_set]
  by_cases hj : i = j
  · subst hj
    have hl : i < (shC E ra sr k ++ G).length := by unfold shC; simp; omega
    rw [if_pos rfl, if_pos hl, shC_at hi]
    simp [va_up]
  · rw [if_neg hj]
    by_cases hk : j < k
    · rw [shC_at hk, shC_at hk]
      simp [va_up, Ne.symm hj]
    · unfold shC
      rw [List.getElem?_append_right (by simp; omega), List.getElem?_append_right (by simp; omega)]
      simp
theorem shC_push {E : gE} {ra : Nat → Nat} {sr : Nat → Nat → Int32} {k q : Nat} {f : Nat → Int32} {G : va_W} : shC E ra sr k ++ ((q, .inl (eI E, 14, .inl f)) :: G) = shC E (va_up ra k q) (va_up sr k f) (k + 1) ++ G := by
  refine List.ext_getElem? (fun j => ?_)
  by_cases hk : j < k
  · rw [shC_at hk, shC_at (by omega)]
    simp [va_up, show j ≠ k by omega]
  · unfold shC
    rw [List.getElem?_append_right (by simp; omega)]
    simp only [List.length_map, List.length_range]
    by_cases hj : j = k
    · subst hj
      rw [List.getElem?_append_left (by simp)]
      simp [va_up]
    · rw [List.getElem?_append_right (by simp; omega)]
      simp only [List.length_map, List.length_range]
      obtain ⟨z, rfl⟩ : ∃ z, j = k + 1 + z := ⟨j - (k + 1), by omega⟩
      rw [show k + 1 + z - k = z + 1 by omega, show k + 1 + z - (k + 1) = z by omega]
      rfl
/-- the law's own log: 0 itself, 1 the rows of phrases, 2 said, 3 the rows of ships; then the ships' rows, then the phrases' -/
def sR (E : gE) (o b1 b2 b3 : Nat) (hr nx dr on : Int32) (n : Nat) (lf : Nat → Option Nat) (sc : Nat) (sd : Nat → Int32) (sh : Nat) (sf : Nat → Option Nat) (G : va_W) : va_W :=
  (o, .inr (3, [.int hr, .int nx, .int dr, .int on, .ref b1, .ref b2, .ref b3])) :: (b1, .inl (eL E, n, .inr (.inr (.inr (.inr lf))))) :: (b2, .inl (eI E, sc, .inl sd)) :: (b3, .inl (eL E, sh, .inr (.inr (.inr (.inr sf))))) :: G
/-- .. as its object's row has just been put: another array is told there than stands at its place -/
def sQ (E : gE) (o r1 r2 r3 b1 b2 b3 : Nat) (hr nx dr on : Int32) (n : Nat) (lf : Nat → Option Nat) (sc : Nat) (sd : Nat → Int32) (sh : Nat) (sf : Nat → Option Nat) (G : va_W) : va_W :=
  (o, .inr (3, [.int hr, .int nx, .int dr, .int on, .ref r1, .ref r2, .ref r3])) :: (b1, .inl (eL E, n, .inr (.inr (.inr (.inr lf))))) :: (b2, .inl (eI E, sc, .inl sd)) :: (b3, .inl (eL E, sh, .inr (.inr (.inr (.inr sf))))) :: G
/-- what is not told of the state: where its cells lie, what lies in its rows -/
abbrev Dt : Type := Nat × Nat × Nat × (Nat → Option Nat) × (Nat → Int32) × (Nat → Option Nat) × (Nat → Nat) × (Nat → Nat → Int32) × va_W
abbrev d_1 (d : Dt) : Nat := d.1
abbrev d_2 (d : Dt) : Nat := d.2.1
abbrev d_3 (d : Dt) : Nat := d.2.2.1
abbrev d_l (d : Dt) : Nat → Option Nat := d.2.2.2.1
abbrev d_s (d : Dt) : Nat → Int32 := d.2.2.2.2.1
abbrev d_f (d : Dt) : Nat → Option Nat := d.2.2.2.2.2.1
abbrev d_a (d : Dt) : Nat → Nat := d.2.2.2.2.2.2.1
abbrev d_r (d : Dt) : Nat → Nat → Int32 := d.2.2.2.2.2.2.2.1
abbrev d_p (d : Dt) : va_W := d.2.2.2.2.2.2.2.2
abbrev mkD9 (b1 b2 b3 : Nat) (lf : Nat → Option Nat) (sd : Nat → Int32) (sf : Nat → Option Nat) (ra : Nat → Nat) (sr : Nat → Nat → Int32) (pl : va_W) : Dt := (b1, b2, b3, lf, sd, sf, ra, sr, pl)
def sW (E : gE) (o : Nat) (d : Dt) (S : St) (F : va_W) : va_W := sR E o (d_1 d) (d_2 d) (d_3 d) (s_hr S) (s_nx S) (s_dr S) (s_on S) (s_n S) (d_l d) (s_sc S) (d_s d) (s_sh S) (d_f d) (shC E (d_a d) (d_r d) (s_sh S) ++ (d_p d ++ F))
/-- the phrases' rows -/
def lgR (E : gE) (pl : va_W) (lf : Nat → Option Nat) (n : Nat) (off key val sto : Nat → Int32) : Prop := ∀ i, i < n → ∃ (q : Nat) (f : Nat → Int32), lf i = some q ∧ ((q, .inl (eI E, 4, .inl f)) : Nat × va_E) ∈ pl ∧ f 0 = off i ∧ f 1 = key i ∧ f 2 = val i ∧ f 3 = sto i
/-- the ships' rows -/
def shR (sf : Nat → Option Nat) (ra : Nat → Nat) (sr : Nat → Nat → Int32) (sh : Nat) (pc sat hd ms : Nat → Int32) (kn : Nat → Nat → Int32) : Prop := ∀ i, i < sh → sf i = some (ra i) ∧ sr i 0 = pc i ∧ sr i 1 = sat i ∧ sr i 2 = hd i ∧ sr i 3 = ms i ∧ ∀ c, c < 10 → sr i (4 + c) = kn i c
def Rep (E : gE) (d : Dt) (S : St) : Prop := lgR E (d_p d) (d_l d) (s_n S) (s_off S) (s_key S) (s_val S) (s_sto S) ∧ (∀ i, i < s_sc S → d_s d i = s_said S i) ∧ shR (d_f d) (d_a d) (d_r d) (s_sh S) (s_pc S) (s_at S) (s_hd S) (s_ms S) (s_kn S)
theorem lgR.mono {E : gE} {pl pl2 : va_W} {lf : Nat → Option Nat} {n : Nat} {off key val sto : Nat → Int32} (h : lgR E pl lf n off key val sto) (hp : ∀ x ∈ pl, x ∈ pl2) : lgR E pl2 lf n off key val sto := by
  intro i hi
  obtain ⟨q, f, h1, h2, h3⟩ := h i hi
  exact ⟨q, f, h1, hp _ h2, h3⟩
theorem sR_mem {E : gE} {o b1 b2 b3 : Nat} {hr nx dr on : Int32} {n : Nat} {lf : Nat → Option Nat} {sc : Nat} {sd : Nat → Int32} {sh : Nat} {sf : Nat → Option Nat} {G : va_W} {x : Nat × va_E} (h : x ∈ G) : x ∈ sR E o b1 b2 b3 hr nx dr on n lf sc sd sh sf G := .tail _ (.tail _ (.tail _ (.tail _ h)))
theorem pl_mem {E : gE} {ra : Nat → Nat} {sr : Nat → Nat → Int32} {k : Nat} {pl F : va_W} {x : Nat × va_E} (h : x ∈ pl) : x ∈ shC E ra sr k ++ (pl ++ F) := List.mem_append_right _ (List.mem_append_left _ h)
theorem sW_mem {E : gE} {o : Nat} {d : Dt} {S : St} {F : va_W} {x : Nat × va_E} (h : x ∈ d_p d) : x ∈ sW E o d S F := sR_mem (pl_mem h)
end SW
-- CONTRACTS WITH SOMETHING NEW IN THEIR WORLDS
abbrev gQe {T : Type} (E : gE) (A : Nat → Prop) (post : Int32 → T → Prop) (wsu : T → va_W) : Array Value → State → Outcome → State → Prop := va_Qi (S := T) post (fun u => gB E A (wsu u)) A
abbrev gQf {T : Type} (E : gE) (A : Nat → Prop) (post : T → Prop) (wsu : T → va_W) : Array Value → State → Outcome → State → Prop := va_Qv (S := T) post (fun u => gB E A (wsu u)) A
abbrev gQg {T : Type} (E : gE) (A : Nat → Prop) (post : T → Prop) (wsu : T → Nat → va_W) : Array Value → State → Outcome → State → Prop := va_Qr (S := T) post (fun u a => gB E A (wsu u a)) A
def gMe {T : Type} (l : Launch) (E : gE) (y : MethodName) (wl : List Cond) (rm : Room) (ws : va_W) (av : List Value) (post : Int32 → T → Prop) (wsu : T → va_W) (mc ms : Nat) : Prop := ∀ sz : Nat, Met l y wl rm (gP E ws sz av) (gQe E (va_A ws sz) post wsu) mc ms (va_A ws sz)
def gMf {T : Type} (l : Launch) (E : gE) (y : MethodName) (wl : List Cond) (rm : Room) (ws : va_W) (av : List Value) (post : T → Prop) (wsu : T → va_W) (mc ms : Nat) : Prop := ∀ sz : Nat, Met l y wl rm (gP E ws sz av) (gQf E (va_A ws sz) post wsu) mc ms (va_A ws sz)
def gMg {T : Type} (l : Launch) (E : gE) (y : MethodName) (wl : List Cond) (rm : Room) (ws : va_W) (av : List Value) (post : T → Prop) (wsu : T → Nat → va_W) (mc ms : Nat) : Prop := ∀ sz : Nat, Met l y wl rm (gP E ws sz av) (gQg E (va_A ws sz) post wsu) mc ms (va_A ws sz)
section GS
variable {p : Program} {l : Launch} {e : Env} {R : Room} {s : State} {m : MethodId} {args : Array Value} {below : List Frame} {meth : Method} {c : Code} {H : Heap} {locs : List Loc} {cells slots : Nat} {Q : State → Prop}
variable {E : gE} {A : Nat → Prop} {ws ws' : va_W} {y : MethodName} {wl wl' : List Cond} {rm : Room} {av : List Value} {mc ms : Nat} {cc bytes : ByteArray} {maxL nL : Nat} {ret : Option FieldType} {Ts : List Cond} {own : String}
variable {pc : Nat} {ls : Array Slot} {rest : List Value} {index n : Nat} {Cn : String} {b : Nat} {As st0 : List Value} {T : Type}
theorem gMe.of {ty : FieldType} {post : Int32 → T → Prop} {wsu : T → va_W} (hy : plainName y.cls = true) (hw : wl = Cond.code y cc maxL (some ty) :: wl') (hlen : (lg_sl av).length ≤ maxL)
    (body : ∀ p e s m args below meth c A, gCx p s m args meth c cc maxL wl y.cls (some ty) E A → ∀ ls : Array Slot, lv_has ls maxL (lv_args 0 av) → gO E A s ws s.heap [] → W p l e rm s m args below meth c s.heap [] 0 0 (MQ below (gQe E A post wsu) args s mc ms A) (F0 m 0 ls [])) : gMe l E y wl rm ws av post wsu mc ms := by
  intro sz
  refine Met.ofW (cc := cc) (maxL := maxL) (ret := some ty) hy hw ?_
  intro p e s m args below meth c s₁ B hml hv
  obtain ⟨rfl, hsz, hP, eo, hD0, hZ⟩ := hv
  have hts := atoms_spec (ws := wl) B.pre
  have hown : s.vm.findClass y.cls = some m.cls := findClass_of_methodNamed B.named
  subst hsz
  have hl := lv_entry av (n := maxL) hlen
  rw [lg_entry_eq]
  exact body p e s m av.toArray below meth c (va_A ws s.heap.size) ⟨B.exec, B.bytes, hml, hown, hts, B.returns, B.notSynchronized, eo, fun q h => Or.inr h, hZ⟩ _ hl ⟨hP, hD0.self (sz := s.heap.size), va_S.rf⟩
theorem gMf.of {post : T → Prop} {wsu : T → va_W} (hy : plainName y.cls = true) (hw : wl = Cond.code y cc maxL none :: wl') (hlen : (lg_sl av).length ≤ maxL)
    (body : ∀ p e s m args below meth c A, gCx p s m args meth c cc maxL wl y.cls none E A → ∀ ls : Array Slot, lv_has ls maxL (lv_args 0 av) → gO E A s ws s.heap [] → W p l e rm s m args below meth c s.heap [] 0 0 (MQ below (gQf E A post wsu) args s mc ms A) (F0 m 0 ls [])) : gMf l E y wl rm ws av post wsu mc ms := by
  intro sz
  refine Met.ofW (cc := cc) (maxL := maxL) (ret := none) hy hw ?_
  intro p e s m args below meth c s₁ B hml hv
  obtain ⟨rfl, hsz, hP, eo, hD0, hZ⟩ := hv
  have hts := atoms_spec (ws := wl) B.pre
  have hown : s.vm.findClass y.cls = some m.cls := findClass_of_methodNamed B.named
  subst hsz
  have hl := lv_entry av (n := maxL) hlen
  rw [lg_entry_eq]
  exact body p e s m av.toArray below meth c (va_A ws s.heap.size) ⟨B.exec, B.bytes, hml, hown, hts, B.returns, B.notSynchronized, eo, fun q h => Or.inr h, hZ⟩ _ hl ⟨hP, hD0.self (sz := s.heap.size), va_S.rf⟩
theorem gMg.of {ty : FieldType} {post : T → Prop} {wsu : T → Nat → va_W} (hy : plainName y.cls = true) (hw : wl = Cond.code y cc maxL (some ty) :: wl') (hlen : (lg_sl av).length ≤ maxL)
    (body : ∀ p e s m args below meth c A, gCx p s m args meth c cc maxL wl y.cls (some ty) E A → ∀ ls : Array Slot, lv_has ls maxL (lv_args 0 av) → gO E A s ws s.heap [] → W p l e rm s m args below meth c s.heap [] 0 0 (MQ below (gQg E A post wsu) args s mc ms A) (F0 m 0 ls [])) : gMg l E y wl rm ws av post wsu mc ms := by
  intro sz
  refine Met.ofW (cc := cc) (maxL := maxL) (ret := some ty) hy hw ?_
  intro p e s m args below meth c s₁ B hml hv
  obtain ⟨rfl, hsz, hP, eo, hD0, hZ⟩ := hv
  have hts := atoms_spec (ws := wl) B.pre
  have hown : s.vm.findClass y.cls = some m.cls := findClass_of_methodNamed B.named
  subst hsz
  have hl := lv_entry av (n := maxL) hlen
  rw [lg_entry_eq]
  exact body p e s m av.toArray below meth c (va_A ws s.heap.size) ⟨B.exec, B.bytes, hml, hown, hts, B.returns, B.notSynchronized, eo, fun q h => Or.inr h, hZ⟩ _ hl ⟨hP, hD0.self (sz := s.heap.size), va_S.rf⟩
theorem gRe {ty : FieldType} {v : Int32} {post : Int32 → T → Prop} {wsu : T → va_W} (u : T) (C : gCx p s m args meth c cc nL Ts own (some ty) E A) (hO : gO E A s (wsu u) H locs) (hn : narrow ty (.int v) = .int v) (hu : post v u) (hdg : decode cc pc = .ok (.ireturn, 1)) (h1 : cells ≤ mc) (h2 : slots ≤ ms) : W p l e R s m args below meth c H locs cells slots (MQ below (gQe E A post wsu) args s mc ms A) (F0 m pc ls [.int v]) := by
  refine W.widen h1 h2 ?_
  exact W.zret C.1 C.2.1 C.2.2.2.2.2.1 hn (fun t ht hW => ⟨⟨v, u, rfl, hu, by rw [ht]; exact hO.1, hO.2.1⟩, hO.2.2.F ht⟩) hO.2.2.2.2 hdg C.2.2.2.2.2.2.1
theorem gRf {post : T → Prop} {wsu : T → va_W} (u : T) (C : gCx p s m args meth c cc nL Ts own none E A) (hO : gO E A s (wsu u) H locs) (hu : post u) (hdg : decode cc pc = .ok (.return_, 1)) (h1 : cells ≤ mc) (h2 : slots ≤ ms) : W p l e R s m args below meth c H locs cells slots (MQ below (gQf E A post wsu) args s mc ms A) (F0 m pc ls []) := by
  refine W.widen h1 h2 ?_
  exact W.vret C.1 C.2.1 C.2.2.2.2.2.1 (fun t ht hW => ⟨⟨u, rfl, hu, by rw [ht]; exact hO.1, hO.2.1⟩, hO.2.2.F ht⟩) hO.2.2.2.2 hdg C.2.2.2.2.2.2.1
theorem gRg {ty : FieldType} {r : Nat} {post : T → Prop} {wsu : T → Nat → va_W} (u : T) (C : gCx p s m args meth c cc nL Ts own (some ty) E A) (hO : gO E A s (wsu u r) H locs) (hty : (∃ z, ty = .object z) ∨ (∃ z, ty = .array z)) (hu : post u) (hdg : decode cc pc = .ok (.areturn, 1)) (h1 : cells ≤ mc) (h2 : slots ≤ ms) : W p l e R s m args below meth c H locs cells slots (MQ below (gQg E A post wsu) args s mc ms A) (F0 m pc ls [.ref r]) := by
  refine W.widen h1 h2 ?_
  exact W.aret C.1 C.2.1 C.2.2.2.2.2.1 hty (Or.inr ⟨r, rfl⟩) (fun t ht hW => ⟨⟨u, r, rfl, hu, by rw [ht]; exact hO.1, hO.2.1⟩, hO.2.2.F ht⟩) hO.2.2.2.2 hdg C.2.2.2.2.2.2.1
theorem gCall_e {post : Int32 → T → Prop} {wsu : T → va_W} (C : gCx p s m args meth c cc nL Ts own ret E A) (hO : gO E A s ws H locs) (hM : gMe l E y wl rm ws (.ref b :: As) post wsu mc ms) {ret1 : Option FieldType} (cw : CallW R s args own Cn index y bytes maxL ret1 wl rm mc ms n) (hrc : ∃ cell : Cell, H[b]? = some cell ∧ cell.vm.isStatics = false ∧ s.vm.findClass Cn = some cell.cls) (hn : As.length = n) (hsize : ls.size = nL) (hst : st0 = As.reverse ++ .ref b :: rest) (hW : (rest.map fun v => v.category).sum ≤ 8) (hdg : decode cc pc = .ok (.invokevirtual index, 3)) (hf : cells + mc ≤ R.cells ∧ slots + ms ≤ R.slots)
    (kk : ∀ (r : Int32) (u : T) (H1 : Heap) (locs1 : List Loc), post r u → gO E A s (wsu u) H1 locs1 → W p l e R s m args below meth c H1 locs1 (cells + mc) (slots + ms) Q (F0 m (pc + 3) ls (.int r :: rest))) : W p l e R s m args below meth c H locs cells slots Q (F0 m pc ls st0) := by
  refine va_calli (va_runV (As := As) (rest := rest) C.fix (hM H.size) cw ⟨gP_blind, hrc, fun U hU hW => gPre C hO hU hW _⟩ rfl hn hsize hst (lv_room hW) hdg hf) hO.2.2 (fun q _ h => gO.free C.2.2.2.2.2.2.2.2.1 hO q h) (gO.free C.2.2.2.2.2.2.2.2.1 hO) (fun r1 u t H1 locs1 ht hvm hw hB hz1 hk1 hS => ?_)
  exact kk r1 u H1 locs1 hw (gBack C hO ht hB hS)
theorem gCall_f {post : T → Prop} {wsu : T → va_W} (C : gCx p s m args meth c cc nL Ts own ret E A) (hO : gO E A s ws H locs) (hM : gMf l E y wl rm ws (.ref b :: As) post wsu mc ms) {ret1 : Option FieldType} (cw : CallW R s args own Cn index y bytes maxL ret1 wl rm mc ms n) (hrc : ∃ cell : Cell, H[b]? = some cell ∧ cell.vm.isStatics = false ∧ s.vm.findClass Cn = some cell.cls) (hn : As.length = n) (hsize : ls.size = nL) (hst : st0 = As.reverse ++ .ref b :: rest) (hW : (rest.map fun v => v.category).sum ≤ 8) (hdg : decode cc pc = .ok (.invokevirtual index, 3)) (hf : cells + mc ≤ R.cells ∧ slots + ms ≤ R.slots)
    (kk : ∀ (u : T) (H1 : Heap) (locs1 : List Loc), post u → gO E A s (wsu u) H1 locs1 → W p l e R s m args below meth c H1 locs1 (cells + mc) (slots + ms) Q (F0 m (pc + 3) ls rest)) : W p l e R s m args below meth c H locs cells slots Q (F0 m pc ls st0) := by
  refine va_callv (va_runV (As := As) (rest := rest) C.fix (hM H.size) cw ⟨gP_blind, hrc, fun U hU hW => gPre C hO hU hW _⟩ rfl hn hsize hst (lv_room hW) hdg hf) hO.2.2 (fun q _ h => gO.free C.2.2.2.2.2.2.2.2.1 hO q h) (gO.free C.2.2.2.2.2.2.2.2.1 hO) (fun u t H1 locs1 ht hvm hw hB hz1 hk1 hS => ?_)
  exact kk u H1 locs1 hw (gBack C hO ht hB hS)
theorem gCallS_e {post : Int32 → T → Prop} {wsu : T → va_W} (C : gCx p s m args meth c cc nL Ts own ret E A) (hO : gO E A s ws H locs) (hM : gMe l E y wl rm ws As post wsu mc ms) {ret1 : Option FieldType} (cw : CallB R s args own index y bytes maxL ret1 wl rm mc ms n ∧ (Cond.static y).before args s = true) (hn : As.length = n) (hsize : ls.size = nL) (hst : st0 = As.reverse ++ rest) (hW : (rest.map fun v => v.category).sum ≤ 8) (hdg : decode cc pc = .ok (.invokestatic index, 3)) (hf : cells + mc ≤ R.cells ∧ slots + ms ≤ R.slots)
    (kk : ∀ (r : Int32) (u : T) (H1 : Heap) (locs1 : List Loc), post r u → gO E A s (wsu u) H1 locs1 → W p l e R s m args below meth c H1 locs1 (cells + mc) (slots + ms) Q (F0 m (pc + 3) ls (.int r :: rest))) : W p l e R s m args below meth c H locs cells slots Q (F0 m pc ls st0) := by
  refine va_calli (va_runS (As := As) (rest := rest) C.fix (hM H.size) cw ⟨gP_blind, fun U hU hW => gPre C hO hU hW _⟩ rfl hn hsize hst (lv_room hW) hdg hf) hO.2.2 (fun q _ h => gO.free C.2.2.2.2.2.2.2.2.1 hO q h) (gO.free C.2.2.2.2.2.2.2.2.1 hO) (fun r1 u t H1 locs1 ht hvm hw hB hz1 hk1 hS => ?_)
  exact kk r1 u H1 locs1 hw (gBack C hO ht hB hS)
theorem gCallS_g {post : T → Prop} {wsu : T → Nat → va_W} (C : gCx p s m args meth c cc nL Ts own ret E A) (hO : gO E A s ws H locs) (hM : gMg l E y wl rm ws As post wsu mc ms) {ret1 : Option FieldType} (cw : CallB R s args own index y bytes maxL ret1 wl rm mc ms n ∧ (Cond.static y).before args s = true) (hn : As.length = n) (hsize : ls.size = nL) (hst : st0 = As.reverse ++ rest) (hW : (rest.map fun v => v.category).sum ≤ 8) (hdg : decode cc pc = .ok (.invokestatic index, 3)) (hf : cells + mc ≤ R.cells ∧ slots + ms ≤ R.slots)
    (kk : ∀ (u : T) (r : Nat) (H1 : Heap) (locs1 : List Loc), post u → gO E A s (wsu u r) H1 locs1 → W p l e R s m args below meth c H1 locs1 (cells + mc) (slots + ms) Q (F0 m (pc + 3) ls (.ref r :: rest))) : W p l e R s m args below meth c H locs cells slots Q (F0 m pc ls st0) := by
  refine va_callr (va_runS (As := As) (rest := rest) C.fix (hM H.size) cw ⟨gP_blind, fun U hU hW => gPre C hO hU hW _⟩ rfl hn hsize hst (lv_room hW) hdg hf) hO.2.2 (fun q _ h => gO.free C.2.2.2.2.2.2.2.2.1 hO q h) (gO.free C.2.2.2.2.2.2.2.2.1 hO) (fun u r1 t H1 locs1 ht hvm hw hB hz1 hk1 hS => ?_)
  exact kk u r1 H1 locs1 hw (gBack C hO ht hB hS)
-- ROWS OF ROWS
theorem gAaldA {a N : Nat} {f : Nat → Option Nat} {j v : Nat} (C : gCx p s m args meth c cc nL Ts own ret E A) (hO : gO E A s ws H locs) (q0 : Nat) (ha : ws[q0]? = some (a, .inl (eL E, N, .inr (.inr (.inr (.inr f)))))) (hj : j < N) (hN : N ≤ 100) (hv : f j = some v) (hdg : decode cc pc = .ok (.aaload, 1))
    (kk : W p l e R s m args below meth c H locs cells slots Q (F0 m (pc + 1) ls (.ref v :: rest))) : W p l e R s m args below meth c H locs cells slots Q (F0 m pc ls (.int (nI j) :: .ref a :: rest)) := by
  have hK := C.2.2.2.2.2.2.2.1.1
  have hcl : (nI j).toNatClampNeg = j := nI_clamp (by omega)
  have hin := vp_in_nI hj (by omega)
  refine W.aald (v := .ref v) (ty := .array .int) C.1 C.2.1 (hO.1 q0 _ ha) ((hK.2 3 _ rfl).1 N (fun j => va_rf (f j))) rfl (fun q => by cases q) (by show ¬ (nI j < 0 ∨ (arrV _ _ _).slots.size ≤ _); rw [arrV_size]; exact hin) (by show (arrV _ _ _).slots[_]? = _; rw [arrV_read _ _ (by rw [hcl]; exact hj), hcl, hv]; rfl) rfl rfl hdg kk
theorem gAastA {a v j N M : Nat} {f : Nat → Option Nat} {g : Nat → Int32} (C : gCx p s m args meth c cc nL Ts own ret E A) (hO : gO E A s ws H locs) (q0 qk : Nat) (ha : ws[q0]? = some (a, .inl (eL E, N, .inr (.inr (.inr (.inr f)))))) (hv : ws[qk]? = some (v, .inl (eI E, M, .inl g))) (hj : j < N) (hN : N ≤ 100) (hw : ws.set q0 (a, .inl (eL E, N, .inr (.inr (.inr (.inr (va_up f j (some v))))))) = ws') (hdg : decode cc pc = .ok (.aastore, 1))
    (kk : ∀ (H1 : Heap) (locs1 : List Loc), gO E A s ws' H1 locs1 → W p l e R s m args below meth c H1 locs1 cells slots Q (F0 m (pc + 1) ls rest)) : W p l e R s m args below meth c H locs cells slots Q (F0 m pc ls (.ref v :: .int (nI j) :: .ref a :: rest)) := by
  have hK := C.2.2.2.2.2.2.2.1.1
  have hcl : (nI j).toNatClampNeg = j := nI_clamp (by omega)
  obtain ⟨comp, cA, kA, h1, h2, h3, h4, h5⟩ := arrayOverA_spec C.2.2.2.2.2.2.2.1.2.2.2
  have e1 : cA = eL E := Option.some.inj (h5.symm.trans (hK.2 3 _ rfl).2)
  have e2 : comp = eI E := Option.some.inj (h1.symm.trans (hK.2 0 _ rfl).2)
  subst e1
  subst e2
  obtain ⟨-, kC, hkC, -⟩ := (hK.2 0 _ rfl).1 0 (fun _ => .null)
  refine W.aast C.1 C.2.1 (hO.1 q0 _ ha) (fun q h => by cases h) (fun h => by cases h) h3 h4 rfl hkC ⟨nI_pos (by omega), by show _ < (arrV _ _ _).slots.size; rw [arrV_size, hcl]; exact hj⟩ (hO.1 qk _ hv) (fun q h => by cases h) hkC asg_self rfl rfl hdg fun H1 e z oq => ?_
  refine kk H1 _ (hw ▸ ⟨hO.1.set hO.2.1 ha ?_ oq, hO.2.1.set ha, hO.2.2.put z oq (hO.2.1.2 q0 _ ha)⟩)
  show H1[a]? = some (vp_cell _ _)
  rw [e]
  rw [vp_cell_q, vp_cell_q, arrV_store, hcl]
  congr 2
  funext q
  by_cases hq : q = j
  · subst hq
    simp [updV, va_up, va_rf]
  · simp [updV, va_up, hq]
theorem gNewA {W0 F : va_W} {N9 : Nat} (C : gCx p s m args meth c cc nL Ts own ret E A) (h1 : Cond.classLink own index "[I" ∈ Ts) (hO : gO E A s (W0 ++ F) H locs) (hN : N9 < 1000) (hcells : cells + 1 ≤ R.cells) (hslots : slots + N9 ≤ R.slots) (hdg : decode cc pc = .ok (.anewarray index, 3))
    (kk : ∀ (q : Nat) (H1 : Heap), gO E A s (W0 ++ ((q, .inl (eL E, N9, .inr (.inr (.inr (.inr (fun _ => none)))))) :: F)) H1 locs → W p l e R s m args below meth c H1 locs (cells + 1) (slots + N9) Q (F0 m (pc + 3) ls (.ref q :: rest))) : W p l e R s m args below meth c H locs cells slots Q (F0 m pc ls (.int (nI N9) :: rest)) := by
  have hK := C.2.2.2.2.2.2.2.1.1
  have hcl : (nI N9).toNatClampNeg = N9 := nI_clamp (by omega)
  refine W.anewA (t := .int) C.1 C.2.1 C.2.2.2.1 (C.2.2.2.2.1 _ h1) (show (Cond.arrayOver (.array .int)).before args s = true from C.2.2.2.2.2.2.2.1.2.2.2) rfl hdg rfl (nI_pos (by omega)) (by rw [hcl]; omega) hcells (by rw [hcl]; exact hslots) fun cA kA comp f1 f2 f3 f4 => ?_
  have e1 : cA = eL E := Option.some.inj (f1.symm.trans (hK.2 3 _ rfl).2)
  subst e1
  rw [hcl]
  generalize hH1 : H.push ({ cls := eL E, slots := Array.replicate N9 .null, vm := .none } : Cell) = H1
  have z1 : H1.size = H.size + 1 := by rw [← hH1, Array.size_push]
  have e1 : H1[H.size]? = some (arrV (eL E) N9 (fun _ => .null)) := by rw [← hH1, Array.getElem?_push_size, ← arrV_new]
  have o1 : ∀ q : Nat, q < H.size → H1[q]? = H[q]? := fun q hq => by rw [← hH1, Array.getElem?_push, if_neg (Nat.ne_of_lt hq)]
  have hk : ∀ (k : Nat) (x : Nat × va_E), (W0 ++ F)[k]? = some x → H1[x.1]? = H[x.1]? := fun k x hx => o1 x.1 ((hO.1 k x hx).lt)
  refine kk H.size H1 (gO.new ⟨(hO.1.kept hk).app (fun k x hx => ?_), hO.2.1.push hO.1 rfl (C.2.2.2.2.2.2.2.2.1 _ hO.2.2.1), ⟨Nat.le_trans hO.2.2.1 (by omega), fun x g1 g2 => (o1 x (Nat.lt_of_lt_of_le g1 hO.2.2.1)).trans (hO.2.2.2.1 x g1 g2), hO.2.2.2.2⟩⟩)
  have hz : k < 1 := (List.getElem?_eq_some_iff.mp hx).1
  rw [show k = 0 by omega] at hx
  cases hx
  show H1[H.size]? = some (vp_cell _ _)
  rw [vp_cell_q]
  exact e1
-- WORLDS PUT IN ANOTHER ORDER
theorem gO.xf {X9 Y9 F : va_W} (hO : gO E A s (X9 ++ (Y9 ++ F)) H locs) : gO E A s (Y9 ++ (X9 ++ F)) H locs := by
  have e1 : X9 ++ (Y9 ++ F) = ([] ++ X9) ++ (Y9 ++ F) := by simp
  have h1 := hO.1
  have h2 := hO.2.1
  rw [e1] at h1 h2
  have h3 := h1.swap
  have h4 := h2.swap
  rw [show ([] ++ (Y9 ++ F)) ++ X9 = (Y9 ++ F) ++ X9 by simp] at h3 h4
  have h5 := h3.swap
  have h6 := h4.swap
  rw [List.append_assoc] at h5 h6
  exact ⟨h5, h6, hO.2.2⟩
theorem gO.mv {X9 Y9 F : va_W} {x : Nat × va_E} (hO : gO E A s (X9 ++ (x :: (Y9 ++ F))) H locs) : gO E A s (X9 ++ (Y9 ++ (x :: F))) H locs := by
  have e1 : X9 ++ (x :: (Y9 ++ F)) = (X9 ++ [x]) ++ (Y9 ++ F) := by simp
  have h1 := hO.1
  have h2 := hO.2.1
  rw [e1] at h1 h2
  have h3 := h1.swap
  have h4 := h2.swap
  rw [show (X9 ++ (Y9 ++ F)) ++ [x] = ((X9 ++ Y9) ++ F) ++ [x] by simp] at h3 h4
  have h5 := h3.swap
  have h6 := h4.swap
  rw [show ((X9 ++ Y9) ++ [x]) ++ F = X9 ++ (Y9 ++ (x :: F)) by simp] at h5 h6
  exact ⟨h5, h6, hO.2.2⟩
theorem gO.sx {o : Nat} {d : Dt} {S : St} {X9 F : va_W} (hO : gO E A s (sW E o d S (X9 ++ F)) H locs) : gO E A s (X9 ++ sW E o d S F) H locs := by
  have e : ∀ Z : va_W, sW E o d S Z = sW E o d S [] ++ Z := fun Z => by
    unfold sW sR
    simp
  rw [e] at hO
  rw [e F]
  exact hO.xf
theorem gO.xs {o : Nat} {d : Dt} {S : St} {X9 F : va_W} (hO : gO E A s (X9 ++ sW E o d S F) H locs) : gO E A s (sW E o d S (X9 ++ F)) H locs := by
  have e : ∀ Z : va_W, sW E o d S Z = sW E o d S [] ++ Z := fun Z => by
    unfold sW sR
    simp
  rw [e] at hO
  rw [e (X9 ++ F)]
  exact hO.xf
end GS
section GP
variable {E : gE} {A : Nat → Prop} {s : State} {H : Heap} {locs : List Loc} {o b1 b2 b3 q q2 k : Nat} {hr nx dr on : Int32} {n n2 sc sc2 sh sh2 : Nat} {lf g sf sf2 : Nat → Option Nat} {sd sd2 f : Nat → Int32} {ra : Nat → Nat} {sr : Nat → Nat → Int32} {pl F G : va_W} {x : va_E}
theorem gO.log1 (hO : gO E A s (sQ E o q b2 b3 b1 b2 b3 hr nx dr on n lf sc sd sh sf ((q, .inl (eL E, n2, .inr (.inr (.inr (.inr g))))) :: (shC E ra sr k ++ (pl ++ F)))) H locs) : gO E A s (sR E o q b2 b3 hr nx dr on n2 g sc sd sh sf (shC E ra sr k ++ (((b1, .inl (eL E, n, .inr (.inr (.inr (.inr lf))))) :: pl) ++ F))) H locs := by
  have h1 := gO.part (X9 := sQ E o q b2 b3 b1 b2 b3 hr nx dr on n lf sc sd sh sf [(q, .inl (eL E, n2, .inr (.inr (.inr (.inr g)))))]) (cx9 := sR E o q b2 b3 hr nx dr on n2 g sc sd sh sf [(b1, .inl (eL E, n, .inr (.inr (.inr (.inr lf)))))]) hO [0, 4, 2, 3, 1] rfl rfl
  exact gO.mv (X9 := sR E o q b2 b3 hr nx dr on n2 g sc sd sh sf []) (Y9 := shC E ra sr k) (F := pl ++ F) h1
theorem gO.log2 (hO : gO E A s (sQ E o q b2 b3 b1 b2 b3 hr nx dr on n lf sc sd sh sf ((q, .inl (eL E, n2, .inr (.inr (.inr (.inr g))))) :: (q2, x) :: (shC E ra sr k ++ (pl ++ F)))) H locs) : gO E A s (sR E o q b2 b3 hr nx dr on n2 g sc sd sh sf (shC E ra sr k ++ (((q2, x) :: (b1, .inl (eL E, n, .inr (.inr (.inr (.inr lf))))) :: pl) ++ F))) H locs := by
  have h1 := gO.part (X9 := sQ E o q b2 b3 b1 b2 b3 hr nx dr on n lf sc sd sh sf [(q, .inl (eL E, n2, .inr (.inr (.inr (.inr g))))), (q2, x)]) (cx9 := sR E o q b2 b3 hr nx dr on n2 g sc sd sh sf [(q2, x), (b1, .inl (eL E, n, .inr (.inr (.inr (.inr lf)))))]) hO [0, 4, 2, 3, 5, 1] rfl rfl
  have h2 := gO.mv (X9 := sR E o q b2 b3 hr nx dr on n2 g sc sd sh sf [(q2, x)]) (Y9 := shC E ra sr k) (F := pl ++ F) h1
  exact gO.mv (X9 := sR E o q b2 b3 hr nx dr on n2 g sc sd sh sf []) (Y9 := shC E ra sr k) (F := (b1, .inl (eL E, n, .inr (.inr (.inr (.inr lf))))) :: (pl ++ F)) h2
theorem gO.said1 (hO : gO E A s (sQ E o b1 q b3 b1 b2 b3 hr nx dr on n lf sc sd sh sf ((q, .inl (eI E, sc2, .inl sd2)) :: G)) H locs) : gO E A s (sR E o b1 q b3 hr nx dr on n lf sc2 sd2 sh sf G) H locs :=
  gO.part (X9 := sQ E o b1 q b3 b1 b2 b3 hr nx dr on n lf sc sd sh sf [(q, .inl (eI E, sc2, .inl sd2))]) (cx9 := sR E o b1 q b3 hr nx dr on n lf sc2 sd2 sh sf []) hO [0, 1, 4, 3] rfl rfl
theorem gO.ships2 (hO : gO E A s (sQ E o b1 b2 q b1 b2 b3 hr nx dr on n lf sc sd sh sf ((q, .inl (eL E, sh2, .inr (.inr (.inr (.inr sf2))))) :: (q2, .inl (eI E, 14, .inl f)) :: (shC E ra sr k ++ (pl ++ F)))) H locs) : gO E A s (sR E o b1 b2 q hr nx dr on n lf sc sd sh2 sf2 (shC E (va_up ra k q2) (va_up sr k f) (k + 1) ++ (pl ++ F))) H locs := by
  have h1 := gO.part (X9 := sQ E o b1 b2 q b1 b2 b3 hr nx dr on n lf sc sd sh sf [(q, .inl (eL E, sh2, .inr (.inr (.inr (.inr sf2))))), (q2, .inl (eI E, 14, .inl f))]) (cx9 := sR E o b1 b2 q hr nx dr on n lf sc sd sh2 sf2 [(q2, .inl (eI E, 14, .inl f))]) hO [0, 1, 2, 4, 5] rfl rfl
  have h2 : gO E A s (sR E o b1 b2 q hr nx dr on n lf sc sd sh2 sf2 (shC E ra sr k ++ ((q2, .inl (eI E, 14, .inl f)) :: (pl ++ F)))) H locs := gO.mv (X9 := sR E o b1 b2 q hr nx dr on n lf sc sd sh2 sf2 []) (Y9 := shC E ra sr k) (F := pl ++ F) h1
  rw [shC_push] at h2
  exact h2
theorem gO.frn {W0 : va_W} {z : Nat × va_E} {G9 : va_W} (hO : gO E A s (z :: (W0 ++ G9)) H locs) : gO E A s (W0 ++ (z :: G9)) H locs := gO.mv (X9 := []) hO
end GP
