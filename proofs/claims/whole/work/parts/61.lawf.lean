-- THE LAW'S LOOP: what its steps need
theorem vp_u09 (f : Nat → Int64) (x : Int64) : vp_updL f 0 x 0 = x := if_pos rfl
theorem lcm9 (x : Int64) : lg_cmp x x = 0 := by simp [lg_cmp]
/-- both sides and the row for a wrapper's result -/
abbrev lwW (E : gE) (a b : Nat → Nat) (o : Nat) (S : St) (mkA rk rv : Nat → Int32) (f : Nat → Int64) (mkB : Nat → Int32) (th : Int32) : va_W := xW E a S mkA rk rv ++ ((o, .inl (eL E, 1, .inr (.inl f))) :: mW E b S th mkB)
/-- where the law's own locals stand -/
abbrev lwV (bs : Nat) (a b : Nat → Nat) (o i : Nat) : List (Nat × Value) := [(0, .ref bs), (1, .ref (a 0)), (2, .ref (b 0)), (3, .ref o), (4, .int (nI i))]
/-- what goes on behind a step -/
def lwK (p : Program) (l : Launch) (e : Env) (s : State) (m : MethodId) (args : Array Value) (below : List Frame) (meth : Method) (c : Code) (E : gE) (A : Nat → Prop) (bs : Nat) (a b : Nat → Nat) (o i : Nat) (cells slots : Nat) (B : Int) (Q : State → Prop) : Prop :=
  ∀ (S : St) (mkA rk rv : Nat → Int32) (f : Nat → Int64) (mkB : Nat → Int32) (th : Int32) (H : Heap) (locs : List Loc) (ls : Array Slot), lwI S B → gO E A s (lwW E a b o S mkA rk rv f mkB th) H locs → lv_has ls 9 (lwV bs a b o i) → W p l e room_1 s m args below meth c H locs cells slots Q (F0 m 1939 ls [])
section GL
variable {p : Program} {l : Launch} {e : Env} {R : Room} {s : State} {m : MethodId} {args : Array Value} {below : List Frame} {meth : Method} {c : Code} {H : Heap} {locs : List Loc} {cells slots : Nat} {Q : State → Prop}
variable {E : gE} {A : Nat → Prop} {ws : va_W} {cc : ByteArray} {nL : Nat} {ret9 : Option FieldType} {Ts : List Cond} {own : String}
variable {pc : Nat} {ls : Array Slot} {rest : List Value}
theorem gO.flip {X9 M9 : va_W} {x : Nat × va_E} (hO : gO E A s (X9 ++ (x :: M9)) H locs) : gO E A s (M9 ++ (X9 ++ [x])) H locs := by
  have e1 : X9 ++ (x :: M9) = ([] ++ (X9 ++ [x])) ++ M9 := by simp
  have h1 := hO.1
  have h2 := hO.2.1
  rw [e1] at h1 h2
  have h3 := h1.swap
  have h4 := h2.swap
  rw [List.nil_append] at h3 h4
  exact ⟨h3, h4, hO.2.2⟩
theorem gO.flop {X9 M9 : va_W} {x : Nat × va_E} (hO : gO E A s (M9 ++ (X9 ++ [x])) H locs) : gO E A s (X9 ++ (x :: M9)) H locs := by
  have e1 : M9 ++ (X9 ++ [x]) = ([] ++ M9) ++ (X9 ++ [x]) := by simp
  have e2 : X9 ++ (x :: M9) = ([] ++ (X9 ++ [x])) ++ M9 := by simp
  have h1 := hO.1
  have h2 := hO.2.1
  rw [e1] at h1 h2
  have h3 := h1.swap
  have h4 := h2.swap
  rw [e2]
  exact ⟨h3, h4, hO.2.2⟩
theorem gSld {bs L j : Nat} {xs : Nat → Int32} {x : Int32} (C : gCx p s m args meth c cc nL Ts own ret9 E A) (hX : va_X bs L xs s s.heap) (hbl : bs < s.heap.size) (hbA : ¬ A bs) (hO : gO E A s ws H locs) (hx9 : x = nI j) (hj : j < L) (hL : L ≤ 1536) (hdg : decode cc pc = .ok (.iaload, 1))
    (kk : W p l e R s m args below meth c H locs cells slots Q (F0 m (pc + 1) ls (.int (xs j) :: rest))) : W p l e R s m args below meth c H locs cells slots Q (F0 m pc ls (.int x :: .ref bs :: rest)) := by
  subst hx9
  refine va_sld C.1 C.2.1 hX hbl hbA hO.2.2 (vp_in_nI hj (by omega)) hdg ?_
  rw [nI_clamp (by omega)]
  exact kk
theorem gLald {a : Nat → Nat} {S : St} {mk rk rv : Nat → Int32} {F : va_W} {o : Nat} {f : Nat → Int64} (C : gCx p s m args meth c cc nL Ts own ret9 E A) (hO : gO E A s (xW E a S mk rk rv ++ ((o, .inl (eL E, 1, .inr (.inl f))) :: F)) H locs) (hdg : decode cc pc = .ok (.laload, 1))
    (kk : W p l e R s m args below meth c H locs cells slots Q (F0 m (pc + 1) ls (.long (f 0) :: rest))) : W p l e R s m args below meth c H locs cells slots Q (F0 m pc ls (.int 0 :: .ref o :: rest)) :=
  va_lald C.1 C.2.1 C.2.2.2.2.2.2.2.1.1 hO.1 23 3 rfl rfl (by unfold vp_in; decide) hdg kk
end GL
