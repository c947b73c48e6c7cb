theorem lv_eql {p : Program} {l : Launch} {e : Env} {R : Room} {s : State} {m : MethodId} {args : Array Value} {below : List Frame} {meth : Method} {c : Code} {H : Heap} {locs : List Loc} {cells slots : Nat} {Q : State → Prop} {pc : Nat} {ls : Array Slot} {rest : List Value} {x y : Int64} (h : x = y) (k : W p l e R s m args below meth c H locs cells slots Q (F0 m pc ls (.long y :: rest))) : W p l e R s m args below meth c H locs cells slots Q (F0 m pc ls (.long x :: rest)) := h ▸ k
theorem mx_c0 (d : Int64) : d * 31 + 0 = mx d 0 := rfl
theorem mx_c1 (d : Int64) : d * 31 + 1 = mx d 1 := rfl
theorem mx_on0 {d : Int64} {S : St} (h : s_on S = 0) : d * 31 + 0 = mx d (if s_on S = 0 then 0 else 1) := by rw [if_pos h]; rfl
theorem mx_on1 {d : Int64} {S : St} (h : ¬ s_on S = 0) : d * 31 + 1 = mx d (if s_on S = 0 then 0 else 1) := by rw [if_neg h]; rfl
